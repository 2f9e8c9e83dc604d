-- where leaves lie, and which lie beyond their sides
def lxv (T : Nat → Nat) (m : Nat) (st lv : Nat → Nat) (k : Nat) : Nat := cvx T m (st k) / 2 ^ lv k * 2 ^ lv k
def lyv (T : Nat → Nat) (m : Nat) (st lv : Nat → Nat) (k : Nat) : Nat := cvy T m (st k) / 2 ^ lv k * 2 ^ lv k
def inLf (T : Nat → Nat) (m : Nat) (st lv : Nat → Nat) (v x y : Nat) : Prop := (lxv T m st lv v ≤ x ∧ x < lxv T m st lv v + 2 ^ lv v) ∧ (lyv T m st lv v ≤ y ∧ y < lyv T m st lv v + 2 ^ lv v)
theorem dv_in {a x w : Nat} (hw : 0 < w) : (a / w * w ≤ x ∧ x < a / w * w + w) ↔ x / w = a / w := by
  have h := blk_iff (a := a / w * w) (x := x) hw (Nat.mul_mod_left _ _)
  rw [Nat.mul_div_cancel _ hw] at h
  exact h
theorem geo {T : Nat → Nat} {n m c : Nat} {st lv : Nat → Nat} (hV : VT T n) (hL : LvL m c st lv) {v i : Nat} (hv : v < c) (hi : i < 4 ^ m) : (st v ≤ i ∧ i < st (v + 1)) ↔ inLf T m st lv v (cvx T m i) (cvy T m i) := by
  have h := hL.2.2.2 v hv
  have ht := hL.top hv
  have hp := p4_pos (lv v)
  unfold inLf lxv lyv
  rw [h.1, blk_iff (p4_pos _) h.2.1, dv_in (p2_pos _), dv_in (p2_pos _), cvx_blk T m _ _ h.2.2, cvx_blk T m _ _ h.2.2, cvy_blk hV m _ _ h.2.2, cvy_blk hV m _ _ h.2.2]
  constructor
  · intro e; rw [e]; exact ⟨rfl, rfl⟩
  · rintro ⟨e1, e2⟩
    exact cv_inj hV _ _ _ (blk_lt h.2.2 hi) (blk_lt h.2.2 (by omega)) e1 e2
theorem inLf.uniq {T : Nat → Nat} {n m c : Nat} {st lv : Nat → Nat} (hV : VT T n) (hL : LvL m c st lv) {u v x y : Nat} (hu : u < c) (hv : v < c) (hx : x < 2 ^ m) (hy : y < 2 ^ m) (h1 : inLf T m st lv u x y) (h2 : inLf T m st lv v x y) : u = v := by
  obtain ⟨i, hi, e1, e2⟩ := cv_sur hV m x y hx hy
  rw [← e1, ← e2] at h1 h2
  have a := (geo hV hL hu hi).mpr h1
  have b := (geo hV hL hv hi).mpr h2
  exact hL.one hu hv a.1 a.2 b.1 b.2
theorem lxv_top {T : Nat → Nat} {n m c : Nat} {st lv : Nat → Nat} (hV : VT T n) (hL : LvL m c st lv) {k : Nat} (hk : k < c) : lxv T m st lv k + 2 ^ lv k ≤ 2 ^ m ∧ lyv T m st lv k + 2 ^ lv k ≤ 2 ^ m := by
  have h := hL.2.2.2 k hk
  have e : (2 : Nat) ^ m = 2 ^ (m - lv k) * 2 ^ lv k := by rw [← Nat.pow_add]; congr 1; omega
  unfold lxv lyv
  rw [cvx_blk T m _ _ h.2.2, cvy_blk hV m _ _ h.2.2, e]
  have a := cvx_lt T (m - lv k) (st k / 4 ^ lv k)
  have b := cvy_lt hV (m - lv k) (st k / 4 ^ lv k)
  constructor
  · rw [← Nat.succ_mul]; exact Nat.mul_le_mul_right _ a
  · rw [← Nat.succ_mul]; exact Nat.mul_le_mul_right _ b
/-- the grid goes on beyond the side; the cell at t there -/
def byd (T : Nat → Nat) (m : Nat) (st lv : Nat → Nat) (s k : Nat) : Prop := (s = 0 ∧ 1 ≤ lxv T m st lv k) ∨ (s = 1 ∧ lxv T m st lv k + 2 ^ lv k < 2 ^ m) ∨ (s = 2 ∧ 1 ≤ lyv T m st lv k) ∨ (s = 3 ∧ lyv T m st lv k + 2 ^ lv k < 2 ^ m)
def bcx (T : Nat → Nat) (m : Nat) (st lv : Nat → Nat) (s k t : Nat) : Nat := if s = 0 then lxv T m st lv k - 1 else if s = 1 then lxv T m st lv k + 2 ^ lv k else lxv T m st lv k + t
def bcy (T : Nat → Nat) (m : Nat) (st lv : Nat → Nat) (s k t : Nat) : Nat := if s = 2 then lyv T m st lv k - 1 else if s = 3 then lyv T m st lv k + 2 ^ lv k else lyv T m st lv k + t
theorem bc_in {T : Nat → Nat} {n m c : Nat} {st lv : Nat → Nat} (hV : VT T n) (hL : LvL m c st lv) {s k t : Nat} (hk : k < c) (hb : byd T m st lv s k) (ht : t < 2 ^ lv k) : bcx T m st lv s k t < 2 ^ m ∧ bcy T m st lv s k t < 2 ^ m := by
  have h := lxv_top hV hL hk
  unfold bcx bcy
  rcases hb with ⟨e, q⟩ | ⟨e, q⟩ | ⟨e, q⟩ | ⟨e, q⟩ <;> subst e <;> simp <;> omega
/-- v is a neighbour of k at the side s -/
def Nbr (T : Nat → Nat) (m c : Nat) (st lv : Nat → Nat) (s k v : Nat) : Prop := byd T m st lv s k ∧ v < c ∧ ∃ t, t < 2 ^ lv k ∧ inLf T m st lv v (bcx T m st lv s k t) (bcy T m st lv s k t)
/-- a sorted row that holds a set -/
def SSt (n : Nat) (f : Nat → Nat) (P : Nat → Prop) : Prop := (∀ a b, a < b → b < n → f a < f b) ∧ ∀ v, P v ↔ ∃ a, a < n ∧ f a = v
theorem SSt.uniq {n n' : Nat} {f f' : Nat → Nat} {P : Nat → Prop} (h : SSt n f P) (h' : SSt n' f' P) : n = n' ∧ ∀ a, a < n → f a = f' a := by
  have key : ∀ (n n' : Nat) (f f' : Nat → Nat), SSt n f P → SSt n' f' P → ∀ a, a < n → a < n' ∧ f a = f' a := by
    intro n n' f f' h h' a
    induction a using Nat.strongRecOn with
    | _ a ih =>
      intro ha
      obtain ⟨b, hb, hb2⟩ := (h'.2 (f a)).mp ((h.2 (f a)).mpr ⟨a, ha, rfl⟩)
      have hab : a ≤ b := by
        rcases Nat.lt_or_ge b a with q | q
        · have := (ih b q (by omega)).2
          have := h.1 b a q ha
          omega
        · exact q
      have han : a < n' := by omega
      refine ⟨han, ?_⟩
      obtain ⟨d, hd, hd2⟩ := (h.2 (f' a)).mp ((h'.2 (f' a)).mpr ⟨a, han, rfl⟩)
      rcases Nat.lt_trichotomy d a with q | q | q
      · have e := (ih d q hd).2
        have := h'.1 d a q han
        omega
      · subst q; exact hd2
      · have h1 := h.1 a d q hd
        rcases Nat.lt_or_ge a b with r | r
        · have := h'.1 a b r hb; omega
        · have e : a = b := by omega
          subst e; omega
  have e : n = n' := by
    rcases Nat.lt_trichotomy n n' with q | q | q
    · have := (key n' n f' f h' h n q).1; omega
    · exact q
    · have := (key n n' f f' h h' n' q).1; omega
  exact ⟨e, fun a ha => (key n n' f f' h h' a ha).2⟩
theorem SSt.zero (f : Nat → Nat) {P : Nat → Prop} (h : ∀ v, ¬ P v) : SSt 0 f P := ⟨fun a b _ hb => absurd hb (Nat.not_lt_zero _), fun v => ⟨fun q => absurd q (h v), fun ⟨a, ha, _⟩ => absurd ha (Nat.not_lt_zero _)⟩⟩
/-- a new number put in its place -/
theorem SSt.ins {n : Nat} {f f' : Nat → Nat} {P : Nat → Prop} {v i : Nat} (h : SSt n f P) (hi : i ≤ n) (h1 : ∀ a, a < i → f a < v) (h2 : ∀ a, i ≤ a → a < n → v < f a) (q1 : ∀ a, a < i → f' a = f a) (q2 : f' i = v) (q3 : ∀ a, i < a → a ≤ n → f' a = f (a - 1)) : SSt (n + 1) f' (fun w => P w ∨ w = v) := by
  refine ⟨fun a b hab hb => ?_, fun w => ?_⟩
  · rcases Nat.lt_trichotomy a i with r | r | r
    · rw [q1 a r]
      rcases Nat.lt_trichotomy b i with z | z | z
      · rw [q1 b z]; exact h.1 a b hab (by omega)
      · rw [z, q2]; exact h1 a r
      · rw [q3 b z (by omega)]; exact Nat.lt_of_lt_of_le (h1 a r) (Nat.le_of_lt (h2 (b - 1) (by omega) (by omega)))
    · rw [r, q2, q3 b (by omega) (by omega)]; exact h2 (b - 1) (by omega) (by omega)
    · rw [q3 a r (by omega), q3 b (by omega) (by omega)]; exact h.1 (a - 1) (b - 1) (by omega) (by omega)
  · constructor
    · rintro (r | r)
      · obtain ⟨a, ha, e⟩ := (h.2 w).mp r
        rcases Nat.lt_or_ge a i with z | z
        · exact ⟨a, by omega, by rw [q1 a z]; exact e⟩
        · exact ⟨a + 1, by omega, by rw [q3 (a + 1) (by omega) (by omega), Nat.add_sub_cancel]; exact e⟩
      · exact ⟨i, by omega, by rw [q2, r]⟩
    · rintro ⟨a, ha, e⟩
      rcases Nat.lt_trichotomy a i with r | r | r
      · left; rw [q1 a r] at e; exact (h.2 w).mpr ⟨a, by omega, e⟩
      · right; rw [r, q2] at e; exact e.symm
      · left; rw [q3 a r (by omega)] at e; exact (h.2 w).mpr ⟨a - 1, by omega, e⟩
theorem SSt.congr {n : Nat} {f : Nat → Nat} {P Q : Nat → Prop} (h : SSt n f P) (e : ∀ v, P v ↔ Q v) : SSt n f Q := ⟨h.1, fun v => (e v).symm.trans (h.2 v)⟩
theorem SSt.le {n : Nat} {f : Nat → Nat} {P : Nat → Prop} (h : SSt n f P) {a : Nat} (ha : a < n) : a ≤ f a := by
  induction a with
  | zero => exact Nat.zero_le _
  | succ a ih =>
    have := ih (by omega)
    have := h.1 a (a + 1) (by omega) ha
    omega
/-- what has been found when t cells have been passed -/
def FndT (T : Nat → Nat) (m c : Nat) (st lv : Nat → Nat) (s k t v : Nat) : Prop := v < c ∧ ∃ j, j < t ∧ j < 2 ^ lv k ∧ inLf T m st lv v (bcx T m st lv s k j) (bcy T m st lv s k j)
/-- the lower end of a leaf along a side -/
def axv (T : Nat → Nat) (m : Nat) (st lv : Nat → Nat) (s v : Nat) : Nat := if s < 2 then lyv T m st lv v else lxv T m st lv v
theorem inLf_ax {T : Nat → Nat} {m : Nat} {st lv : Nat → Nat} {s k v j : Nat} (hs : s < 4) (h : inLf T m st lv v (bcx T m st lv s k j) (bcy T m st lv s k j)) : axv T m st lv s v ≤ axv T m st lv s k + j ∧ axv T m st lv s k + j < axv T m st lv s v + 2 ^ lv v := by
  unfold inLf bcx bcy at h
  unfold axv
  rcases (show s = 0 ∨ s = 1 ∨ s = 2 ∨ s = 3 by omega) with e | e | e | e <;> subst e <;> simp at h ⊢ <;> omega
theorem inLf_mv {T : Nat → Nat} {m : Nat} {st lv : Nat → Nat} {s k v j t : Nat} (hs : s < 4) (h : inLf T m st lv v (bcx T m st lv s k j) (bcy T m st lv s k j)) (h1 : axv T m st lv s v ≤ axv T m st lv s k + t) (h2 : axv T m st lv s k + t < axv T m st lv s v + 2 ^ lv v) : inLf T m st lv v (bcx T m st lv s k t) (bcy T m st lv s k t) := by
  unfold inLf bcx bcy at h ⊢
  unfold axv at h1 h2
  rcases (show s = 0 ∨ s = 1 ∨ s = 2 ∨ s = 3 by omega) with e | e | e | e <;> subst e <;> simp at h h1 h2 ⊢ <;> omega
theorem axv_mod (T : Nat → Nat) (m : Nat) (st lv : Nat → Nat) (s v : Nat) : axv T m st lv s v % 2 ^ lv v = 0 := by
  unfold axv lxv lyv
  split <;> exact Nat.mul_mod_left _ _
theorem p2_mod {x a b : Nat} (h : a ≤ b) (hx : x % 2 ^ b = 0) : x % 2 ^ a = 0 := Nat.mod_eq_zero_of_dvd (Nat.dvd_trans (Nat.pow_dvd_pow 2 h) (Nat.dvd_of_mod_eq_zero hx))
theorem mod_eq {a x w : Nat} (hw : 0 < w) (ha : a % w = 0) (hx : x % w = 0) (h1 : a ≤ x) (h2 : x < a + w) : x = a := by
  have := (blk_iff (x := x) hw ha).mp ⟨h1, h2⟩
  have d1 := Nat.div_add_mod a w
  have d2 := Nat.div_add_mod x w
  rw [this, hx] at d2
  rw [ha] at d1
  omega
/-- one step along a side: the leaf v at t is new, and it is left behind at t + its side -/
theorem fnd_step {T : Nat → Nat} {n m c : Nat} {st lv : Nat → Nat} (hV : VT T n) (hL : LvL m c st lv) {s k v t : Nat} (hs : s < 4) (hk : k < c) (hv : v < c) (hb : byd T m st lv s k) (ht : t < 2 ^ lv k) (hin : inLf T m st lv v (bcx T m st lv s k t) (bcy T m st lv s k t))
    (hend : ∀ w, FndT T m c st lv s k t w → axv T m st lv s w + 2 ^ lv w ≤ axv T m st lv s k + t) :
    ¬ FndT T m c st lv s k t v ∧ (∀ w, FndT T m c st lv s k (t + 2 ^ lv v) w ↔ FndT T m c st lv s k t w ∨ w = v) ∧ (t + 2 ^ lv v < 2 ^ lv k → ∀ w, FndT T m c st lv s k (t + 2 ^ lv v) w → axv T m st lv s w + 2 ^ lv w ≤ axv T m st lv s k + (t + 2 ^ lv v)) := by
  have hax := inLf_ax hs hin
  have hn : ¬ FndT T m c st lv s k t v := fun q => by have := hend v q; omega
  -- the leaf begins at t, or it is larger than k and t is 0
  have hst : axv T m st lv s v = axv T m st lv s k + t ∨ (lv k < lv v ∧ t = 0) := by
    rcases Nat.eq_zero_or_pos t with z | z
    · rcases Nat.lt_or_ge (lv k) (lv v) with y | y
      · exact Or.inr ⟨y, z⟩
      · left
        have := mod_eq (p2_pos (lv v)) (axv_mod T m st lv s v) (p2_mod y (axv_mod T m st lv s k)) (by omega) (by omega)
        omega
    · left
      rcases Nat.lt_or_ge (axv T m st lv s v) (axv T m st lv s k + t) with y | y
      · exfalso
        exact hn ⟨hv, t - 1, by omega, by omega, inLf_mv hs hin (by omega) (by omega)⟩
      · omega
  have hcov : ∀ j, t ≤ j → j < t + 2 ^ lv v → j < 2 ^ lv k → inLf T m st lv v (bcx T m st lv s k j) (bcy T m st lv s k j) := by
    intro j j1 j2 j3
    rcases hst with e | ⟨e1, e2⟩
    · exact inLf_mv hs hin (by omega) (by omega)
    · refine inLf_mv hs hin (by omega) ?_
      -- the side of k lies within that of v
      have h0 := (blk_iff (x := axv T m st lv s k) (p2_pos (lv v)) (axv_mod T m st lv s v)).mp (by omega)
      have hd : (axv T m st lv s k + j) / 2 ^ lv v = axv T m st lv s k / 2 ^ lv v := by
        have ek := (blk_iff (x := axv T m st lv s k + j) (p2_pos (lv k)) (axv_mod T m st lv s k)).mp (by omega)
        have q : (2 : Nat) ^ lv v = 2 ^ lv k * 2 ^ (lv v - lv k) := by rw [← Nat.pow_add]; congr 1; omega
        rw [q, ← Nat.div_div_eq_div_mul, ← Nat.div_div_eq_div_mul, ek]
      exact ((blk_iff (x := axv T m st lv s k + j) (p2_pos (lv v)) (axv_mod T m st lv s v)).mpr (by rw [hd, h0])).2
  have hiff : ∀ w, FndT T m c st lv s k (t + 2 ^ lv v) w ↔ FndT T m c st lv s k t w ∨ w = v := by
    intro w
    constructor
    · rintro ⟨w1, j, j1, j2, j3⟩
      rcases Nat.lt_or_ge j t with z | z
      · exact Or.inl ⟨w1, j, z, j2, j3⟩
      · right
        have hg := bc_in hV hL hk hb j2
        exact inLf.uniq hV hL w1 hv hg.1 hg.2 j3 (hcov j z j1 j2)
    · rintro (⟨w1, j, j1, j2, j3⟩ | e)
      · exact ⟨w1, j, by omega, j2, j3⟩
      · subst e
        exact ⟨hv, t, by have := p2_pos (lv w); omega, ht, hin⟩
  refine ⟨hn, hiff, fun hlt w hw => ?_⟩
  rcases (hiff w).mp hw with z | z
  · have := hend w z
    have := p2_pos (lv v)
    omega
  · subst z
    rcases hst with e | ⟨e1, e2⟩
    · omega
    · have := p2_le (Nat.le_of_lt e1)
      omega
theorem fnd_all {T : Nat → Nat} {m c : Nat} {st lv : Nat → Nat} {s k t : Nat} (hb : byd T m st lv s k) (ht : 2 ^ lv k ≤ t) (v : Nat) : FndT T m c st lv s k t v ↔ Nbr T m c st lv s k v := by
  constructor
  · rintro ⟨h1, j, j1, j2, j3⟩; exact ⟨hb, h1, j, j2, j3⟩
  · rintro ⟨_, h1, j, j2, j3⟩; exact ⟨h1, j, by omega, j2, j3⟩
