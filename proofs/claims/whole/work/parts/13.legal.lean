theorem smN_lt {f g : Nat → Nat} {i : Nat} : ∀ {n : Nat}, (∀ j, j < n → f j ≤ g j) → i < n → f i + 1 ≤ g i → smN f n + 1 ≤ smN g n
  | 0, _, hi, _ => absurd hi (Nat.not_lt_zero _)
  | n + 1, h, hi, hq => by
    rw [smN, smN]
    rcases Nat.lt_or_ge i n with q | q
    · have h1 := smN_lt (f := f) (g := g) (n := n) (fun j hj => h j (by omega)) q hq
      have h2 := h n (by omega)
      omega
    · have e : i = n := by omega
      subst e
      have h1 := smN_le (f := f) (g := g) (n := i) (fun j hj => h j (by omega))
      omega
/-- the block j of level L is divided -/
def Dvd (c : Nat) (st lv : Nat → Nat) (L j : Nat) : Prop := ∃ k, k < c ∧ lv k < L ∧ st k / 4 ^ L = j
noncomputable def DS (m c : Nat) (st lv : Nat → Nat) : Nat := smN (fun L => ctP (Dvd c st lv (L + 1)) (4 ^ (m - (L + 1)))) m
theorem div_pow_le {a b L M : Nat} (h : L ≤ M) (e : a / 4 ^ L = b / 4 ^ L) : a / 4 ^ M = b / 4 ^ M := by
  have q : (4 : Nat) ^ M = 4 ^ L * 4 ^ (M - L) := by rw [← Nat.pow_add]; congr 1; omega
  rw [q, ← Nat.div_div_eq_div_mul, ← Nat.div_div_eq_div_mul, e]
theorem Dvd.old {c : Nat} {st lv : Nat → Nat} {k : Nat} (hl : 1 ≤ lv k) {L j : Nat} (h : Dvd c st lv L j) : Dvd (c + 3) (dst st lv k) (dlv lv k) L j := by
  obtain ⟨i, hi, h1, h2⟩ := h
  rcases Nat.lt_trichotomy i k with q | q | q
  · exact ⟨i, by omega, by rw [dlv_lo q]; exact h1, by rw [dst_lo (by omega)]; exact h2⟩
  · subst q
    exact ⟨i, by omega, by rw [dlv_mid (Nat.le_refl _) (by omega)]; omega, by rw [dst_lo (Nat.le_refl _)]; exact h2⟩
  · exact ⟨i + 3, by omega, by rw [dlv_hi (by omega)]; exact h1, by rw [dst_hi (by omega)]; exact h2⟩
theorem Dvd.new {c : Nat} {st lv : Nat → Nat} {k : Nat} (hk : k < c) (hl : 1 ≤ lv k) : Dvd (c + 3) (dst st lv k) (dlv lv k) (lv k) (st k / 4 ^ lv k) := ⟨k, by omega, by rw [dlv_mid (Nat.le_refl _) (by omega)]; omega, by rw [dst_lo (Nat.le_refl _)]⟩
theorem Dvd.not {m c : Nat} {st lv : Nat → Nat} (h : LvL m c st lv) {k : Nat} (hk : k < c) : ¬ Dvd c st lv (lv k) (st k / 4 ^ lv k) := by
  rintro ⟨i, hi, h1, h2⟩
  have q := (blk_iff (p4_pos _) (h.2.2.2 k hk).2.1).mpr h2
  rw [← (h.2.2.2 k hk).1] at q
  have := h.one hk hi q.1 q.2 (Nat.le_refl _) (h.mono (show i < i + 1 by omega) (by omega))
  subst this
  omega
theorem Dvd.inv {m c : Nat} {st lv : Nat → Nat} (h : LvL m c st lv) {k : Nat} (hk : k < c) (hl : 1 ≤ lv k) {L j : Nat} (hd : Dvd (c + 3) (dst st lv k) (dlv lv k) L j) : Dvd c st lv L j ∨ (L = lv k ∧ j = st k / 4 ^ lv k) := by
  obtain ⟨i, hi, h1, h2⟩ := hd
  rcases Nat.lt_or_ge i k with q | q
  · rw [dlv_lo q] at h1
    rw [dst_lo (by omega)] at h2
    exact Or.inl ⟨i, by omega, h1, h2⟩
  · rcases Nat.lt_or_ge (k + 3) i with r | r
    · rw [dlv_hi r] at h1
      rw [dst_hi r] at h2
      exact Or.inl ⟨i - 3, by omega, h1, h2⟩
    · rw [dlv_mid q r] at h1
      have hlk := h.2.2.2 k hk
      have e : dst st lv k i / 4 ^ lv k = st k / 4 ^ lv k := by
        apply (blk_iff (p4_pos _) hlk.2.1).mp
        have hp := lv_pow hl
        rcases Nat.lt_or_ge k i with s | s
        · rw [dst_mid s r]
          have : (i - k) * 4 ^ (lv k - 1) ≤ 3 * 4 ^ (lv k - 1) := Nat.mul_le_mul_right _ (by omega)
          have := p4_pos (lv k - 1)
          omega
        · rw [dst_lo s, show i = k by omega]
          have := p4_pos (lv k)
          omega
      have e2 := div_pow_le (M := L) (show lv k ≤ L by omega) e
      rcases Nat.lt_or_ge (lv k) L with s | s
      · exact Or.inl ⟨k, hk, s, by rw [← e2]; exact h2⟩
      · have e3 : L = lv k := by omega
        subst e3
        exact Or.inr ⟨rfl, by rw [← h2, e]⟩
theorem blk_lt {m L x : Nat} (hL : L ≤ m) (hx : x < 4 ^ m) : x / 4 ^ L < 4 ^ (m - L) := by
  apply Nat.div_lt_of_lt_mul
  rw [← Nat.pow_add, show L + (m - L) = m by omega]
  exact hx
theorem DS_step {m c : Nat} {st lv : Nat → Nat} (h : LvL m c st lv) {k : Nat} (hk : k < c) (hl : 1 ≤ lv k) : DS m c st lv + 1 ≤ DS m (c + 3) (dst st lv k) (dlv lv k) := by
  have hlk := h.2.2.2 k hk
  have hlt := h.top hk
  have hpp := p4_pos (lv k)
  refine smN_lt (i := lv k - 1) (fun j hj => ctP_mono fun i _ hd => hd.old hl) (by omega) ?_
  rw [show lv k - 1 + 1 = lv k by omega]
  exact ctP_lt (i := st k / 4 ^ lv k) (fun i _ hd => hd.old hl) (blk_lt hlk.2.2 (by omega)) (Dvd.new hk hl) (Dvd.not h hk)
/-- the points in the block j of level L -/
noncomputable def pcb (pt : Nat → Nat) (pc L j : Nat) : Nat := ctP (fun i => pt i / 4 ^ L = j) pc
/-- the block q of level 1 lies at a side of the block j of level 2 -/
def tch (T : Nat → Nat) (m j q : Nat) : Prop :=
  (cvy T (m - 1) q / 2 = cvy T (m - 2) j ∧ (cvx T (m - 1) q + 1 = 2 * cvx T (m - 2) j ∨ cvx T (m - 1) q = 2 * cvx T (m - 2) j + 2)) ∨
  (cvx T (m - 1) q / 2 = cvx T (m - 2) j ∧ (cvy T (m - 1) q + 1 = 2 * cvy T (m - 2) j ∨ cvy T (m - 1) q = 2 * cvy T (m - 2) j + 2))
/-- a legal division -/
def LD (T : Nat → Nat) (m pc : Nat) (pt : Nat → Nat) (c : Nat) (st lv : Nat → Nat) : Prop := LvL m c st lv ∧ c ≤ 1 + 3 * DS m c st lv ∧ (∀ j, j < 4 ^ (m - 1) → Dvd c st lv 1 j → 2 ≤ pcb pt pc 1 j) ∧
  (2 ≤ m → ∀ j, j < 4 ^ (m - 2) → Dvd c st lv 2 j → 2 ≤ pcb pt pc 2 j ∨ ∃ q, q < 4 ^ (m - 1) ∧ Dvd c st lv 1 q ∧ tch T m j q)
noncomputable def cvi (T : Nat → Nat) (k x y : Nat) : Nat := @dite Nat (∃ i, i < 4 ^ k ∧ cvx T k i = x ∧ cvy T k i = y) (Classical.propDecidable _) (fun h => h.choose) (fun _ => 0)
theorem cvi_eq {T : Nat → Nat} {n : Nat} (h : VT T n) {k i x y : Nat} (hi : i < 4 ^ k) (hx : cvx T k i = x) (hy : cvy T k i = y) : cvi T k x y = i := by
  have hE : ∃ i, i < 4 ^ k ∧ cvx T k i = x ∧ cvy T k i = y := ⟨i, hi, hx, hy⟩
  unfold cvi
  rw [dif_pos hE]
  have := hE.choose_spec
  exact cv_inj h k _ _ this.1 hi (by rw [this.2.1, hx]) (by rw [this.2.2, hy])
theorem tch_img {T : Nat → Nat} {n : Nat} (h : VT T n) {m j q : Nat} (hj : j < 4 ^ (m - 2)) (ht : tch T m j q) : j = cvi T (m - 2) (if cvx T (m - 1) q % 2 = 0 then cvx T (m - 1) q / 2 - 1 else cvx T (m - 1) q / 2 + 1) (cvy T (m - 1) q / 2) ∨ j = cvi T (m - 2) (cvx T (m - 1) q / 2) (if cvy T (m - 1) q % 2 = 0 then cvy T (m - 1) q / 2 - 1 else cvy T (m - 1) q / 2 + 1) := by
  rcases ht with ⟨h1, h2⟩ | ⟨h1, h2⟩
  · left
    refine (cvi_eq h hj ?_ h1.symm).symm
    split <;> omega
  · right
    refine (cvi_eq h hj h1.symm ?_).symm
    split <;> omega
def capL (L : Nat) : Nat := if L = 0 then 20 else if L = 1 then 60 else 4 ^ (5 - L)
theorem smN_more (f : Nat → Nat) (a : Nat) : ∀ b, smN f a ≤ smN f (a + b)
  | 0 => Nat.le_refl _
  | b + 1 => by
    have := smN_more f a b
    rw [← Nat.add_assoc, smN]; omega
theorem LD.le {T : Nat → Nat} {n m pc : Nat} {pt : Nat → Nat} {c : Nat} {st lv : Nat → Nat} (hV : VT T n) (hm : m ≤ 6) (hp : pc ≤ 40) (h : LD T m pc pt c st lv) : c ≤ 496 := by
  obtain ⟨h1, h2, h3, h4⟩ := h
  have hD1 : ctP (Dvd c st lv 1) (4 ^ (m - 1)) ≤ 20 := by
    have a := ctP_two (fun i => pt i / 4 ^ 1) pc (4 ^ (m - 1))
    have b : ctP (Dvd c st lv 1) (4 ^ (m - 1)) ≤ ctP (fun j => 2 ≤ ctP (fun i => pt i / 4 ^ 1 = j) pc) (4 ^ (m - 1)) := ctP_mono (fun j hj hd => h3 j hj hd)
    omega
  have key : ∀ L, L < m → ctP (Dvd c st lv (L + 1)) (4 ^ (m - (L + 1))) ≤ capL L := by
    intro L hL
    rcases (show L = 0 ∨ L = 1 ∨ 2 ≤ L by omega) with e | e | e
    · subst e; exact hD1
    · subst e
      have a := ctP_two (fun i => pt i / 4 ^ 2) pc (4 ^ (m - 2))
      have b : ctP (Dvd c st lv 2) (4 ^ (m - 2)) ≤ ctP (fun j => 2 ≤ ctP (fun i => pt i / 4 ^ 2 = j) pc ∨ ∃ q, q < 4 ^ (m - 1) ∧ Dvd c st lv 1 q ∧ (j = cvi T (m - 2) (if cvx T (m - 1) q % 2 = 0 then cvx T (m - 1) q / 2 - 1 else cvx T (m - 1) q / 2 + 1) (cvy T (m - 1) q / 2) ∨ j = cvi T (m - 2) (cvx T (m - 1) q / 2) (if cvy T (m - 1) q % 2 = 0 then cvy T (m - 1) q / 2 - 1 else cvy T (m - 1) q / 2 + 1))) (4 ^ (m - 2)) := ctP_mono (fun j hj hd => by
        rcases h4 (by omega) j hj hd with q | ⟨q, q1, q2, q3⟩
        · exact Or.inl q
        · exact Or.inr ⟨q, q1, q2, tch_img hV hj q3⟩)
      have d := ctP_or (p := fun j => 2 ≤ ctP (fun i => pt i / 4 ^ 2 = j) pc) (q := fun j => ∃ q, q < 4 ^ (m - 1) ∧ Dvd c st lv 1 q ∧ (j = cvi T (m - 2) (if cvx T (m - 1) q % 2 = 0 then cvx T (m - 1) q / 2 - 1 else cvx T (m - 1) q / 2 + 1) (cvy T (m - 1) q / 2) ∨ j = cvi T (m - 2) (cvx T (m - 1) q / 2) (if cvy T (m - 1) q % 2 = 0 then cvy T (m - 1) q / 2 - 1 else cvy T (m - 1) q / 2 + 1))) (4 ^ (m - 2))
      have g := ctP_img (Dvd c st lv 1) (fun q => cvi T (m - 2) (if cvx T (m - 1) q % 2 = 0 then cvx T (m - 1) q / 2 - 1 else cvx T (m - 1) q / 2 + 1) (cvy T (m - 1) q / 2)) (fun q => cvi T (m - 2) (cvx T (m - 1) q / 2) (if cvy T (m - 1) q % 2 = 0 then cvy T (m - 1) q / 2 - 1 else cvy T (m - 1) q / 2 + 1)) (4 ^ (m - 2)) (4 ^ (m - 1))
      have : capL 1 = 60 := rfl
      show ctP (Dvd c st lv 2) (4 ^ (m - 2)) ≤ capL 1
      omega
    · refine Nat.le_trans (ctP_le _ _) ?_
      unfold capL
      rw [if_neg (by omega), if_neg (by omega)]
      exact p4_le (by omega)
  have hs : DS m c st lv ≤ smN capL m := smN_le key
  have h6 : smN capL m ≤ smN capL 6 := by
    have := smN_more capL m (6 - m)
    rw [show m + (6 - m) = 6 by omega] at this
    exact this
  have : smN capL 6 = 165 := by decide
  omega
theorem LD.div {T : Nat → Nat} {m pc : Nat} {pt : Nat → Nat} {c : Nat} {st lv : Nat → Nat} (h : LD T m pc pt c st lv) {k : Nat} (hk : k < c) (hl : 1 ≤ lv k)
    (h1 : lv k = 1 → 2 ≤ pcb pt pc 1 (st k / 4 ^ 1)) (h2 : lv k = 2 → 2 ≤ pcb pt pc 2 (st k / 4 ^ 2) ∨ ∃ q, q < 4 ^ (m - 1) ∧ Dvd c st lv 1 q ∧ tch T m (st k / 4 ^ 2) q) : LD T m pc pt (c + 3) (dst st lv k) (dlv lv k) := by
  obtain ⟨a1, a2, a3, a4⟩ := h
  refine ⟨a1.div hk hl, ?_, fun j hj hd => ?_, fun hm j hj hd => ?_⟩
  · have := DS_step a1 hk hl
    omega
  · rcases Dvd.inv a1 hk hl hd with q | ⟨q, e⟩
    · exact a3 j hj q
    · rw [e, ← q]
      exact h1 q.symm
  · rcases Dvd.inv a1 hk hl hd with q | ⟨q, e⟩
    · rcases a4 hm j hj q with r | ⟨r, r1, r2, r3⟩
      · exact Or.inl r
      · exact Or.inr ⟨r, r1, r2.old hl, r3⟩
    · rw [e, ← q]
      rcases h2 q.symm with r | ⟨r, r1, r2, r3⟩
      · exact Or.inl r
      · exact Or.inr ⟨r, r1, r2.old hl, r3⟩
theorem LD.one {T : Nat → Nat} {m pc : Nat} {pt st lv : Nat → Nat} (h0 : st 0 = 0) (h1 : st 1 = 4 ^ m) (h2 : lv 0 = m) (hm : 1 ≤ m) : LD T m pc pt 1 st lv := by
  have hno : ∀ L j, L ≤ m → ¬ Dvd 1 st lv L j := by
    rintro L j hL ⟨k, hk, q, _⟩
    have e : k = 0 := by omega
    subst e
    omega
  refine ⟨⟨by omega, h0, h1, fun k hk => ?_⟩, by omega, fun j _ hd => absurd hd (hno 1 j hm), fun hm2 j _ hd => absurd hd (hno 2 j hm2)⟩
  have e : k = 0 := by omega
  subst e
  rw [h0, h1, h2]
  exact ⟨by omega, Nat.zero_mod _, Nat.le_refl _⟩
/-- the division by points: leaves hold at most b points or are cells, and all that was divided holds more -/
def DivC (m pc b : Nat) (pt : Nat → Nat) (c : Nat) (st lv : Nat → Nat) : Prop := LvL m c st lv ∧ ∀ k, k < c → (pcb pt pc (lv k) (st k / 4 ^ lv k) ≤ b ∨ lv k = 0) ∧ ∀ L, lv k < L → L ≤ m → b < pcb pt pc L (st k / 4 ^ L)
theorem DivC.uniq {m pc b : Nat} {pt : Nat → Nat} {c c' : Nat} {st lv st' lv' : Nat → Nat} (h : DivC m pc b pt c st lv) (h' : DivC m pc b pt c' st' lv') : c = c' ∧ (∀ k, k ≤ c → st k = st' k) ∧ ∀ k, k < c → lv k = lv' k := by
  have hlv : ∀ k, k < c → k < c' → st k = st' k → lv k = lv' k := by
    intro k h1 h2 e
    have a := h.2 k h1
    have b' := h'.2 k h2
    rcases Nat.lt_trichotomy (lv k) (lv' k) with q | q | q
    · have := a.2 (lv' k) q (h'.1.2.2.2 k h2).2.2
      rw [e] at this
      rcases b'.1 with r | r <;> omega
    · exact q
    · have := b'.2 (lv k) q (h.1.2.2.2 k h1).2.2
      rw [← e] at this
      rcases a.1 with r | r <;> omega
  have key : ∀ k, k ≤ c → k ≤ c' → st k = st' k := by
    intro k
    induction k with
    | zero => intro _ _; rw [h.1.2.1, h'.1.2.1]
    | succ k ih =>
      intro h1 h2
      have e := ih (by omega) (by omega)
      rw [(h.1.2.2.2 k (by omega)).1, (h'.1.2.2.2 k (by omega)).1, e, hlv k (by omega) (by omega) e]
  have hc : c = c' := by
    rcases Nat.lt_trichotomy c c' with q | q | q
    · have e := key c (Nat.le_refl _) (by omega)
      have h1 := h'.1.mono q (Nat.le_refl _)
      have h2 := h.1.2.2.1
      have h3 := h'.1.2.2.1
      omega
    · exact q
    · have e := key c' (by omega) (Nat.le_refl _)
      have h1 := h.1.mono q (Nat.le_refl _)
      have h2 := h.1.2.2.1
      have h3 := h'.1.2.2.1
      omega
  subst hc
  exact ⟨rfl, fun k hk => key k hk hk, fun k hk => hlv k hk hk (key k (by omega) (by omega))⟩
