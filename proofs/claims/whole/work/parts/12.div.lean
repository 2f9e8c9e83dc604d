-- counting
noncomputable def ctP (p : Nat → Prop) : Nat → Nat
  | 0 => 0
  | n + 1 => ctP p n + @ite Nat (p n) (Classical.propDecidable (p n)) 1 0
theorem ctP_yes {p : Nat → Prop} {n : Nat} (h : p n) : ctP p (n + 1) = ctP p n + 1 := by
  rw [ctP, if_pos h]
theorem ctP_no {p : Nat → Prop} {n : Nat} (h : ¬ p n) : ctP p (n + 1) = ctP p n := by
  rw [ctP, if_neg h]; rfl
theorem ctP_le (p : Nat → Prop) : ∀ n, ctP p n ≤ n
  | 0 => Nat.le_refl 0
  | n + 1 => by
    have ih := ctP_le p n
    rw [ctP]; split <;> omega
theorem ctP_mono {p q : Nat → Prop} : ∀ {n : Nat}, (∀ j, j < n → p j → q j) → ctP p n ≤ ctP q n
  | 0, _ => Nat.le_refl 0
  | n + 1, h => by
    have ih := ctP_mono (p := p) (q := q) (n := n) (fun j hj => h j (by omega))
    by_cases hp : p n
    · rw [ctP_yes hp, ctP_yes (h n (by omega) hp)]; omega
    · rw [ctP_no hp, ctP]; omega
theorem ctP_congr {p q : Nat → Prop} {n : Nat} (h : ∀ j, j < n → (p j ↔ q j)) : ctP p n = ctP q n := Nat.le_antisymm (ctP_mono fun j hj => (h j hj).mp) (ctP_mono fun j hj => (h j hj).mpr)
theorem ctP_lt {p q : Nat → Prop} {i : Nat} : ∀ {n : Nat}, (∀ j, j < n → p j → q j) → i < n → q i → ¬ p i → ctP p n + 1 ≤ ctP q n
  | 0, _, hi, _, _ => absurd hi (Nat.not_lt_zero _)
  | n + 1, h, hi, hq, hp => by
    rcases Nat.lt_or_ge i n with c | c
    · have ih := ctP_lt (p := p) (q := q) (n := n) (fun j hj => h j (by omega)) c hq hp
      by_cases h1 : p n
      · rw [ctP_yes h1, ctP_yes (h n (by omega) h1)]; omega
      · rw [ctP_no h1, ctP]; omega
    · have e : i = n := by omega
      subst e
      rw [ctP_no hp, ctP_yes hq]
      have := ctP_mono (p := p) (q := q) (n := i) (fun j hj => h j (by omega))
      omega
theorem ctP_or {p q : Nat → Prop} : ∀ n, ctP (fun j => p j ∨ q j) n ≤ ctP p n + ctP q n
  | 0 => Nat.le_refl 0
  | n + 1 => by
    have ih := ctP_or (p := p) (q := q) n
    by_cases h : p n ∨ q n
    · rw [ctP_yes (p := fun j => p j ∨ q j) h]
      rcases h with h | h
      · rw [ctP_yes h]
        have : ctP q n ≤ ctP q (n + 1) := by rw [ctP]; omega
        omega
      · rw [ctP_yes (p := q) h]
        have : ctP p n ≤ ctP p (n + 1) := by rw [ctP]; omega
        omega
    · rw [ctP_no (p := fun j => p j ∨ q j) h, ctP, ctP]; omega
theorem ctP_none {p : Nat → Prop} : ∀ {n : Nat}, (∀ j, j < n → ¬ p j) → ctP p n = 0
  | 0, _ => rfl
  | n + 1, h => by rw [ctP_no (h n (by omega))]; exact ctP_none (fun j hj => h j (by omega))
theorem ctP_one {p : Nat → Prop} {i : Nat} : ∀ {n : Nat}, (∀ j, j < n → p j → j = i) → ctP p n ≤ 1
  | 0, _ => Nat.zero_le 1
  | n + 1, h => by
    by_cases hp : p n
    · rw [ctP_yes hp, ctP_none (fun j hj q => by have := h j (by omega) q; have := h n (by omega) hp; omega)]; omega
    · rw [ctP_no hp]; exact ctP_one (fun j hj => h j (by omega))
def smN (f : Nat → Nat) : Nat → Nat
  | 0 => 0
  | n + 1 => smN f n + f n
theorem smN_add (f g : Nat → Nat) : ∀ n, smN (fun j => f j + g j) n = smN f n + smN g n
  | 0 => rfl
  | n + 1 => by rw [smN, smN, smN, smN_add f g n]; omega
theorem smN_le {f g : Nat → Nat} : ∀ {n : Nat}, (∀ j, j < n → f j ≤ g j) → smN f n ≤ smN g n
  | 0, _ => Nat.le_refl 0
  | n + 1, h => by
    have h1 := smN_le (f := f) (g := g) (n := n) (fun j hj => h j (by omega))
    have h2 := h n (by omega)
    rw [smN, smN]; omega
theorem smN_congr {f g : Nat → Nat} {n : Nat} (h : ∀ j, j < n → f j = g j) : smN f n = smN g n := Nat.le_antisymm (smN_le fun j hj => Nat.le_of_eq (h j hj)) (smN_le fun j hj => Nat.le_of_eq (h j hj).symm)
theorem smN_ct (p : Nat → Prop) : ∀ n, smN (fun j => @ite Nat (p j) (Classical.propDecidable (p j)) 1 0) n = ctP p n
  | 0 => rfl
  | n + 1 => by rw [smN, ctP, smN_ct p n]
theorem ctP_pair (g : Nat → Nat) : ∀ N, 2 * ctP (fun j => 2 ≤ g j) N ≤ smN g N
  | 0 => Nat.le_refl 0
  | N + 1 => by
    have ih := ctP_pair g N
    by_cases h : 2 ≤ g N
    · rw [ctP_yes (p := fun j => 2 ≤ g j) h, smN]; omega
    · rw [ctP_no (p := fun j => 2 ≤ g j) h, smN]; omega
theorem smN_fib (f : Nat → Nat) (N : Nat) : ∀ n, smN (fun j => ctP (fun i => f i = j) n) N ≤ n
  | 0 => by
    have : ∀ N, smN (fun j => ctP (fun i => f i = j) 0) N = 0 := by
      intro N
      induction N with
      | zero => rfl
      | succ N ih => rw [smN, ih]; rfl
    rw [this]; exact Nat.le_refl 0
  | n + 1 => by
    have ih := smN_fib f N n
    have e : smN (fun j => ctP (fun i => f i = j) (n + 1)) N = smN (fun j => ctP (fun i => f i = j) n + @ite Nat (f n = j) (Classical.propDecidable (f n = j)) 1 0) N := smN_congr (fun j _ => rfl)
    rw [e, smN_add, smN_ct (fun j => f n = j)]
    have := ctP_one (p := fun j => f n = j) (i := f n) (n := N) (fun j _ h => h.symm)
    omega
/-- at most half as many blocks hold two points as there are points -/
theorem ctP_two (f : Nat → Nat) (n N : Nat) : 2 * ctP (fun j => 2 ≤ ctP (fun i => f i = j) n) N ≤ n := Nat.le_trans (ctP_pair _ N) (smN_fib f N n)
theorem ctP_img (d : Nat → Prop) (h v : Nat → Nat) (N : Nat) : ∀ M, ctP (fun j => ∃ q, q < M ∧ d q ∧ (j = h q ∨ j = v q)) N ≤ 2 * ctP d M
  | 0 => by rw [ctP_none (fun j _ ⟨q, hq, _⟩ => absurd hq (Nat.not_lt_zero _))]; exact Nat.zero_le _
  | M + 1 => by
    have ih := ctP_img d h v N M
    by_cases hd : d M
    · rw [ctP_yes hd]
      have h1 : ctP (fun j => ∃ q, q < M + 1 ∧ d q ∧ (j = h q ∨ j = v q)) N ≤ ctP (fun j => (∃ q, q < M ∧ d q ∧ (j = h q ∨ j = v q)) ∨ (j = h M ∨ j = v M)) N := ctP_mono (fun j _ ⟨q, hq, h1, h2⟩ => by
        rcases Nat.lt_or_ge q M with c | c
        · exact Or.inl ⟨q, c, h1, h2⟩
        · have e : q = M := by omega
          subst e; exact Or.inr h2)
      have h2 := ctP_or (p := fun j => ∃ q, q < M ∧ d q ∧ (j = h q ∨ j = v q)) (q := fun j => j = h M ∨ j = v M) N
      have h3 := ctP_or (p := fun j => j = h M) (q := fun j => j = v M) N
      have h4 := ctP_one (p := fun j => j = h M) (i := h M) (n := N) (fun j _ e => e)
      have h5 := ctP_one (p := fun j => j = v M) (i := v M) (n := N) (fun j _ e => e)
      omega
    · rw [ctP_no hd]
      refine Nat.le_trans (ctP_mono fun j _ ⟨q, hq, h1, h2⟩ => ?_) ih
      rcases Nat.lt_or_ge q M with c | c
      · exact ⟨q, c, h1, h2⟩
      · have e : q = M := by omega
        subst e; exact absurd h1 hd
-- leaves: c of them, with the starts st and the levels lv
def LvL (m c : Nat) (st lv : Nat → Nat) : Prop := 0 < c ∧ st 0 = 0 ∧ st c = 4 ^ m ∧ ∀ k, k < c → st (k + 1) = st k + 4 ^ lv k ∧ st k % 4 ^ lv k = 0 ∧ lv k ≤ m
def dst (st lv : Nat → Nat) (k : Nat) : Nat → Nat := fun j => if j ≤ k then st j else if j ≤ k + 3 then st k + (j - k) * 4 ^ (lv k - 1) else st (j - 3)
def dlv (lv : Nat → Nat) (k : Nat) : Nat → Nat := fun j => if j < k then lv j else if j ≤ k + 3 then lv k - 1 else lv (j - 3)
theorem dst_lo {st lv : Nat → Nat} {k j : Nat} (h : j ≤ k) : dst st lv k j = st j := if_pos h
theorem dst_mid {st lv : Nat → Nat} {k j : Nat} (h : k < j) (h2 : j ≤ k + 3) : dst st lv k j = st k + (j - k) * 4 ^ (lv k - 1) := by
  unfold dst; rw [if_neg (by omega), if_pos h2]
theorem dst_hi {st lv : Nat → Nat} {k j : Nat} (h : k + 3 < j) : dst st lv k j = st (j - 3) := by
  unfold dst; rw [if_neg (by omega), if_neg (by omega)]
theorem dlv_lo {lv : Nat → Nat} {k j : Nat} (h : j < k) : dlv lv k j = lv j := if_pos h
theorem dlv_mid {lv : Nat → Nat} {k j : Nat} (h : k ≤ j) (h2 : j ≤ k + 3) : dlv lv k j = lv k - 1 := by
  unfold dlv; rw [if_neg (by omega), if_pos h2]
theorem dlv_hi {lv : Nat → Nat} {k j : Nat} (h : k + 3 < j) : dlv lv k j = lv (j - 3) := by
  unfold dlv; rw [if_neg (by omega), if_neg (by omega)]
theorem lv_pow {L : Nat} (h : 1 ≤ L) : 4 ^ L = 4 * 4 ^ (L - 1) := by
  rw [← p4_s]; congr 1; omega
theorem mod_pow {x L : Nat} (h : 1 ≤ L) (hx : x % 4 ^ L = 0) : x % 4 ^ (L - 1) = 0 := by
  rw [lv_pow h] at hx
  have : x % (4 * 4 ^ (L - 1)) % 4 ^ (L - 1) = x % 4 ^ (L - 1) := Nat.mod_mul_left_mod x 4 _
  rw [← this, hx, Nat.zero_mod]
theorem LvL.div {m c : Nat} {st lv : Nat → Nat} (h : LvL m c st lv) {k : Nat} (hk : k < c) (hl : 1 ≤ lv k) : LvL m (c + 3) (dst st lv k) (dlv lv k) := by
  obtain ⟨h0, h1, h2, h3⟩ := h
  have hp := lv_pow hl
  have hm := mod_pow hl (h3 k hk).2.1
  refine ⟨by omega, by rw [dst_lo (Nat.zero_le _)]; exact h1, by rw [dst_hi (by omega)]; exact h2, fun j hj => ?_⟩
  rcases Nat.lt_or_ge j k with q | q
  · rw [dst_lo (by omega), dst_lo (by omega), dlv_lo q]
    exact h3 j (by omega)
  · rcases Nat.lt_or_ge (k + 3) j with r | r
    · rw [dst_hi (by omega), dst_hi r, dlv_hi r]
      have := h3 (j - 3) (by omega)
      rw [show j - 3 + 1 = j + 1 - 3 by omega] at this
      exact this
    · rw [dlv_mid q r]
      have hmm : ∀ t, (st k + t * 4 ^ (lv k - 1)) % 4 ^ (lv k - 1) = 0 := fun t => by rw [Nat.add_mul_mod_self_right]; exact hm
      have hlm := (h3 k hk).2.2
      rcases (show j = k ∨ j = k + 1 ∨ j = k + 2 ∨ j = k + 3 by omega) with e | e | e | e
      · subst e
        rw [dst_mid (by omega) (by omega), dst_lo (Nat.le_refl _)]
        refine ⟨by rw [show j + 1 - j = 1 by omega, Nat.one_mul], hm, by omega⟩
      · subst e
        rw [dst_mid (by omega) (by omega), dst_mid (by omega) (by omega)]
        refine ⟨by rw [show k + 1 + 1 - k = 2 by omega, show k + 1 - k = 1 by omega]; omega, hmm _, by omega⟩
      · subst e
        rw [dst_mid (by omega) (by omega), dst_mid (by omega) (by omega)]
        refine ⟨by rw [show k + 2 + 1 - k = 3 by omega, show k + 2 - k = 2 by omega]; omega, hmm _, by omega⟩
      · subst e
        rw [dst_hi (by omega), dst_mid (by omega) (by omega)]
        refine ⟨by rw [show k + 3 + 1 - 3 = k + 1 by omega, show k + 3 - k = 3 by omega, (h3 k hk).1]; omega, hmm _, by omega⟩
theorem LvL.mono {m c : Nat} {st lv : Nat → Nat} (h : LvL m c st lv) {i : Nat} : ∀ {j : Nat}, i < j → j ≤ c → st i < st j
  | 0, hij, _ => absurd hij (Nat.not_lt_zero _)
  | j + 1, hij, hj => by
    have h1 := (h.2.2.2 j (by omega)).1
    have h2 := p4_pos (lv j)
    rcases Nat.lt_or_ge i j with q | q
    · have := h.mono q (by omega)
      omega
    · have e : i = j := by omega
      subst e; omega
theorem LvL.le {m c : Nat} {st lv : Nat → Nat} (h : LvL m c st lv) {k : Nat} (hk : k ≤ c) : k ≤ st k := by
  induction k with
  | zero => exact Nat.zero_le _
  | succ k ih =>
    have := ih (by omega)
    have := h.mono (show k < k + 1 by omega) hk
    omega
theorem LvL.top {m c : Nat} {st lv : Nat → Nat} (h : LvL m c st lv) {k : Nat} (hk : k < c) : st k + 4 ^ lv k ≤ 4 ^ m := by
  rw [← (h.2.2.2 k hk).1, ← h.2.2.1]
  rcases Nat.lt_or_ge (k + 1) c with q | q
  · exact Nat.le_of_lt (h.mono q (Nat.le_refl _))
  · rw [show k + 1 = c by omega]; exact Nat.le_refl _
/-- the leaf of an index -/
theorem LvL.at {m c : Nat} {st lv : Nat → Nat} (h : LvL m c st lv) {i : Nat} (hi : i < 4 ^ m) : ∃ k, k < c ∧ st k ≤ i ∧ i < st (k + 1) := by
  have : ∀ d, d ≤ c → st (c - d) ≤ i ∨ i < st (c - d) := fun d _ => Nat.lt_or_ge i (st (c - d)) |>.symm
  have key : ∀ k, k ≤ c → i < st k → ∃ q, q < k ∧ st q ≤ i ∧ i < st (q + 1) := by
    intro k
    induction k with
    | zero => intro _ h0; rw [h.2.1] at h0; exact absurd h0 (Nat.not_lt_zero _)
    | succ k ih =>
      intro hk h1
      rcases Nat.lt_or_ge i (st k) with q | q
      · obtain ⟨a, b, d⟩ := ih (by omega) q
        exact ⟨a, by omega, d⟩
      · exact ⟨k, by omega, q, h1⟩
  exact key c (Nat.le_refl _) (by rw [h.2.2.1]; exact hi)
theorem LvL.one {m c : Nat} {st lv : Nat → Nat} (h : LvL m c st lv) {i a b : Nat} (ha : a < c) (hb : b < c) (h1 : st a ≤ i) (h2 : i < st (a + 1)) (h3 : st b ≤ i) (h4 : i < st (b + 1)) : a = b := by
  rcases Nat.lt_trichotomy a b with q | q | q
  · have : st (a + 1) ≤ st b := by
      rcases Nat.lt_or_ge (a + 1) b with r | r
      · exact Nat.le_of_lt (h.mono r (by omega))
      · rw [show b = a + 1 by omega]; exact Nat.le_refl _
    omega
  · exact q
  · have : st (b + 1) ≤ st a := by
      rcases Nat.lt_or_ge (b + 1) a with r | r
      · exact Nat.le_of_lt (h.mono r (by omega))
      · rw [show a = b + 1 by omega]; exact Nat.le_refl _
    omega
/-- a block's indices -/
theorem blk_iff {a w x : Nat} (hw : 0 < w) (ha : a % w = 0) : (a ≤ x ∧ x < a + w) ↔ x / w = a / w := by
  have h1 := Nat.div_add_mod a w
  have h2 := Nat.div_add_mod x w
  have h3 := Nat.mod_lt x hw
  rw [ha] at h1
  constructor
  · rintro ⟨q1, q2⟩
    apply Nat.le_antisymm
    · apply Nat.le_of_lt_succ
      apply Nat.div_lt_of_lt_mul
      rw [Nat.mul_succ]; omega
    · exact Nat.div_le_div_right q1
  · intro e
    rw [e] at h2
    omega
