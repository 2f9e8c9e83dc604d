-- intervals of a set R of indices
def stI (R : Nat → Prop) (i : Nat) : Prop := R i ∧ (i = 0 ∨ ¬ R (i - 1))
/-- cn intervals of the indices below n, from F k to G k -/
def IvOK (R : Nat → Prop) (n cn : Nat) (F G : Nat → Nat) : Prop := cn = ctP (stI R) n ∧ ∀ k, k < cn → F k ≤ G k ∧ G k < n ∧ stI R (F k) ∧ ctP (stI R) (F k) = k ∧ (∀ j, F k ≤ j → j ≤ G k → R j) ∧ (k + 1 < cn → ¬ R (G k + 1)) ∧ (G k + 1 = n ∨ ¬ R (G k + 1))
theorem ctP_inj {p : Nat → Prop} {i j : Nat} (hi : p i) (hj : p j) (e : ctP p i = ctP p j) : i = j := by
  have key : ∀ a b, a < b → p a → ctP p a < ctP p b := by
    intro a b
    induction b with
    | zero => intro h; exact absurd h (Nat.not_lt_zero _)
    | succ b ih =>
      intro h ha
      rcases Nat.lt_or_ge a b with q | q
      · have := ih q ha
        rw [ctP]; omega
      · rw [show a = b by omega] at ha ⊢
        rw [ctP_yes ha]; omega
  rcases Nat.lt_trichotomy i j with q | q | q
  · have := key i j q hi; omega
  · exact q
  · have := key j i q hj; omega
theorem IvOK.uniq {R : Nat → Prop} {n cn cn' : Nat} {F G F' G' : Nat → Nat} (h : IvOK R n cn F G) (h' : IvOK R n cn' F' G') : cn = cn' ∧ ∀ k, k < cn → F k = F' k ∧ G k = G' k := by
  have hc : cn = cn' := by rw [h.1, h'.1]
  refine ⟨hc, fun k hk => ?_⟩
  obtain ⟨a1, a2, a3, a4, a5, a6, a7⟩ := h.2 k hk
  obtain ⟨b1, b2, b3, b4, b5, b6, b7⟩ := h'.2 k (by omega)
  have e := ctP_inj a3 b3 (by rw [a4, b4])
  refine ⟨e, ?_⟩
  rcases Nat.lt_trichotomy (G k) (G' k) with q | q | q
  · rcases a7 with r | r
    · omega
    · exact absurd (b5 (G k + 1) (by omega) (by omega)) r
  · exact q
  · rcases b7 with r | r
    · omega
    · exact absurd (a5 (G' k + 1) (by omega) (by omega)) r
theorem IvOK.zero (R : Nat → Prop) (F G : Nat → Nat) : IvOK R 0 0 F G := ⟨rfl, fun k hk => absurd hk (Nat.not_lt_zero _)⟩
theorem IvOK.out {R : Nat → Prop} {n cn : Nat} {F G : Nat → Nat} (h : IvOK R n cn F G) (hn : ¬ R n) : IvOK R (n + 1) cn F G := by
  refine ⟨by rw [ctP_no (fun q => hn q.1)]; exact h.1, fun k hk => ?_⟩
  obtain ⟨a1, a2, a3, a4, a5, a6, a7⟩ := h.2 k hk
  refine ⟨a1, by omega, a3, a4, a5, a6, Or.inr ?_⟩
  rcases a7 with r | r
  · rw [r]; exact hn
  · exact r
theorem IvOK.more {R : Nat → Prop} {n cn : Nat} {F G : Nat → Nat} (h : IvOK R n cn F G) (hn : R n) (h0 : 0 < n) (hp : R (n - 1)) (hc : 0 < cn) (hg : G (cn - 1) + 1 = n) : IvOK R (n + 1) cn F (upN G (cn - 1) n) := by
  refine ⟨by rw [ctP_no (fun q => by rcases q.2 with r | r; omega; exact r hp)]; exact h.1, fun k hk => ?_⟩
  obtain ⟨a1, a2, a3, a4, a5, a6, a7⟩ := h.2 k hk
  rcases Nat.lt_or_ge k (cn - 1) with q | q
  · rw [upN_n (by omega)]
    refine ⟨a1, by omega, a3, a4, a5, a6, Or.inr (a6 (by omega))⟩
  · have e : k = cn - 1 := by omega
    subst e
    rw [upN_s]
    refine ⟨by omega, by omega, a3, a4, fun j h1 h2 => ?_, fun q => absurd q (by omega), Or.inl rfl⟩
    rcases Nat.lt_or_ge j n with r | r
    · exact a5 j h1 (by omega)
    · rw [show j = n by omega]; exact hn
theorem IvOK.start {R : Nat → Prop} {n cn : Nat} {F G : Nat → Nat} (h : IvOK R n cn F G) (hn : R n) (hp : n = 0 ∨ ¬ R (n - 1)) : IvOK R (n + 1) (cn + 1) (upN F cn n) (upN G cn n) := by
  have hs : stI R n := ⟨hn, hp⟩
  refine ⟨by rw [ctP_yes hs, h.1], fun k hk => ?_⟩
  rcases Nat.lt_or_ge k cn with q | q
  · obtain ⟨a1, a2, a3, a4, a5, a6, a7⟩ := h.2 k q
    rw [upN_n (by omega), upN_n (by omega)]
    have hx : ¬ R (G k + 1) := by
      rcases a7 with r | r
      · exfalso
        rcases hp with z | z
        · omega
        · exact z (by rw [show n - 1 = G k by omega]; exact a5 (G k) a1 (Nat.le_refl _))
      · exact r
    exact ⟨a1, by omega, a3, a4, a5, fun _ => hx, Or.inr hx⟩
  · have e : k = cn := by omega
    subst e
    rw [upN_s, upN_s]
    refine ⟨Nat.le_refl _, by omega, hs, h.1.symm, fun j h1 h2 => ?_, fun q => absurd q (by omega), Or.inl rfl⟩
    rw [show j = n by omega]; exact hn
/-- the gaps -/
theorem IvOK.gap {R : Nat → Prop} {n cn : Nat} {F G : Nat → Nat} (h : IvOK R n cn F G) {k : Nat} (hk : k + 1 < cn) : G k + 1 < F (k + 1) := by
  obtain ⟨a1, a2, a3, a4, a5, a6, a7⟩ := h.2 k (by omega)
  obtain ⟨b1, b2, b3, b4, b5, b6, b7⟩ := h.2 (k + 1) hk
  have hlt : F k < F (k + 1) := by
    rcases Nat.lt_or_ge (F k) (F (k + 1)) with q | q
    · exact q
    · exfalso
      have mono : ∀ a b, a ≤ b → ctP (stI R) a ≤ ctP (stI R) b := by
        intro a b hab
        induction b with
        | zero => rw [show a = 0 by omega]; exact Nat.le_refl _
        | succ b ih =>
          rcases Nat.lt_or_ge a (b + 1) with r | r
          · have := ih (by omega); rw [ctP]; omega
          · rw [show a = b + 1 by omega]; exact Nat.le_refl _
      have := mono _ _ q
      omega
  have h2 : G k < F (k + 1) := by
    rcases Nat.lt_or_ge (G k) (F (k + 1)) with q | q
    · exact q
    · rcases b3.2 with r | r
      · omega
      · exact absurd (a5 (F (k + 1) - 1) (by omega) (by omega)) r
  rcases Nat.lt_or_ge (G k + 1) (F (k + 1)) with q | q
  · exact q
  · exact absurd b3.1 (by rw [show F (k + 1) = G k + 1 by omega]; exact a6 hk)
-- how many intervals a rectangle can have
theorem ctP_img1 (d : Nat → Prop) (h : Nat → Nat) (N : Nat) : ∀ M, ctP (fun i => ∃ j, j < M ∧ d j ∧ i = h j) N ≤ ctP d M
  | 0 => by rw [ctP_none (fun j _ ⟨q, hq, _⟩ => absurd hq (Nat.not_lt_zero _))]; exact Nat.zero_le _
  | M + 1 => by
    have ih := ctP_img1 d h N M
    by_cases hd : d M
    · rw [ctP_yes hd]
      have h1 : ctP (fun i => ∃ j, j < M + 1 ∧ d j ∧ i = h j) N ≤ ctP (fun i => (∃ j, j < M ∧ d j ∧ i = h j) ∨ i = h M) N := ctP_mono (fun j _ ⟨q, hq, h1, h2⟩ => by
        rcases Nat.lt_or_ge q M with c | c
        · exact Or.inl ⟨q, c, h1, h2⟩
        · rw [show q = M by omega] at h2; exact Or.inr h2)
      have h2 := ctP_or (p := fun i => ∃ j, j < M ∧ d j ∧ i = h j) (q := fun i => i = h M) N
      have h4 := ctP_one (p := fun i => i = h M) (i := h M) (n := N) (fun j _ e => e)
      omega
    · rw [ctP_no hd]
      refine Nat.le_trans (ctP_mono fun j _ ⟨q, hq, h1, h2⟩ => ?_) ih
      rcases Nat.lt_or_ge q M with c | c
      · exact ⟨q, c, h1, h2⟩
      · rw [show q = M by omega] at h1; exact absurd h1 hd
theorem ctP_un (d : Nat → Nat → Prop) (M : Nat → Nat) (h : Nat → Nat → Nat) (N : Nat) : ∀ K, ctP (fun i => ∃ k, k < K ∧ ∃ j, j < M k ∧ d k j ∧ i = h k j) N ≤ smN (fun k => ctP (d k) (M k)) K
  | 0 => by rw [ctP_none (fun j _ ⟨q, hq, _⟩ => absurd hq (Nat.not_lt_zero _))]; exact Nat.zero_le _
  | K + 1 => by
    have ih := ctP_un d M h N K
    have h0 := ctP_img1 (d K) (h K) N (M K)
    have h1 : ctP (fun i => ∃ k, k < K + 1 ∧ ∃ j, j < M k ∧ d k j ∧ i = h k j) N ≤ ctP (fun i => (∃ k, k < K ∧ ∃ j, j < M k ∧ d k j ∧ i = h k j) ∨ ∃ j, j < M K ∧ d K j ∧ i = h K j) N := ctP_mono (fun i _ ⟨k, hk, q⟩ => by
      rcases Nat.lt_or_ge k K with c | c
      · exact Or.inl ⟨k, c, q⟩
      · rw [show k = K by omega] at q; exact Or.inr q)
    have h2 := ctP_or (p := fun i => ∃ k, k < K ∧ ∃ j, j < M k ∧ d k j ∧ i = h k j) (q := fun i => ∃ j, j < M K ∧ d K j ∧ i = h K j) N
    rw [smN]
    omega
theorem ctP_col {T : Nat → Nat} {n : Nat} (hV : VT T n) (K c : Nat) : ctP (fun j => cvx T K j = c) (4 ^ K) ≤ 2 ^ K ∧ ctP (fun j => cvy T K j = c) (4 ^ K) ≤ 2 ^ K := by
  constructor
  · refine Nat.le_trans (Nat.le_trans (ctP_mono fun j hj e => ?_) (ctP_img1 (fun _ => True) (fun y => cvi T K c y) (4 ^ K) (2 ^ K))) (ctP_le _ _)
    exact ⟨cvy T K j, cvy_lt hV K j, trivial, (cvi_eq hV hj e rfl).symm⟩
  · refine Nat.le_trans (Nat.le_trans (ctP_mono fun j hj e => ?_) (ctP_img1 (fun _ => True) (fun x => cvi T K x c) (4 ^ K) (2 ^ K))) (ctP_le _ _)
    exact ⟨cvx T K j, cvx_lt T K j, trivial, (cvi_eq hV hj rfl e).symm⟩
theorem cvx_blk (T : Nat → Nat) (m : Nat) : ∀ k i, k ≤ m → cvx T m i / 2 ^ k = cvx T (m - k) (i / 4 ^ k)
  | 0, i, _ => by simp
  | k + 1, i, h => by
    rw [Nat.pow_succ, ← Nat.div_div_eq_div_mul, cvx_blk T m k i (by omega), show m - k = m - (k + 1) + 1 by omega, cvx_up, Nat.pow_succ, Nat.div_div_eq_div_mul]
theorem cvy_blk {T : Nat → Nat} {n : Nat} (hV : VT T n) (m : Nat) : ∀ k i, k ≤ m → cvy T m i / 2 ^ k = cvy T (m - k) (i / 4 ^ k)
  | 0, i, _ => by simp
  | k + 1, i, h => by
    rw [Nat.pow_succ, ← Nat.div_div_eq_div_mul, cvy_blk hV m k i (by omega), show m - k = m - (k + 1) + 1 by omega, cvy_up hV, Nat.pow_succ, Nat.div_div_eq_div_mul]
/-- the squares of side w from a * w on lie between l and r -/
def inS (l r w a : Nat) : Prop := l ≤ w * a ∧ w * a + w ≤ r + 1
theorem inS_par {l r w a : Nat} (hw : 0 < w) (h : inS l r w a) (hn : ¬ inS l r (2 * w) (a / 2)) : a = (l + w - 1) / w ∨ a = (r + 1) / w - 1 := by
  obtain ⟨h1, h2⟩ := h
  have e : 2 * w * (a / 2) = w * (2 * (a / 2)) := by rw [Nat.mul_comm 2 w, Nat.mul_assoc]
  unfold inS at hn
  rw [e] at hn
  rcases Nat.mod_two_eq_zero_or_one a with q | q
  · rw [show 2 * (a / 2) = a by omega] at hn
    right
    have e2 : (r + 1) / w = a + 1 := by
      apply Nat.div_eq_of_lt_le
      · rw [Nat.add_mul, Nat.one_mul, Nat.mul_comm]; omega
      · rw [Nat.add_mul, Nat.add_mul, Nat.one_mul, Nat.mul_comm a w]
        omega
    omega
  · rw [show 2 * (a / 2) = a - 1 by omega] at hn
    have e3 : w * a = w * (a - 1) + w := by rw [← Nat.mul_succ]; congr 1; omega
    left
    apply Eq.symm
    apply Nat.div_eq_of_lt_le
    · rw [Nat.mul_comm]; omega
    · rw [Nat.add_mul, Nat.one_mul, Nat.mul_comm a w]
      omega
def capI (m k : Nat) : Nat := if k < m then 4 * 2 ^ (m - k) else 1
theorem iv_cap : ∀ m, m < 7 → smN (capI m) (m + 1) ≤ 505 := by decide
/-- the cells of the rectangle -/
def inG (g : Nat → Nat) (l b r a i : Nat) : Prop := (l ≤ g i % 64 ∧ g i % 64 ≤ r) ∧ b ≤ g i / 64 ∧ g i / 64 ≤ a
theorem iv_le {T : Nat → Nat} {n m l b r a : Nat} {g : Nat → Nat} (hV : VT T n) (hm : m ≤ 6) (hg : ∀ i, i < 4 ^ m → g i = cvc T m i) : ctP (stI (inG g l b r a)) (4 ^ m) ≤ 505 := by
  have hR : ∀ i, i < 4 ^ m → (inG g l b r a i ↔ (l ≤ cvx T m i ∧ cvx T m i ≤ r) ∧ b ≤ cvy T m i ∧ cvy T m i ≤ a) := by
    intro i hi
    unfold inG
    rw [hg i hi, (cvc_mod i hm).1, (cvc_mod i hm).2]
  -- the block j of level k lies in the range
  let ins : Nat → Nat → Prop := fun k j => inS l r (2 ^ k) (cvx T (m - k) j) ∧ inS b a (2 ^ k) (cvy T (m - k) j)
  have hins : ∀ k i, k ≤ m → i < 4 ^ m → ins k (i / 4 ^ k) → inG g l b r a i := by
    intro k i hk hi ⟨⟨h1, h2⟩, h3, h4⟩
    rw [← cvx_blk T m k i hk] at h1 h2
    rw [← cvy_blk hV m k i hk] at h3 h4
    have d1 := Nat.div_add_mod (cvx T m i) (2 ^ k)
    have d2 := Nat.mod_lt (cvx T m i) (p2_pos k)
    have d3 := Nat.div_add_mod (cvy T m i) (2 ^ k)
    have d4 := Nat.mod_lt (cvy T m i) (p2_pos k)
    rw [hR i hi]
    omega
  have h0 : ∀ i, i < 4 ^ m → inG g l b r a i → ins 0 i := by
    intro i hi h
    rw [hR i hi] at h
    show inS l r (2 ^ 0) (cvx T (m - 0) i) ∧ inS b a (2 ^ 0) (cvy T (m - 0) i)
    rw [Nat.pow_zero, Nat.sub_zero]
    unfold inS
    omega
  let Mx : Nat → Nat → Prop := fun k j => ins k j ∧ (k = m ∨ ¬ ins (k + 1) (j / 4))
  have hst : ∀ i, i < 4 ^ m → stI (inG g l b r a) i → ∃ k, k < m + 1 ∧ ∃ j, j < 4 ^ (m - k) ∧ Mx k j ∧ i = j * 4 ^ k := by
    intro i hi ⟨hri, hs⟩
    have key : ∀ d, d ≤ m → (∃ k, k ≤ m ∧ m - d ≤ k ∧ ins k (i / 4 ^ k) ∧ (k = m ∨ ¬ ins (k + 1) (i / 4 ^ (k + 1)))) ∨ ∀ k, m - d ≤ k → k ≤ m → ¬ ins k (i / 4 ^ k) := by
      intro d
      induction d with
      | zero =>
        intro _
        by_cases q : ins m (i / 4 ^ m)
        · exact Or.inl ⟨m, Nat.le_refl _, by omega, q, Or.inl rfl⟩
        · exact Or.inr (fun k h1 h2 => by rw [show k = m by omega]; exact q)
      | succ d ih =>
        intro hd
        rcases ih (by omega) with ⟨k, k1, k2, k3⟩ | q
        · exact Or.inl ⟨k, k1, by omega, k3⟩
        · by_cases r2 : ins (m - (d + 1)) (i / 4 ^ (m - (d + 1)))
          · exact Or.inl ⟨m - (d + 1), by omega, Nat.le_refl _, r2, Or.inr (q _ (by omega) (by omega))⟩
          · refine Or.inr (fun k h1 h2 => ?_)
            rcases Nat.lt_or_ge k (m - d) with z | z
            · rw [show k = m - (d + 1) by omega]; exact r2
            · exact q k z h2
    rcases key m (Nat.le_refl _) with ⟨k, k1, k2, k3, k4⟩ | q
    · refine ⟨k, by omega, i / 4 ^ k, blk_lt k1 hi, ⟨k3, ?_⟩, ?_⟩
      · rcases k4 with z | z
        · exact Or.inl z
        · right; rw [← pdd]; exact z
      · have d1 := Nat.div_add_mod i (4 ^ k)
        rcases Nat.eq_zero_or_pos (i % 4 ^ k) with z | z
        · rw [Nat.mul_comm]; omega
        · exfalso
          rcases hs with y | y
          · rw [y, Nat.zero_mod] at z; omega
          · apply y
            apply hins k (i - 1) k1 (by omega)
            have e : (i - 1) / 4 ^ k = i / 4 ^ k := by
              apply Nat.div_eq_of_lt_le
              · rw [Nat.mul_comm]; omega
              · have := Nat.mod_lt i (p4_pos k)
                rw [Nat.add_mul, Nat.one_mul, Nat.mul_comm]; omega
            rw [e]; exact k3
    · have := q 0 (by omega) (Nat.zero_le _)
      rw [Nat.pow_zero, Nat.div_one] at this
      exact absurd (h0 i hi hri) this
  have h1 : ctP (stI (inG g l b r a)) (4 ^ m) ≤ smN (fun k => ctP (Mx k) (4 ^ (m - k))) (m + 1) := Nat.le_trans (ctP_mono hst) (ctP_un Mx (fun k => 4 ^ (m - k)) (fun k j => j * 4 ^ k) (4 ^ m) (m + 1))
  have h2 : smN (fun k => ctP (Mx k) (4 ^ (m - k))) (m + 1) ≤ smN (capI m) (m + 1) := by
    refine smN_le (fun k hk => ?_)
    unfold capI
    by_cases q : k < m
    · rw [if_pos q]
      have hx1 := (ctP_col hV (m - k) ((l + 2 ^ k - 1) / 2 ^ k)).1
      have hx2 := (ctP_col hV (m - k) ((r + 1) / 2 ^ k - 1)).1
      have hy1 := (ctP_col hV (m - k) ((b + 2 ^ k - 1) / 2 ^ k)).2
      have hy2 := (ctP_col hV (m - k) ((a + 1) / 2 ^ k - 1)).2
      have hcov : ctP (Mx k) (4 ^ (m - k)) ≤ ctP (fun j => (cvx T (m - k) j = (l + 2 ^ k - 1) / 2 ^ k ∨ cvx T (m - k) j = (r + 1) / 2 ^ k - 1) ∨ (cvy T (m - k) j = (b + 2 ^ k - 1) / 2 ^ k ∨ cvy T (m - k) j = (a + 1) / 2 ^ k - 1)) (4 ^ (m - k)) := ctP_mono (fun j hj ⟨z1, z2⟩ => by
        rcases z2 with z2 | z2
        · omega
        · have ex : cvx T (m - (k + 1)) (j / 4) = cvx T (m - k) j / 2 := by rw [show m - k = m - (k + 1) + 1 by omega, cvx_up]
          have ey : cvy T (m - (k + 1)) (j / 4) = cvy T (m - k) j / 2 := by rw [show m - k = m - (k + 1) + 1 by omega, cvy_up hV]
          have e2 : (2 : Nat) ^ (k + 1) = 2 * 2 ^ k := p2_s k
          by_cases y : inS l r (2 ^ (k + 1)) (cvx T (m - (k + 1)) (j / 4))
          · right
            have y2 : ¬ inS b a (2 ^ (k + 1)) (cvy T (m - (k + 1)) (j / 4)) := fun w => z2 ⟨y, w⟩
            rw [e2, ey] at y2
            exact inS_par (p2_pos k) z1.2 y2
          · left
            rw [e2, ex] at y
            exact inS_par (p2_pos k) z1.1 y)
      have o1 := ctP_or (p := fun j => cvx T (m - k) j = (l + 2 ^ k - 1) / 2 ^ k ∨ cvx T (m - k) j = (r + 1) / 2 ^ k - 1) (q := fun j => cvy T (m - k) j = (b + 2 ^ k - 1) / 2 ^ k ∨ cvy T (m - k) j = (a + 1) / 2 ^ k - 1) (4 ^ (m - k))
      have o2 := ctP_or (p := fun j => cvx T (m - k) j = (l + 2 ^ k - 1) / 2 ^ k) (q := fun j => cvx T (m - k) j = (r + 1) / 2 ^ k - 1) (4 ^ (m - k))
      have o3 := ctP_or (p := fun j => cvy T (m - k) j = (b + 2 ^ k - 1) / 2 ^ k) (q := fun j => cvy T (m - k) j = (a + 1) / 2 ^ k - 1) (4 ^ (m - k))
      omega
    · rw [if_neg q, show m - k = 0 by omega]
      exact ctP_le _ _
  have h3 := iv_cap m (by omega)
  omega
