-- the curve: a table T of visits, 10 * quarter + state at place 4 * state + place
def dsv (T : Nat → Nat) (half v p : Nat) : Nat := 4096 * (T (4 * (v / 4096) + p) % 10) + (v % 4096 + half * (T (4 * (v / 4096) + p) / 10 % 2 + T (4 * (v / 4096) + p) / 10 / 2 * 64))
def cvs (T : Nat → Nat) : Nat → Nat → Nat
  | 0, _ => 0
  | k + 1, i => T (4 * cvs T k (i / 4) + i % 4) % 10
def cvx (T : Nat → Nat) : Nat → Nat → Nat
  | 0, _ => 0
  | k + 1, i => 2 * cvx T k (i / 4) + T (4 * cvs T k (i / 4) + i % 4) / 10 % 2
def cvy (T : Nat → Nat) : Nat → Nat → Nat
  | 0, _ => 0
  | k + 1, i => 2 * cvy T k (i / 4) + T (4 * cvs T k (i / 4) + i % 4) / 10 / 2
/-- a table of n states -/
def VT (T : Nat → Nat) (n : Nat) : Prop := 0 < n ∧ n ≤ 8 ∧ (∀ s, s < n → ∀ p, p < 4 → T (4 * s + p) / 10 < 4 ∧ T (4 * s + p) % 10 < n) ∧ ∀ s, s < n → ∀ p, p < 4 → ∀ p', p' < 4 → T (4 * s + p) / 10 = T (4 * s + p') / 10 → p = p'
def cvc (T : Nat → Nat) (k i : Nat) : Nat := 64 * cvy T k i + cvx T k i
def sqv (T : Nat → Nat) (m k i : Nat) : Nat := 4096 * cvs T k i + 2 ^ (m - k) * cvc T k i
theorem p2_le {a b : Nat} (h : a ≤ b) : 2 ^ a ≤ 2 ^ b := Nat.pow_le_pow_right (by decide) h
theorem p4_le {a b : Nat} (h : a ≤ b) : 4 ^ a ≤ 4 ^ b := Nat.pow_le_pow_right (by decide) h
theorem p2_6 {m : Nat} (h : m ≤ 6) : 2 ^ m ≤ 64 := p2_le (b := 6) h
theorem p4_6 {m : Nat} (h : m ≤ 6) : 4 ^ m ≤ 4096 := p4_le (b := 6) h
theorem p2_pos (m : Nat) : 0 < 2 ^ m := Nat.pow_pos (by decide)
theorem p4_pos (m : Nat) : 0 < 4 ^ m := Nat.pow_pos (by decide)
theorem p4_s (m : Nat) : 4 ^ (m + 1) = 4 * 4 ^ m := by rw [Nat.pow_succ, Nat.mul_comm]
theorem p2_s (m : Nat) : 2 ^ (m + 1) = 2 * 2 ^ m := by rw [Nat.pow_succ, Nat.mul_comm]
theorem p24 (m : Nat) : 2 ^ (2 * m) = 4 ^ m := by rw [Nat.pow_mul]
theorem p22 (m : Nat) : 2 ^ m * 2 ^ m = 4 ^ m := by rw [← Nat.pow_add, ← p24]; congr 1; omega
theorem cvs_lt {T : Nat → Nat} {n : Nat} (h : VT T n) : ∀ k i, cvs T k i < n
  | 0, _ => h.1
  | k + 1, i => by
    unfold cvs
    exact (h.2.2.1 _ (cvs_lt h k (i / 4)) (i % 4) (Nat.mod_lt _ (by decide))).2
theorem cvx_lt (T : Nat → Nat) : ∀ k i, cvx T k i < 2 ^ k
  | 0, _ => by unfold cvx; exact p2_pos 0
  | k + 1, i => by
    unfold cvx
    have h1 := cvx_lt T k (i / 4)
    rw [p2_s]
    omega
theorem cvy_lt {T : Nat → Nat} {n : Nat} (h : VT T n) : ∀ k i, cvy T k i < 2 ^ k
  | 0, _ => by unfold cvy; exact p2_pos 0
  | k + 1, i => by
    unfold cvy
    have h1 := cvy_lt h k (i / 4)
    have h2 := (h.2.2.1 _ (cvs_lt h k (i / 4)) (i % 4) (Nat.mod_lt _ (by decide))).1
    rw [p2_s]
    omega
theorem cvx_up (T : Nat → Nat) (k i : Nat) : cvx T (k + 1) i / 2 = cvx T k (i / 4) := by
  rw [cvx]; omega
theorem cvy_up {T : Nat → Nat} {n : Nat} (h : VT T n) (k i : Nat) : cvy T (k + 1) i / 2 = cvy T k (i / 4) := by
  have h2 := (h.2.2.1 _ (cvs_lt h k (i / 4)) (i % 4) (Nat.mod_lt _ (by decide))).1
  rw [cvy]; omega
theorem cv_q {T : Nat → Nat} {n : Nat} (h : VT T n) (k i : Nat) : T (4 * cvs T k (i / 4) + i % 4) / 10 = 2 * (cvy T (k + 1) i % 2) + cvx T (k + 1) i % 2 := by
  have h2 := (h.2.2.1 _ (cvs_lt h k (i / 4)) (i % 4) (Nat.mod_lt _ (by decide))).1
  rw [cvy, cvx]; omega
/-- two indices with the same cell are one -/
theorem cv_inj {T : Nat → Nat} {n : Nat} (h : VT T n) : ∀ k i j, i < 4 ^ k → j < 4 ^ k → cvx T k i = cvx T k j → cvy T k i = cvy T k j → i = j
  | 0, i, j, hi, hj, _, _ => by
    have : (4 : Nat) ^ 0 = 1 := rfl
    omega
  | k + 1, i, j, hi, hj, hx, hy => by
    rw [p4_s] at hi hj
    have e := cv_inj h k (i / 4) (j / 4) (by omega) (by omega) (by rw [← cvx_up, ← cvx_up, hx]) (by rw [← cvy_up h, ← cvy_up h, hy])
    have q1 := cv_q h k i
    have q2 := cv_q h k j
    rw [hx, hy, ← q2, e] at q1
    have := h.2.2.2 _ (cvs_lt h k (j / 4)) _ (Nat.mod_lt i (by decide)) _ (Nat.mod_lt j (by decide)) q1
    omega
/-- every cell has an index -/
theorem cv_sur {T : Nat → Nat} {n : Nat} (h : VT T n) : ∀ k x y, x < 2 ^ k → y < 2 ^ k → ∃ i, i < 4 ^ k ∧ cvx T k i = x ∧ cvy T k i = y
  | 0, x, y, hx, hy => ⟨0, p4_pos 0, by
    have : (2 : Nat) ^ 0 = 1 := rfl
    unfold cvx; omega, by
    have : (2 : Nat) ^ 0 = 1 := rfl
    unfold cvy; omega⟩
  | k + 1, x, y, hx, hy => by
    rw [p2_s] at hx hy
    obtain ⟨i, hi, h1, h2⟩ := cv_sur h k (x / 2) (y / 2) (by omega) (by omega)
    have hs := cvs_lt h k i
    have f := h.2.2.1 _ hs
    have g := h.2.2.2 _ hs
    have e : ∃ p, p < 4 ∧ T (4 * cvs T k i + p) / 10 = 2 * (y % 2) + x % 2 := by
      have f0 := (f 0 (by decide)).1
      have f1 := (f 1 (by decide)).1
      have f2 := (f 2 (by decide)).1
      have f3 := (f 3 (by decide)).1
      have g01 := g 0 (by decide) 1 (by decide)
      have g02 := g 0 (by decide) 2 (by decide)
      have g03 := g 0 (by decide) 3 (by decide)
      have g12 := g 1 (by decide) 2 (by decide)
      have g13 := g 1 (by decide) 3 (by decide)
      have g23 := g 2 (by decide) 3 (by decide)
      have : T (4 * cvs T k i + 0) / 10 = 2 * (y % 2) + x % 2 ∨ T (4 * cvs T k i + 1) / 10 = 2 * (y % 2) + x % 2 ∨ T (4 * cvs T k i + 2) / 10 = 2 * (y % 2) + x % 2 ∨ T (4 * cvs T k i + 3) / 10 = 2 * (y % 2) + x % 2 := by omega
      rcases this with q | q | q | q
      · exact ⟨0, by decide, q⟩
      · exact ⟨1, by decide, q⟩
      · exact ⟨2, by decide, q⟩
      · exact ⟨3, by decide, q⟩
    obtain ⟨p, hp, hq⟩ := e
    have d1 : (4 * i + p) / 4 = i := by omega
    have d2 : (4 * i + p) % 4 = p := by omega
    refine ⟨4 * i + p, by rw [p4_s]; omega, ?_, ?_⟩
    · rw [cvx, d1, d2, hq, h1]; omega
    · rw [cvy, d1, d2, hq, h2]; omega
theorem cvc_mod {T : Nat → Nat} {k : Nat} (i : Nat) (hk : k ≤ 6) : cvc T k i % 64 = cvx T k i ∧ cvc T k i / 64 = cvy T k i := by
  have h1 := cvx_lt T k i
  have h2 := p2_6 hk
  unfold cvc
  omega
theorem cvc_lt {T : Nat → Nat} {n k : Nat} (h : VT T n) (i : Nat) (hk : k ≤ 6) : cvc T k i < 4096 := by
  have h1 := cvx_lt T k i
  have h3 := cvy_lt h k i
  have h2 := p2_6 hk
  unfold cvc
  omega
theorem cvc_inj {T : Nat → Nat} {n k : Nat} (h : VT T n) (hk : k ≤ 6) {i j : Nat} (hi : i < 4 ^ k) (hj : j < 4 ^ k) (e : cvc T k i = cvc T k j) : i = j := by
  have a := cvc_mod (T := T) (k := k) i hk
  have b := cvc_mod (T := T) (k := k) j hk
  exact cv_inj h k i j hi hj (by rw [← a.1, ← b.1, e]) (by rw [← a.2, ← b.2, e])
/-- the squares' corners stay in the grid -/
theorem sq_lt {T : Nat → Nat} {n m k : Nat} (h : VT T n) (hm : m ≤ 6) (hk : k ≤ m) (i : Nat) : 2 ^ (m - k) * cvc T k i < 4096 := by
  have h1 : 2 ^ (m - k) * (cvx T k i + 1) ≤ 2 ^ (m - k) * 2 ^ k := Nat.mul_le_mul_left _ (cvx_lt T k i)
  have h3 : 2 ^ (m - k) * (cvy T k i + 1) ≤ 2 ^ (m - k) * 2 ^ k := Nat.mul_le_mul_left _ (cvy_lt h k i)
  have h2 := p2_6 hm
  have h0 := p2_pos (m - k)
  have e : 2 ^ (m - k) * 2 ^ k = 2 ^ m := by rw [← Nat.pow_add]; congr 1; omega
  rw [e, Nat.mul_add, Nat.mul_one] at h1 h3
  unfold cvc
  rw [Nat.mul_add, Nat.mul_left_comm]
  omega
theorem dsv_sq {T : Nat → Nat} {n m k : Nat} (h : VT T n) (hm : m ≤ 6) (hk : k < m) (i p : Nat) (hp : p < 4) : dsv T (2 ^ (m - (k + 1))) (sqv T m k i) p = sqv T m (k + 1) (4 * i + p) := by
  have hl := sq_lt h hm (Nat.le_of_lt hk) i
  have d1 : (4 * i + p) / 4 = i := by omega
  have d2 : (4 * i + p) % 4 = p := by omega
  have e1 : sqv T m k i / 4096 = cvs T k i := by unfold sqv; omega
  have e2 : sqv T m k i % 4096 = 2 ^ (m - k) * cvc T k i := by unfold sqv; omega
  unfold dsv
  rw [e1, e2]
  have e3 : 2 ^ (m - k) = 2 * 2 ^ (m - (k + 1)) := by rw [← p2_s]; congr 1; omega
  unfold sqv cvc
  rw [cvs, cvx, cvy, d1, d2, e3]
  generalize 2 ^ (m - (k + 1)) = w
  generalize T (4 * cvs T k i + p) = v
  grind
/-- the numbering's rows, of a grid of m levels -/
def NumOK (T : Nat → Nat) (m : Nat) (g ix : Nat → Nat) : Prop := (∀ i, i < 4 ^ m → g i = cvc T m i) ∧ ∀ i, i < 4 ^ m → ix (cvc T m i) = i
theorem sqv_last (T : Nat → Nat) (m i : Nat) : sqv T m m i = 4096 * cvs T m i + cvc T m i := by
  unfold sqv
  rw [Nat.sub_self, Nat.pow_zero, Nat.one_mul]
theorem ds_new {T : Nat → Nat} {n m k : Nat} (h : VT T n) (hm : m ≤ 6) (hk : k < m) (i p : Nat) (hp : p < 4) : sqv T m k i % 4096 + 2 ^ (m - (k + 1)) * (T (4 * (sqv T m k i / 4096) + p) / 10 % 2 + T (4 * (sqv T m k i / 4096) + p) / 10 / 2 * 64) < 4096 := by
  have h1 := dsv_sq h hm hk i p hp
  have h2 := sq_lt h hm (show k + 1 ≤ m by omega) (4 * i + p)
  have hl := sq_lt h hm (Nat.le_of_lt hk) i
  have d1 : (4 * i + p) / 4 = i := by omega
  have d2 : (4 * i + p) % 4 = p := by omega
  have e1 : sqv T m k i / 4096 = cvs T k i := by unfold sqv; omega
  have e5 : cvs T (k + 1) (4 * i + p) = T (4 * cvs T k i + p) % 10 := by rw [cvs, d1, d2]
  unfold dsv at h1
  rw [sqv, sqv] at h1
  rw [show 4096 * cvs T k i + 2 ^ (m - k) * cvc T k i = sqv T m k i from rfl, e1, e5] at h1
  rw [e1]
  omega
theorem sq_st {T : Nat → Nat} {n m k : Nat} (h : VT T n) (hm : m ≤ 6) (hk : k ≤ m) (i : Nat) : sqv T m k i / 4096 < n := by
  have h1 := cvs_lt h k i
  have h2 := sq_lt h hm hk i
  unfold sqv
  omega
