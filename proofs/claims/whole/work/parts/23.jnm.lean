-- joining gaps: the shortest first, of several the leftmost
def gpf (F G : Nat → Nat) (p : Nat) : Nat := F (p + 1) - G p - 1
def gl (gp : Nat → Nat) (p q : Nat) : Prop := gp p < gp q ∨ (gp p = gp q ∧ p < q)
noncomputable def rkJ (gp : Nat → Nat) (N p : Nat) : Nat := ctP (fun q => gl gp q p) N
theorem gl_tri {gp : Nat → Nat} {p q : Nat} (h : p ≠ q) : gl gp p q ∨ gl gp q p := by unfold gl; omega
theorem gl_irr {gp : Nat → Nat} {p : Nat} : ¬ gl gp p p := by unfold gl; omega
theorem gl_trans {gp : Nat → Nat} {p q r : Nat} (h : gl gp p q) (h' : gl gp q r) : gl gp p r := by unfold gl at *; omega
theorem rk_lt {gp : Nat → Nat} {N p q : Nat} (hp : p < N) (h : gl gp p q) : rkJ gp N p < rkJ gp N q := ctP_lt (i := p) (fun j _ hj => gl_trans hj h) hp h gl_irr
theorem rk_iff {gp : Nat → Nat} {N p q : Nat} (hp : p < N) (hq : q < N) : rkJ gp N p < rkJ gp N q ↔ gl gp p q := by
  refine ⟨fun h => ?_, rk_lt hp⟩
  rcases Nat.decEq p q with e | e
  · rcases gl_tri (gp := gp) e with a | a
    · exact a
    · have := rk_lt hq a; omega
  · subst e; omega
theorem rk_inj {gp : Nat → Nat} {N p q : Nat} (hp : p < N) (hq : q < N) (h : rkJ gp N p = rkJ gp N q) : p = q := by
  rcases Nat.decEq p q with e | e
  · rcases gl_tri (gp := gp) e with a | a
    · have := rk_lt hp a; omega
    · have := rk_lt hq a; omega
  · exact e
theorem ctP_all {p : Nat → Prop} : ∀ {n : Nat}, (∀ j, j < n → p j) → ctP p n = n
  | 0, _ => rfl
  | n + 1, h => by rw [ctP_yes (h n (by omega)), ctP_all (fun j hj => h j (by omega))]
theorem rk_cnt (gp : Nat → Nat) (N : Nat) : ∀ t, t ≤ N → ctP (fun p => rkJ gp N p < t) N = t ∧ (t < N → ∃ p, p < N ∧ rkJ gp N p = t) := by
  have ex : ∀ t, t < N → ctP (fun p => rkJ gp N p < t) N = t → ∃ p, p < N ∧ rkJ gp N p = t := by
    intro t ht hc
    have h1 : ∃ v, ∃ p, p < N ∧ t ≤ rkJ gp N p ∧ rkJ gp N p = v := by
      apply Classical.byContradiction
      intro hno
      have : ctP (fun p => rkJ gp N p < t) N = N := ctP_all (fun j hj => by
        rcases Nat.lt_or_ge (rkJ gp N j) t with q | q
        · exact q
        · exact absurd ⟨_, j, hj, q, rfl⟩ hno)
      omega
    obtain ⟨v, ⟨p, hp, h2, h3⟩, hmin⟩ := pk_least _ h1
    refine ⟨p, hp, ?_⟩
    have : rkJ gp N p = ctP (fun q => rkJ gp N q < t) N := ctP_congr (fun q hq => by
      constructor
      · intro h
        have h4 := rk_lt (N := N) hq h
        rcases Nat.lt_or_ge (rkJ gp N q) t with z | z
        · exact z
        · exact absurd ⟨q, hq, z, rfl⟩ (hmin _ (by omega))
      · intro h
        exact (rk_iff hq hp).mp (by omega))
    omega
  intro t
  induction t with
  | zero => intro _; exact ⟨ctP_none (fun j _ h => absurd h (Nat.not_lt_zero _)), fun h => ex 0 h (ctP_none (fun j _ h => absurd h (Nat.not_lt_zero _)))⟩
  | succ t ih =>
    intro ht
    obtain ⟨c1, c2⟩ := ih (by omega)
    obtain ⟨p, hp, hr⟩ := c2 (by omega)
    have h1 := ctP_lt (p := fun q => rkJ gp N q < t) (q := fun q => rkJ gp N q < t + 1) (i := p) (n := N) (fun j _ h => by omega) hp (by omega) (by omega)
    have h2 : ctP (fun q => rkJ gp N q < t + 1) N ≤ ctP (fun q => rkJ gp N q < t ∨ q = p) N := ctP_mono (fun j hj h => by
      rcases Nat.lt_or_ge (rkJ gp N j) t with z | z
      · exact Or.inl z
      · exact Or.inr (rk_inj (gp := gp) hj hp (by omega)))
    have h3 := ctP_or (p := fun q => rkJ gp N q < t) (q := fun q => q = p) N
    have h4 := ctP_one (p := fun q => q = p) (i := p) (n := N) (fun j _ e => e)
    have e : ctP (fun q => rkJ gp N q < t + 1) N = t + 1 := by omega
    exact ⟨e, fun h => ex (t + 1) h e⟩
theorem ctP_kth {p : Nat → Prop} {k : Nat} : ∀ {n : Nat}, k < ctP p n → ∃ i, i < n ∧ p i ∧ ctP p i = k
  | 0, h => absurd h (Nat.not_lt_zero k)
  | n + 1, h => by
    by_cases hp : p n
    · rw [ctP_yes hp] at h
      rcases Nat.lt_or_ge k (ctP p n) with q | q
      · obtain ⟨i, a, b⟩ := ctP_kth q
        exact ⟨i, by omega, b⟩
      · exact ⟨n, by omega, hp, by omega⟩
    · rw [ctP_no hp] at h
      obtain ⟨i, a, b⟩ := ctP_kth h
      exact ⟨i, by omega, b⟩
theorem ctP_sl {p : Nat → Prop} {a b : Nat} (h : a < b) (ha : p a) : ctP p a < ctP p b := by
  have h1 := ctP_up p (show a + 1 ≤ b by omega)
  rw [ctP_yes ha] at h1
  omega
theorem ctP_rm {p q : Nat → Prop} {x : Nat} (h : ∀ j, q j ↔ p j ∧ j ≠ x) (hx : p x) : ∀ n, (n ≤ x → ctP q n = ctP p n) ∧ (x < n → ctP p n = ctP q n + 1)
  | 0 => ⟨fun _ => rfl, fun h => absurd h (Nat.not_lt_zero _)⟩
  | n + 1 => by
    have ih := ctP_rm h hx n
    constructor
    · intro hn
      have e := ih.1 (by omega)
      by_cases hp : p n
      · rw [ctP_yes hp, ctP_yes ((h n).mpr ⟨hp, by omega⟩), e]
      · rw [ctP_no hp, ctP_no (fun z => hp ((h n).mp z).1), e]
    · intro hn
      rcases Nat.lt_or_ge x n with z | z
      · have e := ih.2 z
        by_cases hp : p n
        · rw [ctP_yes hp, ctP_yes ((h n).mpr ⟨hp, by omega⟩), e]
        · rw [ctP_no hp, ctP_no (fun z => hp ((h n).mp z).1), e]
      · have e : x = n := by omega
        subst e
        rw [ctP_yes hx, ctP_no (fun z => ((h x).mp z).2 rfl), ih.1 (Nat.le_refl _)]
noncomputable def smQ (P : Nat → Prop) (f : Nat → Nat) : Nat → Nat
  | 0 => 0
  | n + 1 => smQ P f n + @ite Nat (P n) (Classical.propDecidable (P n)) (f n) 0
theorem smQ_yes {P : Nat → Prop} {f : Nat → Nat} {n : Nat} (h : P n) : smQ P f (n + 1) = smQ P f n + f n := by rw [smQ, if_pos h]
theorem smQ_no {P : Nat → Prop} {f : Nat → Nat} {n : Nat} (h : ¬ P n) : smQ P f (n + 1) = smQ P f n := by rw [smQ, if_neg h]; rfl
theorem smQ_none {P : Nat → Prop} {f : Nat → Nat} : ∀ {n : Nat}, (∀ j, j < n → ¬ P j) → smQ P f n = 0
  | 0, _ => rfl
  | n + 1, h => by rw [smQ_no (h n (by omega))]; exact smQ_none (fun j hj => h j (by omega))
theorem smQ_congr {P Q : Nat → Prop} {f : Nat → Nat} : ∀ {n : Nat}, (∀ j, j < n → (P j ↔ Q j)) → smQ P f n = smQ Q f n
  | 0, _ => rfl
  | n + 1, h => by
    have ih := smQ_congr (P := P) (Q := Q) (f := f) (n := n) (fun j hj => h j (by omega))
    by_cases hp : P n
    · rw [smQ_yes hp, smQ_yes ((h n (by omega)).mp hp), ih]
    · rw [smQ_no hp, smQ_no (fun z => hp ((h n (by omega)).mpr z)), ih]
theorem smQ_one {P Q : Nat → Prop} {f : Nat → Nat} {x : Nat} : ∀ {n : Nat}, (∀ j, j < n → (Q j ↔ P j ∨ j = x)) → ¬ P x → x < n → smQ Q f n = smQ P f n + f x
  | 0, _, _, h => absurd h (Nat.not_lt_zero _)
  | n + 1, h, hx, hn => by
    rcases Nat.lt_or_ge x n with z | z
    · have ih := smQ_one (P := P) (Q := Q) (f := f) (n := n) (fun j hj => h j (by omega)) hx z
      by_cases hp : P n
      · rw [smQ_yes hp, smQ_yes ((h n (by omega)).mpr (Or.inl hp)), ih]; omega
      · rw [smQ_no hp, smQ_no (fun y => by rcases (h n (by omega)).mp y with w | w; exact hp w; omega), ih]
    · have e : x = n := by omega
      subst e
      rw [smQ_no hx, smQ_yes ((h x (by omega)).mpr (Or.inr rfl))]
      congr 1
      exact smQ_congr (fun j hj => ⟨fun y => by rcases (h j (by omega)).mp y with w | w; exact w; omega, fun y => (h j (by omega)).mpr (Or.inl y)⟩)
theorem smQ_or {P Q : Nat → Prop} {f : Nat → Nat} : ∀ {n : Nat}, (∀ j, j < n → ¬ (P j ∧ Q j)) → smQ (fun j => P j ∨ Q j) f n = smQ P f n + smQ Q f n
  | 0, _ => rfl
  | n + 1, h => by
    have ih := smQ_or (P := P) (Q := Q) (f := f) (n := n) (fun j hj => h j (by omega))
    by_cases hp : P n
    · rw [smQ_yes (P := fun j => P j ∨ Q j) (Or.inl hp), smQ_yes hp, smQ_no (fun z => h n (by omega) ⟨hp, z⟩), ih]; omega
    · by_cases hq : Q n
      · rw [smQ_yes (P := fun j => P j ∨ Q j) (Or.inr hq), smQ_no hp, smQ_yes hq, ih]; omega
      · rw [smQ_no (P := fun j => P j ∨ Q j) (by rintro (z | z); exact hp z; exact hq z), smQ_no hp, smQ_no hq, ih]
theorem ctP_orE {P Q : Nat → Prop} : ∀ {n : Nat}, (∀ j, j < n → ¬ (P j ∧ Q j)) → ctP (fun j => P j ∨ Q j) n = ctP P n + ctP Q n
  | 0, _ => rfl
  | n + 1, h => by
    have ih := ctP_orE (P := P) (Q := Q) (n := n) (fun j hj => h j (by omega))
    by_cases hp : P n
    · rw [ctP_yes (p := fun j => P j ∨ Q j) (Or.inl hp), ctP_yes hp, ctP_no (fun z => h n (by omega) ⟨hp, z⟩), ih]; omega
    · by_cases hq : Q n
      · rw [ctP_yes (p := fun j => P j ∨ Q j) (Or.inr hq), ctP_no hp, ctP_yes hq, ih]; omega
      · rw [ctP_no (p := fun j => P j ∨ Q j) (by rintro (z | z); exact hp z; exact hq z), ctP_no hp, ctP_no hq, ih]
theorem smQ_const {P : Nat → Prop} {f : Nat → Nat} {c : Nat} : ∀ {n : Nat}, (∀ j, j < n → P j → f j = c) → smQ P f n = ctP P n * c
  | 0, _ => by rw [smQ, ctP, Nat.zero_mul]
  | n + 1, h => by
    have ih := smQ_const (P := P) (f := f) (n := n) (fun j hj => h j (by omega))
    by_cases hp : P n
    · rw [smQ_yes hp, ctP_yes hp, ih, h n (by omega) hp, Nat.add_mul, Nat.one_mul]
    · rw [smQ_no hp, ctP_no hp, ih]
theorem smQ_le {P : Nat → Prop} {f : Nat → Nat} {B : Nat} (hB : ∀ j, f j ≤ B) : ∀ n, smQ P f n ≤ n * B
  | 0 => by rw [smQ]; exact Nat.zero_le _
  | n + 1 => by
    have ih := smQ_le (P := P) hB n
    have := hB n
    rw [smQ, Nat.add_mul, Nat.one_mul]
    split <;> omega
/-- the intervals that are left when the gaps but those of Kp are joined -/
def JS (Kp : Nat → Prop) (cn im : Nat) (fs ls F G : Nat → Nat) : Prop := im = ctP Kp (cn - 1) + 1 ∧ fs 0 = F 0 ∧ ls (im - 1) = G (cn - 1) ∧ ∀ p, p < cn - 1 → Kp p → ls (ctP Kp p) = G p ∧ fs (ctP Kp p + 1) = F (p + 1)
noncomputable def exJ (F G : Nat → Nat) (cn t : Nat) : Nat := smQ (fun p => rkJ (gpf F G) (cn - 1) p < t) (gpf F G) (cn - 1)
theorem JS.init {F G : Nat → Nat} {cn : Nat} (h : 0 < cn) : JS (fun p => 0 ≤ rkJ (gpf F G) (cn - 1) p) cn cn F G F G := by
  have e : ∀ n, ctP (fun p => 0 ≤ rkJ (gpf F G) (cn - 1) p) n = n := fun n => ctP_all (fun j _ => Nat.zero_le _)
  refine ⟨by rw [e]; omega, rfl, rfl, fun p _ _ => ?_⟩
  rw [e]; exact ⟨rfl, rfl⟩
theorem JS.step {F G fs ls fs' ls' : Nat → Nat} {cn im t q : Nat} (h : JS (fun p => t ≤ rkJ (gpf F G) (cn - 1) p) cn im fs ls F G) (hgap : ∀ p, p < cn - 1 → G p + 1 < F (p + 1)) (hq : q + 1 < im) (ht : im + t = cn)
    (hb1 : ∀ i, i < q → fs (q + 1) - ls q < fs (i + 1) - ls i) (hb2 : ∀ i, i + 1 < im → fs (q + 1) - ls q ≤ fs (i + 1) - ls i)
    (h1 : ∀ i, i < q → ls' i = ls i) (h2 : ls' q = ls (q + 1)) (h3 : ∀ i, q < i → i + 1 < im → ls' i = ls (i + 1)) (h4 : ∀ i, i ≤ q → fs' i = fs i) (h5 : ∀ i, q < i → i + 1 < im → fs' i = fs (i + 1)) :
    JS (fun p => t + 1 ≤ rkJ (gpf F G) (cn - 1) p) cn (im - 1) fs' ls' F G ∧ exJ F G cn (t + 1) = exJ F G cn t + (fs (q + 1) - ls q - 1) := by
  obtain ⟨a1, a2, a3, a4⟩ := h
  obtain ⟨p, hp, hk, hc⟩ := ctP_kth (p := fun p => t ≤ rkJ (gpf F G) (cn - 1) p) (k := q) (n := cn - 1) (by omega)
  have hpq := a4 p hp hk
  rw [hc] at hpq
  have hgp := hgap p hp
  have hgv : fs (q + 1) - ls q = gpf F G p + 1 := by rw [hpq.1, hpq.2]; unfold gpf; omega
  have hmin : ∀ p', p' < cn - 1 → t ≤ rkJ (gpf F G) (cn - 1) p' → p' ≠ p → gl (gpf F G) p p' := by
    intro p' hp' hk' hne
    have e' := a4 p' hp' hk'
    have hg' := hgap p' hp'
    have hlt := ctP_sl (p := fun p => t ≤ rkJ (gpf F G) (cn - 1) p) hp' hk'
    have hgv' : fs (ctP (fun p => t ≤ rkJ (gpf F G) (cn - 1) p) p' + 1) - ls (ctP (fun p => t ≤ rkJ (gpf F G) (cn - 1) p) p') = gpf F G p' + 1 := by rw [e'.1, e'.2]; unfold gpf; omega
    rcases Nat.lt_or_ge p' p with z | z
    · have := ctP_sl (p := fun p => t ≤ rkJ (gpf F G) (cn - 1) p) z hk'
      have := hb1 _ (show ctP (fun p => t ≤ rkJ (gpf F G) (cn - 1) p) p' < q by omega)
      left; omega
    · have := hb2 (ctP (fun p => t ≤ rkJ (gpf F G) (cn - 1) p) p') (by omega)
      unfold gl; omega
  have hr : rkJ (gpf F G) (cn - 1) p = t := by
    obtain ⟨p0, hp0, hr0⟩ := (rk_cnt (gpf F G) (cn - 1) t (by omega)).2 (by omega)
    rcases Nat.decEq p0 p with e | e
    · have := rk_lt (N := cn - 1) hp (hmin p0 hp0 (by omega) e)
      have : t ≤ rkJ (gpf F G) (cn - 1) p := hk
      omega
    · rw [← e]; exact hr0
  have hiff : ∀ j, j < cn - 1 → (t + 1 ≤ rkJ (gpf F G) (cn - 1) j ↔ t ≤ rkJ (gpf F G) (cn - 1) j ∧ j ≠ p) := by
    intro j hj
    constructor
    · intro z
      refine ⟨by omega, fun e => ?_⟩
      rw [e] at z; omega
    · rintro ⟨z1, z2⟩
      rcases Nat.lt_or_ge t (rkJ (gpf F G) (cn - 1) j) with y | y
      · exact y
      · exact absurd (rk_inj (gp := gpf F G) hj hp (by omega)) z2
  -- counts of the new set, by one that agrees with it below cn - 1
  have hcg : ∀ n, n ≤ cn - 1 → ctP (fun j => t + 1 ≤ rkJ (gpf F G) (cn - 1) j) n = ctP (fun j => t ≤ rkJ (gpf F G) (cn - 1) j ∧ j ≠ p) n := fun n hn => ctP_congr (fun j hj => hiff j (by omega))
  have hrm := ctP_rm (p := fun j => t ≤ rkJ (gpf F G) (cn - 1) j) (q := fun j => t ≤ rkJ (gpf F G) (cn - 1) j ∧ j ≠ p) (x := p) (fun j => Iff.rfl) hk
  refine ⟨⟨?_, ?_, ?_, ?_⟩, ?_⟩
  · rw [hcg _ (Nat.le_refl _)]
    have := (hrm (cn - 1)).2 hp
    omega
  · rw [h4 0 (Nat.zero_le _)]; exact a2
  · rcases Nat.lt_or_ge (q + 2) im with z | z
    · rw [h3 (im - 1 - 1) (by omega) (by omega), show im - 1 - 1 + 1 = im - 1 by omega]; exact a3
    · rw [show im - 1 - 1 = q by omega, h2, show q + 1 = im - 1 by omega]; exact a3
  · intro p1 hp1 hk1
    obtain ⟨z1, z2⟩ := (hiff p1 hp1).mp hk1
    have e1 := a4 p1 hp1 z1
    have hlt := ctP_sl (p := fun p => t ≤ rkJ (gpf F G) (cn - 1) p) hp1 z1
    rw [hcg p1 (by omega)]
    rcases Nat.lt_or_ge p1 p with y | y
    · have e2 := (hrm p1).1 (by omega)
      have := ctP_sl (p := fun p => t ≤ rkJ (gpf F G) (cn - 1) p) y z1
      rw [e2, h1 _ (by omega), h4 _ (by omega)]
      exact e1
    · have e2 := (hrm p1).2 (by omega)
      have := ctP_sl (p := fun p => t ≤ rkJ (gpf F G) (cn - 1) p) (show p < p1 by omega) hk
      rw [e2] at e1
      refine ⟨?_, ?_⟩
      · rcases Nat.lt_or_ge q (ctP (fun j => t ≤ rkJ (gpf F G) (cn - 1) j ∧ j ≠ p) p1) with w | w
        · rw [h3 _ w (by omega)]; exact e1.1
        · rw [show ctP (fun j => t ≤ rkJ (gpf F G) (cn - 1) j ∧ j ≠ p) p1 = q by omega] at e1 ⊢
          rw [h2]; exact e1.1
      · rw [h5 _ (by omega) (by omega)]; exact e1.2
  · unfold exJ
    rw [smQ_one (P := fun p => rkJ (gpf F G) (cn - 1) p < t) (x := p) (fun j hj => ?_) (by omega) hp, hgv]
    · congr 1
    · constructor
      · intro z
        rcases Nat.lt_or_ge (rkJ (gpf F G) (cn - 1) j) t with y | y
        · exact Or.inl y
        · exact Or.inr (rk_inj (gp := gpf F G) hj hp (by omega))
      · rintro (z | z)
        · omega
        · rw [z]; omega
/-- the answer at an interval's end -/
def JEnd (Kp : Nat → Prop) (cn q : Nat) (F G : Nat → Nat) (lst : Prop) (v : Nat) : Prop := (lst → (q = ctP Kp (cn - 1) ∧ v = G (cn - 1)) ∨ ∃ p, p < cn - 1 ∧ Kp p ∧ ctP Kp p = q ∧ v = G p) ∧ (¬ lst → (q = 0 ∧ v = F 0) ∨ ∃ p, p < cn - 1 ∧ Kp p ∧ ctP Kp p + 1 = q ∧ v = F (p + 1))
theorem JS.ends {Kp : Nat → Prop} {cn im q v : Nat} {fs ls F G : Nat → Nat} {lst : Prop} (h : JS Kp cn im fs ls F G) (hv : JEnd Kp cn q F G lst v) : (lst → v = ls q) ∧ (¬ lst → v = fs q) := by
  obtain ⟨a1, a2, a3, a4⟩ := h
  refine ⟨fun hl => ?_, fun hl => ?_⟩
  · rcases hv.1 hl with ⟨e1, e2⟩ | ⟨p, p1, p2, p3, p4⟩
    · rw [e2, ← a3, a1, e1, Nat.add_sub_cancel]
    · rw [p4, ← p3]; exact (a4 p p1 p2).1.symm
  · rcases hv.2 hl with ⟨e1, e2⟩ | ⟨p, p1, p2, p3, p4⟩
    · rw [e2, e1]; exact a2.symm
    · rw [p4, ← p3]; exact (a4 p p1 p2).2.symm
-- the class's way: all gaps that are shorter than a length, and some of that length
noncomputable def cgJ (F G : Nat → Nat) (N : Nat) (x : Int) : Nat := ctP (fun p => ((gpf F G p : Nat) : Int) ≤ x) N
def LgOK (F G : Nat → Nat) (N t Lg : Nat) : Prop := t ≤ cgJ F G N (Lg : Int) ∧ (Lg = 0 ∨ cgJ F G N ((Lg : Int) - 1) < t)
theorem lg_join {F G : Nat → Nat} {N t Lg : Nat} (h : LgOK F G N t Lg) {p : Nat} (hp : p < N) : rkJ (gpf F G) N p < t ↔ gpf F G p < Lg ∨ (gpf F G p = Lg ∧ cgJ F G N ((Lg : Int) - 1) + ctP (fun q => gpf F G q = Lg) p < t) := by
  obtain ⟨h1, h2⟩ := h
  have elt : cgJ F G N ((Lg : Int) - 1) = ctP (fun q => gpf F G q < Lg) N := ctP_congr (fun q _ => by omega)
  have ele : cgJ F G N (Lg : Int) = ctP (fun q => gpf F G q ≤ Lg) N := ctP_congr (fun q _ => by omega)
  rw [elt] at h2 ⊢
  rw [ele] at h1
  rcases Nat.lt_trichotomy (gpf F G p) Lg with z | z | z
  · refine ⟨fun _ => Or.inl z, fun _ => ?_⟩
    have : rkJ (gpf F G) N p + 1 ≤ ctP (fun q => gpf F G q < Lg) N := ctP_lt (i := p) (fun j _ hj => by unfold gl at hj; omega) hp z gl_irr
    omega
  · have er : rkJ (gpf F G) N p = ctP (fun q => gpf F G q < Lg) N + ctP (fun q => gpf F G q = Lg) p := by
      have e1 : rkJ (gpf F G) N p = ctP (fun q => gpf F G q < Lg ∨ (gpf F G q = Lg ∧ q < p)) N := ctP_congr (fun q _ => by unfold gl; rw [z])
      rw [e1, ctP_orE (fun j _ => by omega)]
      congr 1
      have e2 : ∀ n, ctP (fun q => gpf F G q = Lg ∧ q < p) (p + n) = ctP (fun q => gpf F G q = Lg) p := by
        intro n
        induction n with
        | zero => exact ctP_congr (fun q hq => ⟨fun y => y.1, fun y => ⟨y, hq⟩⟩)
        | succ n ih => rw [← Nat.add_assoc, ctP_no (by omega), ih]
      have := e2 (N - p)
      rw [show p + (N - p) = N by omega] at this
      exact this
    rw [er]
    constructor
    · intro y; exact Or.inr ⟨z, y⟩
    · rintro (y | y)
      · omega
      · exact y.2
  · constructor
    · intro y
      have : ctP (fun q => gpf F G q ≤ Lg) N ≤ rkJ (gpf F G) N p := ctP_mono (fun j _ hj => by unfold gl; omega)
      omega
    · intro y; omega
theorem lg_sum {F G : Nat → Nat} {N t Lg : Nat} (h : LgOK F G N t Lg) (ht : t ≤ N) : ctP (fun q => gpf F G q < Lg) N ≤ t ∧ smQ (fun p => rkJ (gpf F G) N p < t) (gpf F G) N = smQ (fun p => gpf F G p < Lg) (gpf F G) N + (t - ctP (fun q => gpf F G q < Lg) N) * Lg := by
  have hj := fun (p : Nat) (hp : p < N) => lg_join h hp
  have hc := (rk_cnt (gpf F G) N t ht).1
  have e1 : ∀ p, p < N → (rkJ (gpf F G) N p < t ↔ gpf F G p < Lg ∨ (gpf F G p = Lg ∧ rkJ (gpf F G) N p < t)) := by
    intro p hp
    constructor
    · intro z
      rcases (hj p hp).mp z with y | y
      · exact Or.inl y
      · exact Or.inr ⟨y.1, z⟩
    · rintro (y | y)
      · exact (hj p hp).mpr (Or.inl y)
      · exact y.2
  have hc2 : ctP (fun p => rkJ (gpf F G) N p < t) N = ctP (fun p => gpf F G p < Lg) N + ctP (fun p => gpf F G p = Lg ∧ rkJ (gpf F G) N p < t) N := by
    rw [ctP_congr e1, ctP_orE (fun j _ => by omega)]
  refine ⟨by omega, ?_⟩
  rw [smQ_congr e1, smQ_or (fun j _ => by omega), smQ_const (P := fun p => gpf F G p = Lg ∧ rkJ (gpf F G) N p < t) (c := Lg) (fun j _ z => z.1)]
  congr 2
  omega
