-- the state that both sides share: answers in its words
def mortT : Nat → Nat := fun j => [0, 10, 20, 30].getD j 0
def hilT : Nat → Nat := fun j => [1, 20, 30, 12, 0, 11, 31, 23, 33, 22, 2, 10, 32, 13, 3, 21].getD j 0
def cuT (cu : Nat) (V : Nat → Nat) : Nat → Nat := if cu = 0 then mortT else if cu = 1 then hilT else V
def cuN (cu tc : Nat) : Nat := if cu = 0 then 1 else if cu = 1 then 4 else tc
theorem mortT_VT : VT mortT 1 := by
  refine ⟨by decide, by decide, by decide, by decide⟩
theorem hilT_VT : VT hilT 4 := by
  refine ⟨by decide, by decide, by decide, by decide⟩
theorem cuT_VT {cu tc : Nat} {V : Nat → Nat} (h : VT V tc) : VT (cuT cu V) (cuN cu tc) := by
  unfold cuT cuN
  split
  · exact mortT_VT
  · split
    · exact hilT_VT
    · exact h
noncomputable def ixv (T : Nat → Nat) (m q : Nat) : Nat := cvi T m (q % 64) (q / 64)
noncomputable def ptv (T : Nat → Nat) (m : Nat) (P : Nat → Nat) : Nat → Nat := fun j => ixv T m (P j)
theorem NumOK.ix {T : Nat → Nat} {n m : Nat} {g ix : Nat → Nat} (hV : VT T n) (hN : NumOK T m g ix) {x y : Nat} (hx : x < 2 ^ m) (hy : y < 2 ^ m) : ix (y * 64 + x) = cvi T m x y := by
  have h := num_at hV hN hx hy
  exact (cvi_eq hV h.1 h.2.1 h.2.2).symm
theorem NumOK.iv {T : Nat → Nat} {n m : Nat} {g ix : Nat → Nat} (hV : VT T n) (hN : NumOK T m g ix) {q : Nat} (hx : q % 64 < 2 ^ m) (hy : q / 64 < 2 ^ m) : ix q = ixv T m q := by
  have h := hN.ix hV hx hy
  rw [show q / 64 * 64 + q % 64 = q by omega] at h
  exact h
theorem pcb_congr {pt pt' : Nat → Nat} {pc L j : Nat} (h : ∀ i, i < pc → pt i = pt' i) : pcb pt pc L j = pcb pt' pc L j := ctP_congr (fun i hi => by rw [h i hi])
theorem DivC.congr {m pc b c : Nat} {pt pt' st lv : Nat → Nat} (h : ∀ i, i < pc → pt i = pt' i) (hd : DivC m pc b pt c st lv) : DivC m pc b pt' c st lv := by
  refine ⟨hd.1, fun k hk => ⟨?_, fun L h1 h2 => ?_⟩⟩
  · rw [← pcb_congr h]; exact (hd.2 k hk).1
  · rw [← pcb_congr h]; exact (hd.2 k hk).2 L h1 h2
theorem LD.congr {T : Nat → Nat} {m pc c : Nat} {pt pt' st lv : Nat → Nat} (h : ∀ i, i < pc → pt i = pt' i) (hd : LD T m pc pt c st lv) : LD T m pc pt' c st lv := by
  refine ⟨hd.1, hd.2.1, fun j h1 h2 => ?_, fun h0 j h1 h2 => ?_⟩
  · rw [← pcb_congr h]; exact hd.2.2.1 j h1 h2
  · rw [← pcb_congr h]; exact hd.2.2.2 h0 j h1 h2
theorem brN_congr {g g' : Nat → Nat} {n : Nat} (h : ∀ i, i < n + 1 → g i = g' i) : brN g n = brN g' n := ctP_congr (fun i hi => by rw [h i (by omega), h (i + 1) (by omega)])
theorem clS_congr {g g' : Nat → Nat} {a w h : Nat} : ∀ {n : Nat}, (∀ i, i < n → g i = g' i) → clS a g w h n = clS a g' w h n
  | 0, _ => rfl
  | n + 1, e => by
    rw [clS, clS, clS_congr (n := n) (fun i hi => e i (by omega)), e n (by omega)]
    by_cases z : n = 0
    · rw [if_pos z, if_pos z]
    · rw [if_neg z, if_neg z, e (n - 1) (by omega)]
theorem nrs_congr {q q' : Nat → Nat} {own : Nat} : ∀ {n : Nat}, (∀ i, i < n → q i = q' i) → nrs q own n = nrs q' own n
  | 0, _ => rfl
  | n + 1, e => by rw [nrs, nrs, nrs_congr (n := n) (fun i hi => e i (by omega)), e n (by omega)]
theorem StrOK.congr {n : Nat} {ix ix' : Nat → Nat} {r : Nat} (hc : ∀ x y, x < n → y < n → ix (y * 64 + x) = ix' (y * 64 + x)) (h : StrOK n ix r) : StrOK n ix' r := by
  have eh : ∀ x y, x + 1 < n → y < n → hdf ix x y = hdf ix' x y := fun x y h1 h2 => by unfold hdf; rw [hc (x + 1) y h1 h2, hc x y (by omega) h2]
  have ev : ∀ x y, x < n → y + 1 < n → vdf ix x y = vdf ix' x y := fun x y h1 h2 => by unfold vdf; rw [hc x (y + 1) h1 h2, hc x y h1 (by omega)]
  refine ⟨fun x y h1 h2 => by rw [← eh x y h1 h2]; exact h.1 x y h1 h2, fun x y h1 h2 => by rw [← ev x y h1 h2]; exact h.2.1 x y h1 h2, ?_⟩
  rcases h.2.2 with e | ⟨x, y, h1, h2, e⟩ | ⟨x, y, h1, h2, e⟩
  · exact Or.inl e
  · exact Or.inr (Or.inl ⟨x, y, h1, h2, by rw [← eh x y h1 h2]; exact e⟩)
  · exact Or.inr (Or.inr ⟨x, y, h1, h2, by rw [← ev x y h1 h2]; exact e⟩)
theorem ixv_at {T : Nat → Nat} {m x y : Nat} (hx : x < 64) : ixv T m (y * 64 + x) = cvi T m x y := by
  unfold ixv
  rw [show (y * 64 + x) % 64 = x by omega, show (y * 64 + x) / 64 = y by omega]
theorem NumOK.str {T : Nat → Nat} {n m : Nat} {g ix : Nat → Nat} {r : Nat} (hV : VT T n) (hm : m ≤ 6) (hN : NumOK T m g ix) (h : StrOK (2 ^ m) ix r) : StrOK (2 ^ m) (ixv T m) r := h.congr (fun x y hx hy => by
  have := p2_6 hm
  rw [hN.ix hV hx hy, ixv_at (by omega)])
theorem stI_congr {R R' : Nat → Prop} {n : Nat} (h : ∀ i, i < n → (R i ↔ R' i)) : ∀ i, i < n → (stI R i ↔ stI R' i) := by
  intro i hi
  unfold stI
  rw [h i hi]
  rcases Nat.eq_zero_or_pos i with z | z
  · simp [z]
  · rw [h (i - 1) (by omega)]
theorem IvOK.congr {R R' : Nat → Prop} {n cn : Nat} {F G : Nat → Nat} (e : ∀ i, i < n → (R i ↔ R' i)) (h : IvOK R n cn F G) : IvOK R' n cn F G := by
  refine ⟨by rw [h.1]; exact ctP_congr (stI_congr e), fun k hk => ?_⟩
  have hg := fun q => h.gap (k := k) q
  obtain ⟨a1, a2, a3, a4, a5, a6, a7⟩ := h.2 k hk
  refine ⟨a1, a2, (stI_congr e _ (by omega)).mp a3, ?_, fun j h1 h2 => (e j (by omega)).mp (a5 j h1 h2), fun q => ?_, ?_⟩
  · exact Eq.trans (ctP_congr (n := F k) (fun i hi => stI_congr e i (by omega))).symm a4
  · have h1 := hg q
    have h2 := h.2 (k + 1) q
    intro z
    exact a6 q ((e _ (by omega)).mpr z)
  · rcases a7 with z | z
    · exact Or.inl z
    · rcases Nat.lt_or_ge (G k + 1) n with y | y
      · exact Or.inr (fun w => z ((e _ y).mpr w))
      · exact Or.inl (by omega)
theorem inG_congr {g g' : Nat → Nat} {l b r a n : Nat} (h : ∀ i, i < n → g i = g' i) : ∀ i, i < n → (inG g l b r a i ↔ inG g' l b r a i) := fun i hi => by unfold inG; rw [h i hi]
/-- an end of the interval k -/
def IvAt (R : Nat → Prop) (n k : Nat) (lst : Prop) (v : Nat) : Prop := ∃ cn F G, IvOK R n cn F G ∧ k < cn ∧ (lst → v = G k) ∧ (¬ lst → v = F k)
theorem IvAt.uniq {R : Nat → Prop} {n k v w : Nat} {lst : Prop} (h : IvAt R n k lst v) (h' : IvAt R n k lst w) : v = w := by
  obtain ⟨cn, F, G, a1, a2, a3, a4⟩ := h
  obtain ⟨cn', F', G', b1, b2, b3, b4⟩ := h'
  have e := (a1.uniq b1).2 k a2
  by_cases z : lst
  · rw [a3 z, b3 z, e.2]
  · rw [a4 z, b4 z, e.1]
theorem rkJ_congr {gp gp' : Nat → Nat} {N : Nat} (h : ∀ p, p < N → gp p = gp' p) : ∀ p, p < N → rkJ gp N p = rkJ gp' N p := fun p hp => ctP_congr (fun q hq => by unfold gl; rw [h q hq, h p hp])
theorem gpf_congr {F G F' G' : Nat → Nat} {cn : Nat} (h : ∀ k, k < cn → F k = F' k ∧ G k = G' k) : ∀ p, p < cn - 1 → gpf F G p = gpf F' G' p := fun p hp => by unfold gpf; rw [(h (p + 1) (by omega)).1, (h p (by omega)).2]
/-- the cells too many of a covering with k intervals -/
def ExAt (R : Nat → Prop) (n k v : Nat) : Prop := ∃ cn F G, IvOK R n cn F G ∧ v = exJ F G cn (cn - k)
theorem smQ_congr2 {P Q : Nat → Prop} {f g : Nat → Nat} : ∀ {n : Nat}, (∀ j, j < n → (P j ↔ Q j)) → (∀ j, j < n → f j = g j) → smQ P f n = smQ Q g n
  | 0, _, _ => rfl
  | n + 1, h, e => by
    have ih := smQ_congr2 (P := P) (Q := Q) (f := f) (g := g) (n := n) (fun j hj => h j (by omega)) (fun j hj => e j (by omega))
    by_cases hp : P n
    · rw [smQ_yes hp, smQ_yes ((h n (by omega)).mp hp), ih, e n (by omega)]
    · rw [smQ_no hp, smQ_no (fun z => hp ((h n (by omega)).mpr z)), ih]
theorem ExAt.uniq {R : Nat → Prop} {n k v w : Nat} (h : ExAt R n k v) (h' : ExAt R n k w) : v = w := by
  obtain ⟨cn, F, G, a1, a2⟩ := h
  obtain ⟨cn', F', G', b1, b2⟩ := h'
  obtain ⟨e1, e2⟩ := a1.uniq b1
  subst e1
  rw [a2, b2]
  have g := gpf_congr e2
  exact smQ_congr2 (fun j hj => by rw [rkJ_congr g j hj]) g
/-- an end of the interval q of that covering -/
def CvAt (R : Nat → Prop) (n k q : Nat) (lst : Prop) (v : Nat) : Prop := ∃ cn F G, IvOK R n cn F G ∧ 0 < cn ∧ q < cn - (cn - k) ∧ JEnd (fun p => cn - k ≤ rkJ (gpf F G) (cn - 1) p) cn q F G lst v
theorem ctP_kp {p q : Nat → Prop} {n : Nat} (h : ∀ j, j < n → (p j ↔ q j)) {i : Nat} (hi : i ≤ n) : ctP p i = ctP q i := ctP_congr (fun j hj => h j (by omega))
theorem JEnd.uniq {Kp : Nat → Prop} {cn q v w : Nat} {F G : Nat → Nat} {lst : Prop} (h : JEnd Kp cn q F G lst v) (h' : JEnd Kp cn q F G lst w) (hq : q ≤ ctP Kp (cn - 1)) : v = w := by
  by_cases z : lst
  · rcases h.1 z with ⟨e1, e2⟩ | ⟨p, p1, p2, p3, p4⟩
    · rcases h'.1 z with ⟨f1, f2⟩ | ⟨r, r1, r2, r3, r4⟩
      · rw [e2, f2]
      · have := ctP_sl (p := Kp) r1 r2; omega
    · rcases h'.1 z with ⟨f1, f2⟩ | ⟨r, r1, r2, r3, r4⟩
      · have := ctP_sl (p := Kp) p1 p2; omega
      · rw [p4, r4, ctP_inj (p := Kp) p2 r2 (by omega)]
  · rcases h.2 z with ⟨e1, e2⟩ | ⟨p, p1, p2, p3, p4⟩
    · rcases h'.2 z with ⟨f1, f2⟩ | ⟨r, r1, r2, r3, r4⟩
      · rw [e2, f2]
      · omega
    · rcases h'.2 z with ⟨f1, f2⟩ | ⟨r, r1, r2, r3, r4⟩
      · omega
      · rw [p4, r4, ctP_inj (p := Kp) p2 r2 (by omega)]
theorem JEnd.congr {Kp Kq : Nat → Prop} {cn q v : Nat} {F G F' G' : Nat → Nat} {lst : Prop} (h : JEnd Kp cn q F G lst v) (hc : 0 < cn) (hk : ∀ j, j < cn - 1 → (Kp j ↔ Kq j)) (hf : ∀ k, k < cn → F k = F' k ∧ G k = G' k) : JEnd Kq cn q F' G' lst v := by
  refine ⟨fun z => ?_, fun z => ?_⟩
  · rcases h.1 z with ⟨e1, e2⟩ | ⟨p, p1, p2, p3, p4⟩
    · exact Or.inl ⟨by rw [e1, ctP_kp hk (Nat.le_refl _)], by rw [e2, (hf (cn - 1) (by omega)).2]⟩
    · exact Or.inr ⟨p, p1, (hk p p1).mp p2, by rw [← p3, ctP_kp hk (by omega)], by rw [p4, (hf p (by omega)).2]⟩
  · rcases h.2 z with ⟨e1, e2⟩ | ⟨p, p1, p2, p3, p4⟩
    · exact Or.inl ⟨e1, by rw [e2, (hf 0 hc).1]⟩
    · exact Or.inr ⟨p, p1, (hk p p1).mp p2, by rw [← p3, ctP_kp hk (by omega)], by rw [p4, (hf (p + 1) (by omega)).1]⟩
theorem kp_cnt (gp : Nat → Nat) {N t : Nat} (ht : t ≤ N) : ctP (fun p => t ≤ rkJ gp N p) N + t = N := by
  have hrc := (rk_cnt gp N t ht).1
  have e := ctP_orE (P := fun p => t ≤ rkJ gp N p) (Q := fun p => rkJ gp N p < t) (n := N) (fun j _ z => by have z1 := z.1; have z2 := z.2; omega)
  rw [ctP_all (fun j _ => by omega), hrc] at e
  omega
theorem CvAt.uniq {R : Nat → Prop} {n k q v w : Nat} {lst : Prop} (hk : 1 ≤ k) (h : CvAt R n k q lst v) (h' : CvAt R n k q lst w) : v = w := by
  obtain ⟨cn, F, G, a1, a2, a3, a4⟩ := h
  obtain ⟨cn', F', G', b1, b2, b3, b4⟩ := h'
  obtain ⟨e1, e2⟩ := a1.uniq b1
  subst e1
  have g := gpf_congr e2
  have c := a4.congr a2 (Kq := fun p => cn - k ≤ rkJ (gpf F' G') (cn - 1) p) (fun j hj => by rw [rkJ_congr g j hj]) e2
  have hc := kp_cnt (gpf F' G') (N := cn - 1) (t := cn - k) (by omega)
  exact c.uniq b4 (by omega)
theorem JS.at {cn im k q v : Nat} {fs ls F G : Nat → Nat} {lst : Prop} (hk : 1 ≤ k) (hc : 0 < cn) (h : JS (fun p => cn - k ≤ rkJ (gpf F G) (cn - 1) p) cn im fs ls F G) (hq : q < im) (h1 : lst → v = ls q) (h2 : ¬ lst → v = fs q) : JEnd (fun p => cn - k ≤ rkJ (gpf F G) (cn - 1) p) cn q F G lst v := by
  obtain ⟨a1, a2, a3, a4⟩ := h
  refine ⟨fun z => ?_, fun z => ?_⟩
  · rcases Nat.lt_or_ge q (ctP (fun p => cn - k ≤ rkJ (gpf F G) (cn - 1) p) (cn - 1)) with y | y
    · obtain ⟨p, p1, p2, p3⟩ := ctP_kth y
      exact Or.inr ⟨p, p1, p2, p3, by rw [h1 z, ← p3]; exact (a4 p p1 p2).1⟩
    · exact Or.inl ⟨by omega, by rw [h1 z, ← a3]; congr 1; omega⟩
  · rcases Nat.eq_zero_or_pos q with y | y
    · exact Or.inl ⟨y, by rw [h2 z, y]; exact a2⟩
    · obtain ⟨p, p1, p2, p3⟩ := ctP_kth (p := fun p => cn - k ≤ rkJ (gpf F G) (cn - 1) p) (k := q - 1) (n := cn - 1) (by omega)
      exact Or.inr ⟨p, p1, p2, by omega, by rw [h2 z, show q = ctP (fun p => cn - k ≤ rkJ (gpf F G) (cn - 1) p) p + 1 by omega]; exact (a4 p p1 p2).2⟩
/-- what leaf() tells -/
noncomputable def tlV (T : Nat → Nat) (m pc : Nat) (pt st lv : Nat → Nat) (k w : Nat) : Nat := if w = 0 then lxv T m st lv k else if w = 1 then lyv T m st lv k else if w = 2 then 2 ^ lv k else if w = 3 then pcb pt pc (lv k) (st k / 4 ^ lv k) else st k
theorem tlV_congr {T : Nat → Nat} {m pc : Nat} {pt pt' st lv : Nat → Nat} (h : ∀ i, i < pc → pt i = pt' i) (k w : Nat) : tlV T m pc pt st lv k w = tlV T m pc pt' st lv k w := by unfold tlV; rw [pcb_congr h]
