section BAL
variable {l : Launch} {dC : Nat → ClassId} {dI : Nat → Nat → Nat} {cI cZ cS : ClassId}
def LowN (T : Nat → Nat) (m c : Nat) (st lv : Nat → Nat) (s k v : Nat) : Prop := Nbr T m c st lv s k v ∧ ∀ w, Nbr T m c st lv s k w → v ≤ w
theorem SSt.low {n : Nat} {f : Nat → Nat} {P : Nat → Prop} (h : SSt n f P) (hn : 0 < n) : P (f 0) ∧ ∀ w, P w → f 0 ≤ w := by
  refine ⟨(h.2 _).mpr ⟨0, hn, rfl⟩, fun w hw => ?_⟩
  obtain ⟨a, ha, e⟩ := (h.2 w).mp hw
  rcases Nat.eq_zero_or_pos a with z | z
  · rw [z] at e; omega
  · have := h.1 0 a z ha; omega
theorem SSt.none {f : Nat → Nat} {P : Nat → Prop} (h : SSt 0 f P) : ∀ w, ¬ P w := fun w hw => by
  obtain ⟨a, ha, _⟩ := (h.2 w).mp hw
  exact absurd ha (Nat.not_lt_zero _)
/-- the walk -/
def WK (T : Nat → Nat) (m c : Nat) (st lv : Nat → Nat) (s : Nat) : Nat → Nat → Nat → Prop
  | 0, k, v => v = k
  | n + 1, k, v => ∃ u, WK T m c st lv s n k u ∧ LowN T m c st lv s u v
theorem LowN.uniq {T : Nat → Nat} {m c : Nat} {st lv : Nat → Nat} {s k v w : Nat} (h : LowN T m c st lv s k v) (h' : LowN T m c st lv s k w) : v = w := Nat.le_antisymm (h.2 w h'.1) (h'.2 v h.1)
theorem WK.uniq {T : Nat → Nat} {m c : Nat} {st lv : Nat → Nat} {s k : Nat} : ∀ {n v w : Nat}, WK T m c st lv s n k v → WK T m c st lv s n k w → v = w
  | 0, _, _, h, h' => h.trans h'.symm
  | n + 1, _, _, ⟨u, h1, h2⟩, ⟨u', h1', h2'⟩ => by
    have e := WK.uniq h1 h1'
    subst e
    exact h2.uniq h2'
theorem WK.pre {T : Nat → Nat} {m c : Nat} {st lv : Nat → Nat} {s k : Nat} : ∀ {n v j : Nat}, WK T m c st lv s n k v → j < n → ∃ u w, WK T m c st lv s j k u ∧ LowN T m c st lv s u w
  | 0, _, _, _, hj => absurd hj (Nat.not_lt_zero _)
  | n + 1, v, j, ⟨u, h1, h2⟩, hj => by
    rcases Nat.lt_or_ge j n with q | q
    · exact WK.pre h1 q
    · rw [show j = n by omega]; exact ⟨u, v, h1, h2⟩
/-- the walk ends behind n steps -/
def WKend (T : Nat → Nat) (m c : Nat) (st lv : Nat → Nat) (s n k : Nat) : Prop := ∃ v, WK T m c st lv s n k v ∧ ∀ w, ¬ Nbr T m c st lv s v w
theorem WKend.not {T : Nat → Nat} {m c : Nat} {st lv : Nat → Nat} {s n k n' v : Nat} (h : WKend T m c st lv s n k) (h' : WK T m c st lv s n' k v) : n' ≤ n := by
  rcases Nat.lt_or_ge n n' with q | q
  · obtain ⟨u, w, h1, h2⟩ := h'.pre q
    obtain ⟨x, h3, h4⟩ := h
    have e := h1.uniq h3
    subst e
    exact absurd h2.1 (h4 w)
  · exact q
theorem WKend.uniq {T : Nat → Nat} {m c : Nat} {st lv : Nat → Nat} {s n k n' : Nat} (h : WKend T m c st lv s n k) (h' : WKend T m c st lv s n' k) : n = n' := by
  obtain ⟨v, a, _⟩ := id h
  obtain ⟨v', b, _⟩ := id h'
  exact Nat.le_antisymm (h'.not a) (h.not b)
def msr (T : Nat → Nat) (m : Nat) (st lv : Nat → Nat) (s v : Nat) : Nat := if s = 0 then lxv T m st lv v else if s = 1 then 2 ^ m - (lxv T m st lv v + 2 ^ lv v) else if s = 2 then lyv T m st lv v else 2 ^ m - (lyv T m st lv v + 2 ^ lv v)
theorem msr_lt {T : Nat → Nat} {n m c : Nat} {st lv : Nat → Nat} (hV : VT T n) (hL : LvL m c st lv) {s u v : Nat} (hs : s < 4) (hu : u < c) (h : Nbr T m c st lv s u v) : msr T m st lv s v < msr T m st lv s u := by
  obtain ⟨hb, hv, t, ht, hin⟩ := h
  have h1 := lxv_top hV hL hu
  have h2 := lxv_top hV hL hv
  unfold byd at hb
  unfold inLf bcx bcy at hin
  unfold msr
  rcases (show s = 0 ∨ s = 1 ∨ s = 2 ∨ s = 3 by omega) with z | z | z | z <;> subst z <;> simp at hb hin ⊢ <;> omega
theorem msr_le {T : Nat → Nat} {n m c : Nat} {st lv : Nat → Nat} (hV : VT T n) (hL : LvL m c st lv) (hm : m ≤ 6) {s v : Nat} (hv : v < c) : msr T m st lv s v ≤ 63 := by
  have h2 := lxv_top hV hL hv
  have h3 := p2_6 hm
  have h4 := p2_pos (lv v)
  unfold msr
  split
  · omega
  · split
    · omega
    · split <;> omega
/-- what findLowest has answered -/
def NxJ (T : Nat → Nat) (m c : Nat) (st lv : Nat → Nat) (s k : Nat) (x : Int) : Prop := (x = -1 ∧ ∀ w, ¬ Nbr T m c st lv s k w) ∨ ∃ v : Nat, x = (v : Int) ∧ LowN T m c st lv s k v
def HrJ (T : Nat → Nat) (m c : Nat) (st lv : Nat → Nat) (s k i : Nat) (x : Int) : Prop := (x = -1 ∧ ∃ j, j < i ∧ WKend T m c st lv s j k) ∨ ∃ v : Nat, x = (v : Int) ∧ WK T m c st lv s i k v
def WKlt (T : Nat → Nat) (m c : Nat) (st lv : Nat → Nat) (s k i : Nat) : Prop := ∃ j, j < i ∧ WKend T m c st lv s j k
theorem WK.lt {T : Nat → Nat} {m c : Nat} {st lv : Nat → Nat} {s n k v : Nat} (hk : k < c) (h : WK T m c st lv s n k v) : v < c := by
  cases n with
  | zero => rw [show v = k from h]; exact hk
  | succ n => obtain ⟨u, _, h2⟩ := h; exact h2.1.2.1
theorem WK.msr {T : Nat → Nat} {ns m c : Nat} {st lv : Nat → Nat} (hV : VT T ns) (hL : LvL m c st lv) {s k : Nat} (hs : s < 4) (hk : k < c) : ∀ {n v : Nat}, WK T m c st lv s n k v → n + msr T m st lv s v ≤ msr T m st lv s k
  | 0, v, h => by rw [show v = k from h, Nat.zero_add]; exact Nat.le_refl _
  | n + 1, v, ⟨u, h1, h2⟩ => by
    have a := WK.msr hV hL hs hk h1
    have b := msr_lt hV hL hs (h1.lt hk) h2.1
    omega
theorem WK.le63 {T : Nat → Nat} {ns m c : Nat} {st lv : Nat → Nat} (hV : VT T ns) (hL : LvL m c st lv) (hm : m ≤ 6) {s k n v : Nat} (hs : s < 4) (hk : k < c) (h : WK T m c st lv s n k v) : n ≤ 63 := by
  have a := h.msr hV hL hs hk
  have b := msr_le hV hL hm (s := s) hk
  omega
theorem nd_X7_findLowest : ndV yX7_findLowest RX7 2 := by decide +kernel
theorem in_X7_findLowest_X7 : ∀ w ∈ wsX70, w ∈ wsX7_findLowest := fun _ h => List.mem_cons_of_mem _ (List.mem_append_left _ (List.mem_append_left _ (List.mem_append_right _ (h))))
set_option maxHeartbeats 4000000 in
set_option maxRecDepth 100000 in
theorem c_X7_findLowest {hz : Nat} {aB : Nat} {hn : Nat} {aC : Nat} {aI : Nat} {hd : Nat} {aS : Nat} {bs : Nat} {f : Nat → Nat} {fn : List Value} {sd : Nat} {g : Nat → Nat} {ix : Nat → Nat} {fd : List Value} {c : Nat} {S : Nat → Nat} {k : Nat} {s : Nat} {T : Nat → Nat} {ns : Nat} {m : Nat} {st : Nat → Nat} {lv : Nat → Nat} (fsd : fn[0]? = some (.int (nI sd))) (faC : fn[2]? = some (.ref aC)) (faI : fn[3]? = some (.ref aI)) (fdc : fd[0]? = some (.int (nI c))) (faS : fd[1]? = some (.ref aS)) (hfb : ∀ j, f j < 4096) (hg : ∀ j, g j < 4096) (hSb : ∀ j, S j < 4097) (hgc : ∀ i, i < 4 ^ m → g i = cvc T m i) (hV : VT T ns) (hL : LvL m c st lv) (hag : ∀ j, j ≤ c → S j = st j) (hc : c ≤ 496) (hm6 : m ≤ 6) (hk : k < c) (hix : ∀ j, ix j < 4096) (hsd : sd = 2 ^ m) (hN : NumOK T m g ix) (hs4 : s < 4) : MU l yX7_findLowest wsX7_findLowest 3 72 (dC, dI) (tyK cI cZ cS) [(hz, .inr (7, [.ref hn, .ref hd, .int (nI bs), .ref aB])), (aB, .inl (cI, 64, .inl (nA f))), (hn, .inr (2, fn)), (aC, .inl (cI, 4096, .inl (nA g))), (aI, .inl (cI, 4096, .inl (nA ix))), (hd, .inr (1, fd)), (aS, .inl (cI, 497, .inl (nA S)))] [] [.ref hz, .int (nI k), .int (nI s)] (fun rv_ (u_ : Nat × (Nat → Nat)) => rI (fun r => (∃ v : Nat, r = nI v ∧ LowN T m c st lv s k v ∧ (∀ j, u_.2 j < 4096)) ∨ (r = zI (-1) ∧ (∀ w, ¬ Nbr T m c st lv s k w) ∧ (∀ j, u_.2 j < 4096))) rv_) (fun (u_ : Nat × (Nat → Nat)) => [(hz, .inr (7, [.ref hn, .ref hd, .int (nI u_.1), .ref aB])), (aB, .inl (cI, 64, .inl (nA u_.2))), (hn, .inr (2, fn)), (aC, .inl (cI, 4096, .inl (nA g))), (aI, .inl (cI, 4096, .inl (nA ix))), (hd, .inr (1, fd)), (aS, .inl (cI, 497, .inl (nA S)))]) := by
  refine mu_of (by decide) rfl (Nat.le_of_ble_eq_true rfl) ?_
  intro pp ee ss mm bb mt cd Q A CFx hP hK hD hS hA hTr hret ls hl
  obtain ⟨hex, hby, hml, hown, hts⟩ := id CFx
  have hl : lv_has ls 3 [(0, .ref hz), (1, .int (nI k)), (2, .int (nI s))] := hl
  refine lv_aload_n hex hby dX7_findLowest_0 rfl (lv_at hl 0 rfl) ?_
  refine lv_iload_n hex hby dX7_findLowest_1 rfl (lv_at hl 1 rfl) ?_
  refine lv_iload_n hex hby dX7_findLowest_2 rfl (lv_at hl 2 rfl) ?_
  refine mu_Vv (As := [.int (nI k), .int (nI s)]) (rest := []) (wr := []) CFx (c_X7_findBeyond (hz := hz) (aB := aB) (hn := hn) (aC := aC) (aI := aI) (hd := hd) (aS := aS) (v2 := .int (nI bs)) (fa := f) (fn := fn) (sd := sd) (g := g) (ix := ix) (fd := fd) (c := c) (S := S) (k := k) (s := s) (T := T) (ns := ns) (m := m) (st := st) (lv := lv) fsd faC faI fdc faS hfb hg hSb hgc hV hL hag hc hm6 hk hix hsd hN hs4) 2 gX7_findLowest_X7_findBeyond rfl nd_X7_findBeyond ⟨Nat.le_of_ble_eq_true rfl, Nat.le_of_ble_eq_true rfl⟩ hK hP hD hS hA [0, 1, 2, 3, 4, 5, 6] [] rfl rfl (by decide) (by decide) (by decide) TR.nil rfl rfl rfl hl.1 rfl (Nat.le_of_ble_eq_true rfl) dX7_findLowest_3 ⟨Nat.le_refl _, Nat.le_refl _⟩ (fun u H locs hr_1 hP hD hS => ?_)
  obtain ⟨b1, f1⟩ := u
  dsimp only at hr_1 hP hD
  have hP : va_P (dC, dI) vwCl [(hz, .inr (7, [.ref hn, .ref hd, .int (nI b1), .ref aB])), (aB, .inl (cI, 64, .inl (nA f1))), (hn, .inr (2, fn)), (aC, .inl (cI, 4096, .inl (nA g))), (aI, .inl (cI, 4096, .inl (nA ix))), (hd, .inr (1, fd)), (aS, .inl (cI, 497, .inl (nA S)))] H := hP
  have hD : va_D A [(hz, .inr (7, [.ref hn, .ref hd, .int (nI b1), .ref aB])), (aB, .inl (cI, 64, .inl (nA f1))), (hn, .inr (2, fn)), (aC, .inl (cI, 4096, .inl (nA g))), (aI, .inl (cI, 4096, .inl (nA ix))), (hd, .inr (1, fd)), (aS, .inl (cI, 497, .inl (nA S)))] := hD
  obtain ⟨hss, hfb1, hb64⟩ := hr_1
  refine lv_aload_n hex hby dX7_findLowest_6 rfl (lv_at hl 0 rfl) ?_
  refine nv_get (v := .int (nI b1)) CFx in_X7_findLowest_X7 hK hP 0 rfl rfl 2 (by decide) (List.mem_of_getElem? (i := 1) rfl) rfl dX7_findLowest_7 ?_
  refine nv_if_le (tgt := 22) hex hby dX7_findLowest_10 (by decide) (by omega) (fun c_4 => ?_) (fun c_4 => ?_)
  · have hb0 := c_4
    refine lv_iconst (v := zI (-1)) hex hby dX7_findLowest_22 rfl ?_
    exact hret _ (b1, f1) _ _ _ _ _ (Or.inl ⟨rfl, _, rfl, rfl, dX7_findLowest_23⟩) ⟨_, rfl, Or.inr ⟨rfl, (fun w => SSt.none (by rw [hb0] at hss; exact hss) w), hfb1⟩⟩ hP hD hS
  · have hb0 := c_4
    refine lv_aload_n hex hby dX7_findLowest_13 rfl (lv_at hl 0 rfl) ?_
    refine nv_get (v := .ref aB) CFx in_X7_findLowest_X7 hK hP 0 rfl rfl 3 (by decide) (List.mem_of_getElem? (i := 2) rfl) rfl dX7_findLowest_14 ?_
    refine lv_iconst (v := nI 0) hex hby dX7_findLowest_17 rfl ?_
    refine nv_iald hex hby hK hP 1 0 rfl rfl (by omega) (by omega) dX7_findLowest_18 ?_
    have hb_5 := hfb1 0
    refine lv_goto (tgt := 23) hex hby dX7_findLowest_19 (by decide) ?_
    exact hret _ (b1, f1) _ _ _ _ _ (Or.inl ⟨rfl, _, rfl, rfl, dX7_findLowest_23⟩) ⟨_, rfl, Or.inl ⟨(f1 0), rfl, (hss.low hb0), hfb1⟩⟩ hP hD hS
theorem nd_X7_findLowestAround : ndV yX7_findLowestAround RX7 1 := by decide +kernel
set_option maxHeartbeats 4000000 in
set_option maxRecDepth 100000 in
theorem c_X7_findLowestAround {hz : Nat} {aB : Nat} {hn : Nat} {aC : Nat} {aI : Nat} {hd : Nat} {aS : Nat} {bs : Nat} {f : Nat → Nat} {fn : List Value} {sd : Nat} {g : Nat → Nat} {ix : Nat → Nat} {fd : List Value} {c : Nat} {S : Nat → Nat} {k : Nat} {T : Nat → Nat} {ns : Nat} {m : Nat} {st : Nat → Nat} {lv : Nat → Nat} (fsd : fn[0]? = some (.int (nI sd))) (faC : fn[2]? = some (.ref aC)) (faI : fn[3]? = some (.ref aI)) (fdc : fd[0]? = some (.int (nI c))) (faS : fd[1]? = some (.ref aS)) (hfb : ∀ j, f j < 4096) (hg : ∀ j, g j < 4096) (hSb : ∀ j, S j < 4097) (hgc : ∀ i, i < 4 ^ m → g i = cvc T m i) (hV : VT T ns) (hL : LvL m c st lv) (hag : ∀ j, j ≤ c → S j = st j) (hc : c ≤ 496) (hm6 : m ≤ 6) (hk : k < c) (hix : ∀ j, ix j < 4096) (hsd : sd = 2 ^ m) (hN : NumOK T m g ix) : MU l yX7_findLowestAround wsX7_findLowestAround 4 94 (dC, dI) (tyK cI cZ cS) [(hz, .inr (7, [.ref hn, .ref hd, .int (nI bs), .ref aB])), (aB, .inl (cI, 64, .inl (nA f))), (hn, .inr (2, fn)), (aC, .inl (cI, 4096, .inl (nA g))), (aI, .inl (cI, 4096, .inl (nA ix))), (hd, .inr (1, fd)), (aS, .inl (cI, 497, .inl (nA S)))] [] [.ref hz, .int (nI k)] (fun rv_ (u_ : Nat × (Nat → Nat)) => rI (fun r => ∃ lo : Nat, r = nI lo ∧ lo ≤ k ∧ (∀ s, s < 4 → ∀ v, Nbr T m c st lv s k v → lo ≤ v) ∧ (∀ j, u_.2 j < 4096)) rv_) (fun (u_ : Nat × (Nat → Nat)) => [(hz, .inr (7, [.ref hn, .ref hd, .int (nI u_.1), .ref aB])), (aB, .inl (cI, 64, .inl (nA u_.2))), (hn, .inr (2, fn)), (aC, .inl (cI, 4096, .inl (nA g))), (aI, .inl (cI, 4096, .inl (nA ix))), (hd, .inr (1, fd)), (aS, .inl (cI, 497, .inl (nA S)))]) := by
  refine mu_of (by decide) rfl (Nat.le_of_ble_eq_true rfl) ?_
  intro pp ee ss mm bb mt cd Q A CFx hP hK hD hS hA hTr hret ls hl
  obtain ⟨hex, hby, hml, hown, hts⟩ := id CFx
  have hl : lv_has ls 5 [(0, .ref hz), (1, .int (nI k))] := hl
  refine lv_iload_n hex hby dX7_findLowestAround_0 rfl (lv_at hl 1 rfl) ?_
  refine lv_istore_n (lv' := [(2, .int (nI k)), (0, .ref hz), (1, .int (nI k))]) hex hby dX7_findLowestAround_1 rfl hl (by decide) rfl (fun ls hl => ?_)
  refine lv_iconst (v := nI 0) hex hby dX7_findLowestAround_2 rfl ?_
  refine lv_istore_n (lv' := [(3, .int (nI 0)), (2, .int (nI k)), (0, .ref hz), (1, .int (nI k))]) hex hby dX7_findLowestAround_3 rfl hl (by decide) rfl (fun ls hl => ?_)
  have loop4 : ∀ (nn : Nat) (lo : Nat) (s : Nat) (b2 : Nat) (f2 : Nat → Nat), (4 - s) < nn → (s ≤ 4) → (lo ≤ k) → (∀ j, j < s → ∀ w, Nbr T m c st lv j k w → lo ≤ w) → (∀ j, f2 j < 4096) → ∀ (H : Heap) (locs : List Loc), va_P (dC, dI) vwCl [(hz, .inr (7, [.ref hn, .ref hd, .int (nI b2), .ref aB])), (aB, .inl (cI, 64, .inl (nA f2))), (hn, .inr (2, fn)), (aC, .inl (cI, 4096, .inl (nA g))), (aI, .inl (cI, 4096, .inl (nA ix))), (hd, .inr (1, fd)), (aS, .inl (cI, 497, .inl (nA S)))] H → va_D A [(hz, .inr (7, [.ref hn, .ref hd, .int (nI b2), .ref aB])), (aB, .inl (cI, 64, .inl (nA f2))), (hn, .inr (2, fn)), (aC, .inl (cI, 4096, .inl (nA g))), (aI, .inl (cI, 4096, .inl (nA ix))), (hd, .inr (1, fd)), (aS, .inl (cI, 497, .inl (nA S)))] → va_S A ss.heap H locs → ∀ ls : Array Slot, lv_has ls 5 [(3, .int (nI s)), (2, .int (nI lo)), (0, .ref hz), (1, .int (nI k))] → W pp l ee (rmO 4 94) ss mm ([.ref hz, .int (nI k)] : List Value).toArray bb mt cd H locs 0 0 Q (F0 mm 4 ls []) := by
    intro nn
    induction nn with
    | zero => intro lo s b2 f2 hms4; exact absurd hms4 (Nat.not_lt_zero _)
    | succ nn ih4 =>
      intro lo s b2 f2 hms4 hs hlo hlw hf2 H locs hP hD hS ls hl
      refine lv_iload_n hex hby dX7_findLowestAround_4 rfl (lv_at hl 0 rfl) ?_
      refine lv_iconst (v := nI 4) hex hby dX7_findLowestAround_5 rfl ?_
      refine nv_icmp_ge (tgt := 36) hex hby dX7_findLowestAround_6 (by decide) (by omega) (by omega) (fun c_1 => ?_) (fun c_1 => ?_)
      · refine lv_iload_n hex hby dX7_findLowestAround_36 rfl (lv_at hl 1 rfl) ?_
        exact hret _ (b2, f2) _ _ _ _ _ (Or.inl ⟨rfl, _, rfl, rfl, dX7_findLowestAround_37⟩) ⟨_, rfl, ⟨lo, rfl, hlo, (fun s h => hlw s (by omega)), hf2⟩⟩ hP hD hS
      · refine lv_aload_n hex hby dX7_findLowestAround_9 rfl (lv_at hl 2 rfl) ?_
        refine lv_iload_n hex hby dX7_findLowestAround_10 rfl (lv_at hl 3 rfl) ?_
        refine lv_iload_n hex hby dX7_findLowestAround_11 rfl (lv_at hl 0 rfl) ?_
        refine mu_Vi (As := [.int (nI k), .int (nI s)]) (rest := []) (wr := []) CFx (c_X7_findLowest (hz := hz) (aB := aB) (hn := hn) (aC := aC) (aI := aI) (hd := hd) (aS := aS) (bs := b2) (f := f2) (fn := fn) (sd := sd) (g := g) (ix := ix) (fd := fd) (c := c) (S := S) (k := k) (s := s) (T := T) (ns := ns) (m := m) (st := st) (lv := lv) fsd faC faI fdc faS hf2 hg hSb hgc hV hL hag hc hm6 hk hix hsd hN (by omega)) 2 gX7_findLowestAround_X7_findLowest rfl nd_X7_findLowest ⟨Nat.le_of_ble_eq_true rfl, Nat.le_of_ble_eq_true rfl⟩ hK hP hD hS hA [0, 1, 2, 3, 4, 5, 6] [] rfl rfl (by decide) (by decide) (by decide) TR.nil rfl rfl rfl hl.1 rfl (Nat.le_of_ble_eq_true rfl) dX7_findLowestAround_12 ⟨Nat.le_refl _, Nat.le_refl _⟩ (fun r_2 u H locs hr_2 hP hD hS => ?_)
        obtain ⟨b1, f1⟩ := u
        dsimp only at hr_2 hP hD
        have hP : va_P (dC, dI) vwCl [(hz, .inr (7, [.ref hn, .ref hd, .int (nI b1), .ref aB])), (aB, .inl (cI, 64, .inl (nA f1))), (hn, .inr (2, fn)), (aC, .inl (cI, 4096, .inl (nA g))), (aI, .inl (cI, 4096, .inl (nA ix))), (hd, .inr (1, fd)), (aS, .inl (cI, 497, .inl (nA S)))] H := hP
        have hD : va_D A [(hz, .inr (7, [.ref hn, .ref hd, .int (nI b1), .ref aB])), (aB, .inl (cI, 64, .inl (nA f1))), (hn, .inr (2, fn)), (aC, .inl (cI, 4096, .inl (nA g))), (aI, .inl (cI, 4096, .inl (nA ix))), (hd, .inr (1, fd)), (aS, .inl (cI, 497, .inl (nA S)))] := hD
        rcases hr_2 with ⟨v, rfl, hl1, hl2⟩ | ⟨rfl, hl1, hl2⟩
        · have hvc := hl1.1.2.1
          refine lv_istore (lv' := [(4, .int (nI v)), (3, .int (nI s)), (2, .int (nI lo)), (0, .ref hz), (1, .int (nI k))]) hex hby dX7_findLowestAround_15 hl (by decide) rfl (fun ls hl => ?_)
          refine lv_iload hex hby dX7_findLowestAround_17 (lv_at hl 0 rfl) ?_
          refine lv_iconst (v := zI (-1)) hex hby dX7_findLowestAround_19 rfl ?_
          refine ni_icmp_eq (tgt := 30) (a := (v : Int)) (b := -1) hex hby dX7_findLowestAround_20 (by decide) (ni_toInt (by omega)) (zI_toInt (by omega) (by omega)) (fun c_5 => absurd c_5 (by omega)) (fun c_5 => ?_)
          refine lv_iload_n hex hby dX7_findLowestAround_23 rfl (lv_at hl 2 rfl) ?_
          refine lv_iload hex hby dX7_findLowestAround_24 (lv_at hl 0 rfl) ?_
          refine va_mmin hex hby (hml.trans hl.1.symm) hown (hts _ (List.mem_of_getElem? (i := 1) rfl)) (hts _ (List.mem_of_getElem? (i := 2) rfl)) (hts _ (List.mem_of_getElem? (i := 3) rfl)) (hts _ (List.mem_of_getElem? (i := 4) rfl)) (Nat.le_of_ble_eq_true rfl) (Nat.le_of_ble_eq_true rfl) (Nat.le_refl _) (Nat.le_refl _) dX7_findLowestAround_26 ?_
          refine nv_top (nI_min (by omega) (by omega)) ?_
          refine lv_istore_n (lv' := [(2, .int (nI (min lo v))), (4, .int (nI v)), (3, .int (nI s)), (0, .ref hz), (1, .int (nI k))]) hex hby dX7_findLowestAround_29 rfl hl (by decide) rfl (fun ls hl => ?_)
          refine lv_iinc (v := nI (s + 1)) (lv' := [(3, .int (nI (s + 1))), (2, .int (nI (min lo v))), (4, .int (nI v)), (0, .ref hz), (1, .int (nI k))]) hex hby dX7_findLowestAround_30 hl (k := 2) rfl (ni_inc _) (by decide) rfl (fun ls hl => ?_)
          refine lv_goto (tgt := 4) hex hby dX7_findLowestAround_33 (by decide) ?_
          have pf_6 : ∀ j, j < (s + 1) → ∀ w, Nbr T m c st lv j k w → (min lo v) ≤ w := by
            intro j h v_ hv
            rcases Nat.lt_or_ge j s with q | q
            · have := hlw j q v_ hv; omega
            · rw [show j = s by omega] at hv; have := hl1.2 v_ hv; omega
          exact ih4 (min lo v) (s + 1) b1 f1 (by omega) (by omega) (by omega) pf_6 hl2 _ _ hP hD hS _ (lv_sub hl [0, 1, 3, 4] rfl)
        · refine lv_istore (lv' := [(4, .int (zI (-1))), (3, .int (nI s)), (2, .int (nI lo)), (0, .ref hz), (1, .int (nI k))]) hex hby dX7_findLowestAround_15 hl (by decide) rfl (fun ls hl => ?_)
          refine lv_iload hex hby dX7_findLowestAround_17 (lv_at hl 0 rfl) ?_
          refine lv_iconst (v := zI (-1)) hex hby dX7_findLowestAround_19 rfl ?_
          refine ni_icmp_eq (tgt := 30) (a := -1) (b := -1) hex hby dX7_findLowestAround_20 (by decide) (zI_toInt (by omega) (by omega)) (zI_toInt (by omega) (by omega)) (fun c_7 => ?_) (fun c_7 => absurd c_7 (by omega))
          refine lv_iinc (v := nI (s + 1)) (lv' := [(3, .int (nI (s + 1))), (4, .int (zI (-1))), (2, .int (nI lo)), (0, .ref hz), (1, .int (nI k))]) hex hby dX7_findLowestAround_30 hl (k := 1) rfl (ni_inc _) (by decide) rfl (fun ls hl => ?_)
          refine lv_goto (tgt := 4) hex hby dX7_findLowestAround_33 (by decide) ?_
          have pf_8 : ∀ j, j < (s + 1) → ∀ w, Nbr T m c st lv j k w → lo ≤ w := by
            intro j h v_ hv
            rcases Nat.lt_or_ge j s with q | q
            · exact hlw j q v_ hv
            · rw [show j = s by omega] at hv; exact absurd hv (hl1 v_)
          exact ih4 lo (s + 1) b1 f1 (by omega) (by omega) (by omega) pf_8 hl2 _ _ hP hD hS _ (lv_sub hl [0, 2, 3, 4] rfl)
  exact loop4 _ k 0 bs f (Nat.lt_succ_self _) (by omega) (by omega) (fun j h => absurd h (by omega)) hfb _ _ hP hD hS _ (lv_sub hl [0, 1, 2, 3] rfl)
theorem nd_X7_isTooLarge : ndV yX7_isTooLarge RX7 1 := by decide +kernel
theorem in_X7_isTooLarge_X7 : ∀ w ∈ wsX70, w ∈ wsX7_isTooLarge := fun _ h => List.mem_cons_of_mem _ (List.mem_append_left _ (List.mem_append_left _ (List.mem_append_right _ (h))))
set_option maxHeartbeats 4000000 in
set_option maxRecDepth 100000 in
theorem c_X7_isTooLarge {hz : Nat} {aB : Nat} {hn : Nat} {aC : Nat} {aI : Nat} {hd : Nat} {aS : Nat} {bs : Nat} {f : Nat → Nat} {fn : List Value} {sd : Nat} {g : Nat → Nat} {ix : Nat → Nat} {fd : List Value} {c : Nat} {S : Nat → Nat} {k : Nat} {T : Nat → Nat} {ns : Nat} {m : Nat} {st : Nat → Nat} {lv : Nat → Nat} (fsd : fn[0]? = some (.int (nI sd))) (faC : fn[2]? = some (.ref aC)) (faI : fn[3]? = some (.ref aI)) (fdc : fd[0]? = some (.int (nI c))) (faS : fd[1]? = some (.ref aS)) (hfb : ∀ j, f j < 4096) (hg : ∀ j, g j < 4096) (hSb : ∀ j, S j < 4097) (hgc : ∀ i, i < 4 ^ m → g i = cvc T m i) (hV : VT T ns) (hL : LvL m c st lv) (hag : ∀ j, j ≤ c → S j = st j) (hc : c ≤ 496) (hm6 : m ≤ 6) (hk : k < c) (hix : ∀ j, ix j < 4096) (hsd : sd = 2 ^ m) (hN : NumOK T m g ix) : MU l yX7_isTooLarge wsX7_isTooLarge 3 72 (dC, dI) (tyK cI cZ cS) [(hz, .inr (7, [.ref hn, .ref hd, .int (nI bs), .ref aB])), (aB, .inl (cI, 64, .inl (nA f))), (hn, .inr (2, fn)), (aC, .inl (cI, 4096, .inl (nA g))), (aI, .inl (cI, 4096, .inl (nA ix))), (hd, .inr (1, fd)), (aS, .inl (cI, 497, .inl (nA S)))] [] [.ref hz, .int (nI k)] (fun rv_ (u_ : Nat × (Nat → Nat)) => rI (fun r => (r = nI 1 ∧ TLf T m c st lv k ∧ (∀ j, u_.2 j < 4096)) ∨ (r = nI 0 ∧ ¬ TLf T m c st lv k ∧ (∀ j, u_.2 j < 4096))) rv_) (fun (u_ : Nat × (Nat → Nat)) => [(hz, .inr (7, [.ref hn, .ref hd, .int (nI u_.1), .ref aB])), (aB, .inl (cI, 64, .inl (nA u_.2))), (hn, .inr (2, fn)), (aC, .inl (cI, 4096, .inl (nA g))), (aI, .inl (cI, 4096, .inl (nA ix))), (hd, .inr (1, fd)), (aS, .inl (cI, 497, .inl (nA S)))]) := by
  refine mu_of (by decide) rfl (Nat.le_of_ble_eq_true rfl) ?_
  intro pp ee ss mm bb mt cd Q A CFx hP hK hD hS hA hTr hret ls hl
  obtain ⟨hex, hby, hml, hown, hts⟩ := id CFx
  have hl : lv_has ls 4 [(0, .ref hz), (1, .int (nI k))] := hl
  have hk3 := hL.2.2.2 k hk
  have hS1 := hag k (by omega)
  have hS2 := hag (k + 1) (by omega)
  have htop := hL.top hk
  have h46 := p4_6 hm6
  have h26 := p2_6 hm6
  have hp4k := p4_pos (lv k)
  have hgk := hgc (st k) (by omega)
  have hcm := cvc_mod (T := T) (k := m) (st k) hm6
  refine lv_iconst (v := nI 0) hex hby dX7_isTooLarge_0 rfl ?_
  refine lv_istore_n (lv' := [(2, .int (nI 0)), (0, .ref hz), (1, .int (nI k))]) hex hby dX7_isTooLarge_1 rfl hl (by decide) rfl (fun ls hl => ?_)
  have loop2 : ∀ (nn : Nat) (s : Nat) (b2 : Nat) (f2 : Nat → Nat), (4 - s) < nn → (s ≤ 4) → (∀ j, j < s → ∀ v, Nbr T m c st lv j k v → ¬ lv v + 1 < lv k) → (∀ j, f2 j < 4096) → ∀ (H : Heap) (locs : List Loc), va_P (dC, dI) vwCl [(hz, .inr (7, [.ref hn, .ref hd, .int (nI b2), .ref aB])), (aB, .inl (cI, 64, .inl (nA f2))), (hn, .inr (2, fn)), (aC, .inl (cI, 4096, .inl (nA g))), (aI, .inl (cI, 4096, .inl (nA ix))), (hd, .inr (1, fd)), (aS, .inl (cI, 497, .inl (nA S)))] H → va_D A [(hz, .inr (7, [.ref hn, .ref hd, .int (nI b2), .ref aB])), (aB, .inl (cI, 64, .inl (nA f2))), (hn, .inr (2, fn)), (aC, .inl (cI, 4096, .inl (nA g))), (aI, .inl (cI, 4096, .inl (nA ix))), (hd, .inr (1, fd)), (aS, .inl (cI, 497, .inl (nA S)))] → va_S A ss.heap H locs → ∀ ls : Array Slot, lv_has ls 4 [(2, .int (nI s)), (0, .ref hz), (1, .int (nI k))] → W pp l ee (rmO 3 72) ss mm ([.ref hz, .int (nI k)] : List Value).toArray bb mt cd H locs 0 0 Q (F0 mm 2 ls []) := by
    intro nn
    induction nn with
    | zero => intro s b2 f2 hms2; exact absurd hms2 (Nat.not_lt_zero _)
    | succ nn ih2 =>
      intro s b2 f2 hms2 hs hno hf2 H locs hP hD hS ls hl
      refine lv_iload_n hex hby dX7_isTooLarge_2 rfl (lv_at hl 0 rfl) ?_
      refine lv_iconst (v := nI 4) hex hby dX7_isTooLarge_3 rfl ?_
      refine nv_icmp_ge (tgt := 63) hex hby dX7_isTooLarge_4 (by decide) (by omega) (by omega) (fun c_1 => ?_) (fun c_1 => ?_)
      · refine lv_iconst (v := nI 0) hex hby dX7_isTooLarge_63 rfl ?_
        exact hret _ (b2, f2) _ _ _ _ _ (Or.inr (Or.inl ⟨rfl, _, (Or.inr rfl), rfl, rfl, dX7_isTooLarge_64⟩)) ⟨_, rfl, Or.inr ⟨rfl, (fun ⟨s2, h1, v, h2, h3⟩ => hno s2 (by omega) v h2 h3), hf2⟩⟩ hP hD hS
      · refine lv_aload_n hex hby dX7_isTooLarge_7 rfl (lv_at hl 1 rfl) ?_
        refine lv_iload_n hex hby dX7_isTooLarge_8 rfl (lv_at hl 2 rfl) ?_
        refine lv_iload_n hex hby dX7_isTooLarge_9 rfl (lv_at hl 0 rfl) ?_
        refine mu_Vv (As := [.int (nI k), .int (nI s)]) (rest := []) (wr := []) CFx (c_X7_findBeyond (hz := hz) (aB := aB) (hn := hn) (aC := aC) (aI := aI) (hd := hd) (aS := aS) (v2 := .int (nI b2)) (fa := f2) (fn := fn) (sd := sd) (g := g) (ix := ix) (fd := fd) (c := c) (S := S) (k := k) (s := s) (T := T) (ns := ns) (m := m) (st := st) (lv := lv) fsd faC faI fdc faS hf2 hg hSb hgc hV hL hag hc hm6 hk hix hsd hN (by omega)) 2 gX7_isTooLarge_X7_findBeyond rfl nd_X7_findBeyond ⟨Nat.le_of_ble_eq_true rfl, Nat.le_of_ble_eq_true rfl⟩ hK hP hD hS hA [0, 1, 2, 3, 4, 5, 6] [] rfl rfl (by decide) (by decide) (by decide) TR.nil rfl rfl rfl hl.1 rfl (Nat.le_of_ble_eq_true rfl) dX7_isTooLarge_10 ⟨Nat.le_refl _, Nat.le_refl _⟩ (fun u H locs hr_2 hP hD hS => ?_)
        obtain ⟨b1, f1⟩ := u
        dsimp only at hr_2 hP hD
        have hP : va_P (dC, dI) vwCl [(hz, .inr (7, [.ref hn, .ref hd, .int (nI b1), .ref aB])), (aB, .inl (cI, 64, .inl (nA f1))), (hn, .inr (2, fn)), (aC, .inl (cI, 4096, .inl (nA g))), (aI, .inl (cI, 4096, .inl (nA ix))), (hd, .inr (1, fd)), (aS, .inl (cI, 497, .inl (nA S)))] H := hP
        have hD : va_D A [(hz, .inr (7, [.ref hn, .ref hd, .int (nI b1), .ref aB])), (aB, .inl (cI, 64, .inl (nA f1))), (hn, .inr (2, fn)), (aC, .inl (cI, 4096, .inl (nA g))), (aI, .inl (cI, 4096, .inl (nA ix))), (hd, .inr (1, fd)), (aS, .inl (cI, 497, .inl (nA S)))] := hD
        obtain ⟨hss, hfb1, hb64⟩ := hr_2
        refine lv_iconst (v := nI 0) hex hby dX7_isTooLarge_13 rfl ?_
        refine lv_istore_n (lv' := [(3, .int (nI 0)), (2, .int (nI s)), (0, .ref hz), (1, .int (nI k))]) hex hby dX7_isTooLarge_14 rfl hl (by decide) rfl (fun ls hl => ?_)
        have loop15 : ∀ (nn : Nat) (i : Nat), (b1 - i) < nn → (i ≤ b1) → (∀ a, a < i → ¬ lv (f1 a) + 1 < lv k) → ∀ (H : Heap) (locs : List Loc), va_P (dC, dI) vwCl [(hz, .inr (7, [.ref hn, .ref hd, .int (nI b1), .ref aB])), (aB, .inl (cI, 64, .inl (nA f1))), (hn, .inr (2, fn)), (aC, .inl (cI, 4096, .inl (nA g))), (aI, .inl (cI, 4096, .inl (nA ix))), (hd, .inr (1, fd)), (aS, .inl (cI, 497, .inl (nA S)))] H → va_D A [(hz, .inr (7, [.ref hn, .ref hd, .int (nI b1), .ref aB])), (aB, .inl (cI, 64, .inl (nA f1))), (hn, .inr (2, fn)), (aC, .inl (cI, 4096, .inl (nA g))), (aI, .inl (cI, 4096, .inl (nA ix))), (hd, .inr (1, fd)), (aS, .inl (cI, 497, .inl (nA S)))] → va_S A ss.heap H locs → ∀ ls : Array Slot, lv_has ls 4 [(3, .int (nI i)), (2, .int (nI s)), (0, .ref hz), (1, .int (nI k))] → W pp l ee (rmO 3 72) ss mm ([.ref hz, .int (nI k)] : List Value).toArray bb mt cd H locs 0 0 Q (F0 mm 15 ls []) := by
          intro nn
          induction nn with
          | zero => intro i hms15; exact absurd hms15 (Nat.not_lt_zero _)
          | succ nn ih15 =>
            intro i hms15 hi hin H locs hP hD hS ls hl
            refine lv_iload_n hex hby dX7_isTooLarge_15 rfl (lv_at hl 0 rfl) ?_
            refine lv_aload_n hex hby dX7_isTooLarge_16 rfl (lv_at hl 2 rfl) ?_
            refine nv_get (v := .int (nI b1)) CFx in_X7_isTooLarge_X7 hK hP 0 rfl rfl 2 (by decide) (List.mem_of_getElem? (i := 1) rfl) rfl dX7_isTooLarge_17 ?_
            refine nv_icmp_ge (tgt := 57) hex hby dX7_isTooLarge_20 (by decide) (by omega) (by omega) (fun c_5 => ?_) (fun c_5 => ?_)
            · refine lv_iinc (v := nI (s + 1)) (lv' := [(2, .int (nI (s + 1))), (3, .int (nI i)), (0, .ref hz), (1, .int (nI k))]) hex hby dX7_isTooLarge_57 hl (k := 1) rfl (ni_inc _) (by decide) rfl (fun ls hl => ?_)
              refine lv_goto (tgt := 2) hex hby dX7_isTooLarge_60 (by decide) ?_
              have pf_6 : ∀ j, j < (s + 1) → ∀ v, Nbr T m c st lv j k v → ¬ lv v + 1 < lv k := by
                intro j h v hv
                rcases Nat.lt_or_ge j s with q | q
                · exact hno j q v hv
                · rw [show j = s by omega] at hv
                  obtain ⟨a, ha, e⟩ := (hss.2 v).mp hv
                  rw [← e]; exact hin a (by omega)
              exact ih2 (s + 1) b1 f1 (by omega) (by omega) pf_6 hfb1 _ _ hP hD hS _ (lv_sub hl [0, 2, 3] rfl)
            · have hfi := (hss.2 (f1 i)).mpr ⟨i, by omega, rfl⟩
              have hfc := hfi.2.1
              have hf3 := hL.2.2.2 (f1 i) hfc
              have h2f := p2_6 (show lv (f1 i) ≤ 6 by omega)
              have h2k := p2_6 (show lv k ≤ 6 by omega)
              have hp2 := p2_half (a := lv (f1 i)) (b := lv k)
              refine lv_iconst (v := nI 2) hex hby dX7_isTooLarge_23 rfl ?_
              refine lv_aload_n hex hby dX7_isTooLarge_24 rfl (lv_at hl 2 rfl) ?_
              refine nv_get (v := .ref hd) CFx in_X7_isTooLarge_X7 hK hP 0 rfl rfl 1 (by decide) (List.mem_of_getElem? (i := 2) rfl) rfl dX7_isTooLarge_25 ?_
              refine lv_aload_n hex hby dX7_isTooLarge_28 rfl (lv_at hl 2 rfl) ?_
              refine nv_get (v := .ref aB) CFx in_X7_isTooLarge_X7 hK hP 0 rfl rfl 3 (by decide) (List.mem_of_getElem? (i := 3) rfl) rfl dX7_isTooLarge_29 ?_
              refine lv_iload_n hex hby dX7_isTooLarge_32 rfl (lv_at hl 0 rfl) ?_
              refine nv_iald hex hby hK hP 1 0 rfl rfl (by omega) (by omega) dX7_isTooLarge_33 ?_
              have hb_7 := hfb1 i
              refine ro_Vi (As := [.int (nI (f1 i))]) (rest := [.int (nI 2)]) CFx (c_X1_sideOf (hd := hd) (aS := aS) (fd := fd) (S := S) (k := f1 i) (L := lv (f1 i)) faS hSb (by omega) (by rw [hag _ (by omega), hag _ (by omega)]; exact hf3.1) (by omega)) 1 gX7_isTooLarge_X1_sideOf rfl nd_X1_sideOf ⟨Nat.le_of_ble_eq_true rfl, Nat.le_of_ble_eq_true rfl⟩ hK hP [5, 6] rfl rfl rfl rfl hl.1 rfl (Nat.le_of_ble_eq_true rfl) dX7_isTooLarge_34 ⟨Nat.le_refl _, Nat.le_refl _⟩ (fun r_8 hr_8 => ?_)
              obtain rfl := hr_8
              refine nv_imul hex hby dX7_isTooLarge_37 ?_
              refine lv_aload_n hex hby dX7_isTooLarge_38 rfl (lv_at hl 2 rfl) ?_
              refine nv_get (v := .ref hd) CFx in_X7_isTooLarge_X7 hK hP 0 rfl rfl 1 (by decide) (List.mem_of_getElem? (i := 2) rfl) rfl dX7_isTooLarge_39 ?_
              refine lv_iload_n hex hby dX7_isTooLarge_42 rfl (lv_at hl 3 rfl) ?_
              refine ro_Vi (As := [.int (nI k)]) (rest := [.int (nI (2 * 2 ^ (lv (f1 i))))]) CFx (c_X1_sideOf (hd := hd) (aS := aS) (fd := fd) (S := S) (k := k) (L := lv k) faS hSb (by omega) (by rw [hS2, hS1]; exact hk3.1) (by omega)) 1 gX7_isTooLarge_X1_sideOf rfl nd_X1_sideOf ⟨Nat.le_of_ble_eq_true rfl, Nat.le_of_ble_eq_true rfl⟩ hK hP [5, 6] rfl rfl rfl rfl hl.1 rfl (Nat.le_of_ble_eq_true rfl) dX7_isTooLarge_43 ⟨Nat.le_refl _, Nat.le_refl _⟩ (fun r_9 hr_9 => ?_)
              obtain rfl := hr_9
              refine nv_icmp_ge (tgt := 51) hex hby dX7_isTooLarge_46 (by decide) (by omega) (by omega) (fun c_10 => ?_) (fun c_10 => ?_)
              · have hno1 : ¬ lv (f1 i) + 1 < lv k := fun q => by have := hp2.mpr q; omega
                refine lv_iinc (v := nI (i + 1)) (lv' := [(3, .int (nI (i + 1))), (2, .int (nI s)), (0, .ref hz), (1, .int (nI k))]) hex hby dX7_isTooLarge_51 hl (k := 0) rfl (ni_inc _) (by decide) rfl (fun ls hl => ?_)
                refine lv_goto (tgt := 15) hex hby dX7_isTooLarge_54 (by decide) ?_
                have pf_11 : ∀ a, a < (i + 1) → ¬ lv (f1 a) + 1 < lv k := by
                  intro a h
                  rcases Nat.lt_or_ge a i with q | q
                  · exact hin a q
                  · rw [show a = i by omega]; exact hno1
                exact ih15 (i + 1) (by omega) (by omega) pf_11 _ _ hP hD hS _ (lv_sub hl [0, 1, 2, 3] rfl)
              · have hyes := hp2.mp c_10
                refine lv_iconst (v := nI 1) hex hby dX7_isTooLarge_49 rfl ?_
                exact hret _ (b1, f1) _ _ _ _ _ (Or.inr (Or.inl ⟨rfl, _, (Or.inl rfl), rfl, rfl, dX7_isTooLarge_50⟩)) ⟨_, rfl, Or.inl ⟨rfl, ⟨s, by omega, f1 i, hfi, hyes⟩, hfb1⟩⟩ hP hD hS
        exact loop15 _ 0 (Nat.lt_succ_self _) (by omega) (fun a h => absurd h (by omega)) _ _ hP hD hS _ (lv_sub hl [0, 1, 2, 3] rfl)
  exact loop2 _ 0 bs f (Nat.lt_succ_self _) (by omega) (fun j h => absurd h (by omega)) hfb _ _ hP hD hS _ (lv_sub hl [0, 1, 2] rfl)
theorem nd_X7_divideAllTooLarge : ndV yX7_divideAllTooLarge RX7 0 := by decide +kernel
theorem in_X7_divideAllTooLarge_X1 : ∀ w ∈ wsX10, w ∈ wsX7_divideAllTooLarge := fun _ h => List.mem_cons_of_mem _ (List.mem_append_left _ (List.mem_append_right _ (h)))
theorem in_X7_divideAllTooLarge_X7 : ∀ w ∈ wsX70, w ∈ wsX7_divideAllTooLarge := fun _ h => List.mem_cons_of_mem _ (List.mem_append_left _ (List.mem_append_left _ (List.mem_append_right _ (h))))
set_option maxHeartbeats 4000000 in
set_option maxRecDepth 100000 in
theorem c_X7_divideAllTooLarge {hz : Nat} {aB : Nat} {hn : Nat} {aC : Nat} {aI : Nat} {hd : Nat} {aS : Nat} {bs : Nat} {f : Nat → Nat} {fn : List Value} {sd : Nat} {g : Nat → Nat} {ix : Nat → Nat} {c : Nat} {S : Nat → Nat} {T : Nat → Nat} {ns : Nat} {m : Nat} {st : Nat → Nat} {lv : Nat → Nat} {pc : Nat} {pt : Nat → Nat} (fsd : fn[0]? = some (.int (nI sd))) (faC : fn[2]? = some (.ref aC)) (faI : fn[3]? = some (.ref aI)) (hfb : ∀ j, f j < 4096) (hg : ∀ j, g j < 4096) (hSb : ∀ j, S j < 4097) (hgc : ∀ i, i < 4 ^ m → g i = cvc T m i) (hV : VT T ns) (hag : ∀ j, j ≤ c → S j = st j) (hm6 : m ≤ 6) (hix : ∀ j, ix j < 4096) (hsd : sd = 2 ^ m) (hN : NumOK T m g ix) (hLD : LD T m pc pt c st lv) (hpc : pc ≤ 40) : MU l yX7_divideAllTooLarge wsX7_divideAllTooLarge 5 118 (dC, dI) (tyK cI cZ cS) [(hz, .inr (7, [.ref hn, .ref hd, .int (nI bs), .ref aB])), (aB, .inl (cI, 64, .inl (nA f))), (hn, .inr (2, fn)), (aC, .inl (cI, 4096, .inl (nA g))), (aI, .inl (cI, 4096, .inl (nA ix))), (hd, .inr (1, [.int (nI c), .ref aS])), (aS, .inl (cI, 497, .inl (nA S)))] [] [.ref hz] (fun rv_ (u_ : Nat × (Nat → Nat) × Nat × (Nat → Nat)) => rI (fun r => ∃ n : Nat, ∃ st' : Nat → Nat, ∃ lv' : Nat → Nat, r = nI n ∧ BalN T m n c st lv u_.2.2.1 st' lv' ∧ LD T m pc pt u_.2.2.1 st' lv' ∧ (∀ j, j ≤ u_.2.2.1 → u_.2.2.2 j = st' j) ∧ (∀ j, u_.2.2.2 j < 4097) ∧ (∀ j, u_.2.1 j < 4096)) rv_) (fun (u_ : Nat × (Nat → Nat) × Nat × (Nat → Nat)) => [(hz, .inr (7, [.ref hn, .ref hd, .int (nI u_.1), .ref aB])), (aB, .inl (cI, 64, .inl (nA u_.2.1))), (hn, .inr (2, fn)), (aC, .inl (cI, 4096, .inl (nA g))), (aI, .inl (cI, 4096, .inl (nA ix))), (hd, .inr (1, [.int (nI u_.2.2.1), .ref aS])), (aS, .inl (cI, 497, .inl (nA u_.2.2.2)))]) := by
  refine mu_of (by decide) rfl (Nat.le_of_ble_eq_true rfl) ?_
  intro pp ee ss mm bb mt cd Q A CFx hP hK hD hS hA hTr hret ls hl
  obtain ⟨hex, hby, hml, hown, hts⟩ := id CFx
  have hl : lv_has ls 5 [(0, .ref hz)] := hl
  refine lv_iconst (v := nI 0) hex hby dX7_divideAllTooLarge_0 rfl ?_
  refine lv_istore_n (lv' := [(1, .int (nI 0)), (0, .ref hz)]) hex hby dX7_divideAllTooLarge_1 rfl hl (by decide) rfl (fun ls hl => ?_)
  refine lv_iconst (v := nI 0) hex hby dX7_divideAllTooLarge_2 rfl ?_
  refine lv_istore_n (lv' := [(2, .int (nI 0)), (1, .int (nI 0)), (0, .ref hz)]) hex hby dX7_divideAllTooLarge_3 rfl hl (by decide) rfl (fun ls hl => ?_)
  refine lv_iconst (v := nI 0) hex hby dX7_divideAllTooLarge_4 rfl ?_
  refine lv_istore_n (lv' := [(3, .int (nI 0)), (2, .int (nI 0)), (1, .int (nI 0)), (0, .ref hz)]) hex hby dX7_divideAllTooLarge_5 rfl hl (by decide) rfl (fun ls hl => ?_)
  have loop6 : ∀ (nn : Nat) (n : Nat) (lf : Nat) (stp : Nat) (c1 : Nat) (SS : Nat → Nat) (b2 : Nat) (f2 : Nat → Nat) (st1 : Nat → Nat) (lv1 : Nat → Nat), (1000000 - stp) < nn → (∀ N2 c2 st2 lv2, BalN T m N2 c1 st1 lv1 c2 st2 lv2 → BalN T m (n + N2) c st lv c2 st2 lv2) → (LD T m pc pt c1 st1 lv1) → (∀ j, j ≤ c1 → SS j = st1 j) → (∀ j, SS j < 4097) → (∀ j, f2 j < 4096) → (∀ j, j < lf → ¬ TLf T m c1 st1 lv1 j) → (lf ≤ c1) → (c1 = c + 3 * n) → (stp ≤ 497 * n + lf) → ∀ (H : Heap) (locs : List Loc), va_P (dC, dI) vwCl [(hz, .inr (7, [.ref hn, .ref hd, .int (nI b2), .ref aB])), (aB, .inl (cI, 64, .inl (nA f2))), (hn, .inr (2, fn)), (aC, .inl (cI, 4096, .inl (nA g))), (aI, .inl (cI, 4096, .inl (nA ix))), (hd, .inr (1, [.int (nI c1), .ref aS])), (aS, .inl (cI, 497, .inl (nA SS)))] H → va_D A [(hz, .inr (7, [.ref hn, .ref hd, .int (nI b2), .ref aB])), (aB, .inl (cI, 64, .inl (nA f2))), (hn, .inr (2, fn)), (aC, .inl (cI, 4096, .inl (nA g))), (aI, .inl (cI, 4096, .inl (nA ix))), (hd, .inr (1, [.int (nI c1), .ref aS])), (aS, .inl (cI, 497, .inl (nA SS)))] → va_S A ss.heap H locs → ∀ ls : Array Slot, lv_has ls 5 [(3, .int (nI stp)), (2, .int (nI lf)), (1, .int (nI n)), (0, .ref hz)] → W pp l ee (rmO 5 118) ss mm ([.ref hz] : List Value).toArray bb mt cd H locs 0 0 Q (F0 mm 6 ls []) := by
    intro nn
    induction nn with
    | zero => intro n lf stp c1 SS b2 f2 st1 lv1 hms6; exact absurd hms6 (Nat.not_lt_zero _)
    | succ nn ih6 =>
      intro n lf stp c1 SS b2 f2 st1 lv1 hms6 hBal hLD1 hag1 hsb hf2 hlow hlf hcn hstp H locs hP hD hS ls hl
      have hc496 := hLD1.le hV hm6 hpc
      refine lv_iload_n hex hby dX7_divideAllTooLarge_6 rfl (lv_at hl 0 rfl) ?_
      refine lv_ldc (v := nI 1000000) hex hby hown (hts _ (List.mem_of_getElem? (i := 1) rfl)) dX7_divideAllTooLarge_7 ?_
      refine nv_icmp_ge (tgt := 70) hex hby dX7_divideAllTooLarge_9 (by decide) (by omega) (by omega) (fun c_1 => absurd c_1 (by omega)) (fun c_1 => ?_)
      refine lv_iload_n hex hby dX7_divideAllTooLarge_12 rfl (lv_at hl 1 rfl) ?_
      refine lv_aload_n hex hby dX7_divideAllTooLarge_13 rfl (lv_at hl 3 rfl) ?_
      refine nv_get (v := .ref hd) CFx in_X7_divideAllTooLarge_X7 hK hP 0 rfl rfl 1 (by decide) (List.mem_of_getElem? (i := 2) rfl) rfl dX7_divideAllTooLarge_14 ?_
      refine nv_get (v := .int (nI c1)) CFx in_X7_divideAllTooLarge_X1 hK hP 5 rfl rfl 0 (by decide) (List.mem_of_getElem? (i := 3) rfl) rfl dX7_divideAllTooLarge_17 ?_
      refine nv_icmp_ge (tgt := 70) hex hby dX7_divideAllTooLarge_20 (by decide) (by omega) (by omega) (fun c_2 => ?_) (fun c_2 => ?_)
      · refine lv_iload_n hex hby dX7_divideAllTooLarge_70 rfl (lv_at hl 2 rfl) ?_
        have pf_3 : BalN T m n c st lv c1 st1 lv1 := by
          skip
          exact hBal 0 c1 st1 lv1 ⟨fun k hk => hlow k (by omega), rfl, rfl, rfl⟩
        exact hret _ (b2, f2, c1, SS) _ _ _ _ _ (Or.inl ⟨rfl, _, rfl, rfl, dX7_divideAllTooLarge_71⟩) ⟨_, rfl, ⟨n, st1, lv1, rfl, pf_3, hLD1, hag1, hsb, hf2⟩⟩ hP hD hS
      · refine lv_aload_n hex hby dX7_divideAllTooLarge_23 rfl (lv_at hl 3 rfl) ?_
        refine lv_iload_n hex hby dX7_divideAllTooLarge_24 rfl (lv_at hl 1 rfl) ?_
        refine mu_Vi (As := [.int (nI lf)]) (rest := []) (wr := []) CFx (c_X7_isTooLarge (hz := hz) (aB := aB) (hn := hn) (aC := aC) (aI := aI) (hd := hd) (aS := aS) (bs := b2) (f := f2) (fn := fn) (sd := sd) (g := g) (ix := ix) (fd := [.int (nI c1), .ref aS]) (c := c1) (S := SS) (k := lf) (T := T) (ns := ns) (m := m) (st := st1) (lv := lv1) fsd faC faI rfl rfl hf2 hg hsb hgc hV hLD1.1 hag1 (by omega) hm6 (by omega) hix hsd hN) 1 gX7_divideAllTooLarge_X7_isTooLarge rfl nd_X7_isTooLarge ⟨Nat.le_of_ble_eq_true rfl, Nat.le_of_ble_eq_true rfl⟩ hK hP hD hS hA [0, 1, 2, 3, 4, 5, 6] [] rfl rfl (by decide) (by decide) (by decide) TR.nil rfl rfl rfl hl.1 rfl (Nat.le_of_ble_eq_true rfl) dX7_divideAllTooLarge_25 ⟨Nat.le_refl _, Nat.le_refl _⟩ (fun r_4 u H locs hr_4 hP hD hS => ?_)
        obtain ⟨b1, f1⟩ := u
        dsimp only at hr_4 hP hD
        have hP : va_P (dC, dI) vwCl [(hz, .inr (7, [.ref hn, .ref hd, .int (nI b1), .ref aB])), (aB, .inl (cI, 64, .inl (nA f1))), (hn, .inr (2, fn)), (aC, .inl (cI, 4096, .inl (nA g))), (aI, .inl (cI, 4096, .inl (nA ix))), (hd, .inr (1, [.int (nI c1), .ref aS])), (aS, .inl (cI, 497, .inl (nA SS)))] H := hP
        have hD : va_D A [(hz, .inr (7, [.ref hn, .ref hd, .int (nI b1), .ref aB])), (aB, .inl (cI, 64, .inl (nA f1))), (hn, .inr (2, fn)), (aC, .inl (cI, 4096, .inl (nA g))), (aI, .inl (cI, 4096, .inl (nA ix))), (hd, .inr (1, [.int (nI c1), .ref aS])), (aS, .inl (cI, 497, .inl (nA SS)))] := hD
        rcases hr_4 with ⟨rfl, htl, hfb1⟩ | ⟨rfl, hntl, hfb1⟩
        · refine nv_if_ne (tgt := 37) hex hby dX7_divideAllTooLarge_28 (by decide) (by omega) (fun _ => ?_) (fun c => absurd c (by omega))
          refine lv_aload_n hex hby dX7_divideAllTooLarge_37 rfl (lv_at hl 3 rfl) ?_
          refine lv_iload_n hex hby dX7_divideAllTooLarge_38 rfl (lv_at hl 1 rfl) ?_
          refine mu_Vi (As := [.int (nI lf)]) (rest := []) (wr := []) CFx (c_X7_findLowestAround (hz := hz) (aB := aB) (hn := hn) (aC := aC) (aI := aI) (hd := hd) (aS := aS) (bs := b1) (f := f1) (fn := fn) (sd := sd) (g := g) (ix := ix) (fd := [.int (nI c1), .ref aS]) (c := c1) (S := SS) (k := lf) (T := T) (ns := ns) (m := m) (st := st1) (lv := lv1) fsd faC faI rfl rfl hfb1 hg hsb hgc hV hLD1.1 hag1 (by omega) hm6 (by omega) hix hsd hN) 1 gX7_divideAllTooLarge_X7_findLowestAround rfl nd_X7_findLowestAround ⟨Nat.le_of_ble_eq_true rfl, Nat.le_of_ble_eq_true rfl⟩ hK hP hD hS hA [0, 1, 2, 3, 4, 5, 6] [] rfl rfl (by decide) (by decide) (by decide) TR.nil rfl rfl rfl hl.1 rfl (Nat.le_of_ble_eq_true rfl) dX7_divideAllTooLarge_39 ⟨Nat.le_refl _, Nat.le_refl _⟩ (fun r_7 u H locs hr_7 hP hD hS => ?_)
          obtain ⟨b3, f3⟩ := u
          dsimp only at hr_7 hP hD
          have hP : va_P (dC, dI) vwCl [(hz, .inr (7, [.ref hn, .ref hd, .int (nI b3), .ref aB])), (aB, .inl (cI, 64, .inl (nA f3))), (hn, .inr (2, fn)), (aC, .inl (cI, 4096, .inl (nA g))), (aI, .inl (cI, 4096, .inl (nA ix))), (hd, .inr (1, [.int (nI c1), .ref aS])), (aS, .inl (cI, 497, .inl (nA SS)))] H := hP
          have hD : va_D A [(hz, .inr (7, [.ref hn, .ref hd, .int (nI b3), .ref aB])), (aB, .inl (cI, 64, .inl (nA f3))), (hn, .inr (2, fn)), (aC, .inl (cI, 4096, .inl (nA g))), (aI, .inl (cI, 4096, .inl (nA ix))), (hd, .inr (1, [.int (nI c1), .ref aS])), (aS, .inl (cI, 497, .inl (nA SS)))] := hD
          obtain ⟨lo, rfl, hlo1, hlo2, hfb2⟩ := hr_7
          refine lv_istore (lv' := [(4, .int (nI lo)), (3, .int (nI stp)), (2, .int (nI lf)), (1, .int (nI n)), (0, .ref hz)]) hex hby dX7_divideAllTooLarge_42 hl (by decide) rfl (fun ls hl => ?_)
          refine lv_aload_n hex hby dX7_divideAllTooLarge_44 rfl (lv_at hl 4 rfl) ?_
          refine nv_get (v := .ref hd) CFx in_X7_divideAllTooLarge_X7 hK hP 0 rfl rfl 1 (by decide) (List.mem_of_getElem? (i := 2) rfl) rfl dX7_divideAllTooLarge_45 ?_
          refine lv_iload_n hex hby dX7_divideAllTooLarge_48 rfl (lv_at hl 2 rfl) ?_
          refine mu_Vi (As := [.int (nI lf)]) (rest := []) (wr := [(hz, .inr (7, [.ref hn, .ref hd, .int (nI b3), .ref aB])), (aB, .inl (cI, 64, .inl (nA f3))), (hn, .inr (2, fn)), (aC, .inl (cI, 4096, .inl (nA g))), (aI, .inl (cI, 4096, .inl (nA ix)))]) CFx (c_X1_divide (hd := hd) (aS := aS) (c := c1) (S := SS) (k := lf) (m := m) (st := st1) (lv := lv1) hsb hLD1.1 hag1 (by omega) hm6 (by omega)) 1 gX7_divideAllTooLarge_X1_divide rfl nd_X1_divide ⟨Nat.le_of_ble_eq_true rfl, Nat.le_of_ble_eq_true rfl⟩ hK hP hD hS hA [5, 6] [0, 1, 2, 3, 4] rfl rfl (by decide) (by decide) (by decide) TR.nil rfl rfl rfl hl.1 rfl (Nat.le_of_ble_eq_true rfl) dX7_divideAllTooLarge_49 ⟨Nat.le_refl _, Nat.le_refl _⟩ (fun r_10 u H locs hr_10 hP hD hS => ?_)
          obtain ⟨cd_, Sd⟩ := u
          dsimp only at hr_10 hP hD
          have hP : va_P (dC, dI) vwCl [(hz, .inr (7, [.ref hn, .ref hd, .int (nI b3), .ref aB])), (aB, .inl (cI, 64, .inl (nA f3))), (hn, .inr (2, fn)), (aC, .inl (cI, 4096, .inl (nA g))), (aI, .inl (cI, 4096, .inl (nA ix))), (hd, .inr (1, [.int (nI cd_), .ref aS])), (aS, .inl (cI, 497, .inl (nA Sd)))] H := hP
          have hD : va_D A [(hz, .inr (7, [.ref hn, .ref hd, .int (nI b3), .ref aB])), (aB, .inl (cI, 64, .inl (nA f3))), (hn, .inr (2, fn)), (aC, .inl (cI, 4096, .inl (nA g))), (aI, .inl (cI, 4096, .inl (nA ix))), (hd, .inr (1, [.int (nI cd_), .ref aS])), (aS, .inl (cI, 497, .inl (nA Sd)))] := hD
          rcases hr_10 with ⟨rfl, hd1, hd2, rfl, hd4, hd5⟩ | ⟨rfl, hd0, rfl, rfl⟩
          · have hnLD := TL_LD hV hLD1 (show lf < c1 by omega) htl
            refine nv_if_ne (tgt := 58) hex hby dX7_divideAllTooLarge_52 (by decide) (by omega) (fun _ => ?_) (fun c => absurd c (by omega))
            refine lv_iinc (v := nI (n + 1)) (lv' := [(1, .int (nI (n + 1))), (4, .int (nI lo)), (3, .int (nI stp)), (2, .int (nI lf)), (0, .ref hz)]) hex hby dX7_divideAllTooLarge_58 hl (k := 3) rfl (ni_inc _) (by decide) rfl (fun ls hl => ?_)
            refine lv_iload hex hby dX7_divideAllTooLarge_61 (lv_at hl 1 rfl) ?_
            refine lv_istore_n (lv' := [(2, .int (nI lo)), (1, .int (nI (n + 1))), (4, .int (nI lo)), (3, .int (nI stp)), (0, .ref hz)]) hex hby dX7_divideAllTooLarge_63 rfl hl (by decide) rfl (fun ls hl => ?_)
            refine lv_iinc (v := nI (stp + 1)) (lv' := [(3, .int (nI (stp + 1))), (2, .int (nI lo)), (1, .int (nI (n + 1))), (4, .int (nI lo)), (0, .ref hz)]) hex hby dX7_divideAllTooLarge_64 hl (k := 3) rfl (ni_inc _) (by decide) rfl (fun ls hl => ?_)
            refine lv_goto (tgt := 6) hex hby dX7_divideAllTooLarge_67 (by decide) ?_
            exact ih6 (n + 1) lo (stp + 1) (c1 + 3) Sd b3 f3 (dst st1 lv1 lf) (dlv lv1 lf) (by omega) (fun N2 c2 st2 lv2 h => by rw [show n + 1 + N2 = n + (N2 + 1) by omega]; exact hBal (N2 + 1) c2 st2 lv2 ⟨lf, by omega, htl, hlow, h⟩) hnLD hd4 hd5 hfb2 (TL_back hV hLD1.1 (by omega) hd1 hlo1 hlow hlo2) (by omega) (by omega) (by omega) _ _ hP hD hS _ (lv_sub hl [0, 1, 2, 4] rfl)
          · exact absurd hd0 (by rintro (z | z); (have := TL_lv htl; omega); (have := (TL_LD hV hLD1 (show lf < c1 by omega) htl).le hV hm6 hpc; omega))
        · refine nv_if_ne (tgt := 37) hex hby dX7_divideAllTooLarge_28 (by decide) (by omega) (fun c => absurd c (by omega)) (fun _ => ?_)
          refine lv_iinc (v := nI (lf + 1)) (lv' := [(2, .int (nI (lf + 1))), (3, .int (nI stp)), (1, .int (nI n)), (0, .ref hz)]) hex hby dX7_divideAllTooLarge_31 hl (k := 1) rfl (ni_inc _) (by decide) rfl (fun ls hl => ?_)
          refine lv_goto (tgt := 64) hex hby dX7_divideAllTooLarge_34 (by decide) ?_
          refine lv_iinc (v := nI (stp + 1)) (lv' := [(3, .int (nI (stp + 1))), (2, .int (nI (lf + 1))), (1, .int (nI n)), (0, .ref hz)]) hex hby dX7_divideAllTooLarge_64 hl (k := 1) rfl (ni_inc _) (by decide) rfl (fun ls hl => ?_)
          refine lv_goto (tgt := 6) hex hby dX7_divideAllTooLarge_67 (by decide) ?_
          have pf_13 : ∀ j, j < (lf + 1) → ¬ TLf T m c1 st1 lv1 j := by
            intro j h
            rcases Nat.lt_or_ge j lf with q | q
            · exact hlow j q
            · rw [show j = lf by omega]; exact hntl
          exact ih6 n (lf + 1) (stp + 1) c1 SS b1 f1 st1 lv1 (by omega) hBal hLD1 hag1 hsb hfb1 pf_13 (by omega) (by omega) (by omega) _ _ hP hD hS _ (lv_sub hl [0, 1, 2, 3] rfl)
  exact loop6 _ 0 0 0 c S bs f st lv (Nat.lt_succ_self _) (fun N2 c2 st2 lv2 h => by rw [Nat.zero_add]; exact h) hLD hag hSb hfb (fun j h => absurd h (by omega)) (by omega) (by omega) (by omega) _ _ hP hD hS _ (lv_sub hl [0, 1, 2, 3] rfl)
theorem nd_X7_countSteps : ndV yX7_countSteps RX7 2 := by decide +kernel
set_option maxHeartbeats 4000000 in
set_option maxRecDepth 100000 in
theorem c_X7_countSteps {hz : Nat} {aB : Nat} {hn : Nat} {aC : Nat} {aI : Nat} {hd : Nat} {aS : Nat} {bs : Nat} {f : Nat → Nat} {fn : List Value} {sd : Nat} {g : Nat → Nat} {ix : Nat → Nat} {fd : List Value} {c : Nat} {S : Nat → Nat} {k : Nat} {s : Nat} {T : Nat → Nat} {ns : Nat} {m : Nat} {st : Nat → Nat} {lv : Nat → Nat} (fsd : fn[0]? = some (.int (nI sd))) (faC : fn[2]? = some (.ref aC)) (faI : fn[3]? = some (.ref aI)) (fdc : fd[0]? = some (.int (nI c))) (faS : fd[1]? = some (.ref aS)) (hfb : ∀ j, f j < 4096) (hg : ∀ j, g j < 4096) (hSb : ∀ j, S j < 4097) (hgc : ∀ i, i < 4 ^ m → g i = cvc T m i) (hV : VT T ns) (hL : LvL m c st lv) (hag : ∀ j, j ≤ c → S j = st j) (hc : c ≤ 496) (hm6 : m ≤ 6) (hk : k < c) (hix : ∀ j, ix j < 4096) (hsd : sd = 2 ^ m) (hN : NumOK T m g ix) (hs4 : s < 4) : MU l yX7_countSteps wsX7_countSteps 4 94 (dC, dI) (tyK cI cZ cS) [(hz, .inr (7, [.ref hn, .ref hd, .int (nI bs), .ref aB])), (aB, .inl (cI, 64, .inl (nA f))), (hn, .inr (2, fn)), (aC, .inl (cI, 4096, .inl (nA g))), (aI, .inl (cI, 4096, .inl (nA ix))), (hd, .inr (1, fd)), (aS, .inl (cI, 497, .inl (nA S)))] [] [.ref hz, .int (nI k), .int (nI s)] (fun rv_ (u_ : Nat × (Nat → Nat)) => rI (fun r => ∃ n : Nat, r = nI n ∧ WKend T m c st lv s n k ∧ (∀ j, u_.2 j < 4096)) rv_) (fun (u_ : Nat × (Nat → Nat)) => [(hz, .inr (7, [.ref hn, .ref hd, .int (nI u_.1), .ref aB])), (aB, .inl (cI, 64, .inl (nA u_.2))), (hn, .inr (2, fn)), (aC, .inl (cI, 4096, .inl (nA g))), (aI, .inl (cI, 4096, .inl (nA ix))), (hd, .inr (1, fd)), (aS, .inl (cI, 497, .inl (nA S)))]) := by
  refine mu_of (by decide) rfl (Nat.le_of_ble_eq_true rfl) ?_
  intro pp ee ss mm bb mt cd Q A CFx hP hK hD hS hA hTr hret ls hl
  obtain ⟨hex, hby, hml, hown, hts⟩ := id CFx
  have hl : lv_has ls 5 [(0, .ref hz), (1, .int (nI k)), (2, .int (nI s))] := hl
  refine lv_iconst (v := nI 0) hex hby dX7_countSteps_0 rfl ?_
  refine lv_istore_n (lv' := [(3, .int (nI 0)), (0, .ref hz), (1, .int (nI k)), (2, .int (nI s))]) hex hby dX7_countSteps_1 rfl hl (by decide) rfl (fun ls hl => ?_)
  refine lv_aload_n hex hby dX7_countSteps_2 rfl (lv_at hl 1 rfl) ?_
  refine lv_iload_n hex hby dX7_countSteps_3 rfl (lv_at hl 2 rfl) ?_
  refine lv_iload_n hex hby dX7_countSteps_4 rfl (lv_at hl 3 rfl) ?_
  refine mu_Vi (As := [.int (nI k), .int (nI s)]) (rest := []) (wr := []) CFx (c_X7_findLowest (hz := hz) (aB := aB) (hn := hn) (aC := aC) (aI := aI) (hd := hd) (aS := aS) (bs := bs) (f := f) (fn := fn) (sd := sd) (g := g) (ix := ix) (fd := fd) (c := c) (S := S) (k := k) (s := s) (T := T) (ns := ns) (m := m) (st := st) (lv := lv) fsd faC faI fdc faS hfb hg hSb hgc hV hL hag hc hm6 hk hix hsd hN hs4) 2 gX7_countSteps_X7_findLowest rfl nd_X7_findLowest ⟨Nat.le_of_ble_eq_true rfl, Nat.le_of_ble_eq_true rfl⟩ hK hP hD hS hA [0, 1, 2, 3, 4, 5, 6] [] rfl rfl (by decide) (by decide) (by decide) TR.nil rfl rfl rfl hl.1 rfl (Nat.le_of_ble_eq_true rfl) dX7_countSteps_5 ⟨Nat.le_refl _, Nat.le_refl _⟩ (fun r_1 u H locs hr_1 hP hD hS => ?_)
  obtain ⟨b0_, f0_⟩ := u
  dsimp only at hr_1 hP hD
  have hP : va_P (dC, dI) vwCl [(hz, .inr (7, [.ref hn, .ref hd, .int (nI b0_), .ref aB])), (aB, .inl (cI, 64, .inl (nA f0_))), (hn, .inr (2, fn)), (aC, .inl (cI, 4096, .inl (nA g))), (aI, .inl (cI, 4096, .inl (nA ix))), (hd, .inr (1, fd)), (aS, .inl (cI, 497, .inl (nA S)))] H := hP
  have hD : va_D A [(hz, .inr (7, [.ref hn, .ref hd, .int (nI b0_), .ref aB])), (aB, .inl (cI, 64, .inl (nA f0_))), (hn, .inr (2, fn)), (aC, .inl (cI, 4096, .inl (nA g))), (aI, .inl (cI, 4096, .inl (nA ix))), (hd, .inr (1, fd)), (aS, .inl (cI, 497, .inl (nA S)))] := hD
  rcases hr_1 with ⟨v0_, rfl, hl1, hl2⟩ | ⟨rfl, hl1, hl2⟩
  · have hvc0 := hl1.1.2.1
    refine lv_istore (lv' := [(4, .int (nI v0_)), (3, .int (nI 0)), (0, .ref hz), (1, .int (nI k)), (2, .int (nI s))]) hex hby dX7_countSteps_8 hl (by decide) rfl (fun ls hl => ?_)
    have loop10 : ∀ (nn : Nat) (n : Nat) (x : Int) (u : Nat) (b2 : Nat) (f2 : Nat → Nat), (64 - n) < nn → (∀ j, f2 j < 4096) → (u < c) → (WK T m c st lv s n k u) → (NxJ T m c st lv s u x) → (-1 ≤ x ∧ x < 4096) → (n + msr T m st lv s u ≤ 63) → ∀ (H : Heap) (locs : List Loc), va_P (dC, dI) vwCl [(hz, .inr (7, [.ref hn, .ref hd, .int (nI b2), .ref aB])), (aB, .inl (cI, 64, .inl (nA f2))), (hn, .inr (2, fn)), (aC, .inl (cI, 4096, .inl (nA g))), (aI, .inl (cI, 4096, .inl (nA ix))), (hd, .inr (1, fd)), (aS, .inl (cI, 497, .inl (nA S)))] H → va_D A [(hz, .inr (7, [.ref hn, .ref hd, .int (nI b2), .ref aB])), (aB, .inl (cI, 64, .inl (nA f2))), (hn, .inr (2, fn)), (aC, .inl (cI, 4096, .inl (nA g))), (aI, .inl (cI, 4096, .inl (nA ix))), (hd, .inr (1, fd)), (aS, .inl (cI, 497, .inl (nA S)))] → va_S A ss.heap H locs → ∀ ls : Array Slot, lv_has ls 5 [(4, .int (zI x)), (3, .int (nI n)), (0, .ref hz), (1, .int (nI k)), (2, .int (nI s))] → W pp l ee (rmO 4 94) ss mm ([.ref hz, .int (nI k), .int (nI s)] : List Value).toArray bb mt cd H locs 0 0 Q (F0 mm 10 ls []) := by
      intro nn
      induction nn with
      | zero => intro n x u b2 f2 hms10; exact absurd hms10 (Nat.not_lt_zero _)
      | succ nn ih10 =>
        intro n x u b2 f2 hms10 hf2 huc hwk hx hxr hnm H locs hP hD hS ls hl
        refine lv_iload hex hby dX7_countSteps_10 (lv_at hl 0 rfl) ?_
        refine lv_iconst (v := zI (-1)) hex hby dX7_countSteps_12 rfl ?_
        refine ni_icmp_eq (tgt := 37) (a := x) (b := -1) hex hby dX7_countSteps_13 (by decide) (zI_toInt (by omega) (by omega)) (zI_toInt (by omega) (by omega)) (fun c_4 => ?_) (fun c_4 => ?_)
        · have hend : ∀ w, ¬ Nbr T m c st lv s u w := by
            rcases hx with ⟨_, z⟩ | ⟨v, z, _⟩
            · exact z
            · omega
          refine lv_iload_n hex hby dX7_countSteps_37 rfl (lv_at hl 1 rfl) ?_
          exact hret _ (b2, f2) _ _ _ _ _ (Or.inl ⟨rfl, _, rfl, rfl, dX7_countSteps_38⟩) ⟨_, rfl, ⟨n, rfl, ⟨u, hwk, hend⟩, hf2⟩⟩ hP hD hS
        · refine lv_iload_n hex hby dX7_countSteps_16 rfl (lv_at hl 1 rfl) ?_
          refine lv_bipush (v := nI 64) hex hby dX7_countSteps_17 rfl ?_
          refine nv_icmp_ge (tgt := 37) hex hby dX7_countSteps_19 (by decide) (by omega) (by omega) (fun c_5 => absurd c_5 (by omega)) (fun c_5 => ?_)
          obtain ⟨v, rfl, hlv_⟩ : ∃ v : Nat, x = (v : Int) ∧ LowN T m c st lv s u v := by
            rcases hx with ⟨z, _⟩ | z
            · omega
            · exact z
          rw [zI_nat] at hl
          have hvc := hlv_.1.2.1
          have hms := msr_lt hV hL hs4 huc hlv_.1
          refine lv_iinc (v := nI (n + 1)) (lv' := [(3, .int (nI (n + 1))), (4, .int (nI v)), (0, .ref hz), (1, .int (nI k)), (2, .int (nI s))]) hex hby dX7_countSteps_22 hl (k := 1) rfl (ni_inc _) (by decide) rfl (fun ls hl => ?_)
          refine lv_aload_n hex hby dX7_countSteps_25 rfl (lv_at hl 2 rfl) ?_
          refine lv_iload hex hby dX7_countSteps_26 (lv_at hl 1 rfl) ?_
          refine lv_iload_n hex hby dX7_countSteps_28 rfl (lv_at hl 4 rfl) ?_
          refine mu_Vi (As := [.int (nI v), .int (nI s)]) (rest := []) (wr := []) CFx (c_X7_findLowest (hz := hz) (aB := aB) (hn := hn) (aC := aC) (aI := aI) (hd := hd) (aS := aS) (bs := b2) (f := f2) (fn := fn) (sd := sd) (g := g) (ix := ix) (fd := fd) (c := c) (S := S) (k := v) (s := s) (T := T) (ns := ns) (m := m) (st := st) (lv := lv) fsd faC faI fdc faS hf2 hg hSb hgc hV hL hag hc hm6 hvc hix hsd hN hs4) 2 gX7_countSteps_X7_findLowest rfl nd_X7_findLowest ⟨Nat.le_of_ble_eq_true rfl, Nat.le_of_ble_eq_true rfl⟩ hK hP hD hS hA [0, 1, 2, 3, 4, 5, 6] [] rfl rfl (by decide) (by decide) (by decide) TR.nil rfl rfl rfl hl.1 rfl (Nat.le_of_ble_eq_true rfl) dX7_countSteps_29 ⟨Nat.le_refl _, Nat.le_refl _⟩ (fun r_6 u H locs hr_6 hP hD hS => ?_)
          obtain ⟨b3, f3⟩ := u
          dsimp only at hr_6 hP hD
          have hP : va_P (dC, dI) vwCl [(hz, .inr (7, [.ref hn, .ref hd, .int (nI b3), .ref aB])), (aB, .inl (cI, 64, .inl (nA f3))), (hn, .inr (2, fn)), (aC, .inl (cI, 4096, .inl (nA g))), (aI, .inl (cI, 4096, .inl (nA ix))), (hd, .inr (1, fd)), (aS, .inl (cI, 497, .inl (nA S)))] H := hP
          have hD : va_D A [(hz, .inr (7, [.ref hn, .ref hd, .int (nI b3), .ref aB])), (aB, .inl (cI, 64, .inl (nA f3))), (hn, .inr (2, fn)), (aC, .inl (cI, 4096, .inl (nA g))), (aI, .inl (cI, 4096, .inl (nA ix))), (hd, .inr (1, fd)), (aS, .inl (cI, 497, .inl (nA S)))] := hD
          rcases hr_6 with ⟨v1_, rfl, hm1, hm2⟩ | ⟨rfl, hm1, hm2⟩
          · have hvc1 := hm1.1.2.1
            refine lv_istore (lv' := [(4, .int (nI v1_)), (3, .int (nI (n + 1))), (0, .ref hz), (1, .int (nI k)), (2, .int (nI s))]) hex hby dX7_countSteps_32 hl (by decide) rfl (fun ls hl => ?_)
            refine lv_goto (tgt := 10) hex hby dX7_countSteps_34 (by decide) ?_
            rw [ni_nz v1_] at hl
            exact ih10 (n + 1) (v1_ : Int) v b3 f3 (by omega) hm2 hvc (⟨u, hwk, hlv_⟩) (Or.inr ⟨_, rfl, hm1⟩) (by omega) (by omega) _ _ hP hD hS _ (lv_sub hl [0, 1, 2, 3, 4] rfl)
          · refine lv_istore (lv' := [(4, .int (zI (-1))), (3, .int (nI (n + 1))), (0, .ref hz), (1, .int (nI k)), (2, .int (nI s))]) hex hby dX7_countSteps_32 hl (by decide) rfl (fun ls hl => ?_)
            refine lv_goto (tgt := 10) hex hby dX7_countSteps_34 (by decide) ?_
            exact ih10 (n + 1) (-1) v b3 f3 (by omega) hm2 hvc (⟨u, hwk, hlv_⟩) (Or.inl ⟨rfl, hm1⟩) (by omega) (by omega) _ _ hP hD hS _ (lv_sub hl [0, 1, 2, 3, 4] rfl)
    rw [ni_nz v0_] at hl
    exact loop10 _ 0 (v0_ : Int) k b0_ f0_ (Nat.lt_succ_self _) hl2 hk rfl (Or.inr ⟨_, rfl, hl1⟩) (by omega) (by have := msr_le hV hL hm6 (s := s) hk; omega) _ _ hP hD hS _ (lv_sub hl [0, 1, 2, 3, 4] rfl)
  · refine lv_istore (lv' := [(4, .int (zI (-1))), (3, .int (nI 0)), (0, .ref hz), (1, .int (nI k)), (2, .int (nI s))]) hex hby dX7_countSteps_8 hl (by decide) rfl (fun ls hl => ?_)
    have loop10 : ∀ (nn : Nat) (n : Nat) (x : Int) (u : Nat) (b2 : Nat) (f2 : Nat → Nat), (64 - n) < nn → (∀ j, f2 j < 4096) → (u < c) → (WK T m c st lv s n k u) → (NxJ T m c st lv s u x) → (-1 ≤ x ∧ x < 4096) → (n + msr T m st lv s u ≤ 63) → ∀ (H : Heap) (locs : List Loc), va_P (dC, dI) vwCl [(hz, .inr (7, [.ref hn, .ref hd, .int (nI b2), .ref aB])), (aB, .inl (cI, 64, .inl (nA f2))), (hn, .inr (2, fn)), (aC, .inl (cI, 4096, .inl (nA g))), (aI, .inl (cI, 4096, .inl (nA ix))), (hd, .inr (1, fd)), (aS, .inl (cI, 497, .inl (nA S)))] H → va_D A [(hz, .inr (7, [.ref hn, .ref hd, .int (nI b2), .ref aB])), (aB, .inl (cI, 64, .inl (nA f2))), (hn, .inr (2, fn)), (aC, .inl (cI, 4096, .inl (nA g))), (aI, .inl (cI, 4096, .inl (nA ix))), (hd, .inr (1, fd)), (aS, .inl (cI, 497, .inl (nA S)))] → va_S A ss.heap H locs → ∀ ls : Array Slot, lv_has ls 5 [(4, .int (zI x)), (3, .int (nI n)), (0, .ref hz), (1, .int (nI k)), (2, .int (nI s))] → W pp l ee (rmO 4 94) ss mm ([.ref hz, .int (nI k), .int (nI s)] : List Value).toArray bb mt cd H locs 0 0 Q (F0 mm 10 ls []) := by
      intro nn
      induction nn with
      | zero => intro n x u b2 f2 hms10; exact absurd hms10 (Nat.not_lt_zero _)
      | succ nn ih10 =>
        intro n x u b2 f2 hms10 hf2 huc hwk hx hxr hnm H locs hP hD hS ls hl
        refine lv_iload hex hby dX7_countSteps_10 (lv_at hl 0 rfl) ?_
        refine lv_iconst (v := zI (-1)) hex hby dX7_countSteps_12 rfl ?_
        refine ni_icmp_eq (tgt := 37) (a := x) (b := -1) hex hby dX7_countSteps_13 (by decide) (zI_toInt (by omega) (by omega)) (zI_toInt (by omega) (by omega)) (fun c_9 => ?_) (fun c_9 => ?_)
        · have hend : ∀ w, ¬ Nbr T m c st lv s u w := by
            rcases hx with ⟨_, z⟩ | ⟨v, z, _⟩
            · exact z
            · omega
          refine lv_iload_n hex hby dX7_countSteps_37 rfl (lv_at hl 1 rfl) ?_
          exact hret _ (b2, f2) _ _ _ _ _ (Or.inl ⟨rfl, _, rfl, rfl, dX7_countSteps_38⟩) ⟨_, rfl, ⟨n, rfl, ⟨u, hwk, hend⟩, hf2⟩⟩ hP hD hS
        · refine lv_iload_n hex hby dX7_countSteps_16 rfl (lv_at hl 1 rfl) ?_
          refine lv_bipush (v := nI 64) hex hby dX7_countSteps_17 rfl ?_
          refine nv_icmp_ge (tgt := 37) hex hby dX7_countSteps_19 (by decide) (by omega) (by omega) (fun c_10 => absurd c_10 (by omega)) (fun c_10 => ?_)
          obtain ⟨v, rfl, hlv_⟩ : ∃ v : Nat, x = (v : Int) ∧ LowN T m c st lv s u v := by
            rcases hx with ⟨z, _⟩ | z
            · omega
            · exact z
          rw [zI_nat] at hl
          have hvc := hlv_.1.2.1
          have hms := msr_lt hV hL hs4 huc hlv_.1
          refine lv_iinc (v := nI (n + 1)) (lv' := [(3, .int (nI (n + 1))), (4, .int (nI v)), (0, .ref hz), (1, .int (nI k)), (2, .int (nI s))]) hex hby dX7_countSteps_22 hl (k := 1) rfl (ni_inc _) (by decide) rfl (fun ls hl => ?_)
          refine lv_aload_n hex hby dX7_countSteps_25 rfl (lv_at hl 2 rfl) ?_
          refine lv_iload hex hby dX7_countSteps_26 (lv_at hl 1 rfl) ?_
          refine lv_iload_n hex hby dX7_countSteps_28 rfl (lv_at hl 4 rfl) ?_
          refine mu_Vi (As := [.int (nI v), .int (nI s)]) (rest := []) (wr := []) CFx (c_X7_findLowest (hz := hz) (aB := aB) (hn := hn) (aC := aC) (aI := aI) (hd := hd) (aS := aS) (bs := b2) (f := f2) (fn := fn) (sd := sd) (g := g) (ix := ix) (fd := fd) (c := c) (S := S) (k := v) (s := s) (T := T) (ns := ns) (m := m) (st := st) (lv := lv) fsd faC faI fdc faS hf2 hg hSb hgc hV hL hag hc hm6 hvc hix hsd hN hs4) 2 gX7_countSteps_X7_findLowest rfl nd_X7_findLowest ⟨Nat.le_of_ble_eq_true rfl, Nat.le_of_ble_eq_true rfl⟩ hK hP hD hS hA [0, 1, 2, 3, 4, 5, 6] [] rfl rfl (by decide) (by decide) (by decide) TR.nil rfl rfl rfl hl.1 rfl (Nat.le_of_ble_eq_true rfl) dX7_countSteps_29 ⟨Nat.le_refl _, Nat.le_refl _⟩ (fun r_11 u H locs hr_11 hP hD hS => ?_)
          obtain ⟨b3, f3⟩ := u
          dsimp only at hr_11 hP hD
          have hP : va_P (dC, dI) vwCl [(hz, .inr (7, [.ref hn, .ref hd, .int (nI b3), .ref aB])), (aB, .inl (cI, 64, .inl (nA f3))), (hn, .inr (2, fn)), (aC, .inl (cI, 4096, .inl (nA g))), (aI, .inl (cI, 4096, .inl (nA ix))), (hd, .inr (1, fd)), (aS, .inl (cI, 497, .inl (nA S)))] H := hP
          have hD : va_D A [(hz, .inr (7, [.ref hn, .ref hd, .int (nI b3), .ref aB])), (aB, .inl (cI, 64, .inl (nA f3))), (hn, .inr (2, fn)), (aC, .inl (cI, 4096, .inl (nA g))), (aI, .inl (cI, 4096, .inl (nA ix))), (hd, .inr (1, fd)), (aS, .inl (cI, 497, .inl (nA S)))] := hD
          rcases hr_11 with ⟨v1_, rfl, hm1, hm2⟩ | ⟨rfl, hm1, hm2⟩
          · have hvc1 := hm1.1.2.1
            refine lv_istore (lv' := [(4, .int (nI v1_)), (3, .int (nI (n + 1))), (0, .ref hz), (1, .int (nI k)), (2, .int (nI s))]) hex hby dX7_countSteps_32 hl (by decide) rfl (fun ls hl => ?_)
            refine lv_goto (tgt := 10) hex hby dX7_countSteps_34 (by decide) ?_
            rw [ni_nz v1_] at hl
            exact ih10 (n + 1) (v1_ : Int) v b3 f3 (by omega) hm2 hvc (⟨u, hwk, hlv_⟩) (Or.inr ⟨_, rfl, hm1⟩) (by omega) (by omega) _ _ hP hD hS _ (lv_sub hl [0, 1, 2, 3, 4] rfl)
          · refine lv_istore (lv' := [(4, .int (zI (-1))), (3, .int (nI (n + 1))), (0, .ref hz), (1, .int (nI k)), (2, .int (nI s))]) hex hby dX7_countSteps_32 hl (by decide) rfl (fun ls hl => ?_)
            refine lv_goto (tgt := 10) hex hby dX7_countSteps_34 (by decide) ?_
            exact ih10 (n + 1) (-1) v b3 f3 (by omega) hm2 hvc (⟨u, hwk, hlv_⟩) (Or.inl ⟨rfl, hm1⟩) (by omega) (by omega) _ _ hP hD hS _ (lv_sub hl [0, 1, 2, 3, 4] rfl)
    exact loop10 _ 0 (-1) k b0_ f0_ (Nat.lt_succ_self _) hl2 hk rfl (Or.inl ⟨rfl, hl1⟩) (by omega) (by have := msr_le hV hL hm6 (s := s) hk; omega) _ _ hP hD hS _ (lv_sub hl [0, 1, 2, 3, 4] rfl)
theorem nd_X7_leafAfter : ndV yX7_leafAfter RX7 3 := by decide +kernel
set_option maxHeartbeats 4000000 in
set_option maxRecDepth 100000 in
theorem c_X7_leafAfter {hz : Nat} {aB : Nat} {hn : Nat} {aC : Nat} {aI : Nat} {hd : Nat} {aS : Nat} {bs : Nat} {f : Nat → Nat} {fn : List Value} {sd : Nat} {g : Nat → Nat} {ix : Nat → Nat} {fd : List Value} {c : Nat} {S : Nat → Nat} {k : Nat} {s : Nat} {n : Nat} {T : Nat → Nat} {ns : Nat} {m : Nat} {st : Nat → Nat} {lv : Nat → Nat} (fsd : fn[0]? = some (.int (nI sd))) (faC : fn[2]? = some (.ref aC)) (faI : fn[3]? = some (.ref aI)) (fdc : fd[0]? = some (.int (nI c))) (faS : fd[1]? = some (.ref aS)) (hfb : ∀ j, f j < 4096) (hg : ∀ j, g j < 4096) (hSb : ∀ j, S j < 4097) (hgc : ∀ i, i < 4 ^ m → g i = cvc T m i) (hV : VT T ns) (hL : LvL m c st lv) (hag : ∀ j, j ≤ c → S j = st j) (hc : c ≤ 496) (hm6 : m ≤ 6) (hk : k < c) (hix : ∀ j, ix j < 4096) (hsd : sd = 2 ^ m) (hN : NumOK T m g ix) (hs4 : s < 4) (hn0 : n < 2147483648) : MU l yX7_leafAfter wsX7_leafAfter 4 94 (dC, dI) (tyK cI cZ cS) [(hz, .inr (7, [.ref hn, .ref hd, .int (nI bs), .ref aB])), (aB, .inl (cI, 64, .inl (nA f))), (hn, .inr (2, fn)), (aC, .inl (cI, 4096, .inl (nA g))), (aI, .inl (cI, 4096, .inl (nA ix))), (hd, .inr (1, fd)), (aS, .inl (cI, 497, .inl (nA S)))] [] [.ref hz, .int (nI k), .int (nI s), .int (nI n)] (fun rv_ (u_ : Nat × (Nat → Nat)) => rI (fun r => (∃ v : Nat, r = nI v ∧ WK T m c st lv s n k v ∧ (∀ j, u_.2 j < 4096)) ∨ (r = zI (-1) ∧ WKlt T m c st lv s k n ∧ (∀ j, u_.2 j < 4096))) rv_) (fun (u_ : Nat × (Nat → Nat)) => [(hz, .inr (7, [.ref hn, .ref hd, .int (nI u_.1), .ref aB])), (aB, .inl (cI, 64, .inl (nA u_.2))), (hn, .inr (2, fn)), (aC, .inl (cI, 4096, .inl (nA g))), (aI, .inl (cI, 4096, .inl (nA ix))), (hd, .inr (1, fd)), (aS, .inl (cI, 497, .inl (nA S)))]) := by
  refine mu_of (by decide) rfl (Nat.le_of_ble_eq_true rfl) ?_
  intro pp ee ss mm bb mt cd Q A CFx hP hK hD hS hA hTr hret ls hl
  obtain ⟨hex, hby, hml, hown, hts⟩ := id CFx
  have hl : lv_has ls 7 [(0, .ref hz), (1, .int (nI k)), (2, .int (nI s)), (3, .int (nI n))] := hl
  refine lv_iload_n hex hby dX7_leafAfter_0 rfl (lv_at hl 1 rfl) ?_
  refine lv_istore (lv' := [(4, .int (nI k)), (0, .ref hz), (1, .int (nI k)), (2, .int (nI s)), (3, .int (nI n))]) hex hby dX7_leafAfter_1 hl (by decide) rfl (fun ls hl => ?_)
  refine lv_iload_n hex hby dX7_leafAfter_3 rfl (lv_at hl 4 rfl) ?_
  refine lv_bipush (v := nI 64) hex hby dX7_leafAfter_4 rfl ?_
  refine va_mmin hex hby (hml.trans hl.1.symm) hown (hts _ (List.mem_of_getElem? (i := 1) rfl)) (hts _ (List.mem_of_getElem? (i := 2) rfl)) (hts _ (List.mem_of_getElem? (i := 3) rfl)) (hts _ (List.mem_of_getElem? (i := 4) rfl)) (Nat.le_of_ble_eq_true rfl) (Nat.le_of_ble_eq_true rfl) (Nat.le_refl _) (Nat.le_refl _) dX7_leafAfter_6 ?_
  refine nv_top (nI_min (by omega) (by omega)) ?_
  refine lv_istore (lv' := [(5, .int (nI (min n 64))), (4, .int (nI k)), (0, .ref hz), (1, .int (nI k)), (2, .int (nI s)), (3, .int (nI n))]) hex hby dX7_leafAfter_9 hl (by decide) rfl (fun ls hl => ?_)
  refine lv_iconst (v := nI 0) hex hby dX7_leafAfter_11 rfl ?_
  refine lv_istore (lv' := [(6, .int (nI 0)), (5, .int (nI (min n 64))), (4, .int (nI k)), (0, .ref hz), (1, .int (nI k)), (2, .int (nI s)), (3, .int (nI n))]) hex hby dX7_leafAfter_12 hl (by decide) rfl (fun ls hl => ?_)
  have loop14 : ∀ (nn : Nat) (x : Int) (i : Nat) (b2 : Nat) (f2 : Nat → Nat), (n - i) < nn → (∀ j, f2 j < 4096) → (i ≤ min n 64) → (HrJ T m c st lv s k i x) → (-1 ≤ x ∧ x < 4096) → ∀ (H : Heap) (locs : List Loc), va_P (dC, dI) vwCl [(hz, .inr (7, [.ref hn, .ref hd, .int (nI b2), .ref aB])), (aB, .inl (cI, 64, .inl (nA f2))), (hn, .inr (2, fn)), (aC, .inl (cI, 4096, .inl (nA g))), (aI, .inl (cI, 4096, .inl (nA ix))), (hd, .inr (1, fd)), (aS, .inl (cI, 497, .inl (nA S)))] H → va_D A [(hz, .inr (7, [.ref hn, .ref hd, .int (nI b2), .ref aB])), (aB, .inl (cI, 64, .inl (nA f2))), (hn, .inr (2, fn)), (aC, .inl (cI, 4096, .inl (nA g))), (aI, .inl (cI, 4096, .inl (nA ix))), (hd, .inr (1, fd)), (aS, .inl (cI, 497, .inl (nA S)))] → va_S A ss.heap H locs → ∀ ls : Array Slot, lv_has ls 7 [(6, .int (nI i)), (5, .int (nI (min n 64))), (4, .int (zI x)), (0, .ref hz), (1, .int (nI k)), (2, .int (nI s)), (3, .int (nI n))] → W pp l ee (rmO 4 94) ss mm ([.ref hz, .int (nI k), .int (nI s), .int (nI n)] : List Value).toArray bb mt cd H locs 0 0 Q (F0 mm 14 ls []) := by
    intro nn
    induction nn with
    | zero => intro x i b2 f2 hms14; exact absurd hms14 (Nat.not_lt_zero _)
    | succ nn ih14 =>
      intro x i b2 f2 hms14 hf2 hi hx hxr H locs hP hD hS ls hl
      refine lv_iload hex hby dX7_leafAfter_14 (lv_at hl 0 rfl) ?_
      refine lv_iload hex hby dX7_leafAfter_16 (lv_at hl 1 rfl) ?_
      refine nv_icmp_ge (tgt := 42) hex hby dX7_leafAfter_18 (by decide) (by omega) (by omega) (fun c_1 => ?_) (fun c_1 => ?_)
      · rcases hx with ⟨rfl, hj⟩ | ⟨v, rfl, hv⟩
        · refine lv_iload hex hby dX7_leafAfter_42 (lv_at hl 2 rfl) ?_
          exact hret _ (b2, f2) _ _ _ _ _ (Or.inl ⟨rfl, _, rfl, rfl, dX7_leafAfter_44⟩) ⟨_, rfl, Or.inr ⟨rfl, (by obtain ⟨j, h1, h2⟩ := hj; exact ⟨j, by omega, h2⟩), hf2⟩⟩ hP hD hS
        · rw [zI_nat] at hl
          refine lv_iload hex hby dX7_leafAfter_42 (lv_at hl 2 rfl) ?_
          exact hret _ (b2, f2) _ _ _ _ _ (Or.inl ⟨rfl, _, rfl, rfl, dX7_leafAfter_44⟩) ⟨_, rfl, Or.inl ⟨v, rfl, (by have := hv.le63 hV hL hm6 hs4 hk; rw [show n = i by omega]; exact hv), hf2⟩⟩ hP hD hS
      · refine lv_iload hex hby dX7_leafAfter_21 (lv_at hl 2 rfl) ?_
        refine lv_iconst (v := zI (-1)) hex hby dX7_leafAfter_23 rfl ?_
        refine ni_icmp_eq (tgt := 42) (a := x) (b := -1) hex hby dX7_leafAfter_24 (by decide) (zI_toInt (by omega) (by omega)) (zI_toInt (by omega) (by omega)) (fun c_2 => ?_) (fun c_2 => ?_)
        · rcases hx with ⟨rfl, hj⟩ | ⟨v, rfl, hv⟩
          · refine lv_iload hex hby dX7_leafAfter_42 (lv_at hl 2 rfl) ?_
            exact hret _ (b2, f2) _ _ _ _ _ (Or.inl ⟨rfl, _, rfl, rfl, dX7_leafAfter_44⟩) ⟨_, rfl, Or.inr ⟨rfl, (by obtain ⟨j, h1, h2⟩ := hj; exact ⟨j, by omega, h2⟩), hf2⟩⟩ hP hD hS
          · omega
        · obtain ⟨v, rfl, hwv⟩ : ∃ v : Nat, x = (v : Int) ∧ WK T m c st lv s i k v := by
            rcases hx with ⟨z, _⟩ | z
            · omega
            · exact z
          rw [zI_nat] at hl
          have hvc := hwv.lt hk
          refine lv_aload_n hex hby dX7_leafAfter_27 rfl (lv_at hl 3 rfl) ?_
          refine lv_iload hex hby dX7_leafAfter_28 (lv_at hl 2 rfl) ?_
          refine lv_iload_n hex hby dX7_leafAfter_30 rfl (lv_at hl 5 rfl) ?_
          refine mu_Vi (As := [.int (nI v), .int (nI s)]) (rest := []) (wr := []) CFx (c_X7_findLowest (hz := hz) (aB := aB) (hn := hn) (aC := aC) (aI := aI) (hd := hd) (aS := aS) (bs := b2) (f := f2) (fn := fn) (sd := sd) (g := g) (ix := ix) (fd := fd) (c := c) (S := S) (k := v) (s := s) (T := T) (ns := ns) (m := m) (st := st) (lv := lv) fsd faC faI fdc faS hf2 hg hSb hgc hV hL hag hc hm6 hvc hix hsd hN hs4) 2 gX7_leafAfter_X7_findLowest rfl nd_X7_findLowest ⟨Nat.le_of_ble_eq_true rfl, Nat.le_of_ble_eq_true rfl⟩ hK hP hD hS hA [0, 1, 2, 3, 4, 5, 6] [] rfl rfl (by decide) (by decide) (by decide) TR.nil rfl rfl rfl hl.1 rfl (Nat.le_of_ble_eq_true rfl) dX7_leafAfter_31 ⟨Nat.le_refl _, Nat.le_refl _⟩ (fun r_3 u H locs hr_3 hP hD hS => ?_)
          obtain ⟨b3, f3⟩ := u
          dsimp only at hr_3 hP hD
          have hP : va_P (dC, dI) vwCl [(hz, .inr (7, [.ref hn, .ref hd, .int (nI b3), .ref aB])), (aB, .inl (cI, 64, .inl (nA f3))), (hn, .inr (2, fn)), (aC, .inl (cI, 4096, .inl (nA g))), (aI, .inl (cI, 4096, .inl (nA ix))), (hd, .inr (1, fd)), (aS, .inl (cI, 497, .inl (nA S)))] H := hP
          have hD : va_D A [(hz, .inr (7, [.ref hn, .ref hd, .int (nI b3), .ref aB])), (aB, .inl (cI, 64, .inl (nA f3))), (hn, .inr (2, fn)), (aC, .inl (cI, 4096, .inl (nA g))), (aI, .inl (cI, 4096, .inl (nA ix))), (hd, .inr (1, fd)), (aS, .inl (cI, 497, .inl (nA S)))] := hD
          rcases hr_3 with ⟨v1_, rfl, hm1, hm2⟩ | ⟨rfl, hm1, hm2⟩
          · have hvc1 := hm1.1.2.1
            refine lv_istore (lv' := [(4, .int (nI v1_)), (6, .int (nI i)), (5, .int (nI (min n 64))), (0, .ref hz), (1, .int (nI k)), (2, .int (nI s)), (3, .int (nI n))]) hex hby dX7_leafAfter_34 hl (by decide) rfl (fun ls hl => ?_)
            refine lv_iinc (v := nI (i + 1)) (lv' := [(6, .int (nI (i + 1))), (4, .int (nI v1_)), (5, .int (nI (min n 64))), (0, .ref hz), (1, .int (nI k)), (2, .int (nI s)), (3, .int (nI n))]) hex hby dX7_leafAfter_36 hl (k := 1) rfl (ni_inc _) (by decide) rfl (fun ls hl => ?_)
            refine lv_goto (tgt := 14) hex hby dX7_leafAfter_39 (by decide) ?_
            rw [ni_nz v1_] at hl
            exact ih14 (v1_ : Int) (i + 1) b3 f3 (by omega) hm2 (by omega) (Or.inr ⟨_, rfl, v, hwv, hm1⟩) (by omega) _ _ hP hD hS _ (lv_sub hl [0, 2, 1, 3, 4, 5, 6] rfl)
          · refine lv_istore (lv' := [(4, .int (zI (-1))), (6, .int (nI i)), (5, .int (nI (min n 64))), (0, .ref hz), (1, .int (nI k)), (2, .int (nI s)), (3, .int (nI n))]) hex hby dX7_leafAfter_34 hl (by decide) rfl (fun ls hl => ?_)
            refine lv_iinc (v := nI (i + 1)) (lv' := [(6, .int (nI (i + 1))), (4, .int (zI (-1))), (5, .int (nI (min n 64))), (0, .ref hz), (1, .int (nI k)), (2, .int (nI s)), (3, .int (nI n))]) hex hby dX7_leafAfter_36 hl (k := 1) rfl (ni_inc _) (by decide) rfl (fun ls hl => ?_)
            refine lv_goto (tgt := 14) hex hby dX7_leafAfter_39 (by decide) ?_
            exact ih14 (-1) (i + 1) b3 f3 (by omega) hm2 (by omega) (Or.inl ⟨rfl, i, by omega, v, hwv, hm1⟩) (by omega) _ _ hP hD hS _ (lv_sub hl [0, 2, 1, 3, 4, 5, 6] rfl)
  rw [ni_nz k] at hl
  exact loop14 _ (k : Int) 0 bs f (Nat.lt_succ_self _) hfb (by omega) (Or.inr ⟨k, rfl, rfl⟩) (by omega) _ _ hP hD hS _ (lv_sub hl [0, 1, 2, 3, 4, 5, 6] rfl)
end BAL
