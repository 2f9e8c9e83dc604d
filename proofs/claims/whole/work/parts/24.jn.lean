section JN
variable {l : Launch} {dC : Nat → ClassId} {dI : Nat → Nat → Nat} {cI cZ cS : ClassId}
theorem cgJ_yes {F G : Nat → Nat} {i : Nat} {x : Int} (h : ((gpf F G i : Nat) : Int) ≤ x) : cgJ F G (i + 1) x = cgJ F G i x + 1 := ctP_yes (p := fun p => ((gpf F G p : Nat) : Int) ≤ x) h
theorem cgJ_no {F G : Nat → Nat} {i : Nat} {x : Int} (h : ¬ ((gpf F G i : Nat) : Int) ≤ x) : cgJ F G (i + 1) x = cgJ F G i x := ctP_no (p := fun p => ((gpf F G p : Nat) : Int) ≤ x) h
theorem cgJ_le (F G : Nat → Nat) (N : Nat) (x : Int) : cgJ F G N x ≤ N := ctP_le _ N
def StJ (Kp : Nat → Prop) (i pa s : Nat) : Prop := (pa = 0 ∧ s = 0) ∨ ∃ p, p < i ∧ Kp p ∧ ctP Kp p + 1 = pa ∧ s = p + 1
theorem StJ.up {Kp : Nat → Prop} {i pa s : Nat} (h : StJ Kp i pa s) : StJ Kp (i + 1) pa s := h.imp (fun z => z) (fun ⟨p, h1, h2⟩ => ⟨p, by omega, h2⟩)
theorem gpf_le {F : Nat → Nat} (hF : ∀ j, F j < 4096) (G : Nat → Nat) (p : Nat) : gpf F G p < 4096 := by have := hF (p + 1); unfold gpf; omega
theorem iv_pos {R : Nat → Prop} {n : Nat} (h : ∃ i, i < n ∧ R i) : 0 < ctP (stI R) n := by
  obtain ⟨i, hi, hr⟩ := h
  obtain ⟨j, hj, hmin⟩ := pk_least (fun j => R j) ⟨i, hr⟩
  have hji : j ≤ i := by
    rcases Nat.lt_or_ge i j with q | q
    · exact absurd hr (hmin i q)
    · exact q
  have hs : stI R j := ⟨hj, by
    rcases Nat.eq_zero_or_pos j with z | z
    · exact Or.inl z
    · exact Or.inr (hmin (j - 1) (by omega))⟩
  have := ctP_sl (p := stI R) (show j < n by omega) hs
  omega
theorem JS.gapc {Kp : Nat → Prop} {cn im : Nat} {fs ls F G : Nat → Nat} (h : JS Kp cn im fs ls F G) (hgap : ∀ p, p < cn - 1 → G p + 1 < F (p + 1)) {q : Nat} (hq : q + 1 < im) : ls q + 1 < fs (q + 1) := by
  obtain ⟨a1, a2, a3, a4⟩ := h
  obtain ⟨p, hp, hk, hc⟩ := ctP_kth (p := Kp) (k := q) (n := cn - 1) (by omega)
  have e := a4 p hp hk
  rw [hc] at e
  rw [e.1, e.2]
  exact hgap p hp
theorem nd_X0_gapBehind : ndV yX0_gapBehind RX0 1 := by decide +kernel
theorem in_X0_gapBehind_X0 : ∀ w ∈ wsX00, w ∈ wsX0_gapBehind := fun _ h => List.mem_cons_of_mem _ (List.mem_append_right _ (h))
set_option maxHeartbeats 4000000 in
set_option maxRecDepth 100000 in
theorem c_X0_gapBehind {ho : Nat} {aF : Nat} {aG : Nat} {fo : List Value} {F : Nat → Nat} {G : Nat → Nat} {i : Nat} (faF : fo[1]? = some (.ref aF)) (faG : fo[2]? = some (.ref aG)) (hFb : ∀ j, F j < 4096) (hGb : ∀ j, G j < 4096) (hi0 : i + 1 < 505) (hg0 : G i + 1 < F (i + 1)) : RO l yX0_gapBehind wsX0_gapBehind 0 0 (dC, dI) (tyK cI cZ cS) [(ho, .inr (0, fo)), (aF, .inl (cI, 505, .inl (nA F))), (aG, .inl (cI, 505, .inl (nA G)))] [.ref ho, .int (nI i)] (rI (fun r => r = nI (gpf F G i))) := by
  refine ro_of (by decide) rfl (Nat.le_of_ble_eq_true rfl) ?_
  intro pp ee ss mm bb mt cd Q CFx hP hK hret ls hl
  obtain ⟨hex, hby, hml, hown, hts⟩ := id CFx
  have hl : lv_has ls 2 [(0, .ref ho), (1, .int (nI i))] := hl
  refine lv_aload_n hex hby dX0_gapBehind_0 rfl (lv_at hl 0 rfl) ?_
  refine nv_get (v := .ref aF) CFx in_X0_gapBehind_X0 hK hP 0 rfl rfl 1 (by decide) (List.mem_of_getElem? (i := 1) rfl) faF dX0_gapBehind_1 ?_
  refine lv_iload_n hex hby dX0_gapBehind_4 rfl (lv_at hl 1 rfl) ?_
  refine lv_iconst (v := nI 1) hex hby dX0_gapBehind_5 rfl ?_
  refine nv_iadd hex hby dX0_gapBehind_6 ?_
  refine nv_iald hex hby hK hP 1 0 rfl rfl (by omega) (by omega) dX0_gapBehind_7 ?_
  have hb_1 := hFb (i + 1)
  refine lv_aload_n hex hby dX0_gapBehind_8 rfl (lv_at hl 0 rfl) ?_
  refine nv_get (v := .ref aG) CFx in_X0_gapBehind_X0 hK hP 0 rfl rfl 2 (by decide) (List.mem_of_getElem? (i := 2) rfl) faG dX0_gapBehind_9 ?_
  refine lv_iload_n hex hby dX0_gapBehind_12 rfl (lv_at hl 1 rfl) ?_
  refine nv_iald hex hby hK hP 2 0 rfl rfl (by omega) (by omega) dX0_gapBehind_13 ?_
  have hb_2 := hGb i
  refine nv_isub hex hby dX0_gapBehind_14 (by omega) ?_
  refine lv_iconst (v := nI 1) hex hby dX0_gapBehind_15 rfl ?_
  refine nv_isub hex hby dX0_gapBehind_16 (by omega) ?_
  refine nv_top (y := nI (gpf F G i)) rfl ?_
  exact hret _ _ _ _ (Or.inl ⟨rfl, _, rfl, rfl, dX0_gapBehind_17⟩) ⟨_, rfl, rfl⟩
theorem nd_X0_countGapsUpTo : ndV yX0_countGapsUpTo RX0 1 := by decide +kernel
theorem in_X0_countGapsUpTo_X0 : ∀ w ∈ wsX00, w ∈ wsX0_countGapsUpTo := fun _ h => List.mem_cons_of_mem _ (List.mem_append_right _ (h))
set_option maxHeartbeats 4000000 in
set_option maxRecDepth 100000 in
theorem c_X0_countGapsUpTo {ho : Nat} {aF : Nat} {aG : Nat} {fo : List Value} {cn : Nat} {F : Nat → Nat} {G : Nat → Nat} {x : Int32} {xz : Int} (fcn : fo[0]? = some (.int (nI cn))) (faF : fo[1]? = some (.ref aF)) (faG : fo[2]? = some (.ref aG)) (hxz : x.toInt = xz) (hFb : ∀ j, F j < 4096) (hGb : ∀ j, G j < 4096) (hgap : ∀ p, p < cn - 1 → G p + 1 < F (p + 1)) (hcn : cn ≤ 505) : RO l yX0_countGapsUpTo wsX0_countGapsUpTo 1 21 (dC, dI) (tyK cI cZ cS) [(ho, .inr (0, fo)), (aF, .inl (cI, 505, .inl (nA F))), (aG, .inl (cI, 505, .inl (nA G)))] [.ref ho, .int x] (rI (fun r => r = nI (cgJ F G (cn - 1) xz))) := by
  refine ro_of (by decide) rfl (Nat.le_of_ble_eq_true rfl) ?_
  intro pp ee ss mm bb mt cd Q CFx hP hK hret ls hl
  obtain ⟨hex, hby, hml, hown, hts⟩ := id CFx
  have hl : lv_has ls 4 [(0, .ref ho), (1, .int x)] := hl
  refine lv_iconst (v := nI 0) hex hby dX0_countGapsUpTo_0 rfl ?_
  refine lv_istore_n (lv' := [(2, .int (nI 0)), (0, .ref ho), (1, .int x)]) hex hby dX0_countGapsUpTo_1 rfl hl (by decide) rfl (fun ls hl => ?_)
  refine lv_iconst (v := nI 0) hex hby dX0_countGapsUpTo_2 rfl ?_
  refine lv_istore_n (lv' := [(3, .int (nI 0)), (2, .int (nI 0)), (0, .ref ho), (1, .int x)]) hex hby dX0_countGapsUpTo_3 rfl hl (by decide) rfl (fun ls hl => ?_)
  have loop4 : ∀ (nn : Nat) (f : Nat) (i : Nat), (cn - i) < nn → (i ≤ cn - 1) → (f = cgJ F G i xz) → ∀ ls : Array Slot, lv_has ls 4 [(3, .int (nI i)), (2, .int (nI f)), (0, .ref ho), (1, .int x)] → W pp l ee (rmO 1 21) ss mm ([.ref ho, .int x] : List Value).toArray bb mt cd ss.heap [] 0 0 Q (F0 mm 4 ls []) := by
    intro nn
    induction nn with
    | zero => intro f i hms4; exact absurd hms4 (Nat.not_lt_zero _)
    | succ nn ih4 =>
      intro f i hms4 hi hf ls hl
      refine lv_iload_n hex hby dX0_countGapsUpTo_4 rfl (lv_at hl 0 rfl) ?_
      refine lv_iconst (v := nI 1) hex hby dX0_countGapsUpTo_5 rfl ?_
      refine nv_iadd hex hby dX0_countGapsUpTo_6 ?_
      refine lv_aload_n hex hby dX0_countGapsUpTo_7 rfl (lv_at hl 2 rfl) ?_
      refine nv_get (v := .int (nI cn)) CFx in_X0_countGapsUpTo_X0 hK hP 0 rfl rfl 0 (by decide) (List.mem_of_getElem? (i := 1) rfl) fcn dX0_countGapsUpTo_8 ?_
      refine nv_icmp_ge (tgt := 32) hex hby dX0_countGapsUpTo_11 (by decide) (by omega) (by omega) (fun c_1 => ?_) (fun c_1 => ?_)
      · have hei : i = cn - 1 := by omega
        refine lv_iload_n hex hby dX0_countGapsUpTo_32 rfl (lv_at hl 1 rfl) ?_
        exact hret _ _ _ _ (Or.inl ⟨rfl, _, rfl, rfl, dX0_countGapsUpTo_33⟩) ⟨_, rfl, (by rw [hf, hei])⟩
      · refine lv_aload_n hex hby dX0_countGapsUpTo_14 rfl (lv_at hl 2 rfl) ?_
        refine lv_iload_n hex hby dX0_countGapsUpTo_15 rfl (lv_at hl 0 rfl) ?_
        refine ro_Vi (As := [.int (nI i)]) (rest := []) CFx (c_X0_gapBehind (ho := ho) (aF := aF) (aG := aG) (fo := fo) (F := F) (G := G) (i := i) faF faG hFb hGb (by omega) (hgap i (by omega))) 1 gX0_countGapsUpTo_X0_gapBehind rfl nd_X0_gapBehind ⟨Nat.le_of_ble_eq_true rfl, Nat.le_of_ble_eq_true rfl⟩ hK hP [0, 1, 2] rfl rfl rfl rfl hl.1 rfl (Nat.le_of_ble_eq_true rfl) dX0_countGapsUpTo_16 ⟨Nat.le_refl _, Nat.le_refl _⟩ (fun r_2 hr_2 => ?_)
        obtain rfl := hr_2
        have hgl := gpf_le hFb G i
        refine lv_iload_n hex hby dX0_countGapsUpTo_19 rfl (lv_at hl 3 rfl) ?_
        refine ni_icmp_gt (tgt := 26) (a := ((gpf F G i : Nat) : Int)) (b := x.toInt) hex hby dX0_countGapsUpTo_20 (by decide) (ni_toInt (by omega)) rfl (fun c_3 => ?_) (fun c_3 => ?_)
        · have hcnd := c_3
          refine lv_iinc (v := nI (i + 1)) (lv' := [(3, .int (nI (i + 1))), (2, .int (nI f)), (0, .ref ho), (1, .int x)]) hex hby dX0_countGapsUpTo_26 hl (k := 0) rfl (ni_inc _) (by decide) rfl (fun ls hl => ?_)
          refine lv_goto (tgt := 4) hex hby dX0_countGapsUpTo_29 (by decide) ?_
          exact ih4 f (i + 1) (by omega) (by omega) (by rw [cgJ_no (by omega)]; exact hf) _ (lv_sub hl [0, 1, 2, 3] rfl)
        · have hcnd := c_3
          refine lv_iinc (v := nI (f + 1)) (lv' := [(2, .int (nI (f + 1))), (3, .int (nI i)), (0, .ref ho), (1, .int x)]) hex hby dX0_countGapsUpTo_23 hl (k := 1) rfl (ni_inc _) (by decide) rfl (fun ls hl => ?_)
          refine lv_iinc (v := nI (i + 1)) (lv' := [(3, .int (nI (i + 1))), (2, .int (nI (f + 1))), (0, .ref ho), (1, .int x)]) hex hby dX0_countGapsUpTo_26 hl (k := 1) rfl (ni_inc _) (by decide) rfl (fun ls hl => ?_)
          refine lv_goto (tgt := 4) hex hby dX0_countGapsUpTo_29 (by decide) ?_
          exact ih4 (f + 1) (i + 1) (by omega) (by omega) (by rw [cgJ_yes (by omega), hf]) _ (lv_sub hl [0, 1, 2, 3] rfl)
  exact loop4 _ 0 0 (Nat.lt_succ_self _) (by omega) rfl _ (lv_sub hl [0, 1, 2, 3] rfl)
theorem nd_X0_countJoined : ndV yX0_countJoined RX0 1 := by decide +kernel
theorem in_X0_countJoined_X0 : ∀ w ∈ wsX00, w ∈ wsX0_countJoined := fun _ h => List.mem_cons_of_mem _ (List.mem_append_right _ (h))
set_option maxHeartbeats 4000000 in
set_option maxRecDepth 100000 in
theorem c_X0_countJoined {ho : Nat} {fo : List Value} {cn : Nat} {k : Nat} (fcn : fo[0]? = some (.int (nI cn))) (hcn : cn ≤ 505) (hk0 : k < 2147483648) : RO l yX0_countJoined wsX0_countJoined 1 40 (dC, dI) (tyK cI cZ cS) [(ho, .inr (0, fo))] [.ref ho, .int (nI k)] (rI (fun r => r = nI (cn - k))) := by
  refine ro_of (by decide) rfl (Nat.le_of_ble_eq_true rfl) ?_
  intro pp ee ss mm bb mt cd Q CFx hP hK hret ls hl
  obtain ⟨hex, hby, hml, hown, hts⟩ := id CFx
  have hl : lv_has ls 2 [(0, .ref ho), (1, .int (nI k))] := hl
  refine lv_iconst (v := nI 0) hex hby dX0_countJoined_0 rfl ?_
  refine lv_aload_n hex hby dX0_countJoined_1 rfl (lv_at hl 0 rfl) ?_
  refine nv_get (v := .int (nI cn)) CFx in_X0_countJoined_X0 hK hP 0 rfl rfl 0 (by decide) (List.mem_of_getElem? (i := 1) rfl) fcn dX0_countJoined_2 ?_
  refine lv_iload_n hex hby dX0_countJoined_5 rfl (lv_at hl 1 rfl) ?_
  refine nz_isub (a := (cn : Int)) (b := (k : Int)) hex hby dX0_countJoined_6 (ni_nz _) (ni_nz _) ?_
  refine va_mmax hex hby (hml.trans hl.1.symm) hown (hts _ (List.mem_of_getElem? (i := 2) rfl)) (hts _ (List.mem_of_getElem? (i := 3) rfl)) (hts _ (List.mem_of_getElem? (i := 4) rfl)) (hts _ (List.mem_of_getElem? (i := 5) rfl)) (Nat.le_of_ble_eq_true rfl) (Nat.le_of_ble_eq_true rfl) (Nat.le_refl _) (Nat.le_refl _) dX0_countJoined_7 ?_
  refine nv_top (zI_max (a := (0 : Int)) (b := (cn : Int) - (k : Int)) (by rfl) (zI_toInt (by omega) (by omega))) ?_
  refine nv_top (y := nI (cn - k)) (by rw [ni_nz]; exact congrArg zI (by omega)) ?_
  exact hret _ _ _ _ (Or.inl ⟨rfl, _, rfl, rfl, dX0_countJoined_10⟩) ⟨_, rfl, rfl⟩
theorem nd_X0_findLongestJoined : ndV yX0_findLongestJoined RX0 1 := by decide +kernel
set_option maxHeartbeats 4000000 in
set_option maxRecDepth 100000 in
theorem c_X0_findLongestJoined {ho : Nat} {aF : Nat} {aG : Nat} {fo : List Value} {cn : Nat} {F : Nat → Nat} {G : Nat → Nat} {t : Nat} (fcn : fo[0]? = some (.int (nI cn))) (faF : fo[1]? = some (.ref aF)) (faG : fo[2]? = some (.ref aG)) (hFb : ∀ j, F j < 4096) (hGb : ∀ j, G j < 4096) (hgap : ∀ p, p < cn - 1 → G p + 1 < F (p + 1)) (hcn : cn ≤ 505) (ht : t ≤ cn - 1) : RO l yX0_findLongestJoined wsX0_findLongestJoined 2 44 (dC, dI) (tyK cI cZ cS) [(ho, .inr (0, fo)), (aF, .inl (cI, 505, .inl (nA F))), (aG, .inl (cI, 505, .inl (nA G)))] [.ref ho, .int (nI t)] (rI (fun r => ∃ Lg : Nat, r = nI Lg ∧ Lg ≤ 4096 ∧ LgOK F G (cn - 1) t Lg)) := by
  refine ro_of (by decide) rfl (Nat.le_of_ble_eq_true rfl) ?_
  intro pp ee ss mm bb mt cd Q CFx hP hK hret ls hl
  obtain ⟨hex, hby, hml, hown, hts⟩ := id CFx
  have hl : lv_has ls 6 [(0, .ref ho), (1, .int (nI t))] := hl
  refine lv_iconst (v := nI 0) hex hby dX0_findLongestJoined_0 rfl ?_
  refine lv_istore_n (lv' := [(2, .int (nI 0)), (0, .ref ho), (1, .int (nI t))]) hex hby dX0_findLongestJoined_1 rfl hl (by decide) rfl (fun ls hl => ?_)
  refine lv_sipush (v := nI 4096) hex hby dX0_findLongestJoined_2 rfl ?_
  refine lv_istore_n (lv' := [(3, .int (nI 4096)), (2, .int (nI 0)), (0, .ref ho), (1, .int (nI t))]) hex hby dX0_findLongestJoined_5 rfl hl (by decide) rfl (fun ls hl => ?_)
  refine lv_iconst (v := nI 0) hex hby dX0_findLongestJoined_6 rfl ?_
  refine lv_istore (lv' := [(4, .int (nI 0)), (3, .int (nI 4096)), (2, .int (nI 0)), (0, .ref ho), (1, .int (nI t))]) hex hby dX0_findLongestJoined_7 hl (by decide) rfl (fun ls hl => ?_)
  have loop9 : ∀ (nn : Nat) (lo : Nat) (hi2 : Nat) (sp : Nat), (hi2 - lo) < nn → (Hv (hi2 - lo) sp) → (lo ≤ hi2) → (hi2 ≤ 4096) → (t ≤ cgJ F G (cn - 1) ((hi2 : Nat) : Int)) → (lo = 0 ∨ cgJ F G (cn - 1) (((lo : Nat) : Int) - 1) < t) → ∀ ls : Array Slot, lv_has ls 6 [(4, .int (nI sp)), (3, .int (nI hi2)), (2, .int (nI lo)), (0, .ref ho), (1, .int (nI t))] → W pp l ee (rmO 2 44) ss mm ([.ref ho, .int (nI t)] : List Value).toArray bb mt cd ss.heap [] 0 0 Q (F0 mm 9 ls []) := by
    intro nn
    induction nn with
    | zero => intro lo hi2 sp hms9; exact absurd hms9 (Nat.not_lt_zero _)
    | succ nn ih9 =>
      intro lo hi2 sp hms9 hv hlh hh h1 h2 ls hl
      have hs13 := hv.1
      refine lv_iload hex hby dX0_findLongestJoined_9 (lv_at hl 0 rfl) ?_
      refine lv_bipush (v := nI 32) hex hby dX0_findLongestJoined_11 rfl ?_
      refine nv_icmp_ge (tgt := 55) hex hby dX0_findLongestJoined_13 (by decide) (by omega) (by omega) (fun c_1 => absurd c_1 (by omega)) (fun c_1 => ?_)
      refine lv_iload_n hex hby dX0_findLongestJoined_16 rfl (lv_at hl 2 rfl) ?_
      refine lv_iload_n hex hby dX0_findLongestJoined_17 rfl (lv_at hl 1 rfl) ?_
      refine nv_icmp_ge (tgt := 55) hex hby dX0_findLongestJoined_18 (by decide) (by omega) (by omega) (fun c_2 => ?_) (fun c_2 => ?_)
      · have hee : lo = hi2 := by omega
        refine lv_iload_n hex hby dX0_findLongestJoined_55 rfl (lv_at hl 2 rfl) ?_
        exact hret _ _ _ _ (Or.inl ⟨rfl, _, rfl, rfl, dX0_findLongestJoined_56⟩) ⟨_, rfl, ⟨lo, rfl, (by omega), ⟨by rw [hee]; exact h1, h2⟩⟩⟩
      · refine lv_iload_n hex hby dX0_findLongestJoined_21 rfl (lv_at hl 2 rfl) ?_
        refine lv_iload_n hex hby dX0_findLongestJoined_22 rfl (lv_at hl 1 rfl) ?_
        refine nv_iadd hex hby dX0_findLongestJoined_23 ?_
        refine lv_iconst (v := nI 2) hex hby dX0_findLongestJoined_24 rfl ?_
        refine nv_idiv hex hby dX0_findLongestJoined_25 (by omega) (by omega) (by omega) ?_
        refine lv_istore (lv' := [(5, .int (nI ((lo + hi2) / 2))), (4, .int (nI sp)), (3, .int (nI hi2)), (2, .int (nI lo)), (0, .ref ho), (1, .int (nI t))]) hex hby dX0_findLongestJoined_26 hl (by decide) rfl (fun ls hl => ?_)
        refine lv_aload_n hex hby dX0_findLongestJoined_28 rfl (lv_at hl 4 rfl) ?_
        refine lv_iload hex hby dX0_findLongestJoined_29 (lv_at hl 0 rfl) ?_
        refine ro_Vi (As := [.int (nI ((lo + hi2) / 2))]) (rest := []) CFx (c_X0_countGapsUpTo (ho := ho) (aF := aF) (aG := aG) (fo := fo) (cn := cn) (F := F) (G := G) (x := nI ((lo + hi2) / 2)) (xz := (((lo + hi2) / 2 : Nat) : Int)) fcn faF faG (ni_toInt (by omega)) hFb hGb hgap hcn) 1 gX0_findLongestJoined_X0_countGapsUpTo rfl nd_X0_countGapsUpTo ⟨Nat.le_of_ble_eq_true rfl, Nat.le_of_ble_eq_true rfl⟩ hK hP [0, 1, 2] rfl rfl rfl rfl hl.1 rfl (Nat.le_of_ble_eq_true rfl) dX0_findLongestJoined_31 ⟨Nat.le_refl _, Nat.le_refl _⟩ (fun r_3 hr_3 => ?_)
        obtain rfl := hr_3
        have hcl := cgJ_le F G (cn - 1) (((lo + hi2) / 2 : Nat) : Int)
        refine lv_iload_n hex hby dX0_findLongestJoined_34 rfl (lv_at hl 5 rfl) ?_
        refine nv_icmp_lt (tgt := 44) hex hby dX0_findLongestJoined_35 (by decide) (by omega) (by omega) (fun c_4 => ?_) (fun c_4 => ?_)
        · refine lv_iload hex hby dX0_findLongestJoined_44 (lv_at hl 0 rfl) ?_
          refine lv_iconst (v := nI 1) hex hby dX0_findLongestJoined_46 rfl ?_
          refine nv_iadd hex hby dX0_findLongestJoined_47 ?_
          refine lv_istore_n (lv' := [(2, .int (nI ((lo + hi2) / 2 + 1))), (5, .int (nI ((lo + hi2) / 2))), (4, .int (nI sp)), (3, .int (nI hi2)), (0, .ref ho), (1, .int (nI t))]) hex hby dX0_findLongestJoined_48 rfl hl (by decide) rfl (fun ls hl => ?_)
          refine lv_iinc (v := nI (sp + 1)) (lv' := [(4, .int (nI (sp + 1))), (2, .int (nI ((lo + hi2) / 2 + 1))), (5, .int (nI ((lo + hi2) / 2))), (3, .int (nI hi2)), (0, .ref ho), (1, .int (nI t))]) hex hby dX0_findLongestJoined_49 hl (k := 2) rfl (ni_inc _) (by decide) rfl (fun ls hl => ?_)
          refine lv_goto (tgt := 9) hex hby dX0_findLongestJoined_52 (by decide) ?_
          have pf_5 : ((lo + hi2) / 2 + 1) = 0 ∨ cgJ F G (cn - 1) (((((lo + hi2) / 2 + 1) : Nat) : Int) - 1) < t := by
            have e : (((lo + hi2) / 2 + 1 : Nat) : Int) - 1 = (((lo + hi2) / 2 : Nat) : Int) := by omega
            right
            rw [e]; omega
          exact ih9 ((lo + hi2) / 2 + 1) hi2 (sp + 1) (by omega) (hv.step (by omega) (by omega)) (by omega) (by omega) h1 pf_5 _ (lv_sub hl [0, 3, 1, 4, 5] rfl)
        · refine lv_iload hex hby dX0_findLongestJoined_38 (lv_at hl 0 rfl) ?_
          refine lv_istore_n (lv' := [(3, .int (nI ((lo + hi2) / 2))), (5, .int (nI ((lo + hi2) / 2))), (4, .int (nI sp)), (2, .int (nI lo)), (0, .ref ho), (1, .int (nI t))]) hex hby dX0_findLongestJoined_40 rfl hl (by decide) rfl (fun ls hl => ?_)
          refine lv_goto (tgt := 49) hex hby dX0_findLongestJoined_41 (by decide) ?_
          refine lv_iinc (v := nI (sp + 1)) (lv' := [(4, .int (nI (sp + 1))), (3, .int (nI ((lo + hi2) / 2))), (5, .int (nI ((lo + hi2) / 2))), (2, .int (nI lo)), (0, .ref ho), (1, .int (nI t))]) hex hby dX0_findLongestJoined_49 hl (k := 2) rfl (ni_inc _) (by decide) rfl (fun ls hl => ?_)
          refine lv_goto (tgt := 9) hex hby dX0_findLongestJoined_52 (by decide) ?_
          exact ih9 lo ((lo + hi2) / 2) (sp + 1) (by omega) (hv.step (by omega) (by omega)) (by omega) (by omega) (by omega) h2 _ (lv_sub hl [0, 1, 3, 4, 5] rfl)
  have pf_6 : t ≤ cgJ F G (cn - 1) ((4096 : Nat) : Int) := by
    have e : cgJ F G (cn - 1) ((4096 : Nat) : Int) = cn - 1 := ctP_all (fun j _ => by have := gpf_le hFb G j; omega)
    rw [e]; exact ht
  exact loop9 _ 0 4096 0 (Nat.lt_succ_self _) (Hv.init (by omega)) (by omega) (by omega) pf_6 (Or.inl rfl) _ (lv_sub hl [0, 1, 2, 3, 4] rfl)
theorem nd_X0_cellsOfJoinedGaps : ndV yX0_cellsOfJoinedGaps RX0 1 := by decide +kernel
theorem in_X0_cellsOfJoinedGaps_X0 : ∀ w ∈ wsX00, w ∈ wsX0_cellsOfJoinedGaps := fun _ h => List.mem_cons_of_mem _ (List.mem_append_right _ (h))
set_option maxHeartbeats 4000000 in
set_option maxRecDepth 100000 in
theorem c_X0_cellsOfJoinedGaps {ho : Nat} {aF : Nat} {aG : Nat} {fo : List Value} {cn : Nat} {F : Nat → Nat} {G : Nat → Nat} {k : Nat} (fcn : fo[0]? = some (.int (nI cn))) (faF : fo[1]? = some (.ref aF)) (faG : fo[2]? = some (.ref aG)) (hFb : ∀ j, F j < 4096) (hGb : ∀ j, G j < 4096) (hgap : ∀ p, p < cn - 1 → G p + 1 < F (p + 1)) (hcn : cn ≤ 505) (hk1 : 1 ≤ k) (hk0 : k < 2147483648) : RO l yX0_cellsOfJoinedGaps wsX0_cellsOfJoinedGaps 3 69 (dC, dI) (tyK cI cZ cS) [(ho, .inr (0, fo)), (aF, .inl (cI, 505, .inl (nA F))), (aG, .inl (cI, 505, .inl (nA G)))] [.ref ho, .int (nI k)] (rI (fun r => r = nI (exJ F G cn (cn - k)))) := by
  refine ro_of (by decide) rfl (Nat.le_of_ble_eq_true rfl) ?_
  intro pp ee ss mm bb mt cd Q CFx hP hK hret ls hl
  obtain ⟨hex, hby, hml, hown, hts⟩ := id CFx
  have hl : lv_has ls 6 [(0, .ref ho), (1, .int (nI k))] := hl
  refine lv_aload_n hex hby dX0_cellsOfJoinedGaps_0 rfl (lv_at hl 0 rfl) ?_
  refine lv_aload_n hex hby dX0_cellsOfJoinedGaps_1 rfl (lv_at hl 0 rfl) ?_
  refine lv_iload_n hex hby dX0_cellsOfJoinedGaps_2 rfl (lv_at hl 1 rfl) ?_
  refine ro_Vi (As := [.int (nI k)]) (rest := [.ref ho]) CFx (c_X0_countJoined (ho := ho) (fo := fo) (cn := cn) (k := k) fcn hcn hk0) 1 gX0_cellsOfJoinedGaps_X0_countJoined rfl nd_X0_countJoined ⟨Nat.le_of_ble_eq_true rfl, Nat.le_of_ble_eq_true rfl⟩ hK hP [0] rfl rfl rfl rfl hl.1 rfl (Nat.le_of_ble_eq_true rfl) dX0_cellsOfJoinedGaps_3 ⟨Nat.le_refl _, Nat.le_refl _⟩ (fun r_1 hr_1 => ?_)
  obtain rfl := hr_1
  refine ro_Vi (As := [.int (nI (cn - k))]) (rest := []) CFx (c_X0_findLongestJoined (ho := ho) (aF := aF) (aG := aG) (fo := fo) (cn := cn) (F := F) (G := G) (t := cn - k) fcn faF faG hFb hGb hgap hcn (by omega)) 1 gX0_cellsOfJoinedGaps_X0_findLongestJoined rfl nd_X0_findLongestJoined ⟨Nat.le_of_ble_eq_true rfl, Nat.le_of_ble_eq_true rfl⟩ hK hP [0, 1, 2] rfl rfl rfl rfl hl.1 rfl (Nat.le_of_ble_eq_true rfl) dX0_cellsOfJoinedGaps_6 ⟨Nat.le_refl _, Nat.le_refl _⟩ (fun r_2 hr_2 => ?_)
  obtain ⟨Lg, rfl, hL1, hL2⟩ := hr_2
  obtain ⟨hsl, hss⟩ := lg_sum hL2 (by omega)
  refine lv_istore_n (lv' := [(2, .int (nI Lg)), (0, .ref ho), (1, .int (nI k))]) hex hby dX0_cellsOfJoinedGaps_9 rfl hl (by decide) rfl (fun ls hl => ?_)
  refine lv_iconst (v := nI 0) hex hby dX0_cellsOfJoinedGaps_10 rfl ?_
  refine lv_istore_n (lv' := [(3, .int (nI 0)), (2, .int (nI Lg)), (0, .ref ho), (1, .int (nI k))]) hex hby dX0_cellsOfJoinedGaps_11 rfl hl (by decide) rfl (fun ls hl => ?_)
  refine lv_iconst (v := nI 0) hex hby dX0_cellsOfJoinedGaps_12 rfl ?_
  refine lv_istore (lv' := [(4, .int (nI 0)), (3, .int (nI 0)), (2, .int (nI Lg)), (0, .ref ho), (1, .int (nI k))]) hex hby dX0_cellsOfJoinedGaps_13 hl (by decide) rfl (fun ls hl => ?_)
  refine lv_iconst (v := nI 0) hex hby dX0_cellsOfJoinedGaps_15 rfl ?_
  refine lv_istore (lv' := [(5, .int (nI 0)), (4, .int (nI 0)), (3, .int (nI 0)), (2, .int (nI Lg)), (0, .ref ho), (1, .int (nI k))]) hex hby dX0_cellsOfJoinedGaps_16 hl (by decide) rfl (fun ls hl => ?_)
  have loop18 : ∀ (nn : Nat) (sh : Nat) (sm : Nat) (i : Nat), (cn - i) < nn → (i ≤ cn - 1) → (sh = ctP (fun q => gpf F G q < Lg) i) → (sm = smQ (fun p => gpf F G p < Lg) (gpf F G) i) → ∀ ls : Array Slot, lv_has ls 6 [(5, .int (nI i)), (4, .int (nI sm)), (3, .int (nI sh)), (2, .int (nI Lg)), (0, .ref ho), (1, .int (nI k))] → W pp l ee (rmO 3 69) ss mm ([.ref ho, .int (nI k)] : List Value).toArray bb mt cd ss.heap [] 0 0 Q (F0 mm 18 ls []) := by
    intro nn
    induction nn with
    | zero => intro sh sm i hms18; exact absurd hms18 (Nat.not_lt_zero _)
    | succ nn ih18 =>
      intro sh sm i hms18 hi hsh hsm ls hl
      refine lv_iload hex hby dX0_cellsOfJoinedGaps_18 (lv_at hl 0 rfl) ?_
      refine lv_iconst (v := nI 1) hex hby dX0_cellsOfJoinedGaps_20 rfl ?_
      refine nv_iadd hex hby dX0_cellsOfJoinedGaps_21 ?_
      refine lv_aload_n hex hby dX0_cellsOfJoinedGaps_22 rfl (lv_at hl 4 rfl) ?_
      refine nv_get (v := .int (nI cn)) CFx in_X0_cellsOfJoinedGaps_X0 hK hP 0 rfl rfl 0 (by decide) (List.mem_of_getElem? (i := 1) rfl) fcn dX0_cellsOfJoinedGaps_23 ?_
      refine nv_icmp_ge (tgt := 59) hex hby dX0_cellsOfJoinedGaps_26 (by decide) (by omega) (by omega) (fun c_3 => ?_) (fun c_3 => ?_)
      · have hei : i = cn - 1 := by omega
        have hsht : sh ≤ cn - k := by rw [hsh, hei]; exact hsl
        refine lv_iload hex hby dX0_cellsOfJoinedGaps_59 (lv_at hl 1 rfl) ?_
        refine lv_aload_n hex hby dX0_cellsOfJoinedGaps_61 rfl (lv_at hl 4 rfl) ?_
        refine lv_iload_n hex hby dX0_cellsOfJoinedGaps_62 rfl (lv_at hl 5 rfl) ?_
        refine ro_Vi (As := [.int (nI k)]) (rest := [.int (nI sm)]) CFx (c_X0_countJoined (ho := ho) (fo := fo) (cn := cn) (k := k) fcn hcn hk0) 1 gX0_cellsOfJoinedGaps_X0_countJoined rfl nd_X0_countJoined ⟨Nat.le_of_ble_eq_true rfl, Nat.le_of_ble_eq_true rfl⟩ hK hP [0] rfl rfl rfl rfl hl.1 rfl (Nat.le_of_ble_eq_true rfl) dX0_cellsOfJoinedGaps_63 ⟨Nat.le_refl _, Nat.le_refl _⟩ (fun r_4 hr_4 => ?_)
        obtain rfl := hr_4
        refine lv_iload_n hex hby dX0_cellsOfJoinedGaps_66 rfl (lv_at hl 2 rfl) ?_
        refine nv_isub hex hby dX0_cellsOfJoinedGaps_67 (by omega) ?_
        refine lv_iload_n hex hby dX0_cellsOfJoinedGaps_68 rfl (lv_at hl 3 rfl) ?_
        refine nv_imul hex hby dX0_cellsOfJoinedGaps_69 ?_
        refine nv_iadd hex hby dX0_cellsOfJoinedGaps_70 ?_
        exact hret _ _ _ _ (Or.inl ⟨rfl, _, rfl, rfl, dX0_cellsOfJoinedGaps_71⟩) ⟨_, rfl, (congrArg nI (by unfold exJ; rw [hss, hsh, hsm, hei]))⟩
      · refine lv_aload_n hex hby dX0_cellsOfJoinedGaps_29 rfl (lv_at hl 4 rfl) ?_
        refine lv_iload hex hby dX0_cellsOfJoinedGaps_30 (lv_at hl 0 rfl) ?_
        refine ro_Vi (As := [.int (nI i)]) (rest := []) CFx (c_X0_gapBehind (ho := ho) (aF := aF) (aG := aG) (fo := fo) (F := F) (G := G) (i := i) faF faG hFb hGb (by omega) (hgap i (by omega))) 1 gX0_cellsOfJoinedGaps_X0_gapBehind rfl nd_X0_gapBehind ⟨Nat.le_of_ble_eq_true rfl, Nat.le_of_ble_eq_true rfl⟩ hK hP [0, 1, 2] rfl rfl rfl rfl hl.1 rfl (Nat.le_of_ble_eq_true rfl) dX0_cellsOfJoinedGaps_32 ⟨Nat.le_refl _, Nat.le_refl _⟩ (fun r_5 hr_5 => ?_)
        obtain rfl := hr_5
        have hgl := gpf_le hFb G i
        refine lv_iload_n hex hby dX0_cellsOfJoinedGaps_35 rfl (lv_at hl 3 rfl) ?_
        refine nv_icmp_ge (tgt := 53) hex hby dX0_cellsOfJoinedGaps_36 (by decide) (by omega) (by omega) (fun c_6 => ?_) (fun c_6 => ?_)
        · refine lv_iinc (v := nI (i + 1)) (lv' := [(5, .int (nI (i + 1))), (4, .int (nI sm)), (3, .int (nI sh)), (2, .int (nI Lg)), (0, .ref ho), (1, .int (nI k))]) hex hby dX0_cellsOfJoinedGaps_53 hl (k := 0) rfl (ni_inc _) (by decide) rfl (fun ls hl => ?_)
          refine lv_goto (tgt := 18) hex hby dX0_cellsOfJoinedGaps_56 (by decide) ?_
          exact ih18 sh sm (i + 1) (by omega) (by omega) (by rw [ctP_no (p := fun q => gpf F G q < Lg) (by omega)]; exact hsh) (by rw [smQ_no (P := fun q => gpf F G q < Lg) (by omega)]; exact hsm) _ (lv_sub hl [0, 1, 2, 3, 4, 5] rfl)
        · refine lv_iinc (v := nI (sh + 1)) (lv' := [(3, .int (nI (sh + 1))), (5, .int (nI i)), (4, .int (nI sm)), (2, .int (nI Lg)), (0, .ref ho), (1, .int (nI k))]) hex hby dX0_cellsOfJoinedGaps_39 hl (k := 2) rfl (ni_inc _) (by decide) rfl (fun ls hl => ?_)
          refine lv_iload hex hby dX0_cellsOfJoinedGaps_42 (lv_at hl 2 rfl) ?_
          refine lv_aload_n hex hby dX0_cellsOfJoinedGaps_44 rfl (lv_at hl 4 rfl) ?_
          refine lv_iload hex hby dX0_cellsOfJoinedGaps_45 (lv_at hl 1 rfl) ?_
          refine ro_Vi (As := [.int (nI i)]) (rest := [.int (nI sm)]) CFx (c_X0_gapBehind (ho := ho) (aF := aF) (aG := aG) (fo := fo) (F := F) (G := G) (i := i) faF faG hFb hGb (by omega) (hgap i (by omega))) 1 gX0_cellsOfJoinedGaps_X0_gapBehind rfl nd_X0_gapBehind ⟨Nat.le_of_ble_eq_true rfl, Nat.le_of_ble_eq_true rfl⟩ hK hP [0, 1, 2] rfl rfl rfl rfl hl.1 rfl (Nat.le_of_ble_eq_true rfl) dX0_cellsOfJoinedGaps_47 ⟨Nat.le_refl _, Nat.le_refl _⟩ (fun r_7 hr_7 => ?_)
          obtain rfl := hr_7
          have hgl := gpf_le hFb G i
          refine nv_iadd hex hby dX0_cellsOfJoinedGaps_50 ?_
          refine lv_istore (lv' := [(4, .int (nI (sm + gpf F G i))), (3, .int (nI (sh + 1))), (5, .int (nI i)), (2, .int (nI Lg)), (0, .ref ho), (1, .int (nI k))]) hex hby dX0_cellsOfJoinedGaps_51 hl (by decide) rfl (fun ls hl => ?_)
          refine lv_iinc (v := nI (i + 1)) (lv' := [(5, .int (nI (i + 1))), (4, .int (nI (sm + gpf F G i))), (3, .int (nI (sh + 1))), (2, .int (nI Lg)), (0, .ref ho), (1, .int (nI k))]) hex hby dX0_cellsOfJoinedGaps_53 hl (k := 2) rfl (ni_inc _) (by decide) rfl (fun ls hl => ?_)
          refine lv_goto (tgt := 18) hex hby dX0_cellsOfJoinedGaps_56 (by decide) ?_
          exact ih18 (sh + 1) (sm + gpf F G i) (i + 1) (by omega) (by omega) (by rw [ctP_yes (p := fun q => gpf F G q < Lg) (by omega), hsh]) (by rw [smQ_yes (P := fun q => gpf F G q < Lg) (by omega), hsm]) _ (lv_sub hl [0, 1, 2, 3, 4, 5] rfl)
  exact loop18 _ 0 0 0 (Nat.lt_succ_self _) (by omega) rfl rfl _ (lv_sub hl [0, 1, 2, 3, 4, 5] rfl)
theorem nd_X0_endOfJoined : ndV yX0_endOfJoined RX0 3 := by decide +kernel
theorem in_X0_endOfJoined_X0 : ∀ w ∈ wsX00, w ∈ wsX0_endOfJoined := fun _ h => List.mem_cons_of_mem _ (List.mem_append_right _ (h))
set_option maxHeartbeats 4000000 in
set_option maxRecDepth 100000 in
theorem c_X0_endOfJoined {ho : Nat} {aF : Nat} {aG : Nat} {fo : List Value} {cn : Nat} {F : Nat → Nat} {G : Nat → Nat} {k : Nat} {q : Nat} {l_ : Int32} {l_z : Int} (fcn : fo[0]? = some (.int (nI cn))) (faF : fo[1]? = some (.ref aF)) (faG : fo[2]? = some (.ref aG)) (hl_z : l_.toInt = l_z) (hFb : ∀ j, F j < 4096) (hGb : ∀ j, G j < 4096) (hgap : ∀ p, p < cn - 1 → G p + 1 < F (p + 1)) (hcn : cn ≤ 505) (hk1 : 1 ≤ k) (hk0 : k < 2147483648) (hq0 : q < cn - (cn - k)) : RO l yX0_endOfJoined wsX0_endOfJoined 3 69 (dC, dI) (tyK cI cZ cS) [(ho, .inr (0, fo)), (aF, .inl (cI, 505, .inl (nA F))), (aG, .inl (cI, 505, .inl (nA G)))] [.ref ho, .int (nI k), .int (nI q), .int l_] (rI (fun r => ∃ v_ : Nat, r = nI v_ ∧ JEnd (fun p => cn - k ≤ rkJ (gpf F G) (cn - 1) p) cn q F G (l_z ≠ 0) v_)) := by
  refine ro_of (by decide) rfl (Nat.le_of_ble_eq_true rfl) ?_
  intro pp ee ss mm bb mt cd Q CFx hP hK hret ls hl
  obtain ⟨hex, hby, hml, hown, hts⟩ := id CFx
  have hl : lv_has ls 10 [(0, .ref ho), (1, .int (nI k)), (2, .int (nI q)), (3, .int l_)] := hl
  refine lv_aload_n hex hby dX0_endOfJoined_0 rfl (lv_at hl 0 rfl) ?_
  refine lv_aload_n hex hby dX0_endOfJoined_1 rfl (lv_at hl 0 rfl) ?_
  refine lv_iload_n hex hby dX0_endOfJoined_2 rfl (lv_at hl 1 rfl) ?_
  refine ro_Vi (As := [.int (nI k)]) (rest := [.ref ho]) CFx (c_X0_countJoined (ho := ho) (fo := fo) (cn := cn) (k := k) fcn hcn hk0) 1 gX0_endOfJoined_X0_countJoined rfl nd_X0_countJoined ⟨Nat.le_of_ble_eq_true rfl, Nat.le_of_ble_eq_true rfl⟩ hK hP [0] rfl rfl rfl rfl hl.1 rfl (Nat.le_of_ble_eq_true rfl) dX0_endOfJoined_3 ⟨Nat.le_refl _, Nat.le_refl _⟩ (fun r_1 hr_1 => ?_)
  obtain rfl := hr_1
  refine ro_Vi (As := [.int (nI (cn - k))]) (rest := []) CFx (c_X0_findLongestJoined (ho := ho) (aF := aF) (aG := aG) (fo := fo) (cn := cn) (F := F) (G := G) (t := cn - k) fcn faF faG hFb hGb hgap hcn (by omega)) 1 gX0_endOfJoined_X0_findLongestJoined rfl nd_X0_findLongestJoined ⟨Nat.le_of_ble_eq_true rfl, Nat.le_of_ble_eq_true rfl⟩ hK hP [0, 1, 2] rfl rfl rfl rfl hl.1 rfl (Nat.le_of_ble_eq_true rfl) dX0_endOfJoined_6 ⟨Nat.le_refl _, Nat.le_refl _⟩ (fun r_2 hr_2 => ?_)
  obtain ⟨Lg, rfl, hL1, hL2⟩ := hr_2
  refine lv_istore (lv' := [(4, .int (nI Lg)), (0, .ref ho), (1, .int (nI k)), (2, .int (nI q)), (3, .int l_)]) hex hby dX0_endOfJoined_9 hl (by decide) rfl (fun ls hl => ?_)
  refine lv_aload_n hex hby dX0_endOfJoined_11 rfl (lv_at hl 1 rfl) ?_
  refine lv_iload_n hex hby dX0_endOfJoined_12 rfl (lv_at hl 2 rfl) ?_
  refine ro_Vi (As := [.int (nI k)]) (rest := []) CFx (c_X0_countJoined (ho := ho) (fo := fo) (cn := cn) (k := k) fcn hcn hk0) 1 gX0_endOfJoined_X0_countJoined rfl nd_X0_countJoined ⟨Nat.le_of_ble_eq_true rfl, Nat.le_of_ble_eq_true rfl⟩ hK hP [0] rfl rfl rfl rfl hl.1 rfl (Nat.le_of_ble_eq_true rfl) dX0_endOfJoined_13 ⟨Nat.le_refl _, Nat.le_refl _⟩ (fun r_3 hr_3 => ?_)
  obtain rfl := hr_3
  refine lv_aload_n hex hby dX0_endOfJoined_16 rfl (lv_at hl 1 rfl) ?_
  refine lv_iload hex hby dX0_endOfJoined_17 (lv_at hl 0 rfl) ?_
  refine lv_iconst (v := nI 1) hex hby dX0_endOfJoined_19 rfl ?_
  refine nz_isub (a := (Lg : Int)) (b := (1 : Int)) hex hby dX0_endOfJoined_20 (ni_nz _) rfl ?_
  refine ro_Vi (As := [.int (zI ((Lg : Int) - (1 : Int)))]) (rest := [.int (nI (cn - k))]) CFx (c_X0_countGapsUpTo (ho := ho) (aF := aF) (aG := aG) (fo := fo) (cn := cn) (F := F) (G := G) (x := zI ((Lg : Int) - (1 : Int))) (xz := (Lg : Int) - (1 : Int)) fcn faF faG (zI_toInt (by omega) (by omega)) hFb hGb hgap hcn) 1 gX0_endOfJoined_X0_countGapsUpTo rfl nd_X0_countGapsUpTo ⟨Nat.le_of_ble_eq_true rfl, Nat.le_of_ble_eq_true rfl⟩ hK hP [0, 1, 2] rfl rfl rfl rfl hl.1 rfl (Nat.le_of_ble_eq_true rfl) dX0_endOfJoined_21 ⟨Nat.le_refl _, Nat.le_refl _⟩ (fun r_4 hr_4 => ?_)
  obtain rfl := hr_4
  have hcgl := cgJ_le F G (cn - 1) ((Lg : Int) - (1 : Int))
  have hrc := (rk_cnt (gpf F G) (cn - 1) (cn - k) (by omega)).1
  have hkc : ctP (fun p => cn - k ≤ rkJ (gpf F G) (cn - 1) p) (cn - 1) + (cn - k) = cn - 1 := by
    have e := ctP_orE (P := (fun p => cn - k ≤ rkJ (gpf F G) (cn - 1) p)) (Q := fun p => rkJ (gpf F G) (cn - 1) p < cn - k) (n := cn - 1) (fun j _ z => by have z1 := z.1; have z2 := z.2; omega)
    rw [ctP_all (fun j _ => by omega), hrc] at e
    omega
  refine nz_isub (a := ((cn - k : Nat) : Int)) (b := ((cgJ F G (cn - 1) ((Lg : Int) - (1 : Int)) : Nat) : Int)) hex hby dX0_endOfJoined_24 (ni_nz _) (ni_nz _) ?_
  refine lv_istore (lv' := [(5, .int (zI (((cn - k : Nat) : Int) - ((cgJ F G (cn - 1) ((Lg : Int) - (1 : Int)) : Nat) : Int)))), (4, .int (nI Lg)), (0, .ref ho), (1, .int (nI k)), (2, .int (nI q)), (3, .int l_)]) hex hby dX0_endOfJoined_25 hl (by decide) rfl (fun ls hl => ?_)
  refine lv_iconst (v := nI 0) hex hby dX0_endOfJoined_27 rfl ?_
  refine lv_istore (lv' := [(6, .int (nI 0)), (5, .int (zI (((cn - k : Nat) : Int) - ((cgJ F G (cn - 1) ((Lg : Int) - (1 : Int)) : Nat) : Int)))), (4, .int (nI Lg)), (0, .ref ho), (1, .int (nI k)), (2, .int (nI q)), (3, .int l_)]) hex hby dX0_endOfJoined_28 hl (by decide) rfl (fun ls hl => ?_)
  refine lv_iconst (v := nI 0) hex hby dX0_endOfJoined_30 rfl ?_
  refine lv_istore (lv' := [(7, .int (nI 0)), (6, .int (nI 0)), (5, .int (zI (((cn - k : Nat) : Int) - ((cgJ F G (cn - 1) ((Lg : Int) - (1 : Int)) : Nat) : Int)))), (4, .int (nI Lg)), (0, .ref ho), (1, .int (nI k)), (2, .int (nI q)), (3, .int l_)]) hex hby dX0_endOfJoined_31 hl (by decide) rfl (fun ls hl => ?_)
  refine lv_iconst (v := nI 0) hex hby dX0_endOfJoined_33 rfl ?_
  refine lv_istore (lv' := [(8, .int (nI 0)), (7, .int (nI 0)), (6, .int (nI 0)), (5, .int (zI (((cn - k : Nat) : Int) - ((cgJ F G (cn - 1) ((Lg : Int) - (1 : Int)) : Nat) : Int)))), (4, .int (nI Lg)), (0, .ref ho), (1, .int (nI k)), (2, .int (nI q)), (3, .int l_)]) hex hby dX0_endOfJoined_34 hl (by decide) rfl (fun ls hl => ?_)
  have loop36 : ∀ (nn : Nat) (ltj : Int) (pa : Nat) (s_ : Nat) (i : Nat), (cn - i) < nn → (i ≤ cn - 1) → (pa = ctP (fun p => cn - k ≤ rkJ (gpf F G) (cn - 1) p) i) → (pa ≤ q) → (StJ (fun p => cn - k ≤ rkJ (gpf F G) (cn - 1) p) i pa s_) → (s_ ≤ i) → (ltj = ((cn - k : Nat) : Int) - ((cgJ F G (cn - 1) ((Lg : Int) - (1 : Int)) : Nat) : Int) - ((ctP (fun p => gpf F G p = Lg) i : Nat) : Int)) → ∀ ls : Array Slot, lv_has ls 10 [(8, .int (nI i)), (7, .int (nI s_)), (6, .int (nI pa)), (5, .int (zI ltj)), (4, .int (nI Lg)), (0, .ref ho), (1, .int (nI k)), (2, .int (nI q)), (3, .int l_)] → W pp l ee (rmO 3 69) ss mm ([.ref ho, .int (nI k), .int (nI q), .int l_] : List Value).toArray bb mt cd ss.heap [] 0 0 Q (F0 mm 36 ls []) := by
    intro nn
    induction nn with
    | zero => intro ltj pa s_ i hms36; exact absurd hms36 (Nat.not_lt_zero _)
    | succ nn ih36 =>
      intro ltj pa s_ i hms36 hi hpa hpq hs hs2 hlt ls hl
      have hce := ctP_le (fun p => gpf F G p = Lg) i
      refine lv_iload hex hby dX0_endOfJoined_36 (lv_at hl 0 rfl) ?_
      refine lv_iconst (v := nI 1) hex hby dX0_endOfJoined_38 rfl ?_
      refine nv_iadd hex hby dX0_endOfJoined_39 ?_
      refine lv_aload_n hex hby dX0_endOfJoined_40 rfl (lv_at hl 5 rfl) ?_
      refine nv_get (v := .int (nI cn)) CFx in_X0_endOfJoined_X0 hK hP 0 rfl rfl 0 (by decide) (List.mem_of_getElem? (i := 1) rfl) fcn dX0_endOfJoined_41 ?_
      refine nv_icmp_ge (tgt := 130) hex hby dX0_endOfJoined_44 (by decide) (by omega) (by omega) (fun c_5 => ?_) (fun c_5 => ?_)
      · have hei : i = cn - 1 := by omega
        refine lv_iload_n hex hby dX0_endOfJoined_130 rfl (lv_at hl 8 rfl) ?_
        refine ni_if_eq (tgt := 148) (a := l_.toInt) hex hby dX0_endOfJoined_131 (by decide) rfl (fun c_6 => ?_) (fun c_6 => ?_)
        · refine lv_aload_n hex hby dX0_endOfJoined_148 rfl (lv_at hl 5 rfl) ?_
          refine nv_get (v := .ref aF) CFx in_X0_endOfJoined_X0 hK hP 0 rfl rfl 1 (by decide) (List.mem_of_getElem? (i := 3) rfl) faF dX0_endOfJoined_149 ?_
          refine lv_iload hex hby dX0_endOfJoined_152 (lv_at hl 1 rfl) ?_
          refine nv_iald hex hby hK hP 1 0 rfl rfl (by omega) (by omega) dX0_endOfJoined_154 ?_
          have hb_7 := hFb s_
          exact hret _ _ _ _ (Or.inl ⟨rfl, _, rfl, rfl, dX0_endOfJoined_155⟩) ⟨_, rfl, ⟨(F s_), rfl, ⟨fun z => absurd (by omega) z, fun _ => by rcases hs with ⟨z1, z2⟩ | ⟨p, p1, p2, p3, p4⟩; exact Or.inl ⟨by rw [hei] at hpa; omega, by rw [z2]⟩; exact Or.inr ⟨p, by omega, p2, by rw [hei] at hpa; omega, by rw [p4]⟩⟩⟩⟩
        · refine lv_aload_n hex hby dX0_endOfJoined_134 rfl (lv_at hl 5 rfl) ?_
          refine nv_get (v := .ref aG) CFx in_X0_endOfJoined_X0 hK hP 0 rfl rfl 2 (by decide) (List.mem_of_getElem? (i := 2) rfl) faG dX0_endOfJoined_135 ?_
          refine lv_aload_n hex hby dX0_endOfJoined_138 rfl (lv_at hl 5 rfl) ?_
          refine nv_get (v := .int (nI cn)) CFx in_X0_endOfJoined_X0 hK hP 0 rfl rfl 0 (by decide) (List.mem_of_getElem? (i := 1) rfl) fcn dX0_endOfJoined_139 ?_
          refine lv_iconst (v := nI 1) hex hby dX0_endOfJoined_142 rfl ?_
          refine nv_isub hex hby dX0_endOfJoined_143 (by omega) ?_
          refine nv_iald hex hby hK hP 2 0 rfl rfl (by omega) (by omega) dX0_endOfJoined_144 ?_
          have hb_8 := hGb (cn - 1)
          refine lv_goto (tgt := 155) hex hby dX0_endOfJoined_145 (by decide) ?_
          exact hret _ _ _ _ (Or.inl ⟨rfl, _, rfl, rfl, dX0_endOfJoined_155⟩) ⟨_, rfl, ⟨(G (cn - 1)), rfl, ⟨fun _ => Or.inl ⟨by rw [hei] at hpa; omega, rfl⟩, fun z => absurd (show l_z ≠ 0 by omega) z⟩⟩⟩
      · refine lv_aload_n hex hby dX0_endOfJoined_47 rfl (lv_at hl 5 rfl) ?_
        refine lv_iload hex hby dX0_endOfJoined_48 (lv_at hl 0 rfl) ?_
        refine ro_Vi (As := [.int (nI i)]) (rest := []) CFx (c_X0_gapBehind (ho := ho) (aF := aF) (aG := aG) (fo := fo) (F := F) (G := G) (i := i) faF faG hFb hGb (by omega) (hgap i (by omega))) 1 gX0_endOfJoined_X0_gapBehind rfl nd_X0_gapBehind ⟨Nat.le_of_ble_eq_true rfl, Nat.le_of_ble_eq_true rfl⟩ hK hP [0, 1, 2] rfl rfl rfl rfl hl.1 rfl (Nat.le_of_ble_eq_true rfl) dX0_endOfJoined_50 ⟨Nat.le_refl _, Nat.le_refl _⟩ (fun r_9 hr_9 => ?_)
        obtain rfl := hr_9
        have hgl := gpf_le hFb G i
        have hjn := lg_join hL2 (p := i) (by omega)
        refine lv_istore (lv' := [(9, .int (nI (gpf F G i))), (8, .int (nI i)), (7, .int (nI s_)), (6, .int (nI pa)), (5, .int (zI ltj)), (4, .int (nI Lg)), (0, .ref ho), (1, .int (nI k)), (2, .int (nI q)), (3, .int l_)]) hex hby dX0_endOfJoined_53 hl (by decide) rfl (fun ls hl => ?_)
        refine lv_iload hex hby dX0_endOfJoined_55 (lv_at hl 0 rfl) ?_
        refine lv_iload hex hby dX0_endOfJoined_57 (lv_at hl 5 rfl) ?_
        refine nv_icmp_ne (tgt := 65) hex hby dX0_endOfJoined_59 (by decide) (by omega) (by omega) (fun c_10 => ?_) (fun c_10 => ?_)
        · refine lv_iload hex hby dX0_endOfJoined_65 (lv_at hl 0 rfl) ?_
          refine lv_iload hex hby dX0_endOfJoined_67 (lv_at hl 5 rfl) ?_
          refine nv_icmp_lt (tgt := 124) hex hby dX0_endOfJoined_69 (by decide) (by omega) (by omega) (fun c_11 => ?_) (fun c_11 => ?_)
          · refine lv_iinc (v := nI (i + 1)) (lv' := [(8, .int (nI (i + 1))), (9, .int (nI (gpf F G i))), (7, .int (nI s_)), (6, .int (nI pa)), (5, .int (zI ltj)), (4, .int (nI Lg)), (0, .ref ho), (1, .int (nI k)), (2, .int (nI q)), (3, .int l_)]) hex hby dX0_endOfJoined_124 hl (k := 1) rfl (ni_inc _) (by decide) rfl (fun ls hl => ?_)
            refine lv_goto (tgt := 36) hex hby dX0_endOfJoined_127 (by decide) ?_
            exact ih36 ltj pa s_ (i + 1) (by omega) (by omega) (by rw [ctP_no (p := (fun p => cn - k ≤ rkJ (gpf F G) (cn - 1) p)) (by have := hjn.mpr (Or.inl (by omega)); omega)]; exact hpa) (by omega) hs.up (by omega) (by rw [ctP_no (p := fun p => gpf F G p = Lg) (by omega)]; exact hlt) _ (lv_sub hl [0, 2, 3, 4, 5, 6, 7, 8, 9] rfl)
          · refine lv_iload hex hby dX0_endOfJoined_72 (lv_at hl 0 rfl) ?_
            refine lv_iload hex hby dX0_endOfJoined_74 (lv_at hl 5 rfl) ?_
            refine nv_icmp_ne (tgt := 87) hex hby dX0_endOfJoined_76 (by decide) (by omega) (by omega) (fun c_12 => ?_) (fun c_12 => absurd c_12 (by omega))
            have hkp : cn - k ≤ rkJ (gpf F G) (cn - 1) i := by
              rcases Nat.lt_or_ge (rkJ (gpf F G) (cn - 1) i) (cn - k) with z | z
              · have := hjn.mp z; omega
              · exact z
            refine lv_iload hex hby dX0_endOfJoined_87 (lv_at hl 3 rfl) ?_
            refine lv_iload_n hex hby dX0_endOfJoined_89 rfl (lv_at hl 8 rfl) ?_
            refine nv_icmp_ne (tgt := 115) hex hby dX0_endOfJoined_90 (by decide) (by omega) (by omega) (fun c_13 => ?_) (fun c_13 => ?_)
            · refine lv_iinc (v := nI (pa + 1)) (lv' := [(6, .int (nI (pa + 1))), (9, .int (nI (gpf F G i))), (8, .int (nI i)), (7, .int (nI s_)), (5, .int (zI ltj)), (4, .int (nI Lg)), (0, .ref ho), (1, .int (nI k)), (2, .int (nI q)), (3, .int l_)]) hex hby dX0_endOfJoined_115 hl (k := 3) rfl (ni_inc _) (by decide) rfl (fun ls hl => ?_)
              refine lv_iload hex hby dX0_endOfJoined_118 (lv_at hl 2 rfl) ?_
              refine lv_iconst (v := nI 1) hex hby dX0_endOfJoined_120 rfl ?_
              refine nv_iadd hex hby dX0_endOfJoined_121 ?_
              refine lv_istore (lv' := [(7, .int (nI (i + 1))), (6, .int (nI (pa + 1))), (9, .int (nI (gpf F G i))), (8, .int (nI i)), (5, .int (zI ltj)), (4, .int (nI Lg)), (0, .ref ho), (1, .int (nI k)), (2, .int (nI q)), (3, .int l_)]) hex hby dX0_endOfJoined_122 hl (by decide) rfl (fun ls hl => ?_)
              refine lv_iinc (v := nI (i + 1)) (lv' := [(8, .int (nI (i + 1))), (7, .int (nI (i + 1))), (6, .int (nI (pa + 1))), (9, .int (nI (gpf F G i))), (5, .int (zI ltj)), (4, .int (nI Lg)), (0, .ref ho), (1, .int (nI k)), (2, .int (nI q)), (3, .int l_)]) hex hby dX0_endOfJoined_124 hl (k := 3) rfl (ni_inc _) (by decide) rfl (fun ls hl => ?_)
              refine lv_goto (tgt := 36) hex hby dX0_endOfJoined_127 (by decide) ?_
              exact ih36 ltj (pa + 1) (i + 1) (i + 1) (by omega) (by omega) (by rw [ctP_yes (p := (fun p => cn - k ≤ rkJ (gpf F G) (cn - 1) p)) hkp, hpa]) (by omega) (Or.inr ⟨i, by omega, hkp, by rw [hpa], rfl⟩) (by omega) (by rw [ctP_no (p := fun p => gpf F G p = Lg) (by omega)]; exact hlt) _ (lv_sub hl [0, 1, 2, 4, 5, 6, 7, 8, 9] rfl)
            · refine lv_iload_n hex hby dX0_endOfJoined_93 rfl (lv_at hl 9 rfl) ?_
              refine ni_if_eq (tgt := 107) (a := l_.toInt) hex hby dX0_endOfJoined_94 (by decide) rfl (fun c_14 => ?_) (fun c_14 => ?_)
              · refine lv_aload_n hex hby dX0_endOfJoined_107 rfl (lv_at hl 6 rfl) ?_
                refine nv_get (v := .ref aF) CFx in_X0_endOfJoined_X0 hK hP 0 rfl rfl 1 (by decide) (List.mem_of_getElem? (i := 3) rfl) faF dX0_endOfJoined_108 ?_
                refine lv_iload hex hby dX0_endOfJoined_111 (lv_at hl 2 rfl) ?_
                refine nv_iald hex hby hK hP 1 0 rfl rfl (by omega) (by omega) dX0_endOfJoined_113 ?_
                have hb_15 := hFb s_
                exact hret _ _ _ _ (Or.inl ⟨rfl, _, rfl, rfl, dX0_endOfJoined_114⟩) ⟨_, rfl, ⟨(F s_), rfl, ⟨fun z => absurd (by omega) z, fun _ => by rcases hs with ⟨z1, z2⟩ | ⟨p, p1, p2, p3, p4⟩; exact Or.inl ⟨by omega, by rw [z2]⟩; exact Or.inr ⟨p, by omega, p2, by omega, by rw [p4]⟩⟩⟩⟩
              · refine lv_aload_n hex hby dX0_endOfJoined_97 rfl (lv_at hl 6 rfl) ?_
                refine nv_get (v := .ref aG) CFx in_X0_endOfJoined_X0 hK hP 0 rfl rfl 2 (by decide) (List.mem_of_getElem? (i := 2) rfl) faG dX0_endOfJoined_98 ?_
                refine lv_iload hex hby dX0_endOfJoined_101 (lv_at hl 1 rfl) ?_
                refine nv_iald hex hby hK hP 2 0 rfl rfl (by omega) (by omega) dX0_endOfJoined_103 ?_
                have hb_16 := hGb i
                refine lv_goto (tgt := 114) hex hby dX0_endOfJoined_104 (by decide) ?_
                exact hret _ _ _ _ (Or.inl ⟨rfl, _, rfl, rfl, dX0_endOfJoined_114⟩) ⟨_, rfl, ⟨(G i), rfl, ⟨fun _ => Or.inr ⟨i, by omega, hkp, by omega, rfl⟩, fun z => absurd (show l_z ≠ 0 by omega) z⟩⟩⟩
        · refine lv_iinc (v := zI (ltj - 1)) (lv' := [(5, .int (zI (ltj - 1))), (9, .int (nI (gpf F G i))), (8, .int (nI i)), (7, .int (nI s_)), (6, .int (nI pa)), (4, .int (nI Lg)), (0, .ref ho), (1, .int (nI k)), (2, .int (nI q)), (3, .int l_)]) hex hby dX0_endOfJoined_62 hl (k := 4) rfl (ni_decz _) (by decide) rfl (fun ls hl => ?_)
          refine lv_iload hex hby dX0_endOfJoined_65 (lv_at hl 1 rfl) ?_
          refine lv_iload hex hby dX0_endOfJoined_67 (lv_at hl 5 rfl) ?_
          refine nv_icmp_lt (tgt := 124) hex hby dX0_endOfJoined_69 (by decide) (by omega) (by omega) (fun c_17 => absurd c_17 (by omega)) (fun c_17 => ?_)
          refine lv_iload hex hby dX0_endOfJoined_72 (lv_at hl 1 rfl) ?_
          refine lv_iload hex hby dX0_endOfJoined_74 (lv_at hl 5 rfl) ?_
          refine nv_icmp_ne (tgt := 87) hex hby dX0_endOfJoined_76 (by decide) (by omega) (by omega) (fun c_18 => absurd c_18 (by omega)) (fun c_18 => ?_)
          refine lv_iload hex hby dX0_endOfJoined_79 (lv_at hl 0 rfl) ?_
          refine ni_if_lt (tgt := 87) (a := ltj - 1) hex hby dX0_endOfJoined_81 (by decide) (zI_toInt (by omega) (by omega)) (fun c_19 => ?_) (fun c_19 => ?_)
          · have hkp : cn - k ≤ rkJ (gpf F G) (cn - 1) i := by
              rcases Nat.lt_or_ge (rkJ (gpf F G) (cn - 1) i) (cn - k) with z | z
              · have := hjn.mp z; omega
              · exact z
            refine lv_iload hex hby dX0_endOfJoined_87 (lv_at hl 4 rfl) ?_
            refine lv_iload_n hex hby dX0_endOfJoined_89 rfl (lv_at hl 8 rfl) ?_
            refine nv_icmp_ne (tgt := 115) hex hby dX0_endOfJoined_90 (by decide) (by omega) (by omega) (fun c_20 => ?_) (fun c_20 => ?_)
            · refine lv_iinc (v := nI (pa + 1)) (lv' := [(6, .int (nI (pa + 1))), (5, .int (zI (ltj - 1))), (9, .int (nI (gpf F G i))), (8, .int (nI i)), (7, .int (nI s_)), (4, .int (nI Lg)), (0, .ref ho), (1, .int (nI k)), (2, .int (nI q)), (3, .int l_)]) hex hby dX0_endOfJoined_115 hl (k := 4) rfl (ni_inc _) (by decide) rfl (fun ls hl => ?_)
              refine lv_iload hex hby dX0_endOfJoined_118 (lv_at hl 3 rfl) ?_
              refine lv_iconst (v := nI 1) hex hby dX0_endOfJoined_120 rfl ?_
              refine nv_iadd hex hby dX0_endOfJoined_121 ?_
              refine lv_istore (lv' := [(7, .int (nI (i + 1))), (6, .int (nI (pa + 1))), (5, .int (zI (ltj - 1))), (9, .int (nI (gpf F G i))), (8, .int (nI i)), (4, .int (nI Lg)), (0, .ref ho), (1, .int (nI k)), (2, .int (nI q)), (3, .int l_)]) hex hby dX0_endOfJoined_122 hl (by decide) rfl (fun ls hl => ?_)
              refine lv_iinc (v := nI (i + 1)) (lv' := [(8, .int (nI (i + 1))), (7, .int (nI (i + 1))), (6, .int (nI (pa + 1))), (5, .int (zI (ltj - 1))), (9, .int (nI (gpf F G i))), (4, .int (nI Lg)), (0, .ref ho), (1, .int (nI k)), (2, .int (nI q)), (3, .int l_)]) hex hby dX0_endOfJoined_124 hl (k := 4) rfl (ni_inc _) (by decide) rfl (fun ls hl => ?_)
              refine lv_goto (tgt := 36) hex hby dX0_endOfJoined_127 (by decide) ?_
              exact ih36 (ltj - 1) (pa + 1) (i + 1) (i + 1) (by omega) (by omega) (by rw [ctP_yes (p := (fun p => cn - k ≤ rkJ (gpf F G) (cn - 1) p)) hkp, hpa]) (by omega) (Or.inr ⟨i, by omega, hkp, by rw [hpa], rfl⟩) (by omega) (by rw [ctP_yes (p := fun p => gpf F G p = Lg) (by omega)]; omega) _ (lv_sub hl [0, 1, 2, 3, 5, 6, 7, 8, 9] rfl)
            · refine lv_iload_n hex hby dX0_endOfJoined_93 rfl (lv_at hl 9 rfl) ?_
              refine ni_if_eq (tgt := 107) (a := l_.toInt) hex hby dX0_endOfJoined_94 (by decide) rfl (fun c_21 => ?_) (fun c_21 => ?_)
              · refine lv_aload_n hex hby dX0_endOfJoined_107 rfl (lv_at hl 6 rfl) ?_
                refine nv_get (v := .ref aF) CFx in_X0_endOfJoined_X0 hK hP 0 rfl rfl 1 (by decide) (List.mem_of_getElem? (i := 3) rfl) faF dX0_endOfJoined_108 ?_
                refine lv_iload hex hby dX0_endOfJoined_111 (lv_at hl 3 rfl) ?_
                refine nv_iald hex hby hK hP 1 0 rfl rfl (by omega) (by omega) dX0_endOfJoined_113 ?_
                have hb_22 := hFb s_
                exact hret _ _ _ _ (Or.inl ⟨rfl, _, rfl, rfl, dX0_endOfJoined_114⟩) ⟨_, rfl, ⟨(F s_), rfl, ⟨fun z => absurd (by omega) z, fun _ => by rcases hs with ⟨z1, z2⟩ | ⟨p, p1, p2, p3, p4⟩; exact Or.inl ⟨by omega, by rw [z2]⟩; exact Or.inr ⟨p, by omega, p2, by omega, by rw [p4]⟩⟩⟩⟩
              · refine lv_aload_n hex hby dX0_endOfJoined_97 rfl (lv_at hl 6 rfl) ?_
                refine nv_get (v := .ref aG) CFx in_X0_endOfJoined_X0 hK hP 0 rfl rfl 2 (by decide) (List.mem_of_getElem? (i := 2) rfl) faG dX0_endOfJoined_98 ?_
                refine lv_iload hex hby dX0_endOfJoined_101 (lv_at hl 2 rfl) ?_
                refine nv_iald hex hby hK hP 2 0 rfl rfl (by omega) (by omega) dX0_endOfJoined_103 ?_
                have hb_23 := hGb i
                refine lv_goto (tgt := 114) hex hby dX0_endOfJoined_104 (by decide) ?_
                exact hret _ _ _ _ (Or.inl ⟨rfl, _, rfl, rfl, dX0_endOfJoined_114⟩) ⟨_, rfl, ⟨(G i), rfl, ⟨fun _ => Or.inr ⟨i, by omega, hkp, by omega, rfl⟩, fun z => absurd (show l_z ≠ 0 by omega) z⟩⟩⟩
          · refine lv_goto (tgt := 124) hex hby dX0_endOfJoined_84 (by decide) ?_
            refine lv_iinc (v := nI (i + 1)) (lv' := [(8, .int (nI (i + 1))), (5, .int (zI (ltj - 1))), (9, .int (nI (gpf F G i))), (7, .int (nI s_)), (6, .int (nI pa)), (4, .int (nI Lg)), (0, .ref ho), (1, .int (nI k)), (2, .int (nI q)), (3, .int l_)]) hex hby dX0_endOfJoined_124 hl (k := 2) rfl (ni_inc _) (by decide) rfl (fun ls hl => ?_)
            refine lv_goto (tgt := 36) hex hby dX0_endOfJoined_127 (by decide) ?_
            exact ih36 (ltj - 1) pa s_ (i + 1) (by omega) (by omega) (by rw [ctP_no (p := (fun p => cn - k ≤ rkJ (gpf F G) (cn - 1) p)) (by have := hjn.mpr (Or.inr ⟨by omega, by omega⟩); omega)]; exact hpa) (by omega) hs.up (by omega) (by rw [ctP_yes (p := fun p => gpf F G p = Lg) (by omega)]; omega) _ (lv_sub hl [0, 3, 4, 1, 5, 6, 7, 8, 9] rfl)
  exact loop36 _ (((cn - k : Nat) : Int) - ((cgJ F G (cn - 1) ((Lg : Int) - (1 : Int)) : Nat) : Int)) 0 0 0 (Nat.lt_succ_self _) (by omega) rfl (by omega) (Or.inl ⟨rfl, rfl⟩) (by omega) (show _ = _ by rw [ctP]; omega) _ (lv_sub hl [0, 1, 2, 3, 4, 5, 6, 7, 8] rfl)
theorem nd_X10_joins : ndV yX10_joins RX10 1 := by decide +kernel
theorem in_X10_joins_X10 : ∀ w ∈ wsX100, w ∈ wsX10_joins := fun _ h => List.mem_cons_of_mem _ (List.mem_append_right _ (h))
set_option maxHeartbeats 4000000 in
set_option maxRecDepth 100000 in
theorem c_X10_joins {h : Nat} {aC : Nat} {aF : Nat} {aG : Nat} {m : Nat} {v1 : Value} {v2 : Value} {v3 : Value} {rl : Nat} {rb : Nat} {rr : Nat} {ra : Nat} {v8 : Value} {v9 : Value} {v10 : Value} {v11 : Value} {v12 : Value} {v13 : Value} {v14 : Value} {v15 : Value} {v16 : Value} {v17 : Value} {v18 : Value} {v19 : Value} {v20 : Value} {v21 : Value} {v25 : Value} {v26 : Value} {v27 : Value} {v28 : Value} {g : Nat → Nat} {Fa : Nat → Nat} {Ga : Nat → Nat} {k : Nat} (hF0 : ∀ j, Fa j < 4096) (hG0 : ∀ j, Ga j < 4096) (hg : ∀ j, g j < 4096) (hm6 : m ≤ 6) (hrl : rl < 64) (hrb : rb < 64) (hrr : rr < 64) (hra : ra < 64) (hk1 : 1 ≤ k) (hk0 : k < 2147483648) (hne : ∃ i, i < 4 ^ m ∧ inG g rl rb rr ra i) : MU l yX10_joins wsX10_joins 3 66 (dC, dI) (tyK cI cZ cS) [(h, .inr (10, [.int (nI m), v1, v2, v3, .int (nI rl), .int (nI rb), .int (nI rr), .int (nI ra), v8, v9, v10, v11, v12, v13, v14, v15, v16, v17, v18, v19, v20, v21, .ref aC, .ref aF, .ref aG, v25, v26, v27, v28])), (aC, .inl (cI, 4096, .inl (nA g))), (aF, .inl (cI, 4096, .inl (nA Fa))), (aG, .inl (cI, 4096, .inl (nA Ga)))] [] [.ref h, .int (nI k)] (fun rv_ (u_ : Nat × (Nat → Nat) × (Nat → Nat)) => rI (fun r => ∃ cn : Nat, ∃ F : Nat → Nat, ∃ G : Nat → Nat, r = nI (exJ F G cn (cn - k)) ∧ IvOK (inG g rl rb rr ra) (4 ^ m) cn F G ∧ cn - (cn - k) = u_.1 ∧ JS (fun p => cn - k ≤ rkJ (gpf F G) (cn - 1) p) cn u_.1 u_.2.1 u_.2.2 F G ∧ (∀ j, u_.2.1 j < 4096) ∧ (∀ j, u_.2.2 j < 4096)) rv_) (fun (u_ : Nat × (Nat → Nat) × (Nat → Nat)) => [(h, .inr (10, [.int (nI m), v1, v2, v3, .int (nI rl), .int (nI rb), .int (nI rr), .int (nI ra), v8, v9, v10, v11, v12, v13, v14, v15, v16, v17, v18, v19, v20, v21, .ref aC, .ref aF, .ref aG, .int (nI u_.1), v26, v27, v28])), (aC, .inl (cI, 4096, .inl (nA g))), (aF, .inl (cI, 4096, .inl (nA u_.2.1))), (aG, .inl (cI, 4096, .inl (nA u_.2.2)))]) := by
  refine mu_of (by decide) rfl (Nat.le_of_ble_eq_true rfl) ?_
  intro pp ee ss mm bb mt cd Q A CFx hP hK hD hS hA hTr hret ls hl
  obtain ⟨hex, hby, hml, hown, hts⟩ := id CFx
  have hl : lv_has ls 5 [(0, .ref h), (1, .int (nI k))] := hl
  have h46 := p4_6 hm6
  refine lv_aload_n hex hby dX10_joins_0 rfl (lv_at hl 0 rfl) ?_
  refine mu_Vv (As := []) (rest := []) (wr := []) CFx (c_X10_findIntervals (h := h) (aC := aC) (aF := aF) (aG := aG) (m := m) (v1 := v1) (v2 := v2) (v3 := v3) (rl := rl) (rb := rb) (rr := rr) (ra := ra) (v8 := v8) (v9 := v9) (v10 := v10) (v11 := v11) (v12 := v12) (v13 := v13) (v14 := v14) (v15 := v15) (v16 := v16) (v17 := v17) (v18 := v18) (v19 := v19) (v20 := v20) (v21 := v21) (v25 := v25) (v26 := v26) (v27 := v27) (v28 := v28) (g := g) (Fa := Fa) (Ga := Ga) hF0 hG0 hg hm6 hrl hrb hrr hra) 0 gX10_joins_X10_findIntervals rfl nd_X10_findIntervals ⟨Nat.le_of_ble_eq_true rfl, Nat.le_of_ble_eq_true rfl⟩ hK hP hD hS hA [0, 1, 2, 3] [] rfl rfl (by decide) (by decide) (by decide) TR.nil rfl rfl rfl hl.1 rfl (Nat.le_of_ble_eq_true rfl) dX10_joins_1 ⟨Nat.le_refl _, Nat.le_refl _⟩ (fun u H locs hr_1 hP hD hS => ?_)
  obtain ⟨cn, F, G⟩ := u
  dsimp only at hr_1 hP hD
  have hP : va_P (dC, dI) vwCl [(h, .inr (10, [.int (nI m), v1, v2, v3, .int (nI rl), .int (nI rb), .int (nI rr), .int (nI ra), v8, v9, v10, v11, v12, v13, v14, v15, v16, v17, v18, v19, v20, v21, .ref aC, .ref aF, .ref aG, .int (nI cn), v26, v27, v28])), (aC, .inl (cI, 4096, .inl (nA g))), (aF, .inl (cI, 4096, .inl (nA F))), (aG, .inl (cI, 4096, .inl (nA G)))] H := hP
  have hD : va_D A [(h, .inr (10, [.int (nI m), v1, v2, v3, .int (nI rl), .int (nI rb), .int (nI rr), .int (nI ra), v8, v9, v10, v11, v12, v13, v14, v15, v16, v17, v18, v19, v20, v21, .ref aC, .ref aF, .ref aG, .int (nI cn), v26, v27, v28])), (aC, .inl (cI, 4096, .inl (nA g))), (aF, .inl (cI, 4096, .inl (nA F))), (aG, .inl (cI, 4096, .inl (nA G)))] := hD
  obtain ⟨hI, hcn, hFb, hGb⟩ := hr_1
  have hcn0 : 0 < cn := by rw [hI.1]; exact iv_pos hne
  have hgap : ∀ p, p < cn - 1 → G p + 1 < F (p + 1) := fun p hp => hI.gap (by omega)
  refine lv_iconst (v := nI 0) hex hby dX10_joins_4 rfl ?_
  refine lv_istore_n (lv' := [(2, .int (nI 0)), (0, .ref h), (1, .int (nI k))]) hex hby dX10_joins_5 rfl hl (by decide) rfl (fun ls hl => ?_)
  have loop6 : ∀ (nn : Nat) (ex : Nat) (im : Nat) (fs_ : Nat → Nat) (gs_ : Nat → Nat) (t : Nat), im < nn → (im + t = cn) → (t ≤ cn - k) → (JS (fun p => t ≤ rkJ (gpf F G) (cn - 1) p) cn im fs_ gs_ F G) → (ex = exJ F G cn t) → (∀ j, fs_ j < 4096) → (∀ j, gs_ j < 4096) → ∀ (H : Heap) (locs : List Loc), va_P (dC, dI) vwCl [(h, .inr (10, [.int (nI m), v1, v2, v3, .int (nI rl), .int (nI rb), .int (nI rr), .int (nI ra), v8, v9, v10, v11, v12, v13, v14, v15, v16, v17, v18, v19, v20, v21, .ref aC, .ref aF, .ref aG, .int (nI im), v26, v27, v28])), (aC, .inl (cI, 4096, .inl (nA g))), (aF, .inl (cI, 4096, .inl (nA fs_))), (aG, .inl (cI, 4096, .inl (nA gs_)))] H → va_D A [(h, .inr (10, [.int (nI m), v1, v2, v3, .int (nI rl), .int (nI rb), .int (nI rr), .int (nI ra), v8, v9, v10, v11, v12, v13, v14, v15, v16, v17, v18, v19, v20, v21, .ref aC, .ref aF, .ref aG, .int (nI im), v26, v27, v28])), (aC, .inl (cI, 4096, .inl (nA g))), (aF, .inl (cI, 4096, .inl (nA fs_))), (aG, .inl (cI, 4096, .inl (nA gs_)))] → va_S A ss.heap H locs → ∀ ls : Array Slot, lv_has ls 5 [(2, .int (nI ex)), (0, .ref h), (1, .int (nI k))] → W pp l ee (rmO 3 66) ss mm ([.ref h, .int (nI k)] : List Value).toArray bb mt cd H locs 0 0 Q (F0 mm 6 ls []) := by
    intro nn
    induction nn with
    | zero => intro ex im fs_ gs_ t hms6; exact absurd hms6 (Nat.not_lt_zero _)
    | succ nn ih6 =>
      intro ex im fs_ gs_ t hms6 hit htk hJ hex_ hfb hlb H locs hP hD hS ls hl
      refine lv_aload_n hex hby dX10_joins_6 rfl (lv_at hl 1 rfl) ?_
      refine nv_get (v := .int (nI im)) CFx in_X10_joins_X10 hK hP 0 rfl rfl 25 (by decide) (List.mem_of_getElem? (i := 1) rfl) rfl dX10_joins_7 ?_
      refine lv_iload_n hex hby dX10_joins_10 rfl (lv_at hl 2 rfl) ?_
      refine nv_icmp_le (tgt := 179) hex hby dX10_joins_11 (by decide) (by omega) (by omega) (fun c_5 => ?_) (fun c_5 => ?_)
      · have htk2 : t = cn - k := by omega
        refine lv_iload_n hex hby dX10_joins_179 rfl (lv_at hl 0 rfl) ?_
        exact hret _ (im, fs_, gs_) _ _ _ _ _ (Or.inl ⟨rfl, _, rfl, rfl, dX10_joins_180⟩) ⟨_, rfl, ⟨cn, F, G, (by rw [hex_, htk2]), hI, (by omega), (by rw [← htk2]; exact hJ), hfb, hlb⟩⟩ hP hD hS
      · refine lv_iconst (v := nI 0) hex hby dX10_joins_14 rfl ?_
        refine lv_istore_n (lv' := [(3, .int (nI 0)), (2, .int (nI ex)), (0, .ref h), (1, .int (nI k))]) hex hby dX10_joins_15 rfl hl (by decide) rfl (fun ls hl => ?_)
        refine lv_iconst (v := nI 1) hex hby dX10_joins_16 rfl ?_
        refine lv_istore (lv' := [(4, .int (nI 1)), (3, .int (nI 0)), (2, .int (nI ex)), (0, .ref h), (1, .int (nI k))]) hex hby dX10_joins_17 hl (by decide) rfl (fun ls hl => ?_)
        have loop19 : ∀ (nn : Nat) (bq : Nat) (i : Nat), (im - i) < nn → (1 ≤ i) → (i + 1 ≤ im) → (bq < i) → (∀ j, j < bq → fs_ (bq + 1) - gs_ bq < fs_ (j + 1) - gs_ j) → (∀ j, j < i → fs_ (bq + 1) - gs_ bq ≤ fs_ (j + 1) - gs_ j) → ∀ (H : Heap) (locs : List Loc), va_P (dC, dI) vwCl [(h, .inr (10, [.int (nI m), v1, v2, v3, .int (nI rl), .int (nI rb), .int (nI rr), .int (nI ra), v8, v9, v10, v11, v12, v13, v14, v15, v16, v17, v18, v19, v20, v21, .ref aC, .ref aF, .ref aG, .int (nI im), v26, v27, v28])), (aC, .inl (cI, 4096, .inl (nA g))), (aF, .inl (cI, 4096, .inl (nA fs_))), (aG, .inl (cI, 4096, .inl (nA gs_)))] H → va_D A [(h, .inr (10, [.int (nI m), v1, v2, v3, .int (nI rl), .int (nI rb), .int (nI rr), .int (nI ra), v8, v9, v10, v11, v12, v13, v14, v15, v16, v17, v18, v19, v20, v21, .ref aC, .ref aF, .ref aG, .int (nI im), v26, v27, v28])), (aC, .inl (cI, 4096, .inl (nA g))), (aF, .inl (cI, 4096, .inl (nA fs_))), (aG, .inl (cI, 4096, .inl (nA gs_)))] → va_S A ss.heap H locs → ∀ ls : Array Slot, lv_has ls 5 [(4, .int (nI i)), (3, .int (nI bq)), (2, .int (nI ex)), (0, .ref h), (1, .int (nI k))] → W pp l ee (rmO 3 66) ss mm ([.ref h, .int (nI k)] : List Value).toArray bb mt cd H locs 0 0 Q (F0 mm 19 ls []) := by
          intro nn
          induction nn with
          | zero => intro bq i hms19; exact absurd hms19 (Nat.not_lt_zero _)
          | succ nn ih19 =>
            intro bq i hms19 hi1 hi2 hbi hb1 hb2 H locs hP hD hS ls hl
            refine lv_iload hex hby dX10_joins_19 (lv_at hl 0 rfl) ?_
            refine lv_iconst (v := nI 1) hex hby dX10_joins_21 rfl ?_
            refine nv_iadd hex hby dX10_joins_22 ?_
            refine lv_aload_n hex hby dX10_joins_23 rfl (lv_at hl 3 rfl) ?_
            refine nv_get (v := .int (nI im)) CFx in_X10_joins_X10 hK hP 0 rfl rfl 25 (by decide) (List.mem_of_getElem? (i := 1) rfl) rfl dX10_joins_24 ?_
            refine nv_icmp_ge (tgt := 78) hex hby dX10_joins_27 (by decide) (by omega) (by omega) (fun c_6 => ?_) (fun c_6 => ?_)
            · have hgb_ := hJ.gapc hgap (q := bq) (by omega)
              refine lv_iload_n hex hby dX10_joins_78 rfl (lv_at hl 2 rfl) ?_
              refine lv_aload_n hex hby dX10_joins_79 rfl (lv_at hl 3 rfl) ?_
              refine nv_get (v := .ref aF) CFx in_X10_joins_X10 hK hP 0 rfl rfl 23 (by decide) (List.mem_of_getElem? (i := 2) rfl) rfl dX10_joins_80 ?_
              refine lv_iload_n hex hby dX10_joins_83 rfl (lv_at hl 1 rfl) ?_
              refine lv_iconst (v := nI 1) hex hby dX10_joins_84 rfl ?_
              refine nv_iadd hex hby dX10_joins_85 ?_
              refine nv_iald hex hby hK hP 2 0 rfl rfl (by omega) (by omega) dX10_joins_86 ?_
              have hb_7 := hfb (bq + 1)
              refine lv_aload_n hex hby dX10_joins_87 rfl (lv_at hl 3 rfl) ?_
              refine nv_get (v := .ref aG) CFx in_X10_joins_X10 hK hP 0 rfl rfl 24 (by decide) (List.mem_of_getElem? (i := 3) rfl) rfl dX10_joins_88 ?_
              refine lv_iload_n hex hby dX10_joins_91 rfl (lv_at hl 1 rfl) ?_
              refine nv_iald hex hby hK hP 3 0 rfl rfl (by omega) (by omega) dX10_joins_92 ?_
              have hb_8 := hlb bq
              refine nv_isub hex hby dX10_joins_93 (by omega) ?_
              refine lv_iconst (v := nI 1) hex hby dX10_joins_94 rfl ?_
              refine nv_isub hex hby dX10_joins_95 (by omega) ?_
              refine nv_iadd hex hby dX10_joins_96 ?_
              refine lv_istore_n (lv' := [(2, .int (nI (ex + (fs_ (bq + 1) - gs_ bq - 1)))), (4, .int (nI i)), (3, .int (nI bq)), (0, .ref h), (1, .int (nI k))]) hex hby dX10_joins_97 rfl hl (by decide) rfl (fun ls hl => ?_)
              refine lv_aload_n hex hby dX10_joins_98 rfl (lv_at hl 3 rfl) ?_
              refine nv_get (v := .ref aG) CFx in_X10_joins_X10 hK hP 0 rfl rfl 24 (by decide) (List.mem_of_getElem? (i := 3) rfl) rfl dX10_joins_99 ?_
              refine lv_iload_n hex hby dX10_joins_102 rfl (lv_at hl 2 rfl) ?_
              refine lv_aload_n hex hby dX10_joins_103 rfl (lv_at hl 3 rfl) ?_
              refine nv_get (v := .ref aG) CFx in_X10_joins_X10 hK hP 0 rfl rfl 24 (by decide) (List.mem_of_getElem? (i := 3) rfl) rfl dX10_joins_104 ?_
              refine lv_iload_n hex hby dX10_joins_107 rfl (lv_at hl 2 rfl) ?_
              refine lv_iconst (v := nI 1) hex hby dX10_joins_108 rfl ?_
              refine nv_iadd hex hby dX10_joins_109 ?_
              refine nv_iald hex hby hK hP 3 0 rfl rfl (by omega) (by omega) dX10_joins_110 ?_
              have hb_9 := hlb (bq + 1)
              refine nv_iast hex hby hK hP hD hS 3 0 rfl rfl (by omega) (by omega) dX10_joins_111 (fun H locs hP hD hS => ?_)
              have hP : va_P (dC, dI) vwCl [(h, .inr (10, [.int (nI m), v1, v2, v3, .int (nI rl), .int (nI rb), .int (nI rr), .int (nI ra), v8, v9, v10, v11, v12, v13, v14, v15, v16, v17, v18, v19, v20, v21, .ref aC, .ref aF, .ref aG, .int (nI im), v26, v27, v28])), (aC, .inl (cI, 4096, .inl (nA g))), (aF, .inl (cI, 4096, .inl (nA fs_))), (aG, .inl (cI, 4096, .inl (nA (upN gs_ bq (gs_ (bq + 1))))))] H := hP
              have hD : va_D A [(h, .inr (10, [.int (nI m), v1, v2, v3, .int (nI rl), .int (nI rb), .int (nI rr), .int (nI ra), v8, v9, v10, v11, v12, v13, v14, v15, v16, v17, v18, v19, v20, v21, .ref aC, .ref aF, .ref aG, .int (nI im), v26, v27, v28])), (aC, .inl (cI, 4096, .inl (nA g))), (aF, .inl (cI, 4096, .inl (nA fs_))), (aG, .inl (cI, 4096, .inl (nA (upN gs_ bq (gs_ (bq + 1))))))] := hD
              have hB_10 := upN_lt (k := bq) (x := gs_ (bq + 1)) hlb (by omega)
              refine lv_iload_n hex hby dX10_joins_112 rfl (lv_at hl 2 rfl) ?_
              refine lv_iconst (v := nI 1) hex hby dX10_joins_113 rfl ?_
              refine nv_iadd hex hby dX10_joins_114 ?_
              refine lv_istore (lv' := [(4, .int (nI (bq + 1))), (2, .int (nI (ex + (fs_ (bq + 1) - gs_ bq - 1)))), (3, .int (nI bq)), (0, .ref h), (1, .int (nI k))]) hex hby dX10_joins_115 hl (by decide) rfl (fun ls hl => ?_)
              have loop117 : ∀ (nn : Nat) (i : Nat) (f2 : Nat → Nat) (l2 : Nat → Nat), (im - i) < nn → (bq + 1 ≤ i) → (i + 1 ≤ im) → (∀ j, f2 j < 4096) → (∀ j, l2 j < 4096) → (∀ j, j < bq → l2 j = gs_ j) → (l2 bq = gs_ (bq + 1)) → (∀ j, bq < j → j < i → l2 j = gs_ (j + 1)) → (∀ j, i ≤ j → l2 j = gs_ j) → (∀ j, j ≤ bq → f2 j = fs_ j) → (∀ j, bq < j → j < i → f2 j = fs_ (j + 1)) → (∀ j, i ≤ j → f2 j = fs_ j) → ∀ (H : Heap) (locs : List Loc), va_P (dC, dI) vwCl [(h, .inr (10, [.int (nI m), v1, v2, v3, .int (nI rl), .int (nI rb), .int (nI rr), .int (nI ra), v8, v9, v10, v11, v12, v13, v14, v15, v16, v17, v18, v19, v20, v21, .ref aC, .ref aF, .ref aG, .int (nI im), v26, v27, v28])), (aC, .inl (cI, 4096, .inl (nA g))), (aF, .inl (cI, 4096, .inl (nA f2))), (aG, .inl (cI, 4096, .inl (nA l2)))] H → va_D A [(h, .inr (10, [.int (nI m), v1, v2, v3, .int (nI rl), .int (nI rb), .int (nI rr), .int (nI ra), v8, v9, v10, v11, v12, v13, v14, v15, v16, v17, v18, v19, v20, v21, .ref aC, .ref aF, .ref aG, .int (nI im), v26, v27, v28])), (aC, .inl (cI, 4096, .inl (nA g))), (aF, .inl (cI, 4096, .inl (nA f2))), (aG, .inl (cI, 4096, .inl (nA l2)))] → va_S A ss.heap H locs → ∀ ls : Array Slot, lv_has ls 5 [(4, .int (nI i)), (2, .int (nI (ex + (fs_ (bq + 1) - gs_ bq - 1)))), (3, .int (nI bq)), (0, .ref h), (1, .int (nI k))] → W pp l ee (rmO 3 66) ss mm ([.ref h, .int (nI k)] : List Value).toArray bb mt cd H locs 0 0 Q (F0 mm 117 ls []) := by
                intro nn
                induction nn with
                | zero => intro i f2 l2 hms117; exact absurd hms117 (Nat.not_lt_zero _)
                | succ nn ih117 =>
                  intro i f2 l2 hms117 hi3 hi4 hf2b hl2b q1 q2 q3 q4 q5 q6 q7 H locs hP hD hS ls hl
                  refine lv_iload hex hby dX10_joins_117 (lv_at hl 0 rfl) ?_
                  refine lv_iconst (v := nI 1) hex hby dX10_joins_119 rfl ?_
                  refine nv_iadd hex hby dX10_joins_120 ?_
                  refine lv_aload_n hex hby dX10_joins_121 rfl (lv_at hl 3 rfl) ?_
                  refine nv_get (v := .int (nI im)) CFx in_X10_joins_X10 hK hP 0 rfl rfl 25 (by decide) (List.mem_of_getElem? (i := 1) rfl) rfl dX10_joins_122 ?_
                  refine nv_icmp_ge (tgt := 166) hex hby dX10_joins_125 (by decide) (by omega) (by omega) (fun c_11 => ?_) (fun c_11 => ?_)
                  · have hnj := hJ.step hgap (q := bq) (by omega) hit hb1 (fun j hj => hb2 j (by omega)) q1 q2 (fun j h1 h2 => q3 j h1 (by omega)) q5 (fun j h1 h2 => q6 j h1 (by omega))
                    refine lv_aload_n hex hby dX10_joins_166 rfl (lv_at hl 3 rfl) ?_
                    refine lv_dup hex hby dX10_joins_167 rfl ?_
                    refine nv_get (v := .int (nI im)) CFx in_X10_joins_X10 hK hP 0 rfl rfl 25 (by decide) (List.mem_of_getElem? (i := 1) rfl) rfl dX10_joins_168 ?_
                    refine lv_iconst (v := nI 1) hex hby dX10_joins_171 rfl ?_
                    refine nv_isub hex hby dX10_joins_172 (by omega) ?_
                    refine nv_put CFx in_X10_joins_X10 tyX10 tyX10_ok nmX10 hK hP hD hS 0 rfl rfl 25 (by decide) (List.mem_of_getElem? (i := 1) rfl) rfl (by decide +kernel) (Nat.le_of_ble_eq_true rfl) dX10_joins_173 (fun H locs hP hD hS => ?_)
                    have hP : va_P (dC, dI) vwCl [(h, .inr (10, [.int (nI m), v1, v2, v3, .int (nI rl), .int (nI rb), .int (nI rr), .int (nI ra), v8, v9, v10, v11, v12, v13, v14, v15, v16, v17, v18, v19, v20, v21, .ref aC, .ref aF, .ref aG, .int (nI (im - 1)), v26, v27, v28])), (aC, .inl (cI, 4096, .inl (nA g))), (aF, .inl (cI, 4096, .inl (nA f2))), (aG, .inl (cI, 4096, .inl (nA l2)))] H := hP
                    have hD : va_D A [(h, .inr (10, [.int (nI m), v1, v2, v3, .int (nI rl), .int (nI rb), .int (nI rr), .int (nI ra), v8, v9, v10, v11, v12, v13, v14, v15, v16, v17, v18, v19, v20, v21, .ref aC, .ref aF, .ref aG, .int (nI (im - 1)), v26, v27, v28])), (aC, .inl (cI, 4096, .inl (nA g))), (aF, .inl (cI, 4096, .inl (nA f2))), (aG, .inl (cI, 4096, .inl (nA l2)))] := hD
                    refine lv_goto (tgt := 6) hex hby dX10_joins_176 (by decide) ?_
                    exact ih6 (ex + (fs_ (bq + 1) - gs_ bq - 1)) (im - 1) f2 l2 (t + 1) (by omega) (by omega) (by omega) hnj.1 (by rw [hnj.2, hex_]) hf2b hl2b _ _ hP hD hS _ (lv_sub hl [1, 3, 4] rfl)
                  · refine lv_aload_n hex hby dX10_joins_128 rfl (lv_at hl 3 rfl) ?_
                    refine nv_get (v := .ref aF) CFx in_X10_joins_X10 hK hP 0 rfl rfl 23 (by decide) (List.mem_of_getElem? (i := 2) rfl) rfl dX10_joins_129 ?_
                    refine lv_iload hex hby dX10_joins_132 (lv_at hl 0 rfl) ?_
                    refine lv_aload_n hex hby dX10_joins_134 rfl (lv_at hl 3 rfl) ?_
                    refine nv_get (v := .ref aF) CFx in_X10_joins_X10 hK hP 0 rfl rfl 23 (by decide) (List.mem_of_getElem? (i := 2) rfl) rfl dX10_joins_135 ?_
                    refine lv_iload hex hby dX10_joins_138 (lv_at hl 0 rfl) ?_
                    refine lv_iconst (v := nI 1) hex hby dX10_joins_140 rfl ?_
                    refine nv_iadd hex hby dX10_joins_141 ?_
                    refine nv_iald hex hby hK hP 2 0 rfl rfl (by omega) (by omega) dX10_joins_142 ?_
                    have hb_12 := hf2b (i + 1)
                    refine nv_iast hex hby hK hP hD hS 2 0 rfl rfl (by omega) (by omega) dX10_joins_143 (fun H locs hP hD hS => ?_)
                    have hP : va_P (dC, dI) vwCl [(h, .inr (10, [.int (nI m), v1, v2, v3, .int (nI rl), .int (nI rb), .int (nI rr), .int (nI ra), v8, v9, v10, v11, v12, v13, v14, v15, v16, v17, v18, v19, v20, v21, .ref aC, .ref aF, .ref aG, .int (nI im), v26, v27, v28])), (aC, .inl (cI, 4096, .inl (nA g))), (aF, .inl (cI, 4096, .inl (nA (upN f2 i (f2 (i + 1)))))), (aG, .inl (cI, 4096, .inl (nA l2)))] H := hP
                    have hD : va_D A [(h, .inr (10, [.int (nI m), v1, v2, v3, .int (nI rl), .int (nI rb), .int (nI rr), .int (nI ra), v8, v9, v10, v11, v12, v13, v14, v15, v16, v17, v18, v19, v20, v21, .ref aC, .ref aF, .ref aG, .int (nI im), v26, v27, v28])), (aC, .inl (cI, 4096, .inl (nA g))), (aF, .inl (cI, 4096, .inl (nA (upN f2 i (f2 (i + 1)))))), (aG, .inl (cI, 4096, .inl (nA l2)))] := hD
                    have hB_13 := upN_lt (k := i) (x := f2 (i + 1)) hf2b (by omega)
                    refine lv_aload_n hex hby dX10_joins_144 rfl (lv_at hl 3 rfl) ?_
                    refine nv_get (v := .ref aG) CFx in_X10_joins_X10 hK hP 0 rfl rfl 24 (by decide) (List.mem_of_getElem? (i := 3) rfl) rfl dX10_joins_145 ?_
                    refine lv_iload hex hby dX10_joins_148 (lv_at hl 0 rfl) ?_
                    refine lv_aload_n hex hby dX10_joins_150 rfl (lv_at hl 3 rfl) ?_
                    refine nv_get (v := .ref aG) CFx in_X10_joins_X10 hK hP 0 rfl rfl 24 (by decide) (List.mem_of_getElem? (i := 3) rfl) rfl dX10_joins_151 ?_
                    refine lv_iload hex hby dX10_joins_154 (lv_at hl 0 rfl) ?_
                    refine lv_iconst (v := nI 1) hex hby dX10_joins_156 rfl ?_
                    refine nv_iadd hex hby dX10_joins_157 ?_
                    refine nv_iald hex hby hK hP 3 0 rfl rfl (by omega) (by omega) dX10_joins_158 ?_
                    have hb_14 := hl2b (i + 1)
                    refine nv_iast hex hby hK hP hD hS 3 0 rfl rfl (by omega) (by omega) dX10_joins_159 (fun H locs hP hD hS => ?_)
                    have hP : va_P (dC, dI) vwCl [(h, .inr (10, [.int (nI m), v1, v2, v3, .int (nI rl), .int (nI rb), .int (nI rr), .int (nI ra), v8, v9, v10, v11, v12, v13, v14, v15, v16, v17, v18, v19, v20, v21, .ref aC, .ref aF, .ref aG, .int (nI im), v26, v27, v28])), (aC, .inl (cI, 4096, .inl (nA g))), (aF, .inl (cI, 4096, .inl (nA (upN f2 i (f2 (i + 1)))))), (aG, .inl (cI, 4096, .inl (nA (upN l2 i (l2 (i + 1))))))] H := hP
                    have hD : va_D A [(h, .inr (10, [.int (nI m), v1, v2, v3, .int (nI rl), .int (nI rb), .int (nI rr), .int (nI ra), v8, v9, v10, v11, v12, v13, v14, v15, v16, v17, v18, v19, v20, v21, .ref aC, .ref aF, .ref aG, .int (nI im), v26, v27, v28])), (aC, .inl (cI, 4096, .inl (nA g))), (aF, .inl (cI, 4096, .inl (nA (upN f2 i (f2 (i + 1)))))), (aG, .inl (cI, 4096, .inl (nA (upN l2 i (l2 (i + 1))))))] := hD
                    have hB_15 := upN_lt (k := i) (x := l2 (i + 1)) hl2b (by omega)
                    refine lv_iinc (v := nI (i + 1)) (lv' := [(4, .int (nI (i + 1))), (2, .int (nI (ex + (fs_ (bq + 1) - gs_ bq - 1)))), (3, .int (nI bq)), (0, .ref h), (1, .int (nI k))]) hex hby dX10_joins_160 hl (k := 0) rfl (ni_inc _) (by decide) rfl (fun ls hl => ?_)
                    refine lv_goto (tgt := 117) hex hby dX10_joins_163 (by decide) ?_
                    have pf_16 : ∀ j, bq < j → j < (i + 1) → (upN l2 i (l2 (i + 1))) j = gs_ (j + 1) := by
                      intro j h1 h2
                      rcases Nat.lt_or_ge j i with z | z
                      · rw [upN_n (by omega)]; exact q3 j h1 z
                      · rw [show j = i by omega, upN_s]; exact q4 _ (by omega)
                    have pf_17 : ∀ j, bq < j → j < (i + 1) → (upN f2 i (f2 (i + 1))) j = fs_ (j + 1) := by
                      intro j h1 h2
                      rcases Nat.lt_or_ge j i with z | z
                      · rw [upN_n (by omega)]; exact q6 j h1 z
                      · rw [show j = i by omega, upN_s]; exact q7 _ (by omega)
                    exact ih117 (i + 1) (upN f2 i (f2 (i + 1))) (upN l2 i (l2 (i + 1))) (by omega) (by omega) (by omega) hB_13 hB_15 (fun j hj => by rw [upN_n (by omega)]; exact q1 j hj) (by rw [upN_n (by omega)]; exact q2) pf_16 (fun j hj => by rw [upN_n (by omega)]; exact q4 j (by omega)) (fun j hj => by rw [upN_n (by omega)]; exact q5 j hj) pf_17 (fun j hj => by rw [upN_n (by omega)]; exact q7 j (by omega)) _ _ hP hD hS _ (lv_sub hl [0, 1, 2, 3, 4] rfl)
              exact loop117 _ (bq + 1) fs_ (upN gs_ bq (gs_ (bq + 1))) (Nat.lt_succ_self _) (by omega) (by omega) hfb hB_10 (fun j hj => upN_n (by omega)) (upN_s _ _ _) (fun j h1 h2 => absurd h1 (by omega)) (fun j hj => upN_n (by omega)) (fun _ _ => rfl) (fun j h1 h2 => absurd h1 (by omega)) (fun _ _ => rfl) _ _ hP hD hS _ (lv_sub hl [0, 1, 2, 3, 4] rfl)
            · have hgi := hJ.gapc hgap (q := i) (by omega)
              have hgb_ := hJ.gapc hgap (q := bq) (by omega)
              have hbf1 := hfb (i + 1)
              have hbf2 := hfb (bq + 1)
              refine lv_aload_n hex hby dX10_joins_30 rfl (lv_at hl 3 rfl) ?_
              refine nv_get (v := .ref aF) CFx in_X10_joins_X10 hK hP 0 rfl rfl 23 (by decide) (List.mem_of_getElem? (i := 2) rfl) rfl dX10_joins_31 ?_
              refine lv_iload hex hby dX10_joins_34 (lv_at hl 0 rfl) ?_
              refine lv_iconst (v := nI 1) hex hby dX10_joins_36 rfl ?_
              refine nv_iadd hex hby dX10_joins_37 ?_
              refine nv_iald hex hby hK hP 2 0 rfl rfl (by omega) (by omega) dX10_joins_38 ?_
              have hb_18 := hfb (i + 1)
              refine lv_aload_n hex hby dX10_joins_39 rfl (lv_at hl 3 rfl) ?_
              refine nv_get (v := .ref aG) CFx in_X10_joins_X10 hK hP 0 rfl rfl 24 (by decide) (List.mem_of_getElem? (i := 3) rfl) rfl dX10_joins_40 ?_
              refine lv_iload hex hby dX10_joins_43 (lv_at hl 0 rfl) ?_
              refine nv_iald hex hby hK hP 3 0 rfl rfl (by omega) (by omega) dX10_joins_45 ?_
              have hb_19 := hlb i
              refine nv_isub hex hby dX10_joins_46 (by omega) ?_
              refine lv_aload_n hex hby dX10_joins_47 rfl (lv_at hl 3 rfl) ?_
              refine nv_get (v := .ref aF) CFx in_X10_joins_X10 hK hP 0 rfl rfl 23 (by decide) (List.mem_of_getElem? (i := 2) rfl) rfl dX10_joins_48 ?_
              refine lv_iload_n hex hby dX10_joins_51 rfl (lv_at hl 1 rfl) ?_
              refine lv_iconst (v := nI 1) hex hby dX10_joins_52 rfl ?_
              refine nv_iadd hex hby dX10_joins_53 ?_
              refine nv_iald hex hby hK hP 2 0 rfl rfl (by omega) (by omega) dX10_joins_54 ?_
              have hb_20 := hfb (bq + 1)
              refine lv_aload_n hex hby dX10_joins_55 rfl (lv_at hl 3 rfl) ?_
              refine nv_get (v := .ref aG) CFx in_X10_joins_X10 hK hP 0 rfl rfl 24 (by decide) (List.mem_of_getElem? (i := 3) rfl) rfl dX10_joins_56 ?_
              refine lv_iload_n hex hby dX10_joins_59 rfl (lv_at hl 1 rfl) ?_
              refine nv_iald hex hby hK hP 3 0 rfl rfl (by omega) (by omega) dX10_joins_60 ?_
              have hb_21 := hlb bq
              refine nv_isub hex hby dX10_joins_61 (by omega) ?_
              refine nv_icmp_ge (tgt := 70) hex hby dX10_joins_62 (by decide) (by omega) (by omega) (fun c_22 => ?_) (fun c_22 => ?_)
              · refine lv_iload_n hex hby dX10_joins_70 rfl (lv_at hl 1 rfl) ?_
                refine lv_istore_n (lv' := [(3, .int (nI bq)), (4, .int (nI i)), (2, .int (nI ex)), (0, .ref h), (1, .int (nI k))]) hex hby dX10_joins_71 rfl hl (by decide) rfl (fun ls hl => ?_)
                refine lv_iinc (v := nI (i + 1)) (lv' := [(4, .int (nI (i + 1))), (3, .int (nI bq)), (2, .int (nI ex)), (0, .ref h), (1, .int (nI k))]) hex hby dX10_joins_72 hl (k := 1) rfl (ni_inc _) (by decide) rfl (fun ls hl => ?_)
                refine lv_goto (tgt := 19) hex hby dX10_joins_75 (by decide) ?_
                have pf_23 : ∀ j, j < (i + 1) → fs_ (bq + 1) - gs_ bq ≤ fs_ (j + 1) - gs_ j := by
                  intro j hj
                  rcases Nat.lt_or_ge j i with z | z
                  · exact hb2 j z
                  · rw [show j = i by omega]; omega
                exact ih19 bq (i + 1) (by omega) (by omega) (by omega) (by omega) hb1 pf_23 _ _ hP hD hS _ (lv_sub hl [0, 1, 2, 3, 4] rfl)
              · refine lv_iload hex hby dX10_joins_65 (lv_at hl 0 rfl) ?_
                refine lv_goto (tgt := 71) hex hby dX10_joins_67 (by decide) ?_
                refine lv_istore_n (lv' := [(3, .int (nI i)), (4, .int (nI i)), (2, .int (nI ex)), (0, .ref h), (1, .int (nI k))]) hex hby dX10_joins_71 rfl hl (by decide) rfl (fun ls hl => ?_)
                refine lv_iinc (v := nI (i + 1)) (lv' := [(4, .int (nI (i + 1))), (3, .int (nI i)), (2, .int (nI ex)), (0, .ref h), (1, .int (nI k))]) hex hby dX10_joins_72 hl (k := 1) rfl (ni_inc _) (by decide) rfl (fun ls hl => ?_)
                refine lv_goto (tgt := 19) hex hby dX10_joins_75 (by decide) ?_
                have pf_24 : ∀ j, j < i → fs_ (i + 1) - gs_ i < fs_ (j + 1) - gs_ j := by
                  intro j hj
                  have := hb2 j hj
                  omega
                have pf_25 : ∀ j, j < (i + 1) → fs_ (i + 1) - gs_ i ≤ fs_ (j + 1) - gs_ j := by
                  intro j hj
                  rcases Nat.lt_or_ge j i with z | z
                  · have := hb2 j z; omega
                  · rw [show j = i by omega]; exact Nat.le_refl _
                exact ih19 i (i + 1) (by omega) (by omega) (by omega) (by omega) pf_24 pf_25 _ _ hP hD hS _ (lv_sub hl [0, 1, 2, 3, 4] rfl)
        exact loop19 _ 0 1 (Nat.lt_succ_self _) (by omega) (by omega) (by omega) (fun j hj => absurd hj (by omega)) (fun j hj => by rw [show j = 0 by omega]; exact Nat.le_refl _) _ _ hP hD hS _ (lv_sub hl [0, 1, 2, 3, 4] rfl)
  exact loop6 _ 0 cn F G 0 (Nat.lt_succ_self _) (by omega) (by omega) (JS.init hcn0) (show 0 = exJ F G cn 0 from (smQ_none (fun j _ z => absurd z (Nat.not_lt_zero _))).symm) hFb hGb _ _ hP hD hS _ (lv_sub hl [0, 1, 2] rfl)
end JN
