section MQR
variable {l : Launch} {dC : Nat → ClassId} {dI : Nat → Nat → Nat} {cI cZ cS : ClassId}
theorem nd_X10_index : ndV yX10_index RX10 2 := by decide +kernel
theorem in_X10_index_X10 : ∀ w ∈ wsX100, w ∈ wsX10_index := fun _ h => List.mem_cons_of_mem _ (List.mem_append_right _ (h))
set_option maxHeartbeats 4000000 in
set_option maxRecDepth 100000 in
theorem c_X10_index {h : Nat} {aI : Nat} {fs : List Value} {m : Nat} {ix : Nat → Nat} {x : Int32} {xz : Int} {y : Int32} {yz : Int} {T : Nat → Nat} {ns : Nat} {g : Nat → Nat} (f_m : fs[0]? = some (.int (nI m))) (f_indexOf : fs[21]? = some (.ref aI)) (hxz : x.toInt = xz) (hyz : y.toInt = yz) (hix : ∀ j, ix j < 4096) (hm6 : m ≤ 6) (hV : VT T ns) (hN : NumOK T m g ix) : RO l yX10_index wsX10_index 2 44 (dC, dI) (tyK cI cZ cS) [(h, .inr (10, fs)), (aI, .inl (cI, 4096, .inl (nA ix)))] [.ref h, .int x, .int y] (rI (fun r => (r = nI (cvi T m xz.toNat yz.toNat) ∧ (0 ≤ xz ∧ xz < ((2 ^ m : Nat) : Int) ∧ 0 ≤ yz ∧ yz < ((2 ^ m : Nat) : Int))) ∨ (r = zI (-1) ∧ (¬ (0 ≤ xz ∧ xz < ((2 ^ m : Nat) : Int) ∧ 0 ≤ yz ∧ yz < ((2 ^ m : Nat) : Int)))))) := by
  refine ro_of (by decide) rfl (Nat.le_of_ble_eq_true rfl) ?_
  intro pp ee ss mm bb mt cd Q CFx hP hK hret ls hl
  obtain ⟨hex, hby, hml, hown, hts⟩ := id CFx
  have hl : lv_has ls 3 [(0, .ref h), (1, .int x), (2, .int y)] := hl
  have h26 := p2_6 hm6
  have h46 := p4_6 hm6
  have h4p := p4_pos m
  refine lv_aload_n hex hby dX10_index_0 rfl (lv_at hl 0 rfl) ?_
  refine lv_iload_n hex hby dX10_index_1 rfl (lv_at hl 1 rfl) ?_
  refine lv_iload_n hex hby dX10_index_2 rfl (lv_at hl 2 rfl) ?_
  refine ro_Vi (As := [.int x, .int y]) (rest := []) CFx (c_X10_isCell (h := h) (fs := fs) (m := m) (x := x) (xz := x.toInt) (y := y) (yz := y.toInt) f_m rfl rfl hm6) 2 gX10_index_X10_isCell rfl nd_X10_isCell ⟨Nat.le_of_ble_eq_true rfl, Nat.le_of_ble_eq_true rfl⟩ hK hP [0] rfl rfl rfl rfl hl.1 rfl (Nat.le_of_ble_eq_true rfl) dX10_index_3 ⟨Nat.le_refl _, Nat.le_refl _⟩ (fun r_1 hr_1 => ?_)
  rcases hr_1 with ⟨rfl, h_2⟩ | ⟨rfl, h_3⟩
  · refine nv_if_eq (tgt := 23) hex hby dX10_index_6 (by decide) (by omega) (fun c => absurd c (by omega)) (fun _ => ?_)
    obtain ⟨xn, hxn_, rfl, hxne⟩ := ni_of (x := x) (by omega)
    obtain ⟨yn, hyn_, rfl, hyne⟩ := ni_of (x := y) (by omega)
    have hxt : xz.toNat = xn := by omega
    have hyt : yz.toNat = yn := by omega
    refine lv_aload_n hex hby dX10_index_9 rfl (lv_at hl 0 rfl) ?_
    refine nv_get (v := .ref aI) CFx in_X10_index_X10 hK hP 0 rfl rfl 21 (by decide) (List.mem_of_getElem? (i := 1) rfl) f_indexOf dX10_index_10 ?_
    refine lv_bipush (v := nI 64) hex hby dX10_index_13 rfl ?_
    refine lv_iload_n hex hby dX10_index_15 rfl (lv_at hl 2 rfl) ?_
    refine nv_imul hex hby dX10_index_16 ?_
    refine lv_iload_n hex hby dX10_index_17 rfl (lv_at hl 1 rfl) ?_
    refine nv_iadd hex hby dX10_index_18 ?_
    refine nv_iald hex hby hK hP 1 0 rfl rfl (by omega) (by omega) dX10_index_19 ?_
    have hb_4 := hix (64 * yn + xn)
    refine lv_goto (tgt := 24) hex hby dX10_index_20 (by decide) ?_
    exact hret _ _ _ _ (Or.inl ⟨rfl, _, rfl, rfl, dX10_index_24⟩) ⟨_, rfl, Or.inl ⟨(congrArg nI (by rw [hxt, hyt, show 64 * yn + xn = yn * 64 + xn by omega]; exact hN.ix hV (by omega) (by omega))), (by omega)⟩⟩
  · refine nv_if_eq (tgt := 23) hex hby dX10_index_6 (by decide) (by omega) (fun _ => ?_) (fun c => absurd c (by omega))
    refine lv_iconst (v := zI (-1)) hex hby dX10_index_23 rfl ?_
    exact hret _ _ _ _ (Or.inl ⟨rfl, _, rfl, rfl, dX10_index_24⟩) ⟨_, rfl, Or.inr ⟨rfl, (by omega)⟩⟩
theorem nd_X10_cell : ndV yX10_cell RX10 2 := by decide +kernel
theorem in_X10_cell_X10 : ∀ w ∈ wsX100, w ∈ wsX10_cell := fun _ h => List.mem_cons_of_mem _ (List.mem_append_right _ (h))
set_option maxHeartbeats 4000000 in
set_option maxRecDepth 100000 in
theorem c_X10_cell {h : Nat} {aC : Nat} {fs : List Value} {m : Nat} {g : Nat → Nat} {i : Int32} {iz : Int} {w : Int32} {wz : Int} {T : Nat → Nat} {ns : Nat} {ix : Nat → Nat} (f_m : fs[0]? = some (.int (nI m))) (f_cellOf : fs[22]? = some (.ref aC)) (hiz : i.toInt = iz) (hwz : w.toInt = wz) (hg : ∀ j, g j < 4096) (hm6 : m ≤ 6) (hV : VT T ns) (hN : NumOK T m g ix) : RO l yX10_cell wsX10_cell 1 22 (dC, dI) (tyK cI cZ cS) [(h, .inr (10, fs)), (aC, .inl (cI, 4096, .inl (nA g)))] [.ref h, .int i, .int w] (rI (fun r => (r = nI (cvy T m iz.toNat) ∧ (0 ≤ iz ∧ iz < ((4 ^ m : Nat) : Int)) ∧ wz ≠ 0) ∨ (r = nI (cvx T m iz.toNat) ∧ (0 ≤ iz ∧ iz < ((4 ^ m : Nat) : Int)) ∧ wz = 0) ∨ (r = zI (-1) ∧ (¬ (0 ≤ iz ∧ iz < ((4 ^ m : Nat) : Int)))))) := by
  refine ro_of (by decide) rfl (Nat.le_of_ble_eq_true rfl) ?_
  intro pp ee ss mm bb mt cd Q CFx hP hK hret ls hl
  obtain ⟨hex, hby, hml, hown, hts⟩ := id CFx
  have hl : lv_has ls 3 [(0, .ref h), (1, .int i), (2, .int w)] := hl
  have h26 := p2_6 hm6
  have h46 := p4_6 hm6
  have h4p := p4_pos m
  refine lv_iload_n hex hby dX10_cell_0 rfl (lv_at hl 1 rfl) ?_
  refine lv_iconst (v := nI 0) hex hby dX10_cell_1 rfl ?_
  refine lv_aload_n hex hby dX10_cell_2 rfl (lv_at hl 0 rfl) ?_
  refine ro_Vi (As := []) (rest := [.int (nI 0), .int i]) CFx (c_X10_all (h := h) (fs := fs) (m := m) f_m hm6) 0 gX10_cell_X10_all rfl nd_X10_all ⟨Nat.le_of_ble_eq_true rfl, Nat.le_of_ble_eq_true rfl⟩ hK hP [0] rfl rfl rfl rfl hl.1 rfl (Nat.le_of_ble_eq_true rfl) dX10_cell_3 ⟨Nat.le_refl _, Nat.le_refl _⟩ (fun r_1 hr_1 => ?_)
  obtain rfl := hr_1
  refine lv_iconst (v := nI 1) hex hby dX10_cell_6 rfl ?_
  refine nv_isub hex hby dX10_cell_7 (by omega) ?_
  refine ro_Si (As := [.int i, .int (nI 0), .int (nI (4 ^ m - 1))]) (rest := []) (C := RX10) CFx (c_X10_in (x := i) (xz := i.toInt) (lo := nI 0) (loz := (0 : Int)) (hi := nI (4 ^ m - 1)) (hiz := ((4 ^ m - 1 : Nat) : Int)) rfl (by rfl) (ni_toInt (by omega))) 3 gX10_cell_X10_in rfl nd_X10_in ⟨Nat.le_of_ble_eq_true rfl, Nat.le_of_ble_eq_true rfl⟩ hK hP [] rfl rfl hl.1 rfl (Nat.le_of_ble_eq_true rfl) dX10_cell_8 ⟨Nat.le_refl _, Nat.le_refl _⟩ (fun r_2 hr_2 => ?_)
  rcases hr_2 with ⟨rfl, h_3⟩ | ⟨rfl, h_4⟩
  · refine nv_if_ne (tgt := 16) hex hby dX10_cell_11 (by decide) (by omega) (fun _ => ?_) (fun c => absurd c (by omega))
    obtain ⟨n, hn_, rfl, hne⟩ := ni_of (x := i) (by omega)
    have hnt : iz.toNat = n := by omega
    have hgn := hN.1 n (by omega)
    have hcm := cvc_mod (T := T) (k := m) n hm6
    refine lv_iload_n hex hby dX10_cell_16 rfl (lv_at hl 2 rfl) ?_
    refine ni_if_eq (tgt := 32) (a := w.toInt) hex hby dX10_cell_17 (by decide) rfl (fun c_5 => ?_) (fun c_5 => ?_)
    · refine lv_aload_n hex hby dX10_cell_32 rfl (lv_at hl 0 rfl) ?_
      refine nv_get (v := .ref aC) CFx in_X10_cell_X10 hK hP 0 rfl rfl 22 (by decide) (List.mem_of_getElem? (i := 1) rfl) f_cellOf dX10_cell_33 ?_
      refine lv_iload_n hex hby dX10_cell_36 rfl (lv_at hl 1 rfl) ?_
      refine nv_iald hex hby hK hP 1 0 rfl rfl (by omega) (by omega) dX10_cell_37 ?_
      have hb_6 := hg n
      refine lv_bipush (v := nI 64) hex hby dX10_cell_38 rfl ?_
      refine nv_irem hex hby dX10_cell_40 (by omega) (by omega) (by omega) ?_
      exact hret _ _ _ _ (Or.inl ⟨rfl, _, rfl, rfl, dX10_cell_41⟩) ⟨_, rfl, Or.inr (Or.inl ⟨(congrArg nI (by rw [hnt, hgn]; exact hcm.1)), (by omega), (by omega)⟩)⟩
    · refine lv_aload_n hex hby dX10_cell_20 rfl (lv_at hl 0 rfl) ?_
      refine nv_get (v := .ref aC) CFx in_X10_cell_X10 hK hP 0 rfl rfl 22 (by decide) (List.mem_of_getElem? (i := 1) rfl) f_cellOf dX10_cell_21 ?_
      refine lv_iload_n hex hby dX10_cell_24 rfl (lv_at hl 1 rfl) ?_
      refine nv_iald hex hby hK hP 1 0 rfl rfl (by omega) (by omega) dX10_cell_25 ?_
      have hb_7 := hg n
      refine lv_bipush (v := nI 64) hex hby dX10_cell_26 rfl ?_
      refine nv_idiv hex hby dX10_cell_28 (by omega) (by omega) (by omega) ?_
      refine lv_goto (tgt := 41) hex hby dX10_cell_29 (by decide) ?_
      exact hret _ _ _ _ (Or.inl ⟨rfl, _, rfl, rfl, dX10_cell_41⟩) ⟨_, rfl, Or.inl ⟨(congrArg nI (by rw [hnt, hgn]; exact hcm.2)), (by omega), (by omega)⟩⟩
  · refine nv_if_ne (tgt := 16) hex hby dX10_cell_11 (by decide) (by omega) (fun c => absurd c (by omega)) (fun _ => ?_)
    refine lv_iconst (v := zI (-1)) hex hby dX10_cell_14 rfl ?_
    exact hret _ _ _ _ (Or.inl ⟨rfl, _, rfl, rfl, dX10_cell_15⟩) ⟨_, rfl, Or.inr (Or.inr (⟨rfl, (by omega)⟩))⟩
theorem nd_X10_breaks : ndV yX10_breaks RX10 0 := by decide +kernel
set_option maxHeartbeats 4000000 in
set_option maxRecDepth 100000 in
theorem c_X10_breaks {h : Nat} {aC : Nat} {fs : List Value} {m : Nat} {g : Nat → Nat} {T : Nat → Nat} {ns : Nat} {ix : Nat → Nat} (f_m : fs[0]? = some (.int (nI m))) (f_cellOf : fs[22]? = some (.ref aC)) (hg : ∀ j, g j < 4096) (hm6 : m ≤ 6) (hV : VT T ns) (hN : NumOK T m g ix) : RO l yX10_breaks wsX10_breaks 3 63 (dC, dI) (tyK cI cZ cS) [(h, .inr (10, fs)), (aC, .inl (cI, 4096, .inl (nA g)))] [.ref h] (rI (fun r => r = nI (brN (cvc T m) (4 ^ m - 1)))) := by
  refine ro_of (by decide) rfl (Nat.le_of_ble_eq_true rfl) ?_
  intro pp ee ss mm bb mt cd Q CFx hP hK hret ls hl
  obtain ⟨hex, hby, hml, hown, hts⟩ := id CFx
  have hl : lv_has ls 1 [(0, .ref h)] := hl
  have h26 := p2_6 hm6
  have h46 := p4_6 hm6
  have h4p := p4_pos m
  refine lv_aload_n hex hby dX10_breaks_0 rfl (lv_at hl 0 rfl) ?_
  refine ro_Vi (As := []) (rest := []) CFx (c_X10_breaksNow (h := h) (aC := aC) (fs := fs) (m := m) (g := g) f_m f_cellOf hg hm6) 0 gX10_breaks_X10_breaksNow rfl nd_X10_breaksNow ⟨Nat.le_of_ble_eq_true rfl, Nat.le_of_ble_eq_true rfl⟩ hK hP [0, 1] rfl rfl rfl rfl hl.1 rfl (Nat.le_of_ble_eq_true rfl) dX10_breaks_1 ⟨Nat.le_refl _, Nat.le_refl _⟩ (fun r_1 hr_1 => ?_)
  obtain rfl := hr_1
  exact hret _ _ _ _ (Or.inl ⟨rfl, _, rfl, rfl, dX10_breaks_4⟩) ⟨_, rfl, (congrArg nI (brN_congr (fun i hi => hN.1 i (by omega))))⟩
theorem nd_X10_stretch : ndV yX10_stretch RX10 0 := by decide +kernel
set_option maxHeartbeats 4000000 in
set_option maxRecDepth 100000 in
theorem c_X10_stretch {h : Nat} {aC : Nat} {aI : Nat} {fs : List Value} {m : Nat} {g : Nat → Nat} {ix : Nat → Nat} {T : Nat → Nat} {ns : Nat} (f_m : fs[0]? = some (.int (nI m))) (f_indexOf : fs[21]? = some (.ref aI)) (f_cellOf : fs[22]? = some (.ref aC)) (hg : ∀ j, g j < 4096) (hix : ∀ j, ix j < 4096) (hm6 : m ≤ 6) (hV : VT T ns) (hN : NumOK T m g ix) : RO l yX10_stretch wsX10_stretch 2 45 (dC, dI) (tyK cI cZ cS) [(h, .inr (10, fs)), (aC, .inl (cI, 4096, .inl (nA g))), (aI, .inl (cI, 4096, .inl (nA ix)))] [.ref h] (rI (fun r => ∃ r_ : Nat, r = nI r_ ∧ StrOK (2 ^ m) (ixv T m) r_)) := by
  refine ro_of (by decide) rfl (Nat.le_of_ble_eq_true rfl) ?_
  intro pp ee ss mm bb mt cd Q CFx hP hK hret ls hl
  obtain ⟨hex, hby, hml, hown, hts⟩ := id CFx
  have hl : lv_has ls 1 [(0, .ref h)] := hl
  refine lv_aload_n hex hby dX10_stretch_0 rfl (lv_at hl 0 rfl) ?_
  refine ro_Vi (As := []) (rest := []) CFx (c_X10_stretchNow (h := h) (aC := aC) (aI := aI) (fs := fs) (m := m) (g := g) (ix := ix) (T := T) (ns := ns) f_m f_indexOf f_cellOf hg hix hm6 hV hN) 0 gX10_stretch_X10_stretchNow rfl nd_X10_stretchNow ⟨Nat.le_of_ble_eq_true rfl, Nat.le_of_ble_eq_true rfl⟩ hK hP [0, 1, 2] rfl rfl rfl rfl hl.1 rfl (Nat.le_of_ble_eq_true rfl) dX10_stretch_1 ⟨Nat.le_refl _, Nat.le_refl _⟩ (fun r_1 hr_1 => ?_)
  obtain ⟨r1, rfl, hr1⟩ := hr_1
  exact hret _ _ _ _ (Or.inl ⟨rfl, _, rfl, rfl, dX10_stretch_4⟩) ⟨_, rfl, ⟨r1, rfl, (hN.str hV hm6 hr1)⟩⟩
theorem nd_X10_states : ndV yX10_states RX10 0 := by decide +kernel
theorem in_X10_states_X10 : ∀ w ∈ wsX100, w ∈ wsX10_states := fun _ h => List.mem_cons_of_mem _ (List.mem_append_right _ (h))
set_option maxHeartbeats 4000000 in
set_option maxRecDepth 100000 in
theorem c_X10_states {h : Nat} {aM : Nat} {fs : List Value} {cu : Nat} {sm : Nat → Nat} {ns : Nat} (f_curve : fs[1]? = some (.int (nI cu))) (f_stateMany : fs[2]? = some (.ref aM)) (hsm : ∀ j, sm j < 9) (hcu : cu ≤ 2) (hsc : sm cu = ns) : RO l yX10_states wsX10_states 0 0 (dC, dI) (tyK cI cZ cS) [(h, .inr (10, fs)), (aM, .inl (cI, 3, .inl (nA sm)))] [.ref h] (rI (fun r => r = nI ns)) := by
  refine ro_of (by decide) rfl (Nat.le_of_ble_eq_true rfl) ?_
  intro pp ee ss mm bb mt cd Q CFx hP hK hret ls hl
  obtain ⟨hex, hby, hml, hown, hts⟩ := id CFx
  have hl : lv_has ls 1 [(0, .ref h)] := hl
  refine lv_aload_n hex hby dX10_states_0 rfl (lv_at hl 0 rfl) ?_
  refine nv_get (v := .ref aM) CFx in_X10_states_X10 hK hP 0 rfl rfl 2 (by decide) (List.mem_of_getElem? (i := 1) rfl) f_stateMany dX10_states_1 ?_
  refine lv_aload_n hex hby dX10_states_4 rfl (lv_at hl 0 rfl) ?_
  refine nv_get (v := .int (nI cu)) CFx in_X10_states_X10 hK hP 0 rfl rfl 1 (by decide) (List.mem_of_getElem? (i := 2) rfl) f_curve dX10_states_5 ?_
  refine nv_iald hex hby hK hP 1 0 rfl rfl (by omega) (by omega) dX10_states_8 ?_
  have hb_1 := hsm cu
  exact hret _ _ _ _ (Or.inl ⟨rfl, _, rfl, rfl, dX10_states_9⟩) ⟨_, rfl, (by rw [hsc])⟩
theorem nd_X10_visit : ndV yX10_visit RX10 2 := by decide +kernel
theorem in_X10_visit_X10 : ∀ w ∈ wsX100, w ∈ wsX10_visit := fun _ h => List.mem_cons_of_mem _ (List.mem_append_right _ (h))
set_option maxHeartbeats 4000000 in
set_option maxRecDepth 100000 in
theorem c_X10_visit {h : Nat} {aM : Nat} {aT : Nat} {fs : List Value} {cu : Nat} {sm : Nat → Nat} {tb : Nat → Nat} {s : Int32} {sz : Int} {p : Int32} {pz : Int} {T : Nat → Nat} {ns : Nat} (f_curve : fs[1]? = some (.int (nI cu))) (f_stateMany : fs[2]? = some (.ref aM)) (f_tables : fs[3]? = some (.ref aT)) (hsz : s.toInt = sz) (hpz : p.toInt = pz) (hsm : ∀ j, sm j < 9) (htb : ∀ j, tb j < 10) (hcu : cu ≤ 2) (hsc : sm cu = ns) (hV : VT T ns) (hT : TbOK T tb cu ns) : RO l yX10_visit wsX10_visit 1 22 (dC, dI) (tyK cI cZ cS) [(h, .inr (10, fs)), (aM, .inl (cI, 3, .inl (nA sm))), (aT, .inl (cI, 192, .inl (nA tb)))] [.ref h, .int s, .int p] (rI (fun r => (r = nI (T (4 * sz.toNat + pz.toNat)) ∧ (0 ≤ sz ∧ sz < (ns : Int) ∧ 0 ≤ pz ∧ pz < 4)) ∨ (r = zI (-1) ∧ (¬ (0 ≤ sz ∧ sz < (ns : Int) ∧ 0 ≤ pz ∧ pz < 4))))) := by
  refine ro_of (by decide) rfl (Nat.le_of_ble_eq_true rfl) ?_
  intro pp ee ss mm bb mt cd Q CFx hP hK hret ls hl
  obtain ⟨hex, hby, hml, hown, hts⟩ := id CFx
  have hl : lv_has ls 3 [(0, .ref h), (1, .int s), (2, .int p)] := hl
  have hns0 := hV.1
  have hns8 := hV.2.1
  refine lv_iload_n hex hby dX10_visit_0 rfl (lv_at hl 1 rfl) ?_
  refine lv_iconst (v := nI 0) hex hby dX10_visit_1 rfl ?_
  refine lv_aload_n hex hby dX10_visit_2 rfl (lv_at hl 0 rfl) ?_
  refine nv_get (v := .ref aM) CFx in_X10_visit_X10 hK hP 0 rfl rfl 2 (by decide) (List.mem_of_getElem? (i := 1) rfl) f_stateMany dX10_visit_3 ?_
  refine lv_aload_n hex hby dX10_visit_6 rfl (lv_at hl 0 rfl) ?_
  refine nv_get (v := .int (nI cu)) CFx in_X10_visit_X10 hK hP 0 rfl rfl 1 (by decide) (List.mem_of_getElem? (i := 2) rfl) f_curve dX10_visit_7 ?_
  refine nv_iald hex hby hK hP 1 0 rfl rfl (by omega) (by omega) dX10_visit_10 ?_
  have hb_1 := hsm cu
  refine lv_iconst (v := nI 1) hex hby dX10_visit_11 rfl ?_
  refine nv_isub hex hby dX10_visit_12 (by omega) ?_
  refine ro_Si (As := [.int s, .int (nI 0), .int (nI (sm cu - 1))]) (rest := []) (C := RX10) CFx (c_X10_in (x := s) (xz := s.toInt) (lo := nI 0) (loz := (0 : Int)) (hi := nI (sm cu - 1)) (hiz := ((sm cu - 1 : Nat) : Int)) rfl (by rfl) (ni_toInt (by omega))) 3 gX10_visit_X10_in rfl nd_X10_in ⟨Nat.le_of_ble_eq_true rfl, Nat.le_of_ble_eq_true rfl⟩ hK hP [] rfl rfl hl.1 rfl (Nat.le_of_ble_eq_true rfl) dX10_visit_13 ⟨Nat.le_refl _, Nat.le_refl _⟩ (fun r_2 hr_2 => ?_)
  rcases hr_2 with ⟨rfl, h_3⟩ | ⟨rfl, h_4⟩
  · refine nv_if_eq (tgt := 28) hex hby dX10_visit_16 (by decide) (by omega) (fun c => absurd c (by omega)) (fun _ => ?_)
    refine lv_iload_n hex hby dX10_visit_19 rfl (lv_at hl 2 rfl) ?_
    refine lv_iconst (v := nI 0) hex hby dX10_visit_20 rfl ?_
    refine lv_iconst (v := nI 3) hex hby dX10_visit_21 rfl ?_
    refine ro_Si (As := [.int p, .int (nI 0), .int (nI 3)]) (rest := []) (C := RX10) CFx (c_X10_in (x := p) (xz := p.toInt) (lo := nI 0) (loz := (0 : Int)) (hi := nI 3) (hiz := (3 : Int)) rfl (by rfl) (by rfl)) 3 gX10_visit_X10_in rfl nd_X10_in ⟨Nat.le_of_ble_eq_true rfl, Nat.le_of_ble_eq_true rfl⟩ hK hP [] rfl rfl hl.1 rfl (Nat.le_of_ble_eq_true rfl) dX10_visit_22 ⟨Nat.le_refl _, Nat.le_refl _⟩ (fun r_5 hr_5 => ?_)
    rcases hr_5 with ⟨rfl, h_6⟩ | ⟨rfl, h_7⟩
    · refine nv_if_ne (tgt := 30) hex hby dX10_visit_25 (by decide) (by omega) (fun _ => ?_) (fun c => absurd c (by omega))
      obtain ⟨sn, hsn_, rfl, hsne⟩ := ni_of (x := s) (by omega)
      obtain ⟨pn, hpn_, rfl, hpne⟩ := ni_of (x := p) (by omega)
      have hst : sz.toNat = sn := by omega
      have hpt : pz.toNat = pn := by omega
      have hTT := hT sn (by omega) pn (by omega)
      refine lv_bipush (v := nI 10) hex hby dX10_visit_30 rfl ?_
      refine lv_aload_n hex hby dX10_visit_32 rfl (lv_at hl 0 rfl) ?_
      refine lv_iload_n hex hby dX10_visit_33 rfl (lv_at hl 1 rfl) ?_
      refine lv_iload_n hex hby dX10_visit_34 rfl (lv_at hl 2 rfl) ?_
      refine ro_Vi (As := [.int (nI sn), .int (nI pn)]) (rest := [.int (nI 10)]) CFx (c_X10_quarter (h := h) (aT := aT) (fs := fs) (cu := cu) (tb := tb) (s := sn) (p := pn) f_curve f_tables htb hcu (by omega) (by omega)) 2 gX10_visit_X10_quarter rfl nd_X10_quarter ⟨Nat.le_of_ble_eq_true rfl, Nat.le_of_ble_eq_true rfl⟩ hK hP [0, 2] rfl rfl rfl rfl hl.1 rfl (Nat.le_of_ble_eq_true rfl) dX10_visit_35 ⟨Nat.le_refl _, Nat.le_refl _⟩ (fun r_8 hr_8 => ?_)
      obtain rfl := hr_8
      refine nv_imul hex hby dX10_visit_38 ?_
      refine lv_aload_n hex hby dX10_visit_39 rfl (lv_at hl 0 rfl) ?_
      refine lv_iload_n hex hby dX10_visit_40 rfl (lv_at hl 1 rfl) ?_
      refine lv_iload_n hex hby dX10_visit_41 rfl (lv_at hl 2 rfl) ?_
      refine ro_Vi (As := [.int (nI sn), .int (nI pn)]) (rest := [.int (nI (10 * tb (64 * cu + 8 * sn + pn)))]) CFx (c_X10_stateFor (h := h) (aT := aT) (fs := fs) (cu := cu) (tb := tb) (s := sn) (p := pn) f_curve f_tables htb hcu (by omega) (by omega)) 2 gX10_visit_X10_stateFor rfl nd_X10_stateFor ⟨Nat.le_of_ble_eq_true rfl, Nat.le_of_ble_eq_true rfl⟩ hK hP [0, 2] rfl rfl rfl rfl hl.1 rfl (Nat.le_of_ble_eq_true rfl) dX10_visit_42 ⟨Nat.le_refl _, Nat.le_refl _⟩ (fun r_9 hr_9 => ?_)
      obtain rfl := hr_9
      refine nv_iadd hex hby dX10_visit_45 ?_
      exact hret _ _ _ _ (Or.inl ⟨rfl, _, rfl, rfl, dX10_visit_46⟩) ⟨_, rfl, Or.inl ⟨(congrArg nI (by rw [hst, hpt, hTT])), (by omega)⟩⟩
    · refine nv_if_ne (tgt := 30) hex hby dX10_visit_25 (by decide) (by omega) (fun c => absurd c (by omega)) (fun _ => ?_)
      refine lv_iconst (v := zI (-1)) hex hby dX10_visit_28 rfl ?_
      exact hret _ _ _ _ (Or.inl ⟨rfl, _, rfl, rfl, dX10_visit_29⟩) ⟨_, rfl, Or.inr ⟨rfl, (by omega)⟩⟩
  · refine nv_if_eq (tgt := 28) hex hby dX10_visit_16 (by decide) (by omega) (fun _ => ?_) (fun c => absurd c (by omega))
    refine lv_iconst (v := zI (-1)) hex hby dX10_visit_28 rfl ?_
    exact hret _ _ _ _ (Or.inl ⟨rfl, _, rfl, rfl, dX10_visit_29⟩) ⟨_, rfl, Or.inr ⟨rfl, (by omega)⟩⟩
theorem nd_X10_intervals : ndV yX10_intervals RX10 0 := by decide +kernel
theorem in_X10_intervals_X10 : ∀ w ∈ wsX100, w ∈ wsX10_intervals := fun _ h => List.mem_cons_of_mem _ (List.mem_append_right _ (h))
set_option maxHeartbeats 4000000 in
set_option maxRecDepth 100000 in
theorem c_X10_intervals {h : Nat} {aC : Nat} {aF : Nat} {aG : Nat} {m : Nat} {v1 : Value} {v2 : Value} {v3 : Value} {rl : Nat} {rb : Nat} {rr : Nat} {ra : Nat} {v8 : Value} {v9 : Value} {v10 : Value} {v11 : Value} {v12 : Value} {v13 : Value} {v14 : Value} {v15 : Value} {v16 : Value} {v17 : Value} {v18 : Value} {v19 : Value} {v20 : Value} {v21 : Value} {im : Nat} {v26 : Value} {v27 : Value} {v28 : Value} {g : Nat → Nat} {F : Nat → Nat} {G : Nat → Nat} {T : Nat → Nat} {ns : Nat} {ix : Nat → Nat} (hFb : ∀ j, F j < 4096) (hGb : ∀ j, G j < 4096) (hg : ∀ j, g j < 4096) (hm6 : m ≤ 6) (hV : VT T ns) (hN : NumOK T m g ix) (hrl : rl ≤ rr) (hrr_ : rr < 2 ^ m) (hrb : rb ≤ ra) (hra_ : ra < 2 ^ m) : MU l yX10_intervals wsX10_intervals 3 66 (dC, dI) (tyK cI cZ cS) [(h, .inr (10, [.int (nI m), v1, v2, v3, .int (nI rl), .int (nI rb), .int (nI rr), .int (nI ra), v8, v9, v10, v11, v12, v13, v14, v15, v16, v17, v18, v19, v20, v21, .ref aC, .ref aF, .ref aG, .int (nI im), v26, v27, v28])), (aC, .inl (cI, 4096, .inl (nA g))), (aF, .inl (cI, 4096, .inl (nA F))), (aG, .inl (cI, 4096, .inl (nA G)))] [] [.ref h] (fun rv_ (u_ : Nat × (Nat → Nat) × (Nat → Nat)) => rI (fun r => r = nI (ctP (stI (inG (cvc T m) rl rb rr ra)) (4 ^ m)) ∧ (∀ j, u_.2.1 j < 4096) ∧ (∀ j, u_.2.2 j < 4096)) rv_) (fun (u_ : Nat × (Nat → Nat) × (Nat → Nat)) => [(h, .inr (10, [.int (nI m), v1, v2, v3, .int (nI rl), .int (nI rb), .int (nI rr), .int (nI ra), v8, v9, v10, v11, v12, v13, v14, v15, v16, v17, v18, v19, v20, v21, .ref aC, .ref aF, .ref aG, .int (nI u_.1), v26, v27, v28])), (aC, .inl (cI, 4096, .inl (nA g))), (aF, .inl (cI, 4096, .inl (nA u_.2.1))), (aG, .inl (cI, 4096, .inl (nA u_.2.2)))]) := by
  refine mu_of (by decide) rfl (Nat.le_of_ble_eq_true rfl) ?_
  intro pp ee ss mm bb mt cd Q A CFx hP hK hD hS hA hTr hret ls hl
  obtain ⟨hex, hby, hml, hown, hts⟩ := id CFx
  have hl : lv_has ls 1 [(0, .ref h)] := hl
  have h26 := p2_6 hm6
  have h46 := p4_6 hm6
  have h4p := p4_pos m
  refine lv_aload_n hex hby dX10_intervals_0 rfl (lv_at hl 0 rfl) ?_
  refine mu_Vv (As := []) (rest := []) (wr := []) CFx (c_X10_findIntervals (h := h) (aC := aC) (aF := aF) (aG := aG) (m := m) (v1 := v1) (v2 := v2) (v3 := v3) (rl := rl) (rb := rb) (rr := rr) (ra := ra) (v8 := v8) (v9 := v9) (v10 := v10) (v11 := v11) (v12 := v12) (v13 := v13) (v14 := v14) (v15 := v15) (v16 := v16) (v17 := v17) (v18 := v18) (v19 := v19) (v20 := v20) (v21 := v21) (v25 := .int (nI im)) (v26 := v26) (v27 := v27) (v28 := v28) (g := g) (Fa := F) (Ga := G) hFb hGb hg hm6 (by omega) (by omega) (by omega) (by omega)) 0 gX10_intervals_X10_findIntervals rfl nd_X10_findIntervals ⟨Nat.le_of_ble_eq_true rfl, Nat.le_of_ble_eq_true rfl⟩ hK hP hD hS hA [0, 1, 2, 3] [] rfl rfl (by decide) (by decide) (by decide) TR.nil rfl rfl rfl hl.1 rfl (Nat.le_of_ble_eq_true rfl) dX10_intervals_1 ⟨Nat.le_refl _, Nat.le_refl _⟩ (fun u H locs hr_1 hP hD hS => ?_)
  obtain ⟨n1, F1, G1⟩ := u
  dsimp only at hr_1 hP hD
  have hP : va_P (dC, dI) vwCl [(h, .inr (10, [.int (nI m), v1, v2, v3, .int (nI rl), .int (nI rb), .int (nI rr), .int (nI ra), v8, v9, v10, v11, v12, v13, v14, v15, v16, v17, v18, v19, v20, v21, .ref aC, .ref aF, .ref aG, .int (nI n1), v26, v27, v28])), (aC, .inl (cI, 4096, .inl (nA g))), (aF, .inl (cI, 4096, .inl (nA F1))), (aG, .inl (cI, 4096, .inl (nA G1)))] H := hP
  have hD : va_D A [(h, .inr (10, [.int (nI m), v1, v2, v3, .int (nI rl), .int (nI rb), .int (nI rr), .int (nI ra), v8, v9, v10, v11, v12, v13, v14, v15, v16, v17, v18, v19, v20, v21, .ref aC, .ref aF, .ref aG, .int (nI n1), v26, v27, v28])), (aC, .inl (cI, 4096, .inl (nA g))), (aF, .inl (cI, 4096, .inl (nA F1))), (aG, .inl (cI, 4096, .inl (nA G1)))] := hD
  obtain ⟨hI1, hn1, hF1, hG1⟩ := hr_1
  have hI := hI1.congr (inG_congr (fun i hi => hN.1 i hi))
  refine lv_aload_n hex hby dX10_intervals_4 rfl (lv_at hl 0 rfl) ?_
  refine nv_get (v := .int (nI n1)) CFx in_X10_intervals_X10 hK hP 0 rfl rfl 25 (by decide) (List.mem_of_getElem? (i := 1) rfl) rfl dX10_intervals_5 ?_
  exact hret _ (n1, F1, G1) _ _ _ _ _ (Or.inl ⟨rfl, _, rfl, rfl, dX10_intervals_8⟩) ⟨_, rfl, ⟨(congrArg nI hI.1), hF1, hG1⟩⟩ hP hD hS
theorem nd_X10_interval : ndV yX10_interval RX10 2 := by decide +kernel
theorem in_X10_interval_X10 : ∀ w ∈ wsX100, w ∈ wsX10_interval := fun _ h => List.mem_cons_of_mem _ (List.mem_append_right _ (h))
set_option maxHeartbeats 4000000 in
set_option maxRecDepth 100000 in
theorem c_X10_interval {h : Nat} {aC : Nat} {aF : Nat} {aG : Nat} {m : Nat} {v1 : Value} {v2 : Value} {v3 : Value} {rl : Nat} {rb : Nat} {rr : Nat} {ra : Nat} {v8 : Value} {v9 : Value} {v10 : Value} {v11 : Value} {v12 : Value} {v13 : Value} {v14 : Value} {v15 : Value} {v16 : Value} {v17 : Value} {v18 : Value} {v19 : Value} {v20 : Value} {v21 : Value} {im : Nat} {v26 : Value} {v27 : Value} {v28 : Value} {g : Nat → Nat} {F : Nat → Nat} {G : Nat → Nat} {k : Int32} {kz : Int} {w : Int32} {wz : Int} {T : Nat → Nat} {ns : Nat} {ix : Nat → Nat} (hkz : k.toInt = kz) (hwz : w.toInt = wz) (hFb : ∀ j, F j < 4096) (hGb : ∀ j, G j < 4096) (hg : ∀ j, g j < 4096) (hm6 : m ≤ 6) (hV : VT T ns) (hN : NumOK T m g ix) (hrl : rl ≤ rr) (hrr_ : rr < 2 ^ m) (hrb : rb ≤ ra) (hra_ : ra < 2 ^ m) (hne : ∃ i, i < 4 ^ m ∧ inG (cvc T m) rl rb rr ra i) : MU l yX10_interval wsX10_interval 3 66 (dC, dI) (tyK cI cZ cS) [(h, .inr (10, [.int (nI m), v1, v2, v3, .int (nI rl), .int (nI rb), .int (nI rr), .int (nI ra), v8, v9, v10, v11, v12, v13, v14, v15, v16, v17, v18, v19, v20, v21, .ref aC, .ref aF, .ref aG, .int (nI im), v26, v27, v28])), (aC, .inl (cI, 4096, .inl (nA g))), (aF, .inl (cI, 4096, .inl (nA F))), (aG, .inl (cI, 4096, .inl (nA G)))] [] [.ref h, .int k, .int w] (fun rv_ (u_ : Nat × (Nat → Nat) × (Nat → Nat)) => rI (fun r => (∃ v : Nat, r = nI v ∧ (0 ≤ kz ∧ kz < ((ctP (stI (inG (cvc T m) rl rb rr ra)) (4 ^ m) : Nat) : Int)) ∧ IvAt (inG (cvc T m) rl rb rr ra) (4 ^ m) kz.toNat (wz ≠ 0) v ∧ (∀ j, u_.2.1 j < 4096) ∧ (∀ j, u_.2.2 j < 4096)) ∨ (r = zI (-1) ∧ (¬ (0 ≤ kz ∧ kz < ((ctP (stI (inG (cvc T m) rl rb rr ra)) (4 ^ m) : Nat) : Int))) ∧ (∀ j, u_.2.1 j < 4096) ∧ (∀ j, u_.2.2 j < 4096))) rv_) (fun (u_ : Nat × (Nat → Nat) × (Nat → Nat)) => [(h, .inr (10, [.int (nI m), v1, v2, v3, .int (nI rl), .int (nI rb), .int (nI rr), .int (nI ra), v8, v9, v10, v11, v12, v13, v14, v15, v16, v17, v18, v19, v20, v21, .ref aC, .ref aF, .ref aG, .int (nI u_.1), v26, v27, v28])), (aC, .inl (cI, 4096, .inl (nA g))), (aF, .inl (cI, 4096, .inl (nA u_.2.1))), (aG, .inl (cI, 4096, .inl (nA u_.2.2)))]) := by
  refine mu_of (by decide) rfl (Nat.le_of_ble_eq_true rfl) ?_
  intro pp ee ss mm bb mt cd Q A CFx hP hK hD hS hA hTr hret ls hl
  obtain ⟨hex, hby, hml, hown, hts⟩ := id CFx
  have hl : lv_has ls 3 [(0, .ref h), (1, .int k), (2, .int w)] := hl
  have h26 := p2_6 hm6
  have h46 := p4_6 hm6
  have h4p := p4_pos m
  refine lv_aload_n hex hby dX10_interval_0 rfl (lv_at hl 0 rfl) ?_
  refine mu_Vv (As := []) (rest := []) (wr := []) CFx (c_X10_findIntervals (h := h) (aC := aC) (aF := aF) (aG := aG) (m := m) (v1 := v1) (v2 := v2) (v3 := v3) (rl := rl) (rb := rb) (rr := rr) (ra := ra) (v8 := v8) (v9 := v9) (v10 := v10) (v11 := v11) (v12 := v12) (v13 := v13) (v14 := v14) (v15 := v15) (v16 := v16) (v17 := v17) (v18 := v18) (v19 := v19) (v20 := v20) (v21 := v21) (v25 := .int (nI im)) (v26 := v26) (v27 := v27) (v28 := v28) (g := g) (Fa := F) (Ga := G) hFb hGb hg hm6 (by omega) (by omega) (by omega) (by omega)) 0 gX10_interval_X10_findIntervals rfl nd_X10_findIntervals ⟨Nat.le_of_ble_eq_true rfl, Nat.le_of_ble_eq_true rfl⟩ hK hP hD hS hA [0, 1, 2, 3] [] rfl rfl (by decide) (by decide) (by decide) TR.nil rfl rfl rfl hl.1 rfl (Nat.le_of_ble_eq_true rfl) dX10_interval_1 ⟨Nat.le_refl _, Nat.le_refl _⟩ (fun u H locs hr_1 hP hD hS => ?_)
  obtain ⟨n1, F1, G1⟩ := u
  dsimp only at hr_1 hP hD
  have hP : va_P (dC, dI) vwCl [(h, .inr (10, [.int (nI m), v1, v2, v3, .int (nI rl), .int (nI rb), .int (nI rr), .int (nI ra), v8, v9, v10, v11, v12, v13, v14, v15, v16, v17, v18, v19, v20, v21, .ref aC, .ref aF, .ref aG, .int (nI n1), v26, v27, v28])), (aC, .inl (cI, 4096, .inl (nA g))), (aF, .inl (cI, 4096, .inl (nA F1))), (aG, .inl (cI, 4096, .inl (nA G1)))] H := hP
  have hD : va_D A [(h, .inr (10, [.int (nI m), v1, v2, v3, .int (nI rl), .int (nI rb), .int (nI rr), .int (nI ra), v8, v9, v10, v11, v12, v13, v14, v15, v16, v17, v18, v19, v20, v21, .ref aC, .ref aF, .ref aG, .int (nI n1), v26, v27, v28])), (aC, .inl (cI, 4096, .inl (nA g))), (aF, .inl (cI, 4096, .inl (nA F1))), (aG, .inl (cI, 4096, .inl (nA G1)))] := hD
  obtain ⟨hI1, hn1, hF1, hG1⟩ := hr_1
  have hI := hI1.congr (inG_congr (fun i hi => hN.1 i hi))
  have hc1 := hI.1
  have hcp : 0 < n1 := by rw [hc1]; exact iv_pos hne
  refine lv_iload_n hex hby dX10_interval_4 rfl (lv_at hl 1 rfl) ?_
  refine lv_iconst (v := nI 0) hex hby dX10_interval_5 rfl ?_
  refine lv_aload_n hex hby dX10_interval_6 rfl (lv_at hl 0 rfl) ?_
  refine nv_get (v := .int (nI n1)) CFx in_X10_interval_X10 hK hP 0 rfl rfl 25 (by decide) (List.mem_of_getElem? (i := 1) rfl) rfl dX10_interval_7 ?_
  refine lv_iconst (v := nI 1) hex hby dX10_interval_10 rfl ?_
  refine nv_isub hex hby dX10_interval_11 (by omega) ?_
  refine ro_Si (As := [.int k, .int (nI 0), .int (nI (n1 - 1))]) (rest := []) (C := RX10) CFx (c_X10_in (x := k) (xz := k.toInt) (lo := nI 0) (loz := (0 : Int)) (hi := nI (n1 - 1)) (hiz := ((n1 - 1 : Nat) : Int)) rfl (by rfl) (ni_toInt (by omega))) 3 gX10_interval_X10_in rfl nd_X10_in ⟨Nat.le_of_ble_eq_true rfl, Nat.le_of_ble_eq_true rfl⟩ hK hP [] rfl rfl hl.1 rfl (Nat.le_of_ble_eq_true rfl) dX10_interval_12 ⟨Nat.le_refl _, Nat.le_refl _⟩ (fun r_5 hr_5 => ?_)
  rcases hr_5 with ⟨rfl, h_6⟩ | ⟨rfl, h_7⟩
  · refine nv_if_ne (tgt := 20) hex hby dX10_interval_15 (by decide) (by omega) (fun _ => ?_) (fun c => absurd c (by omega))
    obtain ⟨kn, hkn_, rfl, hkne⟩ := ni_of (x := k) (by omega)
    have hkt : kz.toNat = kn := by omega
    refine lv_iload_n hex hby dX10_interval_20 rfl (lv_at hl 2 rfl) ?_
    refine ni_if_eq (tgt := 33) (a := w.toInt) hex hby dX10_interval_21 (by decide) rfl (fun c_8 => ?_) (fun c_8 => ?_)
    · refine lv_aload_n hex hby dX10_interval_33 rfl (lv_at hl 0 rfl) ?_
      refine nv_get (v := .ref aF) CFx in_X10_interval_X10 hK hP 0 rfl rfl 23 (by decide) (List.mem_of_getElem? (i := 3) rfl) rfl dX10_interval_34 ?_
      refine lv_iload_n hex hby dX10_interval_37 rfl (lv_at hl 1 rfl) ?_
      refine nv_iald hex hby hK hP 2 0 rfl rfl (by omega) (by omega) dX10_interval_38 ?_
      have hb_9 := hF1 kn
      exact hret _ (n1, F1, G1) _ _ _ _ _ (Or.inl ⟨rfl, _, rfl, rfl, dX10_interval_39⟩) ⟨_, rfl, Or.inl ⟨(F1 kn), rfl, (by omega), (by rw [hkt]; exact ⟨n1, F1, G1, hI, by omega, fun z => absurd (show wz = 0 by omega) z, fun _ => rfl⟩), hF1, hG1⟩⟩ hP hD hS
    · refine lv_aload_n hex hby dX10_interval_24 rfl (lv_at hl 0 rfl) ?_
      refine nv_get (v := .ref aG) CFx in_X10_interval_X10 hK hP 0 rfl rfl 24 (by decide) (List.mem_of_getElem? (i := 2) rfl) rfl dX10_interval_25 ?_
      refine lv_iload_n hex hby dX10_interval_28 rfl (lv_at hl 1 rfl) ?_
      refine nv_iald hex hby hK hP 3 0 rfl rfl (by omega) (by omega) dX10_interval_29 ?_
      have hb_10 := hG1 kn
      refine lv_goto (tgt := 39) hex hby dX10_interval_30 (by decide) ?_
      exact hret _ (n1, F1, G1) _ _ _ _ _ (Or.inl ⟨rfl, _, rfl, rfl, dX10_interval_39⟩) ⟨_, rfl, Or.inl ⟨(G1 kn), rfl, (by omega), (by rw [hkt]; exact ⟨n1, F1, G1, hI, by omega, fun _ => rfl, fun z => absurd (show wz ≠ 0 by omega) z⟩), hF1, hG1⟩⟩ hP hD hS
  · refine nv_if_ne (tgt := 20) hex hby dX10_interval_15 (by decide) (by omega) (fun c => absurd c (by omega)) (fun _ => ?_)
    refine lv_iconst (v := zI (-1)) hex hby dX10_interval_18 rfl ?_
    exact hret _ (n1, F1, G1) _ _ _ _ _ (Or.inl ⟨rfl, _, rfl, rfl, dX10_interval_19⟩) ⟨_, rfl, Or.inr ⟨rfl, (by omega), hF1, hG1⟩⟩ hP hD hS
theorem nd_X10_extra : ndV yX10_extra RX10 1 := by decide +kernel
set_option maxHeartbeats 4000000 in
set_option maxRecDepth 100000 in
theorem c_X10_extra {h : Nat} {aC : Nat} {aF : Nat} {aG : Nat} {m : Nat} {v1 : Value} {v2 : Value} {v3 : Value} {rl : Nat} {rb : Nat} {rr : Nat} {ra : Nat} {v8 : Value} {v9 : Value} {v10 : Value} {v11 : Value} {v12 : Value} {v13 : Value} {v14 : Value} {v15 : Value} {v16 : Value} {v17 : Value} {v18 : Value} {v19 : Value} {v20 : Value} {v21 : Value} {im : Nat} {v26 : Value} {v27 : Value} {v28 : Value} {g : Nat → Nat} {F : Nat → Nat} {G : Nat → Nat} {k : Int32} {kz : Int} {T : Nat → Nat} {ns : Nat} {ix : Nat → Nat} (hkz : k.toInt = kz) (hFb : ∀ j, F j < 4096) (hGb : ∀ j, G j < 4096) (hg : ∀ j, g j < 4096) (hm6 : m ≤ 6) (hV : VT T ns) (hN : NumOK T m g ix) (hrl : rl ≤ rr) (hrr_ : rr < 2 ^ m) (hrb : rb ≤ ra) (hra_ : ra < 2 ^ m) (hne : ∃ i, i < 4 ^ m ∧ inG (cvc T m) rl rb rr ra i) : MU l yX10_extra wsX10_extra 4 90 (dC, dI) (tyK cI cZ cS) [(h, .inr (10, [.int (nI m), v1, v2, v3, .int (nI rl), .int (nI rb), .int (nI rr), .int (nI ra), v8, v9, v10, v11, v12, v13, v14, v15, v16, v17, v18, v19, v20, v21, .ref aC, .ref aF, .ref aG, .int (nI im), v26, v27, v28])), (aC, .inl (cI, 4096, .inl (nA g))), (aF, .inl (cI, 4096, .inl (nA F))), (aG, .inl (cI, 4096, .inl (nA G)))] [] [.ref h, .int k] (fun rv_ (u_ : Nat × (Nat → Nat) × (Nat → Nat)) => rI (fun r => (∃ v : Nat, r = nI v ∧ 1 ≤ kz ∧ ExAt (inG (cvc T m) rl rb rr ra) (4 ^ m) kz.toNat v ∧ (∀ j, u_.2.1 j < 4096) ∧ (∀ j, u_.2.2 j < 4096)) ∨ (r = zI (-2) ∧ ¬ 1 ≤ kz ∧ F = u_.2.1 ∧ G = u_.2.2)) rv_) (fun (u_ : Nat × (Nat → Nat) × (Nat → Nat)) => [(h, .inr (10, [.int (nI m), v1, v2, v3, .int (nI rl), .int (nI rb), .int (nI rr), .int (nI ra), v8, v9, v10, v11, v12, v13, v14, v15, v16, v17, v18, v19, v20, v21, .ref aC, .ref aF, .ref aG, .int (nI u_.1), v26, v27, v28])), (aC, .inl (cI, 4096, .inl (nA g))), (aF, .inl (cI, 4096, .inl (nA u_.2.1))), (aG, .inl (cI, 4096, .inl (nA u_.2.2)))]) := by
  refine mu_of (by decide) rfl (Nat.le_of_ble_eq_true rfl) ?_
  intro pp ee ss mm bb mt cd Q A CFx hP hK hD hS hA hTr hret ls hl
  obtain ⟨hex, hby, hml, hown, hts⟩ := id CFx
  have hl : lv_has ls 2 [(0, .ref h), (1, .int k)] := hl
  have h26 := p2_6 hm6
  have h46 := p4_6 hm6
  have h4p := p4_pos m
  refine lv_iload_n hex hby dX10_extra_0 rfl (lv_at hl 1 rfl) ?_
  refine lv_iconst (v := nI 1) hex hby dX10_extra_1 rfl ?_
  refine ni_icmp_ge (tgt := 10) (a := k.toInt) (b := (1 : Int)) hex hby dX10_extra_2 (by decide) rfl (by rfl) (fun c_1 => ?_) (fun c_1 => ?_)
  · obtain ⟨kn, hkn_, rfl, hkne⟩ := ni_of (x := k) (by omega)
    have hkt : kz.toNat = kn := by omega
    refine lv_aload_n hex hby dX10_extra_10 rfl (lv_at hl 0 rfl) ?_
    refine lv_iload_n hex hby dX10_extra_11 rfl (lv_at hl 1 rfl) ?_
    refine mu_Vi (As := [.int (nI kn)]) (rest := []) (wr := []) CFx (c_X10_joins (h := h) (aC := aC) (aF := aF) (aG := aG) (m := m) (v1 := v1) (v2 := v2) (v3 := v3) (rl := rl) (rb := rb) (rr := rr) (ra := ra) (v8 := v8) (v9 := v9) (v10 := v10) (v11 := v11) (v12 := v12) (v13 := v13) (v14 := v14) (v15 := v15) (v16 := v16) (v17 := v17) (v18 := v18) (v19 := v19) (v20 := v20) (v21 := v21) (v25 := .int (nI im)) (v26 := v26) (v27 := v27) (v28 := v28) (g := g) (Fa := F) (Ga := G) (k := kn) hFb hGb hg hm6 (by omega) (by omega) (by omega) (by omega) (by omega) (by omega) (by obtain ⟨i, h1, h2⟩ := hne; exact ⟨i, h1, (inG_congr (fun i hi => hN.1 i hi) i h1).mpr h2⟩)) 1 gX10_extra_X10_joins rfl nd_X10_joins ⟨Nat.le_of_ble_eq_true rfl, Nat.le_of_ble_eq_true rfl⟩ hK hP hD hS hA [0, 1, 2, 3] [] rfl rfl (by decide) (by decide) (by decide) TR.nil rfl rfl rfl hl.1 rfl (Nat.le_of_ble_eq_true rfl) dX10_extra_12 ⟨Nat.le_refl _, Nat.le_refl _⟩ (fun r_2 u H locs hr_2 hP hD hS => ?_)
    obtain ⟨n1, F1, G1⟩ := u
    dsimp only at hr_2 hP hD
    have hP : va_P (dC, dI) vwCl [(h, .inr (10, [.int (nI m), v1, v2, v3, .int (nI rl), .int (nI rb), .int (nI rr), .int (nI ra), v8, v9, v10, v11, v12, v13, v14, v15, v16, v17, v18, v19, v20, v21, .ref aC, .ref aF, .ref aG, .int (nI n1), v26, v27, v28])), (aC, .inl (cI, 4096, .inl (nA g))), (aF, .inl (cI, 4096, .inl (nA F1))), (aG, .inl (cI, 4096, .inl (nA G1)))] H := hP
    have hD : va_D A [(h, .inr (10, [.int (nI m), v1, v2, v3, .int (nI rl), .int (nI rb), .int (nI rr), .int (nI ra), v8, v9, v10, v11, v12, v13, v14, v15, v16, v17, v18, v19, v20, v21, .ref aC, .ref aF, .ref aG, .int (nI n1), v26, v27, v28])), (aC, .inl (cI, 4096, .inl (nA g))), (aF, .inl (cI, 4096, .inl (nA F1))), (aG, .inl (cI, 4096, .inl (nA G1)))] := hD
    obtain ⟨cn, Fo, Go, rfl, hI1, rfl, hJ, hF1, hG1⟩ := hr_2
    have hI := hI1.congr (inG_congr (fun i hi => hN.1 i hi))
    have hcp : 0 < cn := by rw [hI.1]; exact iv_pos hne
    exact hret _ (cn - (cn - kn), F1, G1) _ _ _ _ _ (Or.inl ⟨rfl, _, rfl, rfl, dX10_extra_15⟩) ⟨_, rfl, Or.inl ⟨(exJ Fo Go cn (cn - kn)), rfl, (by omega), (by rw [hkt]; exact ⟨cn, Fo, Go, hI, rfl⟩), hF1, hG1⟩⟩ hP hD hS
  · refine lv_bipush (v := zI (-2)) hex hby dX10_extra_5 rfl ?_
    refine lv_goto (tgt := 15) hex hby dX10_extra_7 (by decide) ?_
    exact hret _ (im, F, G) _ _ _ _ _ (Or.inl ⟨rfl, _, rfl, rfl, dX10_extra_15⟩) ⟨_, rfl, Or.inr ⟨rfl, (by omega), rfl, rfl⟩⟩ hP hD hS
theorem nd_X10_covering : ndV yX10_covering RX10 3 := by decide +kernel
theorem in_X10_covering_X10 : ∀ w ∈ wsX100, w ∈ wsX10_covering := fun _ h => List.mem_cons_of_mem _ (List.mem_append_right _ (h))
set_option maxHeartbeats 4000000 in
set_option maxRecDepth 100000 in
theorem c_X10_covering {h : Nat} {aC : Nat} {aF : Nat} {aG : Nat} {m : Nat} {v1 : Value} {v2 : Value} {v3 : Value} {rl : Nat} {rb : Nat} {rr : Nat} {ra : Nat} {v8 : Value} {v9 : Value} {v10 : Value} {v11 : Value} {v12 : Value} {v13 : Value} {v14 : Value} {v15 : Value} {v16 : Value} {v17 : Value} {v18 : Value} {v19 : Value} {v20 : Value} {v21 : Value} {im : Nat} {v26 : Value} {v27 : Value} {v28 : Value} {g : Nat → Nat} {F : Nat → Nat} {G : Nat → Nat} {k : Int32} {kz : Int} {q : Int32} {qz : Int} {w : Int32} {wz : Int} {T : Nat → Nat} {ns : Nat} {ix : Nat → Nat} (hkz : k.toInt = kz) (hqz : q.toInt = qz) (hwz : w.toInt = wz) (hFb : ∀ j, F j < 4096) (hGb : ∀ j, G j < 4096) (hg : ∀ j, g j < 4096) (hm6 : m ≤ 6) (hV : VT T ns) (hN : NumOK T m g ix) (hrl : rl ≤ rr) (hrr_ : rr < 2 ^ m) (hrb : rb ≤ ra) (hra_ : ra < 2 ^ m) (hne : ∃ i, i < 4 ^ m ∧ inG (cvc T m) rl rb rr ra i) : MU l yX10_covering wsX10_covering 4 90 (dC, dI) (tyK cI cZ cS) [(h, .inr (10, [.int (nI m), v1, v2, v3, .int (nI rl), .int (nI rb), .int (nI rr), .int (nI ra), v8, v9, v10, v11, v12, v13, v14, v15, v16, v17, v18, v19, v20, v21, .ref aC, .ref aF, .ref aG, .int (nI im), v26, v27, v28])), (aC, .inl (cI, 4096, .inl (nA g))), (aF, .inl (cI, 4096, .inl (nA F))), (aG, .inl (cI, 4096, .inl (nA G)))] [] [.ref h, .int k, .int q, .int w] (fun rv_ (u_ : Nat × (Nat → Nat) × (Nat → Nat)) => rI (fun r => (∃ v : Nat, r = nI v ∧ 1 ≤ kz ∧ (0 ≤ qz ∧ qz < ((ctP (stI (inG (cvc T m) rl rb rr ra)) (4 ^ m) - (ctP (stI (inG (cvc T m) rl rb rr ra)) (4 ^ m) - kz.toNat) : Nat) : Int)) ∧ CvAt (inG (cvc T m) rl rb rr ra) (4 ^ m) kz.toNat qz.toNat (wz ≠ 0) v ∧ (∀ j, u_.2.1 j < 4096) ∧ (∀ j, u_.2.2 j < 4096)) ∨ (r = zI (-1) ∧ 1 ≤ kz ∧ (¬ (0 ≤ qz ∧ qz < ((ctP (stI (inG (cvc T m) rl rb rr ra)) (4 ^ m) - (ctP (stI (inG (cvc T m) rl rb rr ra)) (4 ^ m) - kz.toNat) : Nat) : Int))) ∧ (∀ j, u_.2.1 j < 4096) ∧ (∀ j, u_.2.2 j < 4096)) ∨ (r = zI (-2) ∧ ¬ 1 ≤ kz ∧ (∀ j, u_.2.1 j < 4096) ∧ (∀ j, u_.2.2 j < 4096))) rv_) (fun (u_ : Nat × (Nat → Nat) × (Nat → Nat)) => [(h, .inr (10, [.int (nI m), v1, v2, v3, .int (nI rl), .int (nI rb), .int (nI rr), .int (nI ra), v8, v9, v10, v11, v12, v13, v14, v15, v16, v17, v18, v19, v20, v21, .ref aC, .ref aF, .ref aG, .int (nI u_.1), v26, v27, v28])), (aC, .inl (cI, 4096, .inl (nA g))), (aF, .inl (cI, 4096, .inl (nA u_.2.1))), (aG, .inl (cI, 4096, .inl (nA u_.2.2)))]) := by
  refine mu_of (by decide) rfl (Nat.le_of_ble_eq_true rfl) ?_
  intro pp ee ss mm bb mt cd Q A CFx hP hK hD hS hA hTr hret ls hl
  obtain ⟨hex, hby, hml, hown, hts⟩ := id CFx
  have hl : lv_has ls 5 [(0, .ref h), (1, .int k), (2, .int q), (3, .int w)] := hl
  have h26 := p2_6 hm6
  have h46 := p4_6 hm6
  have h4p := p4_pos m
  refine lv_iload_n hex hby dX10_covering_0 rfl (lv_at hl 1 rfl) ?_
  refine lv_iconst (v := nI 1) hex hby dX10_covering_1 rfl ?_
  refine ni_icmp_ge (tgt := 8) (a := k.toInt) (b := (1 : Int)) hex hby dX10_covering_2 (by decide) rfl (by rfl) (fun c_1 => ?_) (fun c_1 => ?_)
  · obtain ⟨kn, hkn_, rfl, hkne⟩ := ni_of (x := k) (by omega)
    have hkt : kz.toNat = kn := by omega
    refine lv_aload_n hex hby dX10_covering_8 rfl (lv_at hl 0 rfl) ?_
    refine lv_iload_n hex hby dX10_covering_9 rfl (lv_at hl 1 rfl) ?_
    refine mu_Vi (As := [.int (nI kn)]) (rest := []) (wr := []) CFx (c_X10_joins (h := h) (aC := aC) (aF := aF) (aG := aG) (m := m) (v1 := v1) (v2 := v2) (v3 := v3) (rl := rl) (rb := rb) (rr := rr) (ra := ra) (v8 := v8) (v9 := v9) (v10 := v10) (v11 := v11) (v12 := v12) (v13 := v13) (v14 := v14) (v15 := v15) (v16 := v16) (v17 := v17) (v18 := v18) (v19 := v19) (v20 := v20) (v21 := v21) (v25 := .int (nI im)) (v26 := v26) (v27 := v27) (v28 := v28) (g := g) (Fa := F) (Ga := G) (k := kn) hFb hGb hg hm6 (by omega) (by omega) (by omega) (by omega) (by omega) (by omega) (by obtain ⟨i, h1, h2⟩ := hne; exact ⟨i, h1, (inG_congr (fun i hi => hN.1 i hi) i h1).mpr h2⟩)) 1 gX10_covering_X10_joins rfl nd_X10_joins ⟨Nat.le_of_ble_eq_true rfl, Nat.le_of_ble_eq_true rfl⟩ hK hP hD hS hA [0, 1, 2, 3] [] rfl rfl (by decide) (by decide) (by decide) TR.nil rfl rfl rfl hl.1 rfl (Nat.le_of_ble_eq_true rfl) dX10_covering_10 ⟨Nat.le_refl _, Nat.le_refl _⟩ (fun r_2 u H locs hr_2 hP hD hS => ?_)
    obtain ⟨n1, F1, G1⟩ := u
    dsimp only at hr_2 hP hD
    have hP : va_P (dC, dI) vwCl [(h, .inr (10, [.int (nI m), v1, v2, v3, .int (nI rl), .int (nI rb), .int (nI rr), .int (nI ra), v8, v9, v10, v11, v12, v13, v14, v15, v16, v17, v18, v19, v20, v21, .ref aC, .ref aF, .ref aG, .int (nI n1), v26, v27, v28])), (aC, .inl (cI, 4096, .inl (nA g))), (aF, .inl (cI, 4096, .inl (nA F1))), (aG, .inl (cI, 4096, .inl (nA G1)))] H := hP
    have hD : va_D A [(h, .inr (10, [.int (nI m), v1, v2, v3, .int (nI rl), .int (nI rb), .int (nI rr), .int (nI ra), v8, v9, v10, v11, v12, v13, v14, v15, v16, v17, v18, v19, v20, v21, .ref aC, .ref aF, .ref aG, .int (nI n1), v26, v27, v28])), (aC, .inl (cI, 4096, .inl (nA g))), (aF, .inl (cI, 4096, .inl (nA F1))), (aG, .inl (cI, 4096, .inl (nA G1)))] := hD
    obtain ⟨cn, Fo, Go, rfl, hI1, rfl, hJ, hF1, hG1⟩ := hr_2
    have hI := hI1.congr (inG_congr (fun i hi => hN.1 i hi))
    have hcp : 0 < cn := by rw [hI.1]; exact iv_pos hne
    have hc1 := hI.1
    have hcl4 := ctP_le (stI (inG (cvc T m) rl rb rr ra)) (4 ^ m)
    refine lv_istore (lv' := [(4, .int (nI (exJ Fo Go cn (cn - kn)))), (0, .ref h), (1, .int (nI kn)), (2, .int q), (3, .int w)]) hex hby dX10_covering_13 hl (by decide) rfl (fun ls hl => ?_)
    refine lv_iload_n hex hby dX10_covering_15 rfl (lv_at hl 3 rfl) ?_
    refine lv_iconst (v := nI 0) hex hby dX10_covering_16 rfl ?_
    refine lv_aload_n hex hby dX10_covering_17 rfl (lv_at hl 1 rfl) ?_
    refine nv_get (v := .int (nI (cn - (cn - kn)))) CFx in_X10_covering_X10 hK hP 0 rfl rfl 25 (by decide) (List.mem_of_getElem? (i := 1) rfl) rfl dX10_covering_18 ?_
    refine lv_iconst (v := nI 1) hex hby dX10_covering_21 rfl ?_
    refine nv_isub hex hby dX10_covering_22 (by omega) ?_
    refine ro_Si (As := [.int q, .int (nI 0), .int (nI (cn - (cn - kn) - 1))]) (rest := []) (C := RX10) CFx (c_X10_in (x := q) (xz := q.toInt) (lo := nI 0) (loz := (0 : Int)) (hi := nI (cn - (cn - kn) - 1)) (hiz := ((cn - (cn - kn) - 1 : Nat) : Int)) rfl (by rfl) (ni_toInt (by omega))) 3 gX10_covering_X10_in rfl nd_X10_in ⟨Nat.le_of_ble_eq_true rfl, Nat.le_of_ble_eq_true rfl⟩ hK hP [] rfl rfl hl.1 rfl (Nat.le_of_ble_eq_true rfl) dX10_covering_23 ⟨Nat.le_refl _, Nat.le_refl _⟩ (fun r_6 hr_6 => ?_)
    rcases hr_6 with ⟨rfl, h_7⟩ | ⟨rfl, h_8⟩
    · refine nv_if_ne (tgt := 31) hex hby dX10_covering_26 (by decide) (by omega) (fun _ => ?_) (fun c => absurd c (by omega))
      obtain ⟨qn, hqn_, rfl, hqne⟩ := ni_of (x := q) (by omega)
      have hqt : qz.toNat = qn := by omega
      refine lv_iload_n hex hby dX10_covering_31 rfl (lv_at hl 4 rfl) ?_
      refine ni_if_eq (tgt := 44) (a := w.toInt) hex hby dX10_covering_32 (by decide) rfl (fun c_9 => ?_) (fun c_9 => ?_)
      · refine lv_aload_n hex hby dX10_covering_44 rfl (lv_at hl 1 rfl) ?_
        refine nv_get (v := .ref aF) CFx in_X10_covering_X10 hK hP 0 rfl rfl 23 (by decide) (List.mem_of_getElem? (i := 3) rfl) rfl dX10_covering_45 ?_
        refine lv_iload_n hex hby dX10_covering_48 rfl (lv_at hl 3 rfl) ?_
        refine nv_iald hex hby hK hP 2 0 rfl rfl (by omega) (by omega) dX10_covering_49 ?_
        have hb_10 := hF1 qn
        exact hret _ (cn - (cn - kn), F1, G1) _ _ _ _ _ (Or.inl ⟨rfl, _, rfl, rfl, dX10_covering_50⟩) ⟨_, rfl, Or.inl ⟨(F1 qn), rfl, (by omega), (by rw [hkt, ← hc1]; omega), (by rw [hkt, hqt]; exact ⟨cn, Fo, Go, hI, hcp, by omega, hJ.at (by omega) hcp (by omega) (fun z => absurd (show wz = 0 by omega) z) (fun _ => rfl)⟩), hF1, hG1⟩⟩ hP hD hS
      · refine lv_aload_n hex hby dX10_covering_35 rfl (lv_at hl 1 rfl) ?_
        refine nv_get (v := .ref aG) CFx in_X10_covering_X10 hK hP 0 rfl rfl 24 (by decide) (List.mem_of_getElem? (i := 2) rfl) rfl dX10_covering_36 ?_
        refine lv_iload_n hex hby dX10_covering_39 rfl (lv_at hl 3 rfl) ?_
        refine nv_iald hex hby hK hP 3 0 rfl rfl (by omega) (by omega) dX10_covering_40 ?_
        have hb_11 := hG1 qn
        refine lv_goto (tgt := 50) hex hby dX10_covering_41 (by decide) ?_
        exact hret _ (cn - (cn - kn), F1, G1) _ _ _ _ _ (Or.inl ⟨rfl, _, rfl, rfl, dX10_covering_50⟩) ⟨_, rfl, Or.inl ⟨(G1 qn), rfl, (by omega), (by rw [hkt, ← hc1]; omega), (by rw [hkt, hqt]; exact ⟨cn, Fo, Go, hI, hcp, by omega, hJ.at (by omega) hcp (by omega) (fun _ => rfl) (fun z => absurd (show wz ≠ 0 by omega) z)⟩), hF1, hG1⟩⟩ hP hD hS
    · refine nv_if_ne (tgt := 31) hex hby dX10_covering_26 (by decide) (by omega) (fun c => absurd c (by omega)) (fun _ => ?_)
      refine lv_iconst (v := zI (-1)) hex hby dX10_covering_29 rfl ?_
      exact hret _ (cn - (cn - kn), F1, G1) _ _ _ _ _ (Or.inl ⟨rfl, _, rfl, rfl, dX10_covering_30⟩) ⟨_, rfl, Or.inr (Or.inl ⟨rfl, (by omega), (by rw [hkt, ← hc1]; omega), hF1, hG1⟩)⟩ hP hD hS
  · refine lv_bipush (v := zI (-2)) hex hby dX10_covering_5 rfl ?_
    exact hret _ (im, F, G) _ _ _ _ _ (Or.inl ⟨rfl, _, rfl, rfl, dX10_covering_7⟩) ⟨_, rfl, Or.inr (Or.inr (⟨rfl, (by omega), hFb, hGb⟩))⟩ hP hD hS
theorem nd_X10_points : ndV yX10_points RX10 0 := by decide +kernel
theorem in_X10_points_X10 : ∀ w ∈ wsX100, w ∈ wsX10_points := fun _ h => List.mem_cons_of_mem _ (List.mem_append_right _ (h))
set_option maxHeartbeats 4000000 in
set_option maxRecDepth 100000 in
theorem c_X10_points {h : Nat} {fs : List Value} {pc : Nat} (f_pointMany : fs[9]? = some (.int (nI pc))) : RO l yX10_points wsX10_points 0 0 (dC, dI) (tyK cI cZ cS) [(h, .inr (10, fs))] [.ref h] (rI (fun r => r = nI pc)) := by
  refine ro_of (by decide) rfl (Nat.le_of_ble_eq_true rfl) ?_
  intro pp ee ss mm bb mt cd Q CFx hP hK hret ls hl
  obtain ⟨hex, hby, hml, hown, hts⟩ := id CFx
  have hl : lv_has ls 1 [(0, .ref h)] := hl
  refine lv_aload_n hex hby dX10_points_0 rfl (lv_at hl 0 rfl) ?_
  refine nv_get (v := .int (nI pc)) CFx in_X10_points_X10 hK hP 0 rfl rfl 9 (by decide) (List.mem_of_getElem? (i := 1) rfl) f_pointMany dX10_points_1 ?_
  exact hret _ _ _ _ (Or.inl ⟨rfl, _, rfl, rfl, dX10_points_4⟩) ⟨_, rfl, rfl⟩
theorem nd_X10_leaves : ndV yX10_leaves RX10 0 := by decide +kernel
theorem in_X10_leaves_X10 : ∀ w ∈ wsX100, w ∈ wsX10_leaves := fun _ h => List.mem_cons_of_mem _ (List.mem_append_right _ (h))
set_option maxHeartbeats 4000000 in
set_option maxRecDepth 100000 in
theorem c_X10_leaves {h : Nat} {fs : List Value} {c : Nat} (f_leafMany : fs[13]? = some (.int (nI c))) : RO l yX10_leaves wsX10_leaves 0 0 (dC, dI) (tyK cI cZ cS) [(h, .inr (10, fs))] [.ref h] (rI (fun r => r = nI c)) := by
  refine ro_of (by decide) rfl (Nat.le_of_ble_eq_true rfl) ?_
  intro pp ee ss mm bb mt cd Q CFx hP hK hret ls hl
  obtain ⟨hex, hby, hml, hown, hts⟩ := id CFx
  have hl : lv_has ls 1 [(0, .ref h)] := hl
  refine lv_aload_n hex hby dX10_leaves_0 rfl (lv_at hl 0 rfl) ?_
  refine nv_get (v := .int (nI c)) CFx in_X10_leaves_X10 hK hP 0 rfl rfl 13 (by decide) (List.mem_of_getElem? (i := 1) rfl) f_leafMany dX10_leaves_1 ?_
  exact hret _ _ _ _ (Or.inl ⟨rfl, _, rfl, rfl, dX10_leaves_4⟩) ⟨_, rfl, rfl⟩
theorem nd_X10_isLeaf : ndV yX10_isLeaf RX10 1 := by decide +kernel
theorem in_X10_isLeaf_X10 : ∀ w ∈ wsX100, w ∈ wsX10_isLeaf := fun _ h => List.mem_cons_of_mem _ (List.mem_append_right _ (h))
set_option maxHeartbeats 4000000 in
set_option maxRecDepth 100000 in
theorem c_X10_isLeaf {h : Nat} {fs : List Value} {c : Nat} {k : Int32} {kz : Int} (f_leafMany : fs[13]? = some (.int (nI c))) (hkz : k.toInt = kz) (hc1 : 1 ≤ c) (hc2 : c ≤ 4096) : RO l yX10_isLeaf wsX10_isLeaf 1 22 (dC, dI) (tyK cI cZ cS) [(h, .inr (10, fs))] [.ref h, .int k] (rI (fun r => (r = nI 1 ∧ (0 ≤ kz ∧ kz < (c : Int))) ∨ (r = nI 0 ∧ (¬ (0 ≤ kz ∧ kz < (c : Int)))))) := by
  refine ro_of (by decide) rfl (Nat.le_of_ble_eq_true rfl) ?_
  intro pp ee ss mm bb mt cd Q CFx hP hK hret ls hl
  obtain ⟨hex, hby, hml, hown, hts⟩ := id CFx
  have hl : lv_has ls 2 [(0, .ref h), (1, .int k)] := hl
  refine lv_iload_n hex hby dX10_isLeaf_0 rfl (lv_at hl 1 rfl) ?_
  refine lv_iconst (v := nI 0) hex hby dX10_isLeaf_1 rfl ?_
  refine lv_aload_n hex hby dX10_isLeaf_2 rfl (lv_at hl 0 rfl) ?_
  refine nv_get (v := .int (nI c)) CFx in_X10_isLeaf_X10 hK hP 0 rfl rfl 13 (by decide) (List.mem_of_getElem? (i := 1) rfl) f_leafMany dX10_isLeaf_3 ?_
  refine lv_iconst (v := nI 1) hex hby dX10_isLeaf_6 rfl ?_
  refine nv_isub hex hby dX10_isLeaf_7 (by omega) ?_
  refine ro_Si (As := [.int k, .int (nI 0), .int (nI (c - 1))]) (rest := []) (C := RX10) CFx (c_X10_in (x := k) (xz := k.toInt) (lo := nI 0) (loz := (0 : Int)) (hi := nI (c - 1)) (hiz := ((c - 1 : Nat) : Int)) rfl (by rfl) (ni_toInt (by omega))) 3 gX10_isLeaf_X10_in rfl nd_X10_in ⟨Nat.le_of_ble_eq_true rfl, Nat.le_of_ble_eq_true rfl⟩ hK hP [] rfl rfl hl.1 rfl (Nat.le_of_ble_eq_true rfl) dX10_isLeaf_8 ⟨Nat.le_refl _, Nat.le_refl _⟩ (fun r_1 hr_1 => ?_)
  rcases hr_1 with ⟨rfl, h_2⟩ | ⟨rfl, h_3⟩
  · exact hret _ _ _ _ (Or.inr (Or.inl ⟨rfl, _, (Or.inl rfl), rfl, rfl, dX10_isLeaf_11⟩)) ⟨_, rfl, Or.inl ⟨rfl, (by omega)⟩⟩
  · exact hret _ _ _ _ (Or.inr (Or.inl ⟨rfl, _, (Or.inr rfl), rfl, rfl, dX10_isLeaf_11⟩)) ⟨_, rfl, Or.inr ⟨rfl, (by omega)⟩⟩
theorem nd_X10_tells : ndV yX10_tells RX10 2 := by decide +kernel
theorem in_X10_tells_X10 : ∀ w ∈ wsX100, w ∈ wsX10_tells := fun _ h => List.mem_cons_of_mem _ (List.mem_append_right _ (h))
set_option maxHeartbeats 4000000 in
set_option maxRecDepth 100000 in
theorem c_X10_tells {h : Nat} {aC : Nat} {aS : Nat} {aL : Nat} {aP : Nat} {aI : Nat} {fs : List Value} {pc : Nat} {g : Nat → Nat} {S : Nat → Nat} {Lv : Nat → Nat} {P : Nat → Nat} {ix : Nat → Nat} {k : Nat} {w : Nat} {m : Nat} {T : Nat → Nat} {ns : Nat} {st : Nat → Nat} {lv : Nat → Nat} {c : Nat} (f_points : fs[8]? = some (.ref aP)) (f_pointMany : fs[9]? = some (.int (nI pc))) (f_starts : fs[11]? = some (.ref aS)) (f_levels : fs[12]? = some (.ref aL)) (f_indexOf : fs[21]? = some (.ref aI)) (f_cellOf : fs[22]? = some (.ref aC)) (hg : ∀ j, g j < 4096) (hSb : ∀ j, S j < 4096) (hLb : ∀ j, Lv j < 7) (hPb : ∀ j, P j < 4096) (hpc : pc ≤ 40) (hix : ∀ j, ix j < 4096) (hm6 : m ≤ 6) (hV : VT T ns) (hN : NumOK T m g ix) (hL : LvL m c st lv) (hag : AG c st lv S Lv) (hpg : ∀ j, j < pc → P j % 64 < 2 ^ m ∧ P j / 64 < 2 ^ m) (hk : k < c) (hw : w < 5) : RO l yX10_tells wsX10_tells 1 24 (dC, dI) (tyK cI cZ cS) [(h, .inr (10, fs)), (aC, .inl (cI, 4096, .inl (nA g))), (aS, .inl (cI, 4096, .inl (nA S))), (aL, .inl (cI, 4096, .inl (nA Lv))), (aP, .inl (cI, 40, .inl (nA P))), (aI, .inl (cI, 4096, .inl (nA ix)))] [.ref h, .int (nI k), .int (nI w)] (rI (fun r => r = nI (tlV T m pc (ptv T m P) st lv k w))) := by
  refine ro_of (by decide) rfl (Nat.le_of_ble_eq_true rfl) ?_
  intro pp ee ss mm bb mt cd Q CFx hP hK hret ls hl
  obtain ⟨hex, hby, hml, hown, hts⟩ := id CFx
  have hl : lv_has ls 3 [(0, .ref h), (1, .int (nI k)), (2, .int (nI w))] := hl
  have h26 := p2_6 hm6
  have h46 := p4_6 hm6
  have h4p := p4_pos m
  have hcle := hL.le (Nat.le_refl c)
  have hstc := hL.2.2.1
  have hc0 := hL.1
  have hgk := hag k hk
  have hlk := hLb k
  have hsk := hSb k
  have hl26 := p2_6 (show Lv k ≤ 6 by omega)
  refine lv_iload_n hex hby dX10_tells_0 rfl (lv_at hl 2 rfl) ?_
  rcases (show w = 0 ∨ w = 1 ∨ w = 2 ∨ w = 3 ∨ w = 4 by omega) with rfl | rfl | rfl | rfl | rfl
  · refine lv_tableIn (tgt := 32) (off := 31) hex hby dX10_tells_1 (by decide +kernel) (by decide +kernel) (by decide +kernel) (by decide) ?_
    refine lv_aload_n hex hby dX10_tells_32 rfl (lv_at hl 0 rfl) ?_
    refine lv_iload_n hex hby dX10_tells_33 rfl (lv_at hl 1 rfl) ?_
    refine ro_Vi (As := [.int (nI k)]) (rest := []) CFx (c_X10_leftOf (h := h) (aC := aC) (aS := aS) (aL := aL) (fs := fs) (g := g) (S := S) (Lv := Lv) (k := k) (m := m) (T := T) (ns := ns) (st := st) (lv := lv) (c := c) f_starts f_levels f_cellOf hg hSb hLb hN.1 hV hL hag hm6 hk) 1 gX10_tells_X10_leftOf rfl nd_X10_leftOf ⟨Nat.le_of_ble_eq_true rfl, Nat.le_of_ble_eq_true rfl⟩ hK hP [0, 1, 2, 3] rfl rfl rfl rfl hl.1 rfl (Nat.le_of_ble_eq_true rfl) dX10_tells_34 ⟨Nat.le_refl _, Nat.le_refl _⟩ (fun r_1 hr_1 => ?_)
    obtain rfl := hr_1
    exact hret _ _ _ _ (Or.inl ⟨rfl, _, rfl, rfl, dX10_tells_37⟩) ⟨_, rfl, rfl⟩
  · refine lv_tableIn (tgt := 38) (off := 37) hex hby dX10_tells_1 (by decide +kernel) (by decide +kernel) (by decide +kernel) (by decide) ?_
    refine lv_aload_n hex hby dX10_tells_38 rfl (lv_at hl 0 rfl) ?_
    refine lv_iload_n hex hby dX10_tells_39 rfl (lv_at hl 1 rfl) ?_
    refine ro_Vi (As := [.int (nI k)]) (rest := []) CFx (c_X10_belowOf (h := h) (aC := aC) (aS := aS) (aL := aL) (fs := fs) (g := g) (S := S) (Lv := Lv) (k := k) (m := m) (T := T) (ns := ns) (st := st) (lv := lv) (c := c) f_starts f_levels f_cellOf hg hSb hLb hN.1 hV hL hag hm6 hk) 1 gX10_tells_X10_belowOf rfl nd_X10_belowOf ⟨Nat.le_of_ble_eq_true rfl, Nat.le_of_ble_eq_true rfl⟩ hK hP [0, 1, 2, 3] rfl rfl rfl rfl hl.1 rfl (Nat.le_of_ble_eq_true rfl) dX10_tells_40 ⟨Nat.le_refl _, Nat.le_refl _⟩ (fun r_2 hr_2 => ?_)
    obtain rfl := hr_2
    exact hret _ _ _ _ (Or.inl ⟨rfl, _, rfl, rfl, dX10_tells_43⟩) ⟨_, rfl, rfl⟩
  · refine lv_tableIn (tgt := 44) (off := 43) hex hby dX10_tells_1 (by decide +kernel) (by decide +kernel) (by decide +kernel) (by decide) ?_
    refine lv_iconst (v := nI 1) hex hby dX10_tells_44 rfl ?_
    refine lv_aload_n hex hby dX10_tells_45 rfl (lv_at hl 0 rfl) ?_
    refine nv_get (v := .ref aL) CFx in_X10_tells_X10 hK hP 0 rfl rfl 12 (by decide) (List.mem_of_getElem? (i := 1) rfl) f_levels dX10_tells_46 ?_
    refine lv_iload_n hex hby dX10_tells_49 rfl (lv_at hl 1 rfl) ?_
    refine nv_iald hex hby hK hP 3 0 rfl rfl (by omega) (by omega) dX10_tells_50 ?_
    have hb_3 := hLb k
    refine nv_ishl hex hby dX10_tells_51 (by omega) (by omega) ?_
    refine nv_top (y := nI (2 ^ (Lv k))) (congrArg nI (Nat.one_mul _)) ?_
    exact hret _ _ _ _ (Or.inl ⟨rfl, _, rfl, rfl, dX10_tells_52⟩) ⟨_, rfl, (congrArg nI (by unfold tlV; simp; rw [hgk.2]))⟩
  · refine lv_tableIn (tgt := 53) (off := 52) hex hby dX10_tells_1 (by decide +kernel) (by decide +kernel) (by decide +kernel) (by decide) ?_
    refine lv_aload_n hex hby dX10_tells_53 rfl (lv_at hl 0 rfl) ?_
    refine lv_aload_n hex hby dX10_tells_54 rfl (lv_at hl 0 rfl) ?_
    refine nv_get (v := .ref aS) CFx in_X10_tells_X10 hK hP 0 rfl rfl 11 (by decide) (List.mem_of_getElem? (i := 2) rfl) f_starts dX10_tells_55 ?_
    refine lv_iload_n hex hby dX10_tells_58 rfl (lv_at hl 1 rfl) ?_
    refine nv_iald hex hby hK hP 2 0 rfl rfl (by omega) (by omega) dX10_tells_59 ?_
    have hb_4 := hSb k
    refine lv_aload_n hex hby dX10_tells_60 rfl (lv_at hl 0 rfl) ?_
    refine nv_get (v := .ref aL) CFx in_X10_tells_X10 hK hP 0 rfl rfl 12 (by decide) (List.mem_of_getElem? (i := 1) rfl) f_levels dX10_tells_61 ?_
    refine lv_iload_n hex hby dX10_tells_64 rfl (lv_at hl 1 rfl) ?_
    refine nv_iald hex hby hK hP 3 0 rfl rfl (by omega) (by omega) dX10_tells_65 ?_
    have hb_5 := hLb k
    refine ro_Vi (As := [.int (nI (S k)), .int (nI (Lv k))]) (rest := []) CFx (c_X10_pointsIn (h := h) (aP := aP) (aI := aI) (fs := fs) (pc := pc) (P := P) (ix := ix) (s := S k) (L := Lv k) f_points f_pointMany f_indexOf hPb hpc hix (by omega) (by omega)) 2 gX10_tells_X10_pointsIn rfl nd_X10_pointsIn ⟨Nat.le_of_ble_eq_true rfl, Nat.le_of_ble_eq_true rfl⟩ hK hP [0, 4, 5] rfl rfl rfl rfl hl.1 rfl (Nat.le_of_ble_eq_true rfl) dX10_tells_66 ⟨Nat.le_refl _, Nat.le_refl _⟩ (fun r_6 hr_6 => ?_)
    obtain rfl := hr_6
    exact hret _ _ _ _ (Or.inl ⟨rfl, _, rfl, rfl, dX10_tells_69⟩) ⟨_, rfl, (congrArg nI (by unfold tlV; simp; rw [hgk.1, hgk.2]; exact pcb_congr (fun i hi => hN.iv hV (hpg i hi).1 (hpg i hi).2)))⟩
  · refine lv_tableOut (tgt := 70) hex hby dX10_tells_1 (by decide +kernel) (by decide) ?_
    refine lv_aload_n hex hby dX10_tells_70 rfl (lv_at hl 0 rfl) ?_
    refine nv_get (v := .ref aS) CFx in_X10_tells_X10 hK hP 0 rfl rfl 11 (by decide) (List.mem_of_getElem? (i := 2) rfl) f_starts dX10_tells_71 ?_
    refine lv_iload_n hex hby dX10_tells_74 rfl (lv_at hl 1 rfl) ?_
    refine nv_iald hex hby hK hP 2 0 rfl rfl (by omega) (by omega) dX10_tells_75 ?_
    have hb_7 := hSb k
    exact hret _ _ _ _ (Or.inl ⟨rfl, _, rfl, rfl, dX10_tells_76⟩) ⟨_, rfl, (congrArg nI (by unfold tlV; simp; exact hgk.1))⟩
theorem nd_X10_leaf : ndV yX10_leaf RX10 2 := by decide +kernel
set_option maxHeartbeats 4000000 in
set_option maxRecDepth 100000 in
theorem c_X10_leaf {h : Nat} {aC : Nat} {aS : Nat} {aL : Nat} {aP : Nat} {aI : Nat} {fs : List Value} {c : Nat} {pc : Nat} {g : Nat → Nat} {S : Nat → Nat} {Lv : Nat → Nat} {P : Nat → Nat} {ix : Nat → Nat} {k : Int32} {kz : Int} {w : Int32} {wz : Int} {m : Nat} {T : Nat → Nat} {ns : Nat} {st : Nat → Nat} {lv : Nat → Nat} (f_points : fs[8]? = some (.ref aP)) (f_pointMany : fs[9]? = some (.int (nI pc))) (f_starts : fs[11]? = some (.ref aS)) (f_levels : fs[12]? = some (.ref aL)) (f_leafMany : fs[13]? = some (.int (nI c))) (f_indexOf : fs[21]? = some (.ref aI)) (f_cellOf : fs[22]? = some (.ref aC)) (hkz : k.toInt = kz) (hwz : w.toInt = wz) (hg : ∀ j, g j < 4096) (hSb : ∀ j, S j < 4096) (hLb : ∀ j, Lv j < 7) (hPb : ∀ j, P j < 4096) (hpc : pc ≤ 40) (hix : ∀ j, ix j < 4096) (hm6 : m ≤ 6) (hV : VT T ns) (hN : NumOK T m g ix) (hL : LvL m c st lv) (hag : AG c st lv S Lv) (hpg : ∀ j, j < pc → P j % 64 < 2 ^ m ∧ P j / 64 < 2 ^ m) : RO l yX10_leaf wsX10_leaf 2 46 (dC, dI) (tyK cI cZ cS) [(h, .inr (10, fs)), (aC, .inl (cI, 4096, .inl (nA g))), (aS, .inl (cI, 4096, .inl (nA S))), (aL, .inl (cI, 4096, .inl (nA Lv))), (aP, .inl (cI, 40, .inl (nA P))), (aI, .inl (cI, 4096, .inl (nA ix)))] [.ref h, .int k, .int w] (rI (fun r => (r = nI (tlV T m pc (ptv T m P) st lv kz.toNat wz.toNat) ∧ (0 ≤ kz ∧ kz < (c : Int)) ∧ (0 ≤ wz ∧ wz < 5)) ∨ (r = zI (-1) ∧ (¬ (0 ≤ kz ∧ kz < (c : Int)))) ∨ (r = zI (-2) ∧ (0 ≤ kz ∧ kz < (c : Int)) ∧ (¬ (0 ≤ wz ∧ wz < 5))))) := by
  refine ro_of (by decide) rfl (Nat.le_of_ble_eq_true rfl) ?_
  intro pp ee ss mm bb mt cd Q CFx hP hK hret ls hl
  obtain ⟨hex, hby, hml, hown, hts⟩ := id CFx
  have hl : lv_has ls 3 [(0, .ref h), (1, .int k), (2, .int w)] := hl
  have h26 := p2_6 hm6
  have h46 := p4_6 hm6
  have h4p := p4_pos m
  have hcle := hL.le (Nat.le_refl c)
  have hstc := hL.2.2.1
  have hc0 := hL.1
  refine lv_aload_n hex hby dX10_leaf_0 rfl (lv_at hl 0 rfl) ?_
  refine lv_iload_n hex hby dX10_leaf_1 rfl (lv_at hl 1 rfl) ?_
  refine ro_Vi (As := [.int k]) (rest := []) CFx (c_X10_isLeaf (h := h) (fs := fs) (c := c) (k := k) (kz := k.toInt) f_leafMany rfl (by omega) (by omega)) 1 gX10_leaf_X10_isLeaf rfl nd_X10_isLeaf ⟨Nat.le_of_ble_eq_true rfl, Nat.le_of_ble_eq_true rfl⟩ hK hP [0] rfl rfl rfl rfl hl.1 rfl (Nat.le_of_ble_eq_true rfl) dX10_leaf_2 ⟨Nat.le_refl _, Nat.le_refl _⟩ (fun r_1 hr_1 => ?_)
  rcases hr_1 with ⟨rfl, h_2⟩ | ⟨rfl, h_3⟩
  · refine nv_if_ne (tgt := 10) hex hby dX10_leaf_5 (by decide) (by omega) (fun _ => ?_) (fun c => absurd c (by omega))
    obtain ⟨kn, hkn_, rfl, hkne⟩ := ni_of (x := k) (by omega)
    have hkt : kz.toNat = kn := by omega
    refine lv_iload_n hex hby dX10_leaf_10 rfl (lv_at hl 2 rfl) ?_
    refine lv_iconst (v := nI 0) hex hby dX10_leaf_11 rfl ?_
    refine lv_iconst (v := nI 4) hex hby dX10_leaf_12 rfl ?_
    refine ro_Si (As := [.int w, .int (nI 0), .int (nI 4)]) (rest := []) (C := RX10) CFx (c_X10_in (x := w) (xz := w.toInt) (lo := nI 0) (loz := (0 : Int)) (hi := nI 4) (hiz := (4 : Int)) rfl (by rfl) (by rfl)) 3 gX10_leaf_X10_in rfl nd_X10_in ⟨Nat.le_of_ble_eq_true rfl, Nat.le_of_ble_eq_true rfl⟩ hK hP [] rfl rfl hl.1 rfl (Nat.le_of_ble_eq_true rfl) dX10_leaf_13 ⟨Nat.le_refl _, Nat.le_refl _⟩ (fun r_4 hr_4 => ?_)
    rcases hr_4 with ⟨rfl, h_5⟩ | ⟨rfl, h_6⟩
    · refine nv_if_eq (tgt := 28) hex hby dX10_leaf_16 (by decide) (by omega) (fun c => absurd c (by omega)) (fun _ => ?_)
      obtain ⟨wn, hwn_, rfl, hwne⟩ := ni_of (x := w) (by omega)
      have hwt : wz.toNat = wn := by omega
      refine lv_aload_n hex hby dX10_leaf_19 rfl (lv_at hl 0 rfl) ?_
      refine lv_iload_n hex hby dX10_leaf_20 rfl (lv_at hl 1 rfl) ?_
      refine lv_iload_n hex hby dX10_leaf_21 rfl (lv_at hl 2 rfl) ?_
      refine ro_Vi (As := [.int (nI kn), .int (nI wn)]) (rest := []) CFx (c_X10_tells (h := h) (aC := aC) (aS := aS) (aL := aL) (aP := aP) (aI := aI) (fs := fs) (pc := pc) (g := g) (S := S) (Lv := Lv) (P := P) (ix := ix) (k := kn) (w := wn) (m := m) (T := T) (ns := ns) (st := st) (lv := lv) (c := c) f_points f_pointMany f_starts f_levels f_indexOf f_cellOf hg hSb hLb hPb hpc hix hm6 hV hN hL hag hpg (by omega) (by omega)) 2 gX10_leaf_X10_tells rfl nd_X10_tells ⟨Nat.le_of_ble_eq_true rfl, Nat.le_of_ble_eq_true rfl⟩ hK hP [0, 1, 2, 3, 4, 5] rfl rfl rfl rfl hl.1 rfl (Nat.le_of_ble_eq_true rfl) dX10_leaf_22 ⟨Nat.le_refl _, Nat.le_refl _⟩ (fun r_7 hr_7 => ?_)
      obtain rfl := hr_7
      refine lv_goto (tgt := 30) hex hby dX10_leaf_25 (by decide) ?_
      exact hret _ _ _ _ (Or.inl ⟨rfl, _, rfl, rfl, dX10_leaf_30⟩) ⟨_, rfl, Or.inl ⟨(by rw [hkt, hwt]), (by omega), (by omega)⟩⟩
    · refine nv_if_eq (tgt := 28) hex hby dX10_leaf_16 (by decide) (by omega) (fun _ => ?_) (fun c => absurd c (by omega))
      refine lv_bipush (v := zI (-2)) hex hby dX10_leaf_28 rfl ?_
      exact hret _ _ _ _ (Or.inl ⟨rfl, _, rfl, rfl, dX10_leaf_30⟩) ⟨_, rfl, Or.inr (Or.inr (⟨rfl, (by omega), (by omega)⟩))⟩
  · refine nv_if_ne (tgt := 10) hex hby dX10_leaf_5 (by decide) (by omega) (fun c => absurd c (by omega)) (fun _ => ?_)
    refine lv_iconst (v := zI (-1)) hex hby dX10_leaf_8 rfl ?_
    exact hret _ _ _ _ (Or.inl ⟨rfl, _, rfl, rfl, dX10_leaf_9⟩) ⟨_, rfl, Or.inr (Or.inl ⟨rfl, (by omega)⟩)⟩
theorem nd_X10_leafAt : ndV yX10_leafAt RX10 2 := by decide +kernel
theorem in_X10_leafAt_X10 : ∀ w ∈ wsX100, w ∈ wsX10_leafAt := fun _ h => List.mem_cons_of_mem _ (List.mem_append_right _ (h))
set_option maxHeartbeats 4000000 in
set_option maxRecDepth 100000 in
theorem c_X10_leafAt {h : Nat} {aI : Nat} {aO : Nat} {fs : List Value} {m : Nat} {ix : Nat → Nat} {O : Nat → Nat} {x : Int32} {xz : Int} {y : Int32} {yz : Int} {g : Nat → Nat} {c : Nat} {T : Nat → Nat} {ns : Nat} {st : Nat → Nat} {lv : Nat → Nat} (f_m : fs[0]? = some (.int (nI m))) (f_indexOf : fs[21]? = some (.ref aI)) (f_leafOf : fs[26]? = some (.ref aO)) (hxz : x.toInt = xz) (hyz : y.toInt = yz) (hix : ∀ j, ix j < 4096) (hOb : ∀ j, O j < 4096) (hm6 : m ≤ 6) (hV : VT T ns) (hN : NumOK T m g ix) (hL : LvL m c st lv) (hO : LfOK c st O) : RO l yX10_leafAt wsX10_leafAt 2 44 (dC, dI) (tyK cI cZ cS) [(h, .inr (10, fs)), (aI, .inl (cI, 4096, .inl (nA ix))), (aO, .inl (cI, 4096, .inl (nA O)))] [.ref h, .int x, .int y] (rI (fun r => (∃ v : Nat, r = nI v ∧ (0 ≤ xz ∧ xz < ((2 ^ m : Nat) : Int) ∧ 0 ≤ yz ∧ yz < ((2 ^ m : Nat) : Int)) ∧ v < c ∧ inLf T m st lv v xz.toNat yz.toNat) ∨ (r = zI (-1) ∧ (¬ (0 ≤ xz ∧ xz < ((2 ^ m : Nat) : Int) ∧ 0 ≤ yz ∧ yz < ((2 ^ m : Nat) : Int)))))) := by
  refine ro_of (by decide) rfl (Nat.le_of_ble_eq_true rfl) ?_
  intro pp ee ss mm bb mt cd Q CFx hP hK hret ls hl
  obtain ⟨hex, hby, hml, hown, hts⟩ := id CFx
  have hl : lv_has ls 3 [(0, .ref h), (1, .int x), (2, .int y)] := hl
  have h26 := p2_6 hm6
  have h46 := p4_6 hm6
  have h4p := p4_pos m
  have hcle := hL.le (Nat.le_refl c)
  have hstc := hL.2.2.1
  have hc0 := hL.1
  refine lv_aload_n hex hby dX10_leafAt_0 rfl (lv_at hl 0 rfl) ?_
  refine lv_iload_n hex hby dX10_leafAt_1 rfl (lv_at hl 1 rfl) ?_
  refine lv_iload_n hex hby dX10_leafAt_2 rfl (lv_at hl 2 rfl) ?_
  refine ro_Vi (As := [.int x, .int y]) (rest := []) CFx (c_X10_isCell (h := h) (fs := fs) (m := m) (x := x) (xz := x.toInt) (y := y) (yz := y.toInt) f_m rfl rfl hm6) 2 gX10_leafAt_X10_isCell rfl nd_X10_isCell ⟨Nat.le_of_ble_eq_true rfl, Nat.le_of_ble_eq_true rfl⟩ hK hP [0] rfl rfl rfl rfl hl.1 rfl (Nat.le_of_ble_eq_true rfl) dX10_leafAt_3 ⟨Nat.le_refl _, Nat.le_refl _⟩ (fun r_1 hr_1 => ?_)
  rcases hr_1 with ⟨rfl, h_2⟩ | ⟨rfl, h_3⟩
  · refine nv_if_eq (tgt := 28) hex hby dX10_leafAt_6 (by decide) (by omega) (fun c => absurd c (by omega)) (fun _ => ?_)
    obtain ⟨xn, hxn_, rfl, hxne⟩ := ni_of (x := x) (by omega)
    obtain ⟨yn, hyn_, rfl, hyne⟩ := ni_of (x := y) (by omega)
    have hxt : xz.toNat = xn := by omega
    have hyt : yz.toNat = yn := by omega
    refine lv_aload_n hex hby dX10_leafAt_9 rfl (lv_at hl 0 rfl) ?_
    refine nv_get (v := .ref aO) CFx in_X10_leafAt_X10 hK hP 0 rfl rfl 26 (by decide) (List.mem_of_getElem? (i := 1) rfl) f_leafOf dX10_leafAt_10 ?_
    refine lv_aload_n hex hby dX10_leafAt_13 rfl (lv_at hl 0 rfl) ?_
    refine nv_get (v := .ref aI) CFx in_X10_leafAt_X10 hK hP 0 rfl rfl 21 (by decide) (List.mem_of_getElem? (i := 2) rfl) f_indexOf dX10_leafAt_14 ?_
    refine lv_bipush (v := nI 64) hex hby dX10_leafAt_17 rfl ?_
    refine lv_iload_n hex hby dX10_leafAt_19 rfl (lv_at hl 2 rfl) ?_
    refine nv_imul hex hby dX10_leafAt_20 ?_
    refine lv_iload_n hex hby dX10_leafAt_21 rfl (lv_at hl 1 rfl) ?_
    refine nv_iadd hex hby dX10_leafAt_22 ?_
    refine nv_iald hex hby hK hP 1 0 rfl rfl (by omega) (by omega) dX10_leafAt_23 ?_
    have hb_4 := hix (64 * yn + xn)
    have hna := num_at hV hN (x := xn) (y := yn) (by omega) (by omega)
    obtain ⟨v, hv1, hv2, hv3⟩ := hL.at hna.1
    have hg1 := (geo hV hL hv1 hna.1).mp ⟨hv2, hv3⟩
    rw [hna.2.1, hna.2.2] at hg1
    refine nv_top (y := nI (ix (yn * 64 + xn))) (congrArg nI (congrArg ix (by omega))) ?_
    refine nv_iald hex hby hK hP 2 0 rfl rfl (by omega) (by omega) dX10_leafAt_24 ?_
    have hb_5 := hOb (ix (yn * 64 + xn))
    refine nv_top (y := nI v) (congrArg nI (hO v hv1 _ hv2 hv3)) ?_
    refine lv_goto (tgt := 29) hex hby dX10_leafAt_25 (by decide) ?_
    exact hret _ _ _ _ (Or.inl ⟨rfl, _, rfl, rfl, dX10_leafAt_29⟩) ⟨_, rfl, Or.inl ⟨v, rfl, (by omega), hv1, (by rw [hxt, hyt]; exact hg1)⟩⟩
  · refine nv_if_eq (tgt := 28) hex hby dX10_leafAt_6 (by decide) (by omega) (fun _ => ?_) (fun c => absurd c (by omega))
    refine lv_iconst (v := zI (-1)) hex hby dX10_leafAt_28 rfl ?_
    exact hret _ _ _ _ (Or.inl ⟨rfl, _, rfl, rfl, dX10_leafAt_29⟩) ⟨_, rfl, Or.inr ⟨rfl, (by omega)⟩⟩
theorem nd_X10_neighbours : ndV yX10_neighbours RX10 2 := by decide +kernel
theorem in_X10_neighbours_X10 : ∀ w ∈ wsX100, w ∈ wsX10_neighbours := fun _ h => List.mem_cons_of_mem _ (List.mem_append_right _ (h))
set_option maxHeartbeats 4000000 in
set_option maxRecDepth 100000 in
theorem c_X10_neighbours {h : Nat} {aB : Nat} {aC : Nat} {aI : Nat} {aS : Nat} {aL : Nat} {aO : Nat} {m : Nat} {v1 : Value} {v2 : Value} {v3 : Value} {v4 : Value} {v5 : Value} {v6 : Value} {v7 : Value} {v8 : Value} {v9 : Value} {v10 : Value} {c : Nat} {v14 : Value} {v15 : Value} {v16 : Value} {v17 : Value} {v18 : Value} {v19 : Value} {v20 : Value} {v23 : Value} {v24 : Value} {v25 : Value} {bs : Nat} {f : Nat → Nat} {g : Nat → Nat} {ix : Nat → Nat} {S : Nat → Nat} {Lv : Nat → Nat} {O : Nat → Nat} {k : Int32} {kz : Int} {s : Int32} {sz : Int} {T : Nat → Nat} {ns : Nat} {st : Nat → Nat} {lv : Nat → Nat} (hkz : k.toInt = kz) (hsz : s.toInt = sz) (hfb : ∀ j, f j < 4096) (hg : ∀ j, g j < 4096) (hSb : ∀ j, S j < 4096) (hLb : ∀ j, Lv j < 7) (hix : ∀ j, ix j < 4096) (hOb : ∀ j, O j < 4096) (hm6 : m ≤ 6) (hV : VT T ns) (hN : NumOK T m g ix) (hL : LvL m c st lv) (hag : AG c st lv S Lv) (hO : LfOK c st O) : MU l yX10_neighbours wsX10_neighbours 3 72 (dC, dI) (tyK cI cZ cS) [(h, .inr (10, [.int (nI m), v1, v2, v3, v4, v5, v6, v7, v8, v9, v10, .ref aS, .ref aL, .int (nI c), v14, v15, v16, v17, v18, v19, v20, .ref aI, .ref aC, v23, v24, v25, .ref aO, .ref aB, .int (nI bs)])), (aB, .inl (cI, 64, .inl (nA f))), (aC, .inl (cI, 4096, .inl (nA g))), (aI, .inl (cI, 4096, .inl (nA ix))), (aS, .inl (cI, 4096, .inl (nA S))), (aL, .inl (cI, 4096, .inl (nA Lv))), (aO, .inl (cI, 4096, .inl (nA O)))] [] [.ref h, .int k, .int s] (fun rv_ (u_ : Nat × (Nat → Nat)) => rI (fun r => (∃ n : Nat, ∃ r_ : Nat → Nat, r = nI n ∧ ((0 ≤ kz ∧ kz < (c : Int)) ∧ 0 ≤ sz ∧ sz < 4) ∧ SSt n r_ (Nbr T m c st lv sz.toNat kz.toNat) ∧ (∀ j, u_.2 j < 4096)) ∨ (r = zI (-1) ∧ (¬ ((0 ≤ kz ∧ kz < (c : Int)) ∧ 0 ≤ sz ∧ sz < 4)) ∧ (∀ j, u_.2 j < 4096))) rv_) (fun (u_ : Nat × (Nat → Nat)) => [(h, .inr (10, [.int (nI m), v1, v2, v3, v4, v5, v6, v7, v8, v9, v10, .ref aS, .ref aL, .int (nI c), v14, v15, v16, v17, v18, v19, v20, .ref aI, .ref aC, v23, v24, v25, .ref aO, .ref aB, .int (nI u_.1)])), (aB, .inl (cI, 64, .inl (nA u_.2))), (aC, .inl (cI, 4096, .inl (nA g))), (aI, .inl (cI, 4096, .inl (nA ix))), (aS, .inl (cI, 4096, .inl (nA S))), (aL, .inl (cI, 4096, .inl (nA Lv))), (aO, .inl (cI, 4096, .inl (nA O)))]) := by
  refine mu_of (by decide) rfl (Nat.le_of_ble_eq_true rfl) ?_
  intro pp ee ss mm bb mt cd Q A CFx hP hK hD hS hA hTr hret ls hl
  obtain ⟨hex, hby, hml, hown, hts⟩ := id CFx
  have hl : lv_has ls 3 [(0, .ref h), (1, .int k), (2, .int s)] := hl
  have h26 := p2_6 hm6
  have h46 := p4_6 hm6
  have h4p := p4_pos m
  have hcle := hL.le (Nat.le_refl c)
  have hstc := hL.2.2.1
  have hc0 := hL.1
  refine lv_aload_n hex hby dX10_neighbours_0 rfl (lv_at hl 0 rfl) ?_
  refine lv_iload_n hex hby dX10_neighbours_1 rfl (lv_at hl 1 rfl) ?_
  refine ro_Vi (As := [.int k]) (rest := []) CFx (c_X10_isLeaf (h := h) (fs := [.int (nI m), v1, v2, v3, v4, v5, v6, v7, v8, v9, v10, .ref aS, .ref aL, .int (nI c), v14, v15, v16, v17, v18, v19, v20, .ref aI, .ref aC, v23, v24, v25, .ref aO, .ref aB, .int (nI bs)]) (c := c) (k := k) (kz := k.toInt) rfl rfl (by omega) (by omega)) 1 gX10_neighbours_X10_isLeaf rfl nd_X10_isLeaf ⟨Nat.le_of_ble_eq_true rfl, Nat.le_of_ble_eq_true rfl⟩ hK hP [0] rfl rfl rfl rfl hl.1 rfl (Nat.le_of_ble_eq_true rfl) dX10_neighbours_2 ⟨Nat.le_refl _, Nat.le_refl _⟩ (fun r_1 hr_1 => ?_)
  rcases hr_1 with ⟨rfl, h_2⟩ | ⟨rfl, h_3⟩
  · refine nv_if_eq (tgt := 17) hex hby dX10_neighbours_5 (by decide) (by omega) (fun c => absurd c (by omega)) (fun _ => ?_)
    refine lv_iload_n hex hby dX10_neighbours_8 rfl (lv_at hl 2 rfl) ?_
    refine lv_iconst (v := nI 0) hex hby dX10_neighbours_9 rfl ?_
    refine lv_iconst (v := nI 3) hex hby dX10_neighbours_10 rfl ?_
    refine ro_Si (As := [.int s, .int (nI 0), .int (nI 3)]) (rest := []) (C := RX10) CFx (c_X10_in (x := s) (xz := s.toInt) (lo := nI 0) (loz := (0 : Int)) (hi := nI 3) (hiz := (3 : Int)) rfl (by rfl) (by rfl)) 3 gX10_neighbours_X10_in rfl nd_X10_in ⟨Nat.le_of_ble_eq_true rfl, Nat.le_of_ble_eq_true rfl⟩ hK hP [] rfl rfl hl.1 rfl (Nat.le_of_ble_eq_true rfl) dX10_neighbours_11 ⟨Nat.le_refl _, Nat.le_refl _⟩ (fun r_4 hr_4 => ?_)
    rcases hr_4 with ⟨rfl, h_5⟩ | ⟨rfl, h_6⟩
    · refine nv_if_ne (tgt := 19) hex hby dX10_neighbours_14 (by decide) (by omega) (fun _ => ?_) (fun c => absurd c (by omega))
      obtain ⟨kn, hkn_, rfl, hkne⟩ := ni_of (x := k) (by omega)
      obtain ⟨sn, hsn_, rfl, hsne⟩ := ni_of (x := s) (by omega)
      have hkt : kz.toNat = kn := by omega
      have hst : sz.toNat = sn := by omega
      refine lv_aload_n hex hby dX10_neighbours_19 rfl (lv_at hl 0 rfl) ?_
      refine lv_iload_n hex hby dX10_neighbours_20 rfl (lv_at hl 1 rfl) ?_
      refine lv_iload_n hex hby dX10_neighbours_21 rfl (lv_at hl 2 rfl) ?_
      refine mu_Vv (As := [.int (nI kn), .int (nI sn)]) (rest := []) (wr := []) CFx (c_X10_findBeside (h := h) (aB := aB) (aC := aC) (aI := aI) (aS := aS) (aL := aL) (aO := aO) (m := m) (v1 := v1) (v2 := v2) (v3 := v3) (v4 := v4) (v5 := v5) (v6 := v6) (v7 := v7) (v8 := v8) (v9 := v9) (v10 := v10) (v13 := .int (nI c)) (v14 := v14) (v15 := v15) (v16 := v16) (v17 := v17) (v18 := v18) (v19 := v19) (v20 := v20) (v23 := v23) (v24 := v24) (v25 := v25) (v28 := .int (nI bs)) (fa := f) (g := g) (ix := ix) (S := S) (Lv := Lv) (O := O) (k := kn) (s := sn) (T := T) (ns := ns) (st := st) (lv := lv) (c := c) hfb hg hSb hLb hN.1 hV hL hag hm6 (by omega) hix hOb hN hO (by omega)) 2 gX10_neighbours_X10_findBeside rfl nd_X10_findBeside ⟨Nat.le_of_ble_eq_true rfl, Nat.le_of_ble_eq_true rfl⟩ hK hP hD hS hA [0, 1, 2, 3, 4, 5, 6] [] rfl rfl (by decide) (by decide) (by decide) TR.nil rfl rfl rfl hl.1 rfl (Nat.le_of_ble_eq_true rfl) dX10_neighbours_22 ⟨Nat.le_refl _, Nat.le_refl _⟩ (fun u H locs hr_7 hP hD hS => ?_)
      obtain ⟨b1, f1⟩ := u
      dsimp only at hr_7 hP hD
      have hP : va_P (dC, dI) vwCl [(h, .inr (10, [.int (nI m), v1, v2, v3, v4, v5, v6, v7, v8, v9, v10, .ref aS, .ref aL, .int (nI c), v14, v15, v16, v17, v18, v19, v20, .ref aI, .ref aC, v23, v24, v25, .ref aO, .ref aB, .int (nI b1)])), (aB, .inl (cI, 64, .inl (nA f1))), (aC, .inl (cI, 4096, .inl (nA g))), (aI, .inl (cI, 4096, .inl (nA ix))), (aS, .inl (cI, 4096, .inl (nA S))), (aL, .inl (cI, 4096, .inl (nA Lv))), (aO, .inl (cI, 4096, .inl (nA O)))] H := hP
      have hD : va_D A [(h, .inr (10, [.int (nI m), v1, v2, v3, v4, v5, v6, v7, v8, v9, v10, .ref aS, .ref aL, .int (nI c), v14, v15, v16, v17, v18, v19, v20, .ref aI, .ref aC, v23, v24, v25, .ref aO, .ref aB, .int (nI b1)])), (aB, .inl (cI, 64, .inl (nA f1))), (aC, .inl (cI, 4096, .inl (nA g))), (aI, .inl (cI, 4096, .inl (nA ix))), (aS, .inl (cI, 4096, .inl (nA S))), (aL, .inl (cI, 4096, .inl (nA Lv))), (aO, .inl (cI, 4096, .inl (nA O)))] := hD
      obtain ⟨hss, hfb1, hb64⟩ := hr_7
      refine lv_aload_n hex hby dX10_neighbours_25 rfl (lv_at hl 0 rfl) ?_
      refine nv_get (v := .int (nI b1)) CFx in_X10_neighbours_X10 hK hP 0 rfl rfl 28 (by decide) (List.mem_of_getElem? (i := 1) rfl) rfl dX10_neighbours_26 ?_
      exact hret _ (b1, f1) _ _ _ _ _ (Or.inl ⟨rfl, _, rfl, rfl, dX10_neighbours_29⟩) ⟨_, rfl, Or.inl ⟨b1, f1, rfl, (by omega), (by rw [hkt, hst]; exact hss), hfb1⟩⟩ hP hD hS
    · refine nv_if_ne (tgt := 19) hex hby dX10_neighbours_14 (by decide) (by omega) (fun c => absurd c (by omega)) (fun _ => ?_)
      refine lv_iconst (v := zI (-1)) hex hby dX10_neighbours_17 rfl ?_
      exact hret _ (bs, f) _ _ _ _ _ (Or.inl ⟨rfl, _, rfl, rfl, dX10_neighbours_18⟩) ⟨_, rfl, Or.inr ⟨rfl, (by omega), hfb⟩⟩ hP hD hS
  · refine nv_if_eq (tgt := 17) hex hby dX10_neighbours_5 (by decide) (by omega) (fun _ => ?_) (fun c => absurd c (by omega))
    refine lv_iconst (v := zI (-1)) hex hby dX10_neighbours_17 rfl ?_
    exact hret _ (bs, f) _ _ _ _ _ (Or.inl ⟨rfl, _, rfl, rfl, dX10_neighbours_18⟩) ⟨_, rfl, Or.inr ⟨rfl, (by omega), hfb⟩⟩ hP hD hS
theorem nd_X10_neighbour : ndV yX10_neighbour RX10 3 := by decide +kernel
theorem in_X10_neighbour_X10 : ∀ w ∈ wsX100, w ∈ wsX10_neighbour := fun _ h => List.mem_cons_of_mem _ (List.mem_append_right _ (h))
set_option maxHeartbeats 4000000 in
set_option maxRecDepth 100000 in
theorem c_X10_neighbour {h : Nat} {aB : Nat} {aC : Nat} {aI : Nat} {aS : Nat} {aL : Nat} {aO : Nat} {m : Nat} {v1 : Value} {v2 : Value} {v3 : Value} {v4 : Value} {v5 : Value} {v6 : Value} {v7 : Value} {v8 : Value} {v9 : Value} {v10 : Value} {c : Nat} {v14 : Value} {v15 : Value} {v16 : Value} {v17 : Value} {v18 : Value} {v19 : Value} {v20 : Value} {v23 : Value} {v24 : Value} {v25 : Value} {bs : Nat} {f : Nat → Nat} {g : Nat → Nat} {ix : Nat → Nat} {S : Nat → Nat} {Lv : Nat → Nat} {O : Nat → Nat} {k : Int32} {kz : Int} {s : Int32} {sz : Int} {q : Int32} {qz : Int} {T : Nat → Nat} {ns : Nat} {st : Nat → Nat} {lv : Nat → Nat} (hkz : k.toInt = kz) (hsz : s.toInt = sz) (hqz : q.toInt = qz) (hfb : ∀ j, f j < 4096) (hg : ∀ j, g j < 4096) (hSb : ∀ j, S j < 4096) (hLb : ∀ j, Lv j < 7) (hix : ∀ j, ix j < 4096) (hOb : ∀ j, O j < 4096) (hm6 : m ≤ 6) (hV : VT T ns) (hN : NumOK T m g ix) (hL : LvL m c st lv) (hag : AG c st lv S Lv) (hO : LfOK c st O) : MU l yX10_neighbour wsX10_neighbour 3 72 (dC, dI) (tyK cI cZ cS) [(h, .inr (10, [.int (nI m), v1, v2, v3, v4, v5, v6, v7, v8, v9, v10, .ref aS, .ref aL, .int (nI c), v14, v15, v16, v17, v18, v19, v20, .ref aI, .ref aC, v23, v24, v25, .ref aO, .ref aB, .int (nI bs)])), (aB, .inl (cI, 64, .inl (nA f))), (aC, .inl (cI, 4096, .inl (nA g))), (aI, .inl (cI, 4096, .inl (nA ix))), (aS, .inl (cI, 4096, .inl (nA S))), (aL, .inl (cI, 4096, .inl (nA Lv))), (aO, .inl (cI, 4096, .inl (nA O)))] [] [.ref h, .int k, .int s, .int q] (fun rv_ (u_ : Nat × (Nat → Nat)) => rI (fun r => (∃ v : Nat, ∃ n : Nat, ∃ r_ : Nat → Nat, r = nI v ∧ ((0 ≤ kz ∧ kz < (c : Int)) ∧ (0 ≤ sz ∧ sz < 4) ∧ 0 ≤ qz) ∧ SSt n r_ (Nbr T m c st lv sz.toNat kz.toNat) ∧ qz < (n : Int) ∧ v = r_ qz.toNat ∧ (∀ j, u_.2 j < 4096)) ∨ (r = zI (-1) ∧ (¬ ((0 ≤ kz ∧ kz < (c : Int)) ∧ (0 ≤ sz ∧ sz < 4) ∧ 0 ≤ qz)) ∧ (∀ j, u_.2 j < 4096)) ∨ (∃ n : Nat, ∃ r_ : Nat → Nat, r = zI (-5) ∧ ((0 ≤ kz ∧ kz < (c : Int)) ∧ (0 ≤ sz ∧ sz < 4) ∧ 0 ≤ qz) ∧ SSt n r_ (Nbr T m c st lv sz.toNat kz.toNat) ∧ (n : Int) ≤ qz ∧ (∀ j, u_.2 j < 4096))) rv_) (fun (u_ : Nat × (Nat → Nat)) => [(h, .inr (10, [.int (nI m), v1, v2, v3, v4, v5, v6, v7, v8, v9, v10, .ref aS, .ref aL, .int (nI c), v14, v15, v16, v17, v18, v19, v20, .ref aI, .ref aC, v23, v24, v25, .ref aO, .ref aB, .int (nI u_.1)])), (aB, .inl (cI, 64, .inl (nA u_.2))), (aC, .inl (cI, 4096, .inl (nA g))), (aI, .inl (cI, 4096, .inl (nA ix))), (aS, .inl (cI, 4096, .inl (nA S))), (aL, .inl (cI, 4096, .inl (nA Lv))), (aO, .inl (cI, 4096, .inl (nA O)))]) := by
  refine mu_of (by decide) rfl (Nat.le_of_ble_eq_true rfl) ?_
  intro pp ee ss mm bb mt cd Q A CFx hP hK hD hS hA hTr hret ls hl
  obtain ⟨hex, hby, hml, hown, hts⟩ := id CFx
  have hl : lv_has ls 4 [(0, .ref h), (1, .int k), (2, .int s), (3, .int q)] := hl
  have h26 := p2_6 hm6
  have h46 := p4_6 hm6
  have h4p := p4_pos m
  have hcle := hL.le (Nat.le_refl c)
  have hstc := hL.2.2.1
  have hc0 := hL.1
  refine lv_aload_n hex hby dX10_neighbour_0 rfl (lv_at hl 0 rfl) ?_
  refine lv_iload_n hex hby dX10_neighbour_1 rfl (lv_at hl 1 rfl) ?_
  refine ro_Vi (As := [.int k]) (rest := []) CFx (c_X10_isLeaf (h := h) (fs := [.int (nI m), v1, v2, v3, v4, v5, v6, v7, v8, v9, v10, .ref aS, .ref aL, .int (nI c), v14, v15, v16, v17, v18, v19, v20, .ref aI, .ref aC, v23, v24, v25, .ref aO, .ref aB, .int (nI bs)]) (c := c) (k := k) (kz := k.toInt) rfl rfl (by omega) (by omega)) 1 gX10_neighbour_X10_isLeaf rfl nd_X10_isLeaf ⟨Nat.le_of_ble_eq_true rfl, Nat.le_of_ble_eq_true rfl⟩ hK hP [0] rfl rfl rfl rfl hl.1 rfl (Nat.le_of_ble_eq_true rfl) dX10_neighbour_2 ⟨Nat.le_refl _, Nat.le_refl _⟩ (fun r_1 hr_1 => ?_)
  rcases hr_1 with ⟨rfl, h_2⟩ | ⟨rfl, h_3⟩
  · refine nv_if_eq (tgt := 21) hex hby dX10_neighbour_5 (by decide) (by omega) (fun c => absurd c (by omega)) (fun _ => ?_)
    refine lv_iload_n hex hby dX10_neighbour_8 rfl (lv_at hl 2 rfl) ?_
    refine lv_iconst (v := nI 0) hex hby dX10_neighbour_9 rfl ?_
    refine lv_iconst (v := nI 3) hex hby dX10_neighbour_10 rfl ?_
    refine ro_Si (As := [.int s, .int (nI 0), .int (nI 3)]) (rest := []) (C := RX10) CFx (c_X10_in (x := s) (xz := s.toInt) (lo := nI 0) (loz := (0 : Int)) (hi := nI 3) (hiz := (3 : Int)) rfl (by rfl) (by rfl)) 3 gX10_neighbour_X10_in rfl nd_X10_in ⟨Nat.le_of_ble_eq_true rfl, Nat.le_of_ble_eq_true rfl⟩ hK hP [] rfl rfl hl.1 rfl (Nat.le_of_ble_eq_true rfl) dX10_neighbour_11 ⟨Nat.le_refl _, Nat.le_refl _⟩ (fun r_4 hr_4 => ?_)
    rcases hr_4 with ⟨rfl, h_5⟩ | ⟨rfl, h_6⟩
    · refine nv_if_eq (tgt := 21) hex hby dX10_neighbour_14 (by decide) (by omega) (fun c => absurd c (by omega)) (fun _ => ?_)
      refine lv_iload_n hex hby dX10_neighbour_17 rfl (lv_at hl 3 rfl) ?_
      refine ni_if_ge (tgt := 23) (a := q.toInt) hex hby dX10_neighbour_18 (by decide) rfl (fun c_7 => ?_) (fun c_7 => ?_)
      · obtain ⟨kn, hkn_, rfl, hkne⟩ := ni_of (x := k) (by omega)
        obtain ⟨sn, hsn_, rfl, hsne⟩ := ni_of (x := s) (by omega)
        have hkt : kz.toNat = kn := by omega
        have hst : sz.toNat = sn := by omega
        obtain ⟨qn, hqn_, rfl, hqne⟩ := ni_of (x := q) (by omega)
        have hqt : qz.toNat = qn := by omega
        refine lv_aload_n hex hby dX10_neighbour_23 rfl (lv_at hl 0 rfl) ?_
        refine lv_iload_n hex hby dX10_neighbour_24 rfl (lv_at hl 1 rfl) ?_
        refine lv_iload_n hex hby dX10_neighbour_25 rfl (lv_at hl 2 rfl) ?_
        refine mu_Vv (As := [.int (nI kn), .int (nI sn)]) (rest := []) (wr := []) CFx (c_X10_findBeside (h := h) (aB := aB) (aC := aC) (aI := aI) (aS := aS) (aL := aL) (aO := aO) (m := m) (v1 := v1) (v2 := v2) (v3 := v3) (v4 := v4) (v5 := v5) (v6 := v6) (v7 := v7) (v8 := v8) (v9 := v9) (v10 := v10) (v13 := .int (nI c)) (v14 := v14) (v15 := v15) (v16 := v16) (v17 := v17) (v18 := v18) (v19 := v19) (v20 := v20) (v23 := v23) (v24 := v24) (v25 := v25) (v28 := .int (nI bs)) (fa := f) (g := g) (ix := ix) (S := S) (Lv := Lv) (O := O) (k := kn) (s := sn) (T := T) (ns := ns) (st := st) (lv := lv) (c := c) hfb hg hSb hLb hN.1 hV hL hag hm6 (by omega) hix hOb hN hO (by omega)) 2 gX10_neighbour_X10_findBeside rfl nd_X10_findBeside ⟨Nat.le_of_ble_eq_true rfl, Nat.le_of_ble_eq_true rfl⟩ hK hP hD hS hA [0, 1, 2, 3, 4, 5, 6] [] rfl rfl (by decide) (by decide) (by decide) TR.nil rfl rfl rfl hl.1 rfl (Nat.le_of_ble_eq_true rfl) dX10_neighbour_26 ⟨Nat.le_refl _, Nat.le_refl _⟩ (fun u H locs hr_8 hP hD hS => ?_)
        obtain ⟨b1, f1⟩ := u
        dsimp only at hr_8 hP hD
        have hP : va_P (dC, dI) vwCl [(h, .inr (10, [.int (nI m), v1, v2, v3, v4, v5, v6, v7, v8, v9, v10, .ref aS, .ref aL, .int (nI c), v14, v15, v16, v17, v18, v19, v20, .ref aI, .ref aC, v23, v24, v25, .ref aO, .ref aB, .int (nI b1)])), (aB, .inl (cI, 64, .inl (nA f1))), (aC, .inl (cI, 4096, .inl (nA g))), (aI, .inl (cI, 4096, .inl (nA ix))), (aS, .inl (cI, 4096, .inl (nA S))), (aL, .inl (cI, 4096, .inl (nA Lv))), (aO, .inl (cI, 4096, .inl (nA O)))] H := hP
        have hD : va_D A [(h, .inr (10, [.int (nI m), v1, v2, v3, v4, v5, v6, v7, v8, v9, v10, .ref aS, .ref aL, .int (nI c), v14, v15, v16, v17, v18, v19, v20, .ref aI, .ref aC, v23, v24, v25, .ref aO, .ref aB, .int (nI b1)])), (aB, .inl (cI, 64, .inl (nA f1))), (aC, .inl (cI, 4096, .inl (nA g))), (aI, .inl (cI, 4096, .inl (nA ix))), (aS, .inl (cI, 4096, .inl (nA S))), (aL, .inl (cI, 4096, .inl (nA Lv))), (aO, .inl (cI, 4096, .inl (nA O)))] := hD
        obtain ⟨hss, hfb1, hb64⟩ := hr_8
        refine lv_iload_n hex hby dX10_neighbour_29 rfl (lv_at hl 3 rfl) ?_
        refine lv_aload_n hex hby dX10_neighbour_30 rfl (lv_at hl 0 rfl) ?_
        refine nv_get (v := .int (nI b1)) CFx in_X10_neighbour_X10 hK hP 0 rfl rfl 28 (by decide) (List.mem_of_getElem? (i := 1) rfl) rfl dX10_neighbour_31 ?_
        refine nv_icmp_ge (tgt := 46) hex hby dX10_neighbour_34 (by decide) (by omega) (by omega) (fun c_11 => ?_) (fun c_11 => ?_)
        · refine lv_bipush (v := zI (-5)) hex hby dX10_neighbour_46 rfl ?_
          exact hret _ (b1, f1) _ _ _ _ _ (Or.inl ⟨rfl, _, rfl, rfl, dX10_neighbour_48⟩) ⟨_, rfl, Or.inr (Or.inr (⟨b1, f1, rfl, (by omega), (by rw [hkt, hst]; exact hss), (by omega), hfb1⟩))⟩ hP hD hS
        · refine lv_aload_n hex hby dX10_neighbour_37 rfl (lv_at hl 0 rfl) ?_
          refine nv_get (v := .ref aB) CFx in_X10_neighbour_X10 hK hP 0 rfl rfl 27 (by decide) (List.mem_of_getElem? (i := 2) rfl) rfl dX10_neighbour_38 ?_
          refine lv_iload_n hex hby dX10_neighbour_41 rfl (lv_at hl 3 rfl) ?_
          refine nv_iald hex hby hK hP 1 0 rfl rfl (by omega) (by omega) dX10_neighbour_42 ?_
          have hb_12 := hfb1 qn
          refine lv_goto (tgt := 48) hex hby dX10_neighbour_43 (by decide) ?_
          exact hret _ (b1, f1) _ _ _ _ _ (Or.inl ⟨rfl, _, rfl, rfl, dX10_neighbour_48⟩) ⟨_, rfl, Or.inl ⟨(f1 qn), b1, f1, rfl, (by omega), (by rw [hkt, hst]; exact hss), (by omega), (by rw [hqt]), hfb1⟩⟩ hP hD hS
      · refine lv_iconst (v := zI (-1)) hex hby dX10_neighbour_21 rfl ?_
        exact hret _ (bs, f) _ _ _ _ _ (Or.inl ⟨rfl, _, rfl, rfl, dX10_neighbour_22⟩) ⟨_, rfl, Or.inr (Or.inl ⟨rfl, (by omega), hfb⟩)⟩ hP hD hS
    · refine nv_if_eq (tgt := 21) hex hby dX10_neighbour_14 (by decide) (by omega) (fun _ => ?_) (fun c => absurd c (by omega))
      refine lv_iconst (v := zI (-1)) hex hby dX10_neighbour_21 rfl ?_
      exact hret _ (bs, f) _ _ _ _ _ (Or.inl ⟨rfl, _, rfl, rfl, dX10_neighbour_22⟩) ⟨_, rfl, Or.inr (Or.inl ⟨rfl, (by omega), hfb⟩)⟩ hP hD hS
  · refine nv_if_eq (tgt := 21) hex hby dX10_neighbour_5 (by decide) (by omega) (fun _ => ?_) (fun c => absurd c (by omega))
    refine lv_iconst (v := zI (-1)) hex hby dX10_neighbour_21 rfl ?_
    exact hret _ (bs, f) _ _ _ _ _ (Or.inl ⟨rfl, _, rfl, rfl, dX10_neighbour_22⟩) ⟨_, rfl, Or.inr (Or.inl ⟨rfl, (by omega), hfb⟩)⟩ hP hD hS
theorem nd_X10_walk : ndV yX10_walk RX10 2 := by decide +kernel
theorem in_X10_walk_X10 : ∀ w ∈ wsX100, w ∈ wsX10_walk := fun _ h => List.mem_cons_of_mem _ (List.mem_append_right _ (h))
set_option maxHeartbeats 4000000 in
set_option maxRecDepth 100000 in
theorem c_X10_walk {h : Nat} {aB : Nat} {aC : Nat} {aI : Nat} {aS : Nat} {aL : Nat} {aO : Nat} {m : Nat} {v1 : Value} {v2 : Value} {v3 : Value} {v4 : Value} {v5 : Value} {v6 : Value} {v7 : Value} {v8 : Value} {v9 : Value} {v10 : Value} {c : Nat} {v14 : Value} {v15 : Value} {v16 : Value} {v17 : Value} {v18 : Value} {v19 : Value} {v20 : Value} {v23 : Value} {v24 : Value} {v25 : Value} {bs : Nat} {f : Nat → Nat} {g : Nat → Nat} {ix : Nat → Nat} {S : Nat → Nat} {Lv : Nat → Nat} {O : Nat → Nat} {k : Int32} {kz : Int} {s : Int32} {sz : Int} {T : Nat → Nat} {ns : Nat} {st : Nat → Nat} {lv : Nat → Nat} (hkz : k.toInt = kz) (hsz : s.toInt = sz) (hfb : ∀ j, f j < 4096) (hg : ∀ j, g j < 4096) (hSb : ∀ j, S j < 4096) (hLb : ∀ j, Lv j < 7) (hix : ∀ j, ix j < 4096) (hOb : ∀ j, O j < 4096) (hm6 : m ≤ 6) (hV : VT T ns) (hN : NumOK T m g ix) (hL : LvL m c st lv) (hag : AG c st lv S Lv) (hO : LfOK c st O) : MU l yX10_walk wsX10_walk 3 72 (dC, dI) (tyK cI cZ cS) [(h, .inr (10, [.int (nI m), v1, v2, v3, v4, v5, v6, v7, v8, v9, v10, .ref aS, .ref aL, .int (nI c), v14, v15, v16, v17, v18, v19, v20, .ref aI, .ref aC, v23, v24, v25, .ref aO, .ref aB, .int (nI bs)])), (aB, .inl (cI, 64, .inl (nA f))), (aC, .inl (cI, 4096, .inl (nA g))), (aI, .inl (cI, 4096, .inl (nA ix))), (aS, .inl (cI, 4096, .inl (nA S))), (aL, .inl (cI, 4096, .inl (nA Lv))), (aO, .inl (cI, 4096, .inl (nA O)))] [] [.ref h, .int k, .int s] (fun rv_ (u_ : Nat × (Nat → Nat)) => rI (fun r => (∃ n : Nat, r = nI n ∧ ((0 ≤ kz ∧ kz < (c : Int)) ∧ 0 ≤ sz ∧ sz < 4) ∧ WKend T m c st lv sz.toNat n kz.toNat ∧ (∀ j, u_.2 j < 4096)) ∨ (r = zI (-1) ∧ (¬ ((0 ≤ kz ∧ kz < (c : Int)) ∧ 0 ≤ sz ∧ sz < 4)) ∧ (∀ j, u_.2 j < 4096))) rv_) (fun (u_ : Nat × (Nat → Nat)) => [(h, .inr (10, [.int (nI m), v1, v2, v3, v4, v5, v6, v7, v8, v9, v10, .ref aS, .ref aL, .int (nI c), v14, v15, v16, v17, v18, v19, v20, .ref aI, .ref aC, v23, v24, v25, .ref aO, .ref aB, .int (nI u_.1)])), (aB, .inl (cI, 64, .inl (nA u_.2))), (aC, .inl (cI, 4096, .inl (nA g))), (aI, .inl (cI, 4096, .inl (nA ix))), (aS, .inl (cI, 4096, .inl (nA S))), (aL, .inl (cI, 4096, .inl (nA Lv))), (aO, .inl (cI, 4096, .inl (nA O)))]) := by
  refine mu_of (by decide) rfl (Nat.le_of_ble_eq_true rfl) ?_
  intro pp ee ss mm bb mt cd Q A CFx hP hK hD hS hA hTr hret ls hl
  obtain ⟨hex, hby, hml, hown, hts⟩ := id CFx
  have hl : lv_has ls 4 [(0, .ref h), (1, .int k), (2, .int s)] := hl
  have h26 := p2_6 hm6
  have h46 := p4_6 hm6
  have h4p := p4_pos m
  have hcle := hL.le (Nat.le_refl c)
  have hstc := hL.2.2.1
  have hc0 := hL.1
  refine lv_aload_n hex hby dX10_walk_0 rfl (lv_at hl 0 rfl) ?_
  refine lv_iload_n hex hby dX10_walk_1 rfl (lv_at hl 1 rfl) ?_
  refine ro_Vi (As := [.int k]) (rest := []) CFx (c_X10_isLeaf (h := h) (fs := [.int (nI m), v1, v2, v3, v4, v5, v6, v7, v8, v9, v10, .ref aS, .ref aL, .int (nI c), v14, v15, v16, v17, v18, v19, v20, .ref aI, .ref aC, v23, v24, v25, .ref aO, .ref aB, .int (nI bs)]) (c := c) (k := k) (kz := k.toInt) rfl rfl (by omega) (by omega)) 1 gX10_walk_X10_isLeaf rfl nd_X10_isLeaf ⟨Nat.le_of_ble_eq_true rfl, Nat.le_of_ble_eq_true rfl⟩ hK hP [0] rfl rfl rfl rfl hl.1 rfl (Nat.le_of_ble_eq_true rfl) dX10_walk_2 ⟨Nat.le_refl _, Nat.le_refl _⟩ (fun r_1 hr_1 => ?_)
  rcases hr_1 with ⟨rfl, h_2⟩ | ⟨rfl, h_3⟩
  · refine nv_if_eq (tgt := 17) hex hby dX10_walk_5 (by decide) (by omega) (fun c => absurd c (by omega)) (fun _ => ?_)
    refine lv_iload_n hex hby dX10_walk_8 rfl (lv_at hl 2 rfl) ?_
    refine lv_iconst (v := nI 0) hex hby dX10_walk_9 rfl ?_
    refine lv_iconst (v := nI 3) hex hby dX10_walk_10 rfl ?_
    refine ro_Si (As := [.int s, .int (nI 0), .int (nI 3)]) (rest := []) (C := RX10) CFx (c_X10_in (x := s) (xz := s.toInt) (lo := nI 0) (loz := (0 : Int)) (hi := nI 3) (hiz := (3 : Int)) rfl (by rfl) (by rfl)) 3 gX10_walk_X10_in rfl nd_X10_in ⟨Nat.le_of_ble_eq_true rfl, Nat.le_of_ble_eq_true rfl⟩ hK hP [] rfl rfl hl.1 rfl (Nat.le_of_ble_eq_true rfl) dX10_walk_11 ⟨Nat.le_refl _, Nat.le_refl _⟩ (fun r_4 hr_4 => ?_)
    rcases hr_4 with ⟨rfl, h_5⟩ | ⟨rfl, h_6⟩
    · refine nv_if_ne (tgt := 19) hex hby dX10_walk_14 (by decide) (by omega) (fun _ => ?_) (fun c => absurd c (by omega))
      obtain ⟨kn, hkn_, rfl, hkne⟩ := ni_of (x := k) (by omega)
      obtain ⟨sn, hsn_, rfl, hsne⟩ := ni_of (x := s) (by omega)
      have hkt : kz.toNat = kn := by omega
      have hst : sz.toNat = sn := by omega
      refine lv_iconst (v := nI 0) hex hby dX10_walk_19 rfl ?_
      refine lv_istore_n (lv' := [(3, .int (nI 0)), (0, .ref h), (1, .int (nI kn)), (2, .int (nI sn))]) hex hby dX10_walk_20 rfl hl (by decide) rfl (fun ls hl => ?_)
      refine lv_aload_n hex hby dX10_walk_21 rfl (lv_at hl 1 rfl) ?_
      refine lv_iload_n hex hby dX10_walk_22 rfl (lv_at hl 2 rfl) ?_
      refine lv_iload_n hex hby dX10_walk_23 rfl (lv_at hl 3 rfl) ?_
      refine mu_Vv (As := [.int (nI kn), .int (nI sn)]) (rest := []) (wr := []) CFx (c_X10_findBeside (h := h) (aB := aB) (aC := aC) (aI := aI) (aS := aS) (aL := aL) (aO := aO) (m := m) (v1 := v1) (v2 := v2) (v3 := v3) (v4 := v4) (v5 := v5) (v6 := v6) (v7 := v7) (v8 := v8) (v9 := v9) (v10 := v10) (v13 := .int (nI c)) (v14 := v14) (v15 := v15) (v16 := v16) (v17 := v17) (v18 := v18) (v19 := v19) (v20 := v20) (v23 := v23) (v24 := v24) (v25 := v25) (v28 := .int (nI bs)) (fa := f) (g := g) (ix := ix) (S := S) (Lv := Lv) (O := O) (k := kn) (s := sn) (T := T) (ns := ns) (st := st) (lv := lv) (c := c) hfb hg hSb hLb hN.1 hV hL hag hm6 (by omega) hix hOb hN hO (by omega)) 2 gX10_walk_X10_findBeside rfl nd_X10_findBeside ⟨Nat.le_of_ble_eq_true rfl, Nat.le_of_ble_eq_true rfl⟩ hK hP hD hS hA [0, 1, 2, 3, 4, 5, 6] [] rfl rfl (by decide) (by decide) (by decide) TR.nil rfl rfl rfl hl.1 rfl (Nat.le_of_ble_eq_true rfl) dX10_walk_24 ⟨Nat.le_refl _, Nat.le_refl _⟩ (fun u H locs hr_7 hP hD hS => ?_)
      obtain ⟨b1, f1⟩ := u
      dsimp only at hr_7 hP hD
      have hP : va_P (dC, dI) vwCl [(h, .inr (10, [.int (nI m), v1, v2, v3, v4, v5, v6, v7, v8, v9, v10, .ref aS, .ref aL, .int (nI c), v14, v15, v16, v17, v18, v19, v20, .ref aI, .ref aC, v23, v24, v25, .ref aO, .ref aB, .int (nI b1)])), (aB, .inl (cI, 64, .inl (nA f1))), (aC, .inl (cI, 4096, .inl (nA g))), (aI, .inl (cI, 4096, .inl (nA ix))), (aS, .inl (cI, 4096, .inl (nA S))), (aL, .inl (cI, 4096, .inl (nA Lv))), (aO, .inl (cI, 4096, .inl (nA O)))] H := hP
      have hD : va_D A [(h, .inr (10, [.int (nI m), v1, v2, v3, v4, v5, v6, v7, v8, v9, v10, .ref aS, .ref aL, .int (nI c), v14, v15, v16, v17, v18, v19, v20, .ref aI, .ref aC, v23, v24, v25, .ref aO, .ref aB, .int (nI b1)])), (aB, .inl (cI, 64, .inl (nA f1))), (aC, .inl (cI, 4096, .inl (nA g))), (aI, .inl (cI, 4096, .inl (nA ix))), (aS, .inl (cI, 4096, .inl (nA S))), (aL, .inl (cI, 4096, .inl (nA Lv))), (aO, .inl (cI, 4096, .inl (nA O)))] := hD
      obtain ⟨hss, hfb1, hb64⟩ := hr_7
      have loop27 : ∀ (nn : Nat) (n : Nat) (u : Nat) (b2 : Nat) (f2 : Nat → Nat), (msr T m st lv sn u) < nn → (SSt b2 f2 (Nbr T m c st lv sn u)) → (∀ j, f2 j < 4096) → (b2 ≤ 64) → (u < c) → (WK T m c st lv sn n kn u) → ∀ (H : Heap) (locs : List Loc), va_P (dC, dI) vwCl [(h, .inr (10, [.int (nI m), v1, v2, v3, v4, v5, v6, v7, v8, v9, v10, .ref aS, .ref aL, .int (nI c), v14, v15, v16, v17, v18, v19, v20, .ref aI, .ref aC, v23, v24, v25, .ref aO, .ref aB, .int (nI b2)])), (aB, .inl (cI, 64, .inl (nA f2))), (aC, .inl (cI, 4096, .inl (nA g))), (aI, .inl (cI, 4096, .inl (nA ix))), (aS, .inl (cI, 4096, .inl (nA S))), (aL, .inl (cI, 4096, .inl (nA Lv))), (aO, .inl (cI, 4096, .inl (nA O)))] H → va_D A [(h, .inr (10, [.int (nI m), v1, v2, v3, v4, v5, v6, v7, v8, v9, v10, .ref aS, .ref aL, .int (nI c), v14, v15, v16, v17, v18, v19, v20, .ref aI, .ref aC, v23, v24, v25, .ref aO, .ref aB, .int (nI b2)])), (aB, .inl (cI, 64, .inl (nA f2))), (aC, .inl (cI, 4096, .inl (nA g))), (aI, .inl (cI, 4096, .inl (nA ix))), (aS, .inl (cI, 4096, .inl (nA S))), (aL, .inl (cI, 4096, .inl (nA Lv))), (aO, .inl (cI, 4096, .inl (nA O)))] → va_S A ss.heap H locs → ∀ ls : Array Slot, lv_has ls 4 [(3, .int (nI n)), (0, .ref h), (1, .int (nI kn)), (2, .int (nI sn))] → W pp l ee (rmO 3 72) ss mm ([.ref h, .int (nI kn), .int (nI sn)] : List Value).toArray bb mt cd H locs 0 0 Q (F0 mm 27 ls []) := by
        intro nn
        induction nn with
        | zero => intro n u b2 f2 hms27; exact absurd hms27 (Nat.not_lt_zero _)
        | succ nn ih27 =>
          intro n u b2 f2 hms27 hss2 hfb2 hb2 huc hwk H locs hP hD hS ls hl
          refine lv_aload_n hex hby dX10_walk_27 rfl (lv_at hl 1 rfl) ?_
          refine nv_get (v := .int (nI b2)) CFx in_X10_walk_X10 hK hP 0 rfl rfl 28 (by decide) (List.mem_of_getElem? (i := 1) rfl) rfl dX10_walk_28 ?_
          refine nv_if_le (tgt := 51) hex hby dX10_walk_31 (by decide) (by omega) (fun c_10 => ?_) (fun c_10 => ?_)
          · have hb0 := c_10
            refine lv_iload_n hex hby dX10_walk_51 rfl (lv_at hl 0 rfl) ?_
            exact hret _ (b2, f2) _ _ _ _ _ (Or.inl ⟨rfl, _, rfl, rfl, dX10_walk_52⟩) ⟨_, rfl, Or.inl ⟨n, rfl, (by omega), (by rw [hkt, hst]; exact ⟨u, hwk, SSt.none (by rw [hb0] at hss2; exact hss2)⟩), hfb2⟩⟩ hP hD hS
          · have hlow := hss2.low (by omega)
            have hlc := hlow.1.2.1
            have hms := msr_lt hV hL (by omega) huc hlow.1
            refine lv_iinc (v := nI (n + 1)) (lv' := [(3, .int (nI (n + 1))), (0, .ref h), (1, .int (nI kn)), (2, .int (nI sn))]) hex hby dX10_walk_34 hl (k := 0) rfl (ni_inc _) (by decide) rfl (fun ls hl => ?_)
            refine lv_aload_n hex hby dX10_walk_37 rfl (lv_at hl 1 rfl) ?_
            refine lv_aload_n hex hby dX10_walk_38 rfl (lv_at hl 1 rfl) ?_
            refine nv_get (v := .ref aB) CFx in_X10_walk_X10 hK hP 0 rfl rfl 27 (by decide) (List.mem_of_getElem? (i := 2) rfl) rfl dX10_walk_39 ?_
            refine lv_iconst (v := nI 0) hex hby dX10_walk_42 rfl ?_
            refine nv_iald hex hby hK hP 1 0 rfl rfl (by omega) (by omega) dX10_walk_43 ?_
            have hb_11 := hfb2 0
            refine lv_iload_n hex hby dX10_walk_44 rfl (lv_at hl 3 rfl) ?_
            refine mu_Vv (As := [.int (nI (f2 0)), .int (nI sn)]) (rest := []) (wr := []) CFx (c_X10_findBeside (h := h) (aB := aB) (aC := aC) (aI := aI) (aS := aS) (aL := aL) (aO := aO) (m := m) (v1 := v1) (v2 := v2) (v3 := v3) (v4 := v4) (v5 := v5) (v6 := v6) (v7 := v7) (v8 := v8) (v9 := v9) (v10 := v10) (v13 := .int (nI c)) (v14 := v14) (v15 := v15) (v16 := v16) (v17 := v17) (v18 := v18) (v19 := v19) (v20 := v20) (v23 := v23) (v24 := v24) (v25 := v25) (v28 := .int (nI b2)) (fa := f2) (g := g) (ix := ix) (S := S) (Lv := Lv) (O := O) (k := f2 0) (s := sn) (T := T) (ns := ns) (st := st) (lv := lv) (c := c) hfb2 hg hSb hLb hN.1 hV hL hag hm6 hlc hix hOb hN hO (by omega)) 2 gX10_walk_X10_findBeside rfl nd_X10_findBeside ⟨Nat.le_of_ble_eq_true rfl, Nat.le_of_ble_eq_true rfl⟩ hK hP hD hS hA [0, 1, 2, 3, 4, 5, 6] [] rfl rfl (by decide) (by decide) (by decide) TR.nil rfl rfl rfl hl.1 rfl (Nat.le_of_ble_eq_true rfl) dX10_walk_45 ⟨Nat.le_refl _, Nat.le_refl _⟩ (fun u H locs hr_12 hP hD hS => ?_)
            obtain ⟨b3, f3⟩ := u
            dsimp only at hr_12 hP hD
            have hP : va_P (dC, dI) vwCl [(h, .inr (10, [.int (nI m), v1, v2, v3, v4, v5, v6, v7, v8, v9, v10, .ref aS, .ref aL, .int (nI c), v14, v15, v16, v17, v18, v19, v20, .ref aI, .ref aC, v23, v24, v25, .ref aO, .ref aB, .int (nI b3)])), (aB, .inl (cI, 64, .inl (nA f3))), (aC, .inl (cI, 4096, .inl (nA g))), (aI, .inl (cI, 4096, .inl (nA ix))), (aS, .inl (cI, 4096, .inl (nA S))), (aL, .inl (cI, 4096, .inl (nA Lv))), (aO, .inl (cI, 4096, .inl (nA O)))] H := hP
            have hD : va_D A [(h, .inr (10, [.int (nI m), v1, v2, v3, v4, v5, v6, v7, v8, v9, v10, .ref aS, .ref aL, .int (nI c), v14, v15, v16, v17, v18, v19, v20, .ref aI, .ref aC, v23, v24, v25, .ref aO, .ref aB, .int (nI b3)])), (aB, .inl (cI, 64, .inl (nA f3))), (aC, .inl (cI, 4096, .inl (nA g))), (aI, .inl (cI, 4096, .inl (nA ix))), (aS, .inl (cI, 4096, .inl (nA S))), (aL, .inl (cI, 4096, .inl (nA Lv))), (aO, .inl (cI, 4096, .inl (nA O)))] := hD
            obtain ⟨hss3, hfb3, hb643⟩ := hr_12
            refine lv_goto (tgt := 27) hex hby dX10_walk_48 (by decide) ?_
            exact ih27 (n + 1) (f2 0) b3 f3 (by omega) hss3 hfb3 hb643 hlc (⟨u, hwk, hlow⟩) _ _ hP hD hS _ (lv_sub hl [0, 1, 2, 3] rfl)
      exact loop27 _ 0 kn b1 f1 (Nat.lt_succ_self _) hss hfb1 hb64 (by omega) rfl _ _ hP hD hS _ (lv_sub hl [0, 1, 2, 3] rfl)
    · refine nv_if_ne (tgt := 19) hex hby dX10_walk_14 (by decide) (by omega) (fun c => absurd c (by omega)) (fun _ => ?_)
      refine lv_iconst (v := zI (-1)) hex hby dX10_walk_17 rfl ?_
      exact hret _ (bs, f) _ _ _ _ _ (Or.inl ⟨rfl, _, rfl, rfl, dX10_walk_18⟩) ⟨_, rfl, Or.inr ⟨rfl, (by omega), hfb⟩⟩ hP hD hS
  · refine nv_if_eq (tgt := 17) hex hby dX10_walk_5 (by decide) (by omega) (fun _ => ?_) (fun c => absurd c (by omega))
    refine lv_iconst (v := zI (-1)) hex hby dX10_walk_17 rfl ?_
    exact hret _ (bs, f) _ _ _ _ _ (Or.inl ⟨rfl, _, rfl, rfl, dX10_walk_18⟩) ⟨_, rfl, Or.inr ⟨rfl, (by omega), hfb⟩⟩ hP hD hS
theorem nd_X10_walked : ndV yX10_walked RX10 3 := by decide +kernel
theorem in_X10_walked_X10 : ∀ w ∈ wsX100, w ∈ wsX10_walked := fun _ h => List.mem_cons_of_mem _ (List.mem_append_right _ (h))
set_option maxHeartbeats 4000000 in
set_option maxRecDepth 100000 in
theorem c_X10_walked {h : Nat} {aB : Nat} {aC : Nat} {aI : Nat} {aS : Nat} {aL : Nat} {aO : Nat} {m : Nat} {v1 : Value} {v2 : Value} {v3 : Value} {v4 : Value} {v5 : Value} {v6 : Value} {v7 : Value} {v8 : Value} {v9 : Value} {v10 : Value} {c : Nat} {v14 : Value} {v15 : Value} {v16 : Value} {v17 : Value} {v18 : Value} {v19 : Value} {v20 : Value} {v23 : Value} {v24 : Value} {v25 : Value} {bs : Nat} {f : Nat → Nat} {g : Nat → Nat} {ix : Nat → Nat} {S : Nat → Nat} {Lv : Nat → Nat} {O : Nat → Nat} {k : Int32} {kz : Int} {s : Int32} {sz : Int} {q : Int32} {qz : Int} {T : Nat → Nat} {ns : Nat} {st : Nat → Nat} {lv : Nat → Nat} (hkz : k.toInt = kz) (hsz : s.toInt = sz) (hqz : q.toInt = qz) (hfb : ∀ j, f j < 4096) (hg : ∀ j, g j < 4096) (hSb : ∀ j, S j < 4096) (hLb : ∀ j, Lv j < 7) (hix : ∀ j, ix j < 4096) (hOb : ∀ j, O j < 4096) (hm6 : m ≤ 6) (hV : VT T ns) (hN : NumOK T m g ix) (hL : LvL m c st lv) (hag : AG c st lv S Lv) (hO : LfOK c st O) : MU l yX10_walked wsX10_walked 3 72 (dC, dI) (tyK cI cZ cS) [(h, .inr (10, [.int (nI m), v1, v2, v3, v4, v5, v6, v7, v8, v9, v10, .ref aS, .ref aL, .int (nI c), v14, v15, v16, v17, v18, v19, v20, .ref aI, .ref aC, v23, v24, v25, .ref aO, .ref aB, .int (nI bs)])), (aB, .inl (cI, 64, .inl (nA f))), (aC, .inl (cI, 4096, .inl (nA g))), (aI, .inl (cI, 4096, .inl (nA ix))), (aS, .inl (cI, 4096, .inl (nA S))), (aL, .inl (cI, 4096, .inl (nA Lv))), (aO, .inl (cI, 4096, .inl (nA O)))] [] [.ref h, .int k, .int s, .int q] (fun rv_ (u_ : Nat × (Nat → Nat)) => rI (fun r => (∃ v : Nat, r = nI v ∧ ((0 ≤ kz ∧ kz < (c : Int)) ∧ (0 ≤ sz ∧ sz < 4) ∧ 0 ≤ qz) ∧ WK T m c st lv sz.toNat qz.toNat kz.toNat v ∧ (∀ j, u_.2 j < 4096)) ∨ (r = zI (-1) ∧ (¬ ((0 ≤ kz ∧ kz < (c : Int)) ∧ (0 ≤ sz ∧ sz < 4) ∧ 0 ≤ qz)) ∧ (∀ j, u_.2 j < 4096)) ∨ (r = zI (-5) ∧ ((0 ≤ kz ∧ kz < (c : Int)) ∧ (0 ≤ sz ∧ sz < 4) ∧ 0 ≤ qz) ∧ WKlt T m c st lv sz.toNat kz.toNat qz.toNat ∧ (∀ j, u_.2 j < 4096))) rv_) (fun (u_ : Nat × (Nat → Nat)) => [(h, .inr (10, [.int (nI m), v1, v2, v3, v4, v5, v6, v7, v8, v9, v10, .ref aS, .ref aL, .int (nI c), v14, v15, v16, v17, v18, v19, v20, .ref aI, .ref aC, v23, v24, v25, .ref aO, .ref aB, .int (nI u_.1)])), (aB, .inl (cI, 64, .inl (nA u_.2))), (aC, .inl (cI, 4096, .inl (nA g))), (aI, .inl (cI, 4096, .inl (nA ix))), (aS, .inl (cI, 4096, .inl (nA S))), (aL, .inl (cI, 4096, .inl (nA Lv))), (aO, .inl (cI, 4096, .inl (nA O)))]) := by
  refine mu_of (by decide) rfl (Nat.le_of_ble_eq_true rfl) ?_
  intro pp ee ss mm bb mt cd Q A CFx hP hK hD hS hA hTr hret ls hl
  obtain ⟨hex, hby, hml, hown, hts⟩ := id CFx
  have hl : lv_has ls 6 [(0, .ref h), (1, .int k), (2, .int s), (3, .int q)] := hl
  have h26 := p2_6 hm6
  have h46 := p4_6 hm6
  have h4p := p4_pos m
  have hcle := hL.le (Nat.le_refl c)
  have hstc := hL.2.2.1
  have hc0 := hL.1
  refine lv_aload_n hex hby dX10_walked_0 rfl (lv_at hl 0 rfl) ?_
  refine lv_iload_n hex hby dX10_walked_1 rfl (lv_at hl 1 rfl) ?_
  refine ro_Vi (As := [.int k]) (rest := []) CFx (c_X10_isLeaf (h := h) (fs := [.int (nI m), v1, v2, v3, v4, v5, v6, v7, v8, v9, v10, .ref aS, .ref aL, .int (nI c), v14, v15, v16, v17, v18, v19, v20, .ref aI, .ref aC, v23, v24, v25, .ref aO, .ref aB, .int (nI bs)]) (c := c) (k := k) (kz := k.toInt) rfl rfl (by omega) (by omega)) 1 gX10_walked_X10_isLeaf rfl nd_X10_isLeaf ⟨Nat.le_of_ble_eq_true rfl, Nat.le_of_ble_eq_true rfl⟩ hK hP [0] rfl rfl rfl rfl hl.1 rfl (Nat.le_of_ble_eq_true rfl) dX10_walked_2 ⟨Nat.le_refl _, Nat.le_refl _⟩ (fun r_1 hr_1 => ?_)
  rcases hr_1 with ⟨rfl, h_2⟩ | ⟨rfl, h_3⟩
  · refine nv_if_eq (tgt := 21) hex hby dX10_walked_5 (by decide) (by omega) (fun c => absurd c (by omega)) (fun _ => ?_)
    refine lv_iload_n hex hby dX10_walked_8 rfl (lv_at hl 2 rfl) ?_
    refine lv_iconst (v := nI 0) hex hby dX10_walked_9 rfl ?_
    refine lv_iconst (v := nI 3) hex hby dX10_walked_10 rfl ?_
    refine ro_Si (As := [.int s, .int (nI 0), .int (nI 3)]) (rest := []) (C := RX10) CFx (c_X10_in (x := s) (xz := s.toInt) (lo := nI 0) (loz := (0 : Int)) (hi := nI 3) (hiz := (3 : Int)) rfl (by rfl) (by rfl)) 3 gX10_walked_X10_in rfl nd_X10_in ⟨Nat.le_of_ble_eq_true rfl, Nat.le_of_ble_eq_true rfl⟩ hK hP [] rfl rfl hl.1 rfl (Nat.le_of_ble_eq_true rfl) dX10_walked_11 ⟨Nat.le_refl _, Nat.le_refl _⟩ (fun r_4 hr_4 => ?_)
    rcases hr_4 with ⟨rfl, h_5⟩ | ⟨rfl, h_6⟩
    · refine nv_if_eq (tgt := 21) hex hby dX10_walked_14 (by decide) (by omega) (fun c => absurd c (by omega)) (fun _ => ?_)
      refine lv_iload_n hex hby dX10_walked_17 rfl (lv_at hl 3 rfl) ?_
      refine ni_if_ge (tgt := 23) (a := q.toInt) hex hby dX10_walked_18 (by decide) rfl (fun c_7 => ?_) (fun c_7 => ?_)
      · obtain ⟨kn, hkn_, rfl, hkne⟩ := ni_of (x := k) (by omega)
        obtain ⟨sn, hsn_, rfl, hsne⟩ := ni_of (x := s) (by omega)
        have hkt : kz.toNat = kn := by omega
        have hst : sz.toNat = sn := by omega
        obtain ⟨qn, hqn_, rfl, hqne⟩ := ni_of (x := q) (by omega)
        have hqt : qz.toNat = qn := by omega
        refine lv_iload_n hex hby dX10_walked_23 rfl (lv_at hl 1 rfl) ?_
        refine lv_istore (lv' := [(4, .int (nI kn)), (0, .ref h), (1, .int (nI kn)), (2, .int (nI sn)), (3, .int (nI qn))]) hex hby dX10_walked_24 hl (by decide) rfl (fun ls hl => ?_)
        refine lv_iconst (v := nI 0) hex hby dX10_walked_26 rfl ?_
        refine lv_istore (lv' := [(5, .int (nI 0)), (4, .int (nI kn)), (0, .ref h), (1, .int (nI kn)), (2, .int (nI sn)), (3, .int (nI qn))]) hex hby dX10_walked_27 hl (by decide) rfl (fun ls hl => ?_)
        have loop29 : ∀ (nn : Nat) (u : Nat) (i : Nat) (b2 : Nat) (f2 : Nat → Nat), (qn - i) < nn → (i ≤ qn) → (∀ j, f2 j < 4096) → (WK T m c st lv sn i kn u) → ∀ (H : Heap) (locs : List Loc), va_P (dC, dI) vwCl [(h, .inr (10, [.int (nI m), v1, v2, v3, v4, v5, v6, v7, v8, v9, v10, .ref aS, .ref aL, .int (nI c), v14, v15, v16, v17, v18, v19, v20, .ref aI, .ref aC, v23, v24, v25, .ref aO, .ref aB, .int (nI b2)])), (aB, .inl (cI, 64, .inl (nA f2))), (aC, .inl (cI, 4096, .inl (nA g))), (aI, .inl (cI, 4096, .inl (nA ix))), (aS, .inl (cI, 4096, .inl (nA S))), (aL, .inl (cI, 4096, .inl (nA Lv))), (aO, .inl (cI, 4096, .inl (nA O)))] H → va_D A [(h, .inr (10, [.int (nI m), v1, v2, v3, v4, v5, v6, v7, v8, v9, v10, .ref aS, .ref aL, .int (nI c), v14, v15, v16, v17, v18, v19, v20, .ref aI, .ref aC, v23, v24, v25, .ref aO, .ref aB, .int (nI b2)])), (aB, .inl (cI, 64, .inl (nA f2))), (aC, .inl (cI, 4096, .inl (nA g))), (aI, .inl (cI, 4096, .inl (nA ix))), (aS, .inl (cI, 4096, .inl (nA S))), (aL, .inl (cI, 4096, .inl (nA Lv))), (aO, .inl (cI, 4096, .inl (nA O)))] → va_S A ss.heap H locs → ∀ ls : Array Slot, lv_has ls 6 [(5, .int (nI i)), (4, .int (nI u)), (0, .ref h), (1, .int (nI kn)), (2, .int (nI sn)), (3, .int (nI qn))] → W pp l ee (rmO 3 72) ss mm ([.ref h, .int (nI kn), .int (nI sn), .int (nI qn)] : List Value).toArray bb mt cd H locs 0 0 Q (F0 mm 29 ls []) := by
          intro nn
          induction nn with
          | zero => intro u i b2 f2 hms29; exact absurd hms29 (Nat.not_lt_zero _)
          | succ nn ih29 =>
            intro u i b2 f2 hms29 hi hfb2 hwk H locs hP hD hS ls hl
            refine lv_iload hex hby dX10_walked_29 (lv_at hl 0 rfl) ?_
            refine lv_iload_n hex hby dX10_walked_31 rfl (lv_at hl 5 rfl) ?_
            refine nv_icmp_ge (tgt := 66) hex hby dX10_walked_32 (by decide) (by omega) (by omega) (fun c_8 => ?_) (fun c_8 => ?_)
            · refine lv_iload hex hby dX10_walked_66 (lv_at hl 1 rfl) ?_
              exact hret _ (b2, f2) _ _ _ _ _ (Or.inl ⟨rfl, _, rfl, rfl, dX10_walked_68⟩) ⟨_, rfl, Or.inl ⟨u, rfl, (by omega), (by rw [hkt, hst, hqt, show qn = i by omega]; exact hwk), hfb2⟩⟩ hP hD hS
            · have huc := hwk.lt (show kn < c by omega)
              refine lv_aload_n hex hby dX10_walked_35 rfl (lv_at hl 2 rfl) ?_
              refine lv_iload hex hby dX10_walked_36 (lv_at hl 1 rfl) ?_
              refine lv_iload_n hex hby dX10_walked_38 rfl (lv_at hl 4 rfl) ?_
              refine mu_Vv (As := [.int (nI u), .int (nI sn)]) (rest := []) (wr := []) CFx (c_X10_findBeside (h := h) (aB := aB) (aC := aC) (aI := aI) (aS := aS) (aL := aL) (aO := aO) (m := m) (v1 := v1) (v2 := v2) (v3 := v3) (v4 := v4) (v5 := v5) (v6 := v6) (v7 := v7) (v8 := v8) (v9 := v9) (v10 := v10) (v13 := .int (nI c)) (v14 := v14) (v15 := v15) (v16 := v16) (v17 := v17) (v18 := v18) (v19 := v19) (v20 := v20) (v23 := v23) (v24 := v24) (v25 := v25) (v28 := .int (nI b2)) (fa := f2) (g := g) (ix := ix) (S := S) (Lv := Lv) (O := O) (k := u) (s := sn) (T := T) (ns := ns) (st := st) (lv := lv) (c := c) hfb2 hg hSb hLb hN.1 hV hL hag hm6 huc hix hOb hN hO (by omega)) 2 gX10_walked_X10_findBeside rfl nd_X10_findBeside ⟨Nat.le_of_ble_eq_true rfl, Nat.le_of_ble_eq_true rfl⟩ hK hP hD hS hA [0, 1, 2, 3, 4, 5, 6] [] rfl rfl (by decide) (by decide) (by decide) TR.nil rfl rfl rfl hl.1 rfl (Nat.le_of_ble_eq_true rfl) dX10_walked_39 ⟨Nat.le_refl _, Nat.le_refl _⟩ (fun u H locs hr_9 hP hD hS => ?_)
              obtain ⟨b3, f3⟩ := u
              dsimp only at hr_9 hP hD
              have hP : va_P (dC, dI) vwCl [(h, .inr (10, [.int (nI m), v1, v2, v3, v4, v5, v6, v7, v8, v9, v10, .ref aS, .ref aL, .int (nI c), v14, v15, v16, v17, v18, v19, v20, .ref aI, .ref aC, v23, v24, v25, .ref aO, .ref aB, .int (nI b3)])), (aB, .inl (cI, 64, .inl (nA f3))), (aC, .inl (cI, 4096, .inl (nA g))), (aI, .inl (cI, 4096, .inl (nA ix))), (aS, .inl (cI, 4096, .inl (nA S))), (aL, .inl (cI, 4096, .inl (nA Lv))), (aO, .inl (cI, 4096, .inl (nA O)))] H := hP
              have hD : va_D A [(h, .inr (10, [.int (nI m), v1, v2, v3, v4, v5, v6, v7, v8, v9, v10, .ref aS, .ref aL, .int (nI c), v14, v15, v16, v17, v18, v19, v20, .ref aI, .ref aC, v23, v24, v25, .ref aO, .ref aB, .int (nI b3)])), (aB, .inl (cI, 64, .inl (nA f3))), (aC, .inl (cI, 4096, .inl (nA g))), (aI, .inl (cI, 4096, .inl (nA ix))), (aS, .inl (cI, 4096, .inl (nA S))), (aL, .inl (cI, 4096, .inl (nA Lv))), (aO, .inl (cI, 4096, .inl (nA O)))] := hD
              obtain ⟨hss3, hfb3, hb643⟩ := hr_9
              refine lv_aload_n hex hby dX10_walked_42 rfl (lv_at hl 2 rfl) ?_
              refine nv_get (v := .int (nI b3)) CFx in_X10_walked_X10 hK hP 0 rfl rfl 28 (by decide) (List.mem_of_getElem? (i := 1) rfl) rfl dX10_walked_43 ?_
              refine nv_if_ne (tgt := 52) hex hby dX10_walked_46 (by decide) (by omega) (fun c_12 => ?_) (fun c_12 => ?_)
              · refine lv_aload_n hex hby dX10_walked_52 rfl (lv_at hl 2 rfl) ?_
                refine nv_get (v := .ref aB) CFx in_X10_walked_X10 hK hP 0 rfl rfl 27 (by decide) (List.mem_of_getElem? (i := 2) rfl) rfl dX10_walked_53 ?_
                refine lv_iconst (v := nI 0) hex hby dX10_walked_56 rfl ?_
                refine nv_iald hex hby hK hP 1 0 rfl rfl (by omega) (by omega) dX10_walked_57 ?_
                have hb_13 := hfb3 0
                refine lv_istore (lv' := [(4, .int (nI (f3 0))), (5, .int (nI i)), (0, .ref h), (1, .int (nI kn)), (2, .int (nI sn)), (3, .int (nI qn))]) hex hby dX10_walked_58 hl (by decide) rfl (fun ls hl => ?_)
                refine lv_iinc (v := nI (i + 1)) (lv' := [(5, .int (nI (i + 1))), (4, .int (nI (f3 0))), (0, .ref h), (1, .int (nI kn)), (2, .int (nI sn)), (3, .int (nI qn))]) hex hby dX10_walked_60 hl (k := 1) rfl (ni_inc _) (by decide) rfl (fun ls hl => ?_)
                refine lv_goto (tgt := 29) hex hby dX10_walked_63 (by decide) ?_
                exact ih29 (f3 0) (i + 1) b3 f3 (by omega) (by omega) hfb3 (⟨u, hwk, hss3.low (by omega)⟩) _ _ hP hD hS _ (lv_sub hl [0, 1, 2, 3, 4, 5] rfl)
              · have hb0 := c_12
                refine lv_bipush (v := zI (-5)) hex hby dX10_walked_49 rfl ?_
                exact hret _ (b3, f3) _ _ _ _ _ (Or.inl ⟨rfl, _, rfl, rfl, dX10_walked_51⟩) ⟨_, rfl, Or.inr (Or.inr (⟨rfl, (by omega), (by rw [hkt, hst, hqt]; exact ⟨i, by omega, u, hwk, SSt.none (by rw [hb0] at hss3; exact hss3)⟩), hfb3⟩))⟩ hP hD hS
        exact loop29 _ kn 0 bs f (Nat.lt_succ_self _) (by omega) hfb rfl _ _ hP hD hS _ (lv_sub hl [0, 1, 2, 3, 4, 5] rfl)
      · refine lv_iconst (v := zI (-1)) hex hby dX10_walked_21 rfl ?_
        exact hret _ (bs, f) _ _ _ _ _ (Or.inl ⟨rfl, _, rfl, rfl, dX10_walked_22⟩) ⟨_, rfl, Or.inr (Or.inl ⟨rfl, (by omega), hfb⟩)⟩ hP hD hS
    · refine nv_if_eq (tgt := 21) hex hby dX10_walked_14 (by decide) (by omega) (fun _ => ?_) (fun c => absurd c (by omega))
      refine lv_iconst (v := zI (-1)) hex hby dX10_walked_21 rfl ?_
      exact hret _ (bs, f) _ _ _ _ _ (Or.inl ⟨rfl, _, rfl, rfl, dX10_walked_22⟩) ⟨_, rfl, Or.inr (Or.inl ⟨rfl, (by omega), hfb⟩)⟩ hP hD hS
  · refine nv_if_eq (tgt := 21) hex hby dX10_walked_5 (by decide) (by omega) (fun _ => ?_) (fun c => absurd c (by omega))
    refine lv_iconst (v := zI (-1)) hex hby dX10_walked_21 rfl ?_
    exact hret _ (bs, f) _ _ _ _ _ (Or.inl ⟨rfl, _, rfl, rfl, dX10_walked_22⟩) ⟨_, rfl, Or.inr (Or.inl ⟨rfl, (by omega), hfb⟩)⟩ hP hD hS
end MQR
