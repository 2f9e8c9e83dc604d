section CQR
variable {l : Launch} {dC : Nat → ClassId} {dI : Nat → Nat → Nat} {cI cZ cS : ClassId}
theorem nd_X9_isSide : ndV yX9_isSide RX9 1 := by decide +kernel
set_option maxHeartbeats 4000000 in
set_option maxRecDepth 100000 in
theorem c_X9_isSide {s : Int32} {sz : Int} (hsz : s.toInt = sz) : RO l yX9_isSide wsX9_isSide 0 0 (dC, dI) (tyK cI cZ cS) [] [.int s] (rI (fun r => (r = nI 1 ∧ (0 ≤ sz ∧ sz < 4)) ∨ (r = nI 0 ∧ (¬ (0 ≤ sz ∧ sz < 4))))) := by
  refine ro_of (by decide) rfl (Nat.le_of_ble_eq_true rfl) ?_
  intro pp ee ss mm bb mt cd Q CFx hP hK hret ls hl
  obtain ⟨hex, hby, hml, hown, hts⟩ := id CFx
  have hl : lv_has ls 1 [(0, .int s)] := hl
  refine lv_iload_n hex hby dX9_isSide_0 rfl (lv_at hl 0 rfl) ?_
  refine ni_if_lt (tgt := 13) (a := s.toInt) hex hby dX9_isSide_1 (by decide) rfl (fun c_1 => ?_) (fun c_1 => ?_)
  · refine lv_iconst (v := nI 0) hex hby dX9_isSide_13 rfl ?_
    exact hret _ _ _ _ (Or.inr (Or.inl ⟨rfl, _, (Or.inr rfl), rfl, rfl, dX9_isSide_14⟩)) ⟨_, rfl, Or.inr ⟨rfl, (by omega)⟩⟩
  · refine lv_iload_n hex hby dX9_isSide_4 rfl (lv_at hl 0 rfl) ?_
    refine lv_iconst (v := nI 4) hex hby dX9_isSide_5 rfl ?_
    refine ni_icmp_ge (tgt := 13) (a := s.toInt) (b := (4 : Int)) hex hby dX9_isSide_6 (by decide) rfl (by rfl) (fun c_2 => ?_) (fun c_2 => ?_)
    · refine lv_iconst (v := nI 0) hex hby dX9_isSide_13 rfl ?_
      exact hret _ _ _ _ (Or.inr (Or.inl ⟨rfl, _, (Or.inr rfl), rfl, rfl, dX9_isSide_14⟩)) ⟨_, rfl, Or.inr ⟨rfl, (by omega)⟩⟩
    · refine lv_iconst (v := nI 1) hex hby dX9_isSide_9 rfl ?_
      refine lv_goto (tgt := 14) hex hby dX9_isSide_10 (by decide) ?_
      exact hret _ _ _ _ (Or.inr (Or.inl ⟨rfl, _, (Or.inl rfl), rfl, rfl, dX9_isSide_14⟩)) ⟨_, rfl, Or.inl ⟨rfl, (by omega)⟩⟩
theorem nd_X9_isLeaf : ndV yX9_isLeaf RX9 1 := by decide +kernel
theorem in_X9_isLeaf_X1 : ∀ w ∈ wsX10, w ∈ wsX9_isLeaf := fun _ h => List.mem_cons_of_mem _ (List.mem_append_right _ (h))
theorem in_X9_isLeaf_X5 : ∀ w ∈ wsX50, w ∈ wsX9_isLeaf := fun _ h => List.mem_cons_of_mem _ (List.mem_append_left _ (List.mem_append_right _ (h)))
theorem in_X9_isLeaf_X9 : ∀ w ∈ wsX90, w ∈ wsX9_isLeaf := fun _ h => List.mem_cons_of_mem _ (List.mem_append_left _ (List.mem_append_left _ (List.mem_append_right _ (h))))
set_option maxHeartbeats 4000000 in
set_option maxRecDepth 100000 in
theorem c_X9_isLeaf {h : Nat} {hw : Nat} {hd : Nat} {f9 : List Value} {f5 : List Value} {fd : List Value} {c : Nat} {k : Int32} {kz : Int} (f9_now : f9[0]? = some (.ref hw)) (f5_division : f5[6]? = some (.ref hd)) (fdc : fd[0]? = some (.int (nI c))) (hkz : k.toInt = kz) (hc496 : c ≤ 496) : RO l yX9_isLeaf wsX9_isLeaf 0 0 (dC, dI) (tyK cI cZ cS) [(h, .inr (9, f9)), (hw, .inr (5, f5)), (hd, .inr (1, fd))] [.ref h, .int k] (rI (fun r => (r = nI 1 ∧ (0 ≤ kz ∧ kz < ((c : Nat) : Int))) ∨ (r = nI 0 ∧ (¬ (0 ≤ kz ∧ kz < ((c : Nat) : Int)))))) := by
  refine ro_of (by decide) rfl (Nat.le_of_ble_eq_true rfl) ?_
  intro pp ee ss mm bb mt cd Q CFx hP hK hret ls hl
  obtain ⟨hex, hby, hml, hown, hts⟩ := id CFx
  have hl : lv_has ls 2 [(0, .ref h), (1, .int k)] := hl
  refine lv_iload_n hex hby dX9_isLeaf_0 rfl (lv_at hl 1 rfl) ?_
  refine ni_if_lt (tgt := 22) (a := k.toInt) hex hby dX9_isLeaf_1 (by decide) rfl (fun c_1 => ?_) (fun c_1 => ?_)
  · refine lv_iconst (v := nI 0) hex hby dX9_isLeaf_22 rfl ?_
    exact hret _ _ _ _ (Or.inr (Or.inl ⟨rfl, _, (Or.inr rfl), rfl, rfl, dX9_isLeaf_23⟩)) ⟨_, rfl, Or.inr ⟨rfl, (by omega)⟩⟩
  · refine lv_iload_n hex hby dX9_isLeaf_4 rfl (lv_at hl 1 rfl) ?_
    refine lv_aload_n hex hby dX9_isLeaf_5 rfl (lv_at hl 0 rfl) ?_
    refine nv_get (v := .ref hw) CFx in_X9_isLeaf_X9 hK hP 0 rfl rfl 0 (by decide) (List.mem_of_getElem? (i := 1) rfl) f9_now dX9_isLeaf_6 ?_
    refine nv_get (v := .ref hd) CFx in_X9_isLeaf_X5 hK hP 1 rfl rfl 6 (by decide) (List.mem_of_getElem? (i := 2) rfl) f5_division dX9_isLeaf_9 ?_
    refine nv_get (v := .int (nI c)) CFx in_X9_isLeaf_X1 hK hP 2 rfl rfl 0 (by decide) (List.mem_of_getElem? (i := 3) rfl) fdc dX9_isLeaf_12 ?_
    refine ni_icmp_ge (tgt := 22) (a := k.toInt) (b := (c : Int)) hex hby dX9_isLeaf_15 (by decide) rfl (ni_toInt (by omega)) (fun c_2 => ?_) (fun c_2 => ?_)
    · refine lv_iconst (v := nI 0) hex hby dX9_isLeaf_22 rfl ?_
      exact hret _ _ _ _ (Or.inr (Or.inl ⟨rfl, _, (Or.inr rfl), rfl, rfl, dX9_isLeaf_23⟩)) ⟨_, rfl, Or.inr ⟨rfl, (by omega)⟩⟩
    · refine lv_iconst (v := nI 1) hex hby dX9_isLeaf_18 rfl ?_
      refine lv_goto (tgt := 23) hex hby dX9_isLeaf_19 (by decide) ?_
      exact hret _ _ _ _ (Or.inr (Or.inl ⟨rfl, _, (Or.inl rfl), rfl, rfl, dX9_isLeaf_23⟩)) ⟨_, rfl, Or.inl ⟨rfl, (by omega)⟩⟩
theorem nd_X9_points : ndV yX9_points RX9 0 := by decide +kernel
theorem in_X9_points_X3 : ∀ w ∈ wsX30, w ∈ wsX9_points := fun _ h => List.mem_cons_of_mem _ (List.mem_append_right _ (h))
theorem in_X9_points_X5 : ∀ w ∈ wsX50, w ∈ wsX9_points := fun _ h => List.mem_cons_of_mem _ (List.mem_append_left _ (List.mem_append_right _ (h)))
theorem in_X9_points_X9 : ∀ w ∈ wsX90, w ∈ wsX9_points := fun _ h => List.mem_cons_of_mem _ (List.mem_append_left _ (List.mem_append_left _ (List.mem_append_right _ (h))))
set_option maxHeartbeats 4000000 in
set_option maxRecDepth 100000 in
theorem c_X9_points {h : Nat} {hw : Nat} {hq : Nat} {f9 : List Value} {f5 : List Value} {fq : List Value} {pc : Nat} (f9_now : f9[0]? = some (.ref hw)) (f5_points : f5[4]? = some (.ref hq)) (fpc : fq[0]? = some (.int (nI pc))) : RO l yX9_points wsX9_points 0 0 (dC, dI) (tyK cI cZ cS) [(h, .inr (9, f9)), (hw, .inr (5, f5)), (hq, .inr (3, fq))] [.ref h] (rI (fun r => r = nI pc)) := by
  refine ro_of (by decide) rfl (Nat.le_of_ble_eq_true rfl) ?_
  intro pp ee ss mm bb mt cd Q CFx hP hK hret ls hl
  obtain ⟨hex, hby, hml, hown, hts⟩ := id CFx
  have hl : lv_has ls 1 [(0, .ref h)] := hl
  refine lv_aload_n hex hby dX9_points_0 rfl (lv_at hl 0 rfl) ?_
  refine nv_get (v := .ref hw) CFx in_X9_points_X9 hK hP 0 rfl rfl 0 (by decide) (List.mem_of_getElem? (i := 1) rfl) f9_now dX9_points_1 ?_
  refine nv_get (v := .ref hq) CFx in_X9_points_X5 hK hP 1 rfl rfl 4 (by decide) (List.mem_of_getElem? (i := 2) rfl) f5_points dX9_points_4 ?_
  refine nv_get (v := .int (nI pc)) CFx in_X9_points_X3 hK hP 2 rfl rfl 0 (by decide) (List.mem_of_getElem? (i := 3) rfl) fpc dX9_points_7 ?_
  exact hret _ _ _ _ (Or.inl ⟨rfl, _, rfl, rfl, dX9_points_10⟩) ⟨_, rfl, rfl⟩
theorem nd_X9_leaves : ndV yX9_leaves RX9 0 := by decide +kernel
theorem in_X9_leaves_X1 : ∀ w ∈ wsX10, w ∈ wsX9_leaves := fun _ h => List.mem_cons_of_mem _ (List.mem_append_right _ (h))
theorem in_X9_leaves_X5 : ∀ w ∈ wsX50, w ∈ wsX9_leaves := fun _ h => List.mem_cons_of_mem _ (List.mem_append_left _ (List.mem_append_right _ (h)))
theorem in_X9_leaves_X9 : ∀ w ∈ wsX90, w ∈ wsX9_leaves := fun _ h => List.mem_cons_of_mem _ (List.mem_append_left _ (List.mem_append_left _ (List.mem_append_right _ (h))))
set_option maxHeartbeats 4000000 in
set_option maxRecDepth 100000 in
theorem c_X9_leaves {h : Nat} {hw : Nat} {hd : Nat} {f9 : List Value} {f5 : List Value} {fd : List Value} {c : Nat} (f9_now : f9[0]? = some (.ref hw)) (f5_division : f5[6]? = some (.ref hd)) (fdc : fd[0]? = some (.int (nI c))) : RO l yX9_leaves wsX9_leaves 0 0 (dC, dI) (tyK cI cZ cS) [(h, .inr (9, f9)), (hw, .inr (5, f5)), (hd, .inr (1, fd))] [.ref h] (rI (fun r => r = nI c)) := by
  refine ro_of (by decide) rfl (Nat.le_of_ble_eq_true rfl) ?_
  intro pp ee ss mm bb mt cd Q CFx hP hK hret ls hl
  obtain ⟨hex, hby, hml, hown, hts⟩ := id CFx
  have hl : lv_has ls 1 [(0, .ref h)] := hl
  refine lv_aload_n hex hby dX9_leaves_0 rfl (lv_at hl 0 rfl) ?_
  refine nv_get (v := .ref hw) CFx in_X9_leaves_X9 hK hP 0 rfl rfl 0 (by decide) (List.mem_of_getElem? (i := 1) rfl) f9_now dX9_leaves_1 ?_
  refine nv_get (v := .ref hd) CFx in_X9_leaves_X5 hK hP 1 rfl rfl 6 (by decide) (List.mem_of_getElem? (i := 2) rfl) f5_division dX9_leaves_4 ?_
  refine nv_get (v := .int (nI c)) CFx in_X9_leaves_X1 hK hP 2 rfl rfl 0 (by decide) (List.mem_of_getElem? (i := 3) rfl) fdc dX9_leaves_7 ?_
  exact hret _ _ _ _ (Or.inl ⟨rfl, _, rfl, rfl, dX9_leaves_10⟩) ⟨_, rfl, rfl⟩
theorem nd_X9_intervals : ndV yX9_intervals RX9 0 := by decide +kernel
theorem in_X9_intervals_X0 : ∀ w ∈ wsX00, w ∈ wsX9_intervals := fun _ h => List.mem_cons_of_mem _ (List.mem_append_right _ (h))
theorem in_X9_intervals_X9 : ∀ w ∈ wsX90, w ∈ wsX9_intervals := fun _ h => List.mem_cons_of_mem _ (List.mem_append_left _ (List.mem_append_right _ (h)))
set_option maxHeartbeats 4000000 in
set_option maxRecDepth 100000 in
theorem c_X9_intervals {h : Nat} {ho : Nat} {f9 : List Value} {fo : List Value} {cn : Nat} (f9_cover : f9[5]? = some (.ref ho)) (fcn : fo[0]? = some (.int (nI cn))) : RO l yX9_intervals wsX9_intervals 0 0 (dC, dI) (tyK cI cZ cS) [(h, .inr (9, f9)), (ho, .inr (0, fo))] [.ref h] (rI (fun r => r = nI cn)) := by
  refine ro_of (by decide) rfl (Nat.le_of_ble_eq_true rfl) ?_
  intro pp ee ss mm bb mt cd Q CFx hP hK hret ls hl
  obtain ⟨hex, hby, hml, hown, hts⟩ := id CFx
  have hl : lv_has ls 1 [(0, .ref h)] := hl
  refine lv_aload_n hex hby dX9_intervals_0 rfl (lv_at hl 0 rfl) ?_
  refine nv_get (v := .ref ho) CFx in_X9_intervals_X9 hK hP 0 rfl rfl 5 (by decide) (List.mem_of_getElem? (i := 1) rfl) f9_cover dX9_intervals_1 ?_
  refine nv_get (v := .int (nI cn)) CFx in_X9_intervals_X0 hK hP 1 rfl rfl 0 (by decide) (List.mem_of_getElem? (i := 2) rfl) fcn dX9_intervals_4 ?_
  exact hret _ _ _ _ (Or.inl ⟨rfl, _, rfl, rfl, dX9_intervals_7⟩) ⟨_, rfl, rfl⟩
theorem nd_X9_states : ndV yX9_states RX9 0 := by decide +kernel
theorem in_X9_states_X9 : ∀ w ∈ wsX90, w ∈ wsX9_states := fun _ h => List.mem_cons_of_mem _ (List.mem_append_left _ (List.mem_append_left _ (List.mem_append_right _ (h))))
set_option maxHeartbeats 4000000 in
set_option maxRecDepth 100000 in
theorem c_X9_states {h : Nat} {hw : Nat} {ht : Nat} {f9 : List Value} {f5 : List Value} {cu : Nat} {f6 : List Value} {tc : Nat} (f9_now : f9[0]? = some (.ref hw)) (f5_curve : f5[1]? = some (.int (nI cu))) (f5_table : f5[2]? = some (.ref ht)) (f60 : f6[0]? = some (.int (nI tc))) (hcu : cu ≤ 2) : RO l yX9_states wsX9_states 1 20 (dC, dI) (tyK cI cZ cS) [(h, .inr (9, f9)), (hw, .inr (5, f5)), (ht, .inr (6, f6))] [.ref h] (rI (fun r => r = nI (cuN cu tc))) := by
  refine ro_of (by decide) rfl (Nat.le_of_ble_eq_true rfl) ?_
  intro pp ee ss mm bb mt cd Q CFx hP hK hret ls hl
  obtain ⟨hex, hby, hml, hown, hts⟩ := id CFx
  have hl : lv_has ls 1 [(0, .ref h)] := hl
  refine lv_aload_n hex hby dX9_states_0 rfl (lv_at hl 0 rfl) ?_
  refine nv_get (v := .ref hw) CFx in_X9_states_X9 hK hP 0 rfl rfl 0 (by decide) (List.mem_of_getElem? (i := 1) rfl) f9_now dX9_states_1 ?_
  refine ro_Vi (As := []) (rest := []) CFx (c_X5_stateCount (ha := hw) (da := ht) (f5 := f5) (cu := cu) (f6 := f6) (tc := tc) f5_curve f5_table f60 hcu) 0 gX9_states_X5_stateCount rfl nd_X5_stateCount ⟨Nat.le_of_ble_eq_true rfl, Nat.le_of_ble_eq_true rfl⟩ hK hP [1, 2] rfl rfl rfl rfl hl.1 rfl (Nat.le_of_ble_eq_true rfl) dX9_states_4 ⟨Nat.le_refl _, Nat.le_refl _⟩ (fun r_1 hr_1 => ?_)
  obtain rfl := hr_1
  exact hret _ _ _ _ (Or.inl ⟨rfl, _, rfl, rfl, dX9_states_7⟩) ⟨_, rfl, rfl⟩
theorem nd_X9_index : ndV yX9_index RX9 2 := by decide +kernel
theorem in_X9_index_X9 : ∀ w ∈ wsX90, w ∈ wsX9_index := fun _ h => List.mem_cons_of_mem _ (List.mem_append_left _ (List.mem_append_right _ (h)))
set_option maxHeartbeats 4000000 in
set_option maxRecDepth 100000 in
theorem c_X9_index {h : Nat} {hn : Nat} {aI : Nat} {f9 : List Value} {fn : List Value} {ix : Nat → Nat} {x : Int32} {xz : Int} {y : Int32} {yz : Int} {T : Nat → Nat} {ns : Nat} {g : Nat → Nat} {m : Nat} (f9_numbering : f9[4]? = some (.ref hn)) (fn_side : fn[0]? = some (.int (nI (2 ^ m)))) (fn_I : fn[3]? = some (.ref aI)) (hxz : x.toInt = xz) (hyz : y.toInt = yz) (hix : ∀ j, ix j < 4096) (hm6 : m ≤ 6) (hV : VT T ns) (hN : NumOK T m g ix) : RO l yX9_index wsX9_index 1 22 (dC, dI) (tyK cI cZ cS) [(h, .inr (9, f9)), (hn, .inr (2, fn)), (aI, .inl (cI, 4096, .inl (nA ix)))] [.ref h, .int x, .int y] (rI (fun r => (r = nI (cvi T m xz.toNat yz.toNat) ∧ (0 ≤ xz ∧ xz < ((2 ^ m : Nat) : Int) ∧ 0 ≤ yz ∧ yz < ((2 ^ m : Nat) : Int))) ∨ (r = zI (-1) ∧ (¬ (0 ≤ xz ∧ xz < ((2 ^ m : Nat) : Int) ∧ 0 ≤ yz ∧ yz < ((2 ^ m : Nat) : Int)))))) := by
  refine ro_of (by decide) rfl (Nat.le_of_ble_eq_true rfl) ?_
  intro pp ee ss mm bb mt cd Q CFx hP hK hret ls hl
  obtain ⟨hex, hby, hml, hown, hts⟩ := id CFx
  have hl : lv_has ls 3 [(0, .ref h), (1, .int x), (2, .int y)] := hl
  have h26 := p2_6 hm6
  have h46 := p4_6 hm6
  have h4p := p4_pos m
  refine lv_aload_n hex hby dX9_index_0 rfl (lv_at hl 0 rfl) ?_
  refine nv_get (v := .ref hn) CFx in_X9_index_X9 hK hP 0 rfl rfl 4 (by decide) (List.mem_of_getElem? (i := 1) rfl) f9_numbering dX9_index_1 ?_
  refine lv_iload_n hex hby dX9_index_4 rfl (lv_at hl 1 rfl) ?_
  refine lv_iload_n hex hby dX9_index_5 rfl (lv_at hl 2 rfl) ?_
  refine ro_Vi (As := [.int x, .int y]) (rest := []) CFx (c_X2_holds (h := hn) (fs := fn) (sd := 2 ^ m) (x := x) (xz := x.toInt) (y := y) (yz := y.toInt) fn_side rfl rfl (by omega)) 2 gX9_index_X2_holds rfl nd_X2_holds ⟨Nat.le_of_ble_eq_true rfl, Nat.le_of_ble_eq_true rfl⟩ hK hP [1] rfl rfl rfl rfl hl.1 rfl (Nat.le_of_ble_eq_true rfl) dX9_index_6 ⟨Nat.le_refl _, Nat.le_refl _⟩ (fun r_1 hr_1 => ?_)
  rcases hr_1 with ⟨rfl, h_2⟩ | ⟨rfl, h_3⟩
  · refine nv_if_eq (tgt := 24) hex hby dX9_index_9 (by decide) (by omega) (fun c => absurd c (by omega)) (fun _ => ?_)
    obtain ⟨xn, hxn_, rfl, hxne⟩ := ni_of (x := x) (by omega)
    obtain ⟨yn, hyn_, rfl, hyne⟩ := ni_of (x := y) (by omega)
    have hxt : xz.toNat = xn := by omega
    have hyt : yz.toNat = yn := by omega
    refine lv_aload_n hex hby dX9_index_12 rfl (lv_at hl 0 rfl) ?_
    refine nv_get (v := .ref hn) CFx in_X9_index_X9 hK hP 0 rfl rfl 4 (by decide) (List.mem_of_getElem? (i := 1) rfl) f9_numbering dX9_index_13 ?_
    refine lv_iload_n hex hby dX9_index_16 rfl (lv_at hl 1 rfl) ?_
    refine lv_iload_n hex hby dX9_index_17 rfl (lv_at hl 2 rfl) ?_
    refine ro_Vi (As := [.int (nI xn), .int (nI yn)]) (rest := []) CFx (c_X2_indexOf (h := hn) (aI := aI) (fs := fn) (ix := ix) (x := xn) (y := yn) fn_I hix (by omega) (by omega)) 2 gX9_index_X2_indexOf rfl nd_X2_indexOf ⟨Nat.le_of_ble_eq_true rfl, Nat.le_of_ble_eq_true rfl⟩ hK hP [1, 2] rfl rfl rfl rfl hl.1 rfl (Nat.le_of_ble_eq_true rfl) dX9_index_18 ⟨Nat.le_refl _, Nat.le_refl _⟩ (fun r_4 hr_4 => ?_)
    obtain rfl := hr_4
    refine lv_goto (tgt := 25) hex hby dX9_index_21 (by decide) ?_
    exact hret _ _ _ _ (Or.inl ⟨rfl, _, rfl, rfl, dX9_index_25⟩) ⟨_, rfl, Or.inl ⟨(congrArg nI (by rw [hxt, hyt]; exact hN.ix hV (by omega) (by omega))), (by omega)⟩⟩
  · refine nv_if_eq (tgt := 24) hex hby dX9_index_9 (by decide) (by omega) (fun _ => ?_) (fun c => absurd c (by omega))
    refine lv_iconst (v := zI (-1)) hex hby dX9_index_24 rfl ?_
    exact hret _ _ _ _ (Or.inl ⟨rfl, _, rfl, rfl, dX9_index_25⟩) ⟨_, rfl, Or.inr ⟨rfl, (by omega)⟩⟩
theorem nd_X9_cell : ndV yX9_cell RX9 2 := by decide +kernel
theorem in_X9_cell_X2 : ∀ w ∈ wsX20, w ∈ wsX9_cell := fun _ h => List.mem_cons_of_mem _ (List.mem_append_right _ (h))
theorem in_X9_cell_X9 : ∀ w ∈ wsX90, w ∈ wsX9_cell := fun _ h => List.mem_cons_of_mem _ (List.mem_append_left _ (List.mem_append_right _ (h)))
set_option maxHeartbeats 4000000 in
set_option maxRecDepth 100000 in
theorem c_X9_cell {h : Nat} {hn : Nat} {aC : Nat} {f9 : List Value} {fn : List Value} {g : Nat → Nat} {i : Int32} {iz : Int} {w : Int32} {wz : Int} {T : Nat → Nat} {ns : Nat} {ix : Nat → Nat} {m : Nat} (f9_numbering : f9[4]? = some (.ref hn)) (fn_cells : fn[1]? = some (.int (nI (4 ^ m)))) (fn_C : fn[2]? = some (.ref aC)) (hiz : i.toInt = iz) (hwz : w.toInt = wz) (hg : ∀ j, g j < 4096) (hm6 : m ≤ 6) (hV : VT T ns) (hN : NumOK T m g ix) : RO l yX9_cell wsX9_cell 1 21 (dC, dI) (tyK cI cZ cS) [(h, .inr (9, f9)), (hn, .inr (2, fn)), (aC, .inl (cI, 4096, .inl (nA g)))] [.ref h, .int i, .int w] (rI (fun r => (r = nI (cvy T m iz.toNat) ∧ (0 ≤ iz ∧ iz < ((4 ^ m : Nat) : Int)) ∧ wz ≠ 0) ∨ (r = nI (cvx T m iz.toNat) ∧ (0 ≤ iz ∧ iz < ((4 ^ m : Nat) : Int)) ∧ wz = 0) ∨ (r = zI (-1) ∧ (¬ (0 ≤ iz ∧ iz < ((4 ^ m : Nat) : Int)))))) := by
  refine ro_of (by decide) rfl (Nat.le_of_ble_eq_true rfl) ?_
  intro pp ee ss mm bb mt cd Q CFx hP hK hret ls hl
  obtain ⟨hex, hby, hml, hown, hts⟩ := id CFx
  have hl : lv_has ls 3 [(0, .ref h), (1, .int i), (2, .int w)] := hl
  have h26 := p2_6 hm6
  have h46 := p4_6 hm6
  have h4p := p4_pos m
  refine lv_iload_n hex hby dX9_cell_0 rfl (lv_at hl 1 rfl) ?_
  refine ni_if_lt (tgt := 15) (a := i.toInt) hex hby dX9_cell_1 (by decide) rfl (fun c_1 => ?_) (fun c_1 => ?_)
  · refine lv_iconst (v := zI (-1)) hex hby dX9_cell_15 rfl ?_
    exact hret _ _ _ _ (Or.inl ⟨rfl, _, rfl, rfl, dX9_cell_16⟩) ⟨_, rfl, Or.inr (Or.inr (⟨rfl, (by omega)⟩))⟩
  · refine lv_iload_n hex hby dX9_cell_4 rfl (lv_at hl 1 rfl) ?_
    refine lv_aload_n hex hby dX9_cell_5 rfl (lv_at hl 0 rfl) ?_
    refine nv_get (v := .ref hn) CFx in_X9_cell_X9 hK hP 0 rfl rfl 4 (by decide) (List.mem_of_getElem? (i := 1) rfl) f9_numbering dX9_cell_6 ?_
    refine nv_get (v := .int (nI (4 ^ m))) CFx in_X9_cell_X2 hK hP 1 rfl rfl 1 (by decide) (List.mem_of_getElem? (i := 2) rfl) fn_cells dX9_cell_9 ?_
    refine ni_icmp_lt (tgt := 17) (a := i.toInt) (b := ((4 ^ m : Nat) : Int)) hex hby dX9_cell_12 (by decide) rfl (ni_toInt (by omega)) (fun c_2 => ?_) (fun c_2 => ?_)
    · obtain ⟨n, hn_, rfl, hne⟩ := ni_of (x := i) (by omega)
      have hnt : iz.toNat = n := by omega
      have hgn := hN.1 n (by omega)
      have hcm := cvc_mod (T := T) (k := m) n hm6
      refine lv_iload_n hex hby dX9_cell_17 rfl (lv_at hl 2 rfl) ?_
      refine ni_if_eq (tgt := 32) (a := w.toInt) hex hby dX9_cell_18 (by decide) rfl (fun c_3 => ?_) (fun c_3 => ?_)
      · refine lv_aload_n hex hby dX9_cell_32 rfl (lv_at hl 0 rfl) ?_
        refine nv_get (v := .ref hn) CFx in_X9_cell_X9 hK hP 0 rfl rfl 4 (by decide) (List.mem_of_getElem? (i := 1) rfl) f9_numbering dX9_cell_33 ?_
        refine lv_iload_n hex hby dX9_cell_36 rfl (lv_at hl 1 rfl) ?_
        refine ro_Vi (As := [.int (nI n)]) (rest := []) CFx (c_X2_xAt (h := hn) (aC := aC) (fs := fn) (g := g) (i := n) fn_C hg (by omega)) 1 gX9_cell_X2_xAt rfl nd_X2_xAt ⟨Nat.le_of_ble_eq_true rfl, Nat.le_of_ble_eq_true rfl⟩ hK hP [1, 2] rfl rfl rfl rfl hl.1 rfl (Nat.le_of_ble_eq_true rfl) dX9_cell_37 ⟨Nat.le_refl _, Nat.le_refl _⟩ (fun r_4 hr_4 => ?_)
        obtain rfl := hr_4
        exact hret _ _ _ _ (Or.inl ⟨rfl, _, rfl, rfl, dX9_cell_40⟩) ⟨_, rfl, Or.inr (Or.inl ⟨(congrArg nI (by rw [hnt, hgn]; exact hcm.1)), (by omega), (by omega)⟩)⟩
      · refine lv_aload_n hex hby dX9_cell_21 rfl (lv_at hl 0 rfl) ?_
        refine nv_get (v := .ref hn) CFx in_X9_cell_X9 hK hP 0 rfl rfl 4 (by decide) (List.mem_of_getElem? (i := 1) rfl) f9_numbering dX9_cell_22 ?_
        refine lv_iload_n hex hby dX9_cell_25 rfl (lv_at hl 1 rfl) ?_
        refine ro_Vi (As := [.int (nI n)]) (rest := []) CFx (c_X2_yAt (h := hn) (aC := aC) (fs := fn) (g := g) (i := n) fn_C hg (by omega)) 1 gX9_cell_X2_yAt rfl nd_X2_yAt ⟨Nat.le_of_ble_eq_true rfl, Nat.le_of_ble_eq_true rfl⟩ hK hP [1, 2] rfl rfl rfl rfl hl.1 rfl (Nat.le_of_ble_eq_true rfl) dX9_cell_26 ⟨Nat.le_refl _, Nat.le_refl _⟩ (fun r_5 hr_5 => ?_)
        obtain rfl := hr_5
        refine lv_goto (tgt := 40) hex hby dX9_cell_29 (by decide) ?_
        exact hret _ _ _ _ (Or.inl ⟨rfl, _, rfl, rfl, dX9_cell_40⟩) ⟨_, rfl, Or.inl ⟨(congrArg nI (by rw [hnt, hgn]; exact hcm.2)), (by omega), (by omega)⟩⟩
    · refine lv_iconst (v := zI (-1)) hex hby dX9_cell_15 rfl ?_
      exact hret _ _ _ _ (Or.inl ⟨rfl, _, rfl, rfl, dX9_cell_16⟩) ⟨_, rfl, Or.inr (Or.inr (⟨rfl, (by omega)⟩))⟩
theorem nd_X9_breaks : ndV yX9_breaks RX9 0 := by decide +kernel
theorem in_X9_breaks_X9 : ∀ w ∈ wsX90, w ∈ wsX9_breaks := fun _ h => List.mem_cons_of_mem _ (List.mem_append_left _ (List.mem_append_right _ (h)))
set_option maxHeartbeats 4000000 in
set_option maxRecDepth 100000 in
theorem c_X9_breaks {h : Nat} {hn : Nat} {aC : Nat} {f9 : List Value} {fn : List Value} {g : Nat → Nat} {T : Nat → Nat} {ns : Nat} {ix : Nat → Nat} {m : Nat} (f9_numbering : f9[4]? = some (.ref hn)) (fn_cells : fn[1]? = some (.int (nI (4 ^ m)))) (fn_C : fn[2]? = some (.ref aC)) (hg : ∀ j, g j < 4096) (hm6 : m ≤ 6) (hV : VT T ns) (hN : NumOK T m g ix) : RO l yX9_breaks wsX9_breaks 2 62 (dC, dI) (tyK cI cZ cS) [(h, .inr (9, f9)), (hn, .inr (2, fn)), (aC, .inl (cI, 4096, .inl (nA g)))] [.ref h] (rI (fun r => r = nI (brN (cvc T m) (4 ^ m - 1)))) := by
  refine ro_of (by decide) rfl (Nat.le_of_ble_eq_true rfl) ?_
  intro pp ee ss mm bb mt cd Q CFx hP hK hret ls hl
  obtain ⟨hex, hby, hml, hown, hts⟩ := id CFx
  have hl : lv_has ls 1 [(0, .ref h)] := hl
  have h26 := p2_6 hm6
  have h46 := p4_6 hm6
  have h4p := p4_pos m
  refine lv_aload_n hex hby dX9_breaks_0 rfl (lv_at hl 0 rfl) ?_
  refine nv_get (v := .ref hn) CFx in_X9_breaks_X9 hK hP 0 rfl rfl 4 (by decide) (List.mem_of_getElem? (i := 1) rfl) f9_numbering dX9_breaks_1 ?_
  refine ro_Vi (As := []) (rest := []) CFx (c_X2_countBreaks (h := hn) (aC := aC) (fs := fn) (ce := 4 ^ m) (g := g) fn_cells fn_C hg (by omega) (by omega)) 0 gX9_breaks_X2_countBreaks rfl nd_X2_countBreaks ⟨Nat.le_of_ble_eq_true rfl, Nat.le_of_ble_eq_true rfl⟩ hK hP [1, 2] rfl rfl rfl rfl hl.1 rfl (Nat.le_of_ble_eq_true rfl) dX9_breaks_4 ⟨Nat.le_refl _, Nat.le_refl _⟩ (fun r_1 hr_1 => ?_)
  obtain rfl := hr_1
  exact hret _ _ _ _ (Or.inl ⟨rfl, _, rfl, rfl, dX9_breaks_7⟩) ⟨_, rfl, (congrArg nI (brN_congr (fun i hi => hN.1 i (by omega))))⟩
theorem nd_X9_stretch : ndV yX9_stretch RX9 0 := by decide +kernel
theorem in_X9_stretch_X9 : ∀ w ∈ wsX90, w ∈ wsX9_stretch := fun _ h => List.mem_cons_of_mem _ (List.mem_append_left _ (List.mem_append_right _ (h)))
set_option maxHeartbeats 4000000 in
set_option maxRecDepth 100000 in
theorem c_X9_stretch {h : Nat} {hn : Nat} {aI : Nat} {f9 : List Value} {fn : List Value} {ix : Nat → Nat} {T : Nat → Nat} {ns : Nat} {g : Nat → Nat} {m : Nat} (f9_numbering : f9[4]? = some (.ref hn)) (fn_side : fn[0]? = some (.int (nI (2 ^ m)))) (fn_I : fn[3]? = some (.ref aI)) (hix : ∀ j, ix j < 4096) (hm6 : m ≤ 6) (hV : VT T ns) (hN : NumOK T m g ix) : RO l yX9_stretch wsX9_stretch 2 65 (dC, dI) (tyK cI cZ cS) [(h, .inr (9, f9)), (hn, .inr (2, fn)), (aI, .inl (cI, 4096, .inl (nA ix)))] [.ref h] (rI (fun r => ∃ r_ : Nat, r = nI r_ ∧ StrOK (2 ^ m) (ixv T m) r_)) := by
  refine ro_of (by decide) rfl (Nat.le_of_ble_eq_true rfl) ?_
  intro pp ee ss mm bb mt cd Q CFx hP hK hret ls hl
  obtain ⟨hex, hby, hml, hown, hts⟩ := id CFx
  have hl : lv_has ls 1 [(0, .ref h)] := hl
  have h26 := p2_6 hm6
  have h46 := p4_6 hm6
  have h4p := p4_pos m
  have h2p := p2_pos m
  refine lv_aload_n hex hby dX9_stretch_0 rfl (lv_at hl 0 rfl) ?_
  refine nv_get (v := .ref hn) CFx in_X9_stretch_X9 hK hP 0 rfl rfl 4 (by decide) (List.mem_of_getElem? (i := 1) rfl) f9_numbering dX9_stretch_1 ?_
  refine ro_Vi (As := []) (rest := []) CFx (c_X2_greatestDifference (h := hn) (aI := aI) (fs := fn) (sd := 2 ^ m) (ix := ix) fn_side fn_I hix (by omega) (by omega)) 0 gX9_stretch_X2_greatestDifference rfl nd_X2_greatestDifference ⟨Nat.le_of_ble_eq_true rfl, Nat.le_of_ble_eq_true rfl⟩ hK hP [1, 2] rfl rfl rfl rfl hl.1 rfl (Nat.le_of_ble_eq_true rfl) dX9_stretch_4 ⟨Nat.le_refl _, Nat.le_refl _⟩ (fun r_1 hr_1 => ?_)
  obtain ⟨r1, rfl, hr1⟩ := hr_1
  exact hret _ _ _ _ (Or.inl ⟨rfl, _, rfl, rfl, dX9_stretch_7⟩) ⟨_, rfl, ⟨r1, rfl, (hN.str hV hm6 hr1)⟩⟩
end CQR
