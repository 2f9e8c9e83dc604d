section CNR
variable {l : Launch} {dC : Nat → ClassId} {dI : Nat → Nat → Nat} {cI cZ cS : ClassId}
theorem nd_X9_sumValue : ndV yX9_sumValue RX9 2 := by decide +kernel
set_option maxHeartbeats 4000000 in
set_option maxRecDepth 100000 in
theorem c_X9_sumValue {v : Int64} {w : Nat}  : RO l yX9_sumValue wsX9_sumValue 0 0 (dC, dI) (tyK cI cZ cS) [] [.long v, .int (nI w)] (rL (fun r => r = mr v w)) := by
  refine ro_of (by decide) rfl (Nat.le_of_ble_eq_true rfl) ?_
  intro pp ee ss mm bb mt cd Q CFx hP hK hret ls hl
  obtain ⟨hex, hby, hml, hown, hts⟩ := id CFx
  have hl : lv_has ls 3 [(0, .long v), (2, .int (nI w))] := hl
  refine lv_ldc2 (v := 31) hex hby hown (hts _ (List.mem_of_getElem? (i := 1) rfl)) dX9_sumValue_0 ?_
  refine lv_lload_n hex hby dX9_sumValue_3 rfl (lv_at hl 0 rfl) ?_
  refine lv_lmul hex hby dX9_sumValue_4 ?_
  refine lv_iload_n hex hby dX9_sumValue_5 rfl (lv_at hl 1 rfl) ?_
  refine lv_i2l hex hby dX9_sumValue_6 rfl ?_
  refine lv_ladd hex hby dX9_sumValue_7 ?_
  exact hret _ _ _ _ (Or.inr (Or.inr (Or.inr (Or.inl ⟨rfl, _, rfl, rfl, dX9_sumValue_8⟩)))) ⟨_, rfl, rfl⟩
theorem nd_X9_neighbours : ndV yX9_neighbours RX9 2 := by decide +kernel
theorem in_X9_neighbours_X7 : ∀ w ∈ wsX70, w ∈ wsX9_neighbours := fun _ h => List.mem_cons_of_mem _ (List.mem_append_left _ (List.mem_append_left _ (List.mem_append_left _ (List.mem_append_right _ (h)))))
theorem in_X9_neighbours_X9 : ∀ w ∈ wsX90, w ∈ wsX9_neighbours := fun _ h => List.mem_cons_of_mem _ (List.mem_append_left _ (List.mem_append_left _ (List.mem_append_left _ (List.mem_append_left _ (List.mem_append_right _ (h))))))
set_option maxHeartbeats 4000000 in
set_option maxRecDepth 100000 in
theorem c_X9_neighbours {h : Nat} {hw : Nat} {hu : Nat} {aB : Nat} {hn : Nat} {aC : Nat} {aI : Nat} {hd : Nat} {aS : Nat} {f9 : List Value} {f5 : List Value} {bs : Nat} {fb : Nat → Nat} {fn : List Value} {g : Nat → Nat} {ix : Nat → Nat} {fd : List Value} {c : Nat} {S : Nat → Nat} {k : Int32} {kz : Int} {s : Int32} {sz : Int} {T : Nat → Nat} {ns : Nat} {m : Nat} {st : Nat → Nat} {lv : Nat → Nat} (f9_now : f9[0]? = some (.ref hw)) (f9_surroundings : f9[6]? = some (.ref hu)) (f5_division : f5[6]? = some (.ref hd)) (fn_side : fn[0]? = some (.int (nI (2 ^ m)))) (fn_C : fn[2]? = some (.ref aC)) (fn_I : fn[3]? = some (.ref aI)) (fdc : fd[0]? = some (.int (nI c))) (faS : fd[1]? = some (.ref aS)) (hkz : k.toInt = kz) (hsz : s.toInt = sz) (hfb : ∀ j, fb j < 4096) (hg : ∀ j, g j < 4096) (hix : ∀ j, ix j < 4096) (hSb : ∀ j, S j < 4097) (hm6 : m ≤ 6) (hV : VT T ns) (hN : NumOK T m g ix) (hL : LvL m c st lv) (hag : ∀ j, j ≤ c → S j = st j) (hc : c ≤ 496) : MU l yX9_neighbours wsX9_neighbours 3 72 (dC, dI) (tyK cI cZ cS) [(h, .inr (9, f9)), (hw, .inr (5, f5)), (hu, .inr (7, [.ref hn, .ref hd, .int (nI bs), .ref aB])), (aB, .inl (cI, 64, .inl (nA fb))), (hn, .inr (2, fn)), (aC, .inl (cI, 4096, .inl (nA g))), (aI, .inl (cI, 4096, .inl (nA ix))), (hd, .inr (1, fd)), (aS, .inl (cI, 497, .inl (nA S)))] [] [.ref h, .int k, .int s] (fun rv_ (u_ : Nat × (Nat → Nat)) => rI (fun r => (∃ n : Nat, ∃ r_ : Nat → Nat, r = nI n ∧ ((0 ≤ kz ∧ kz < (c : Int)) ∧ 0 ≤ sz ∧ sz < 4) ∧ SSt n r_ (Nbr T m c st lv sz.toNat kz.toNat) ∧ (∀ j, u_.2 j < 4096)) ∨ (r = zI (-1) ∧ (¬ ((0 ≤ kz ∧ kz < (c : Int)) ∧ 0 ≤ sz ∧ sz < 4)) ∧ (∀ j, u_.2 j < 4096))) rv_) (fun (u_ : Nat × (Nat → Nat)) => [(h, .inr (9, f9)), (hw, .inr (5, f5)), (hu, .inr (7, [.ref hn, .ref hd, .int (nI u_.1), .ref aB])), (aB, .inl (cI, 64, .inl (nA u_.2))), (hn, .inr (2, fn)), (aC, .inl (cI, 4096, .inl (nA g))), (aI, .inl (cI, 4096, .inl (nA ix))), (hd, .inr (1, fd)), (aS, .inl (cI, 497, .inl (nA S)))]) := by
  refine mu_of (by decide) rfl (Nat.le_of_ble_eq_true rfl) ?_
  intro pp ee ss mm bb mt cd Q A CFx hP hK hD hS hA hTr hret ls hl
  obtain ⟨hex, hby, hml, hown, hts⟩ := id CFx
  have hl : lv_has ls 3 [(0, .ref h), (1, .int k), (2, .int s)] := hl
  have h26 := p2_6 hm6
  have h46 := p4_6 hm6
  have h4p := p4_pos m
  refine lv_aload_n hex hby dX9_neighbours_0 rfl (lv_at hl 0 rfl) ?_
  refine lv_iload_n hex hby dX9_neighbours_1 rfl (lv_at hl 1 rfl) ?_
  refine ro_Vi (As := [.int k]) (rest := []) CFx (c_X9_isLeaf (h := h) (hw := hw) (hd := hd) (f9 := f9) (f5 := f5) (fd := fd) (c := c) (k := k) (kz := k.toInt) f9_now f5_division fdc rfl hc) 1 gX9_neighbours_X9_isLeaf rfl nd_X9_isLeaf ⟨Nat.le_of_ble_eq_true rfl, Nat.le_of_ble_eq_true rfl⟩ hK hP [0, 1, 7] rfl rfl rfl rfl hl.1 rfl (Nat.le_of_ble_eq_true rfl) dX9_neighbours_2 ⟨Nat.le_refl _, Nat.le_refl _⟩ (fun r_1 hr_1 => ?_)
  rcases hr_1 with ⟨rfl, h_2⟩ | ⟨rfl, h_3⟩
  · refine nv_if_eq (tgt := 15) hex hby dX9_neighbours_5 (by decide) (by omega) (fun c => absurd c (by omega)) (fun _ => ?_)
    refine lv_iload_n hex hby dX9_neighbours_8 rfl (lv_at hl 2 rfl) ?_
    refine ro_Si (As := [.int s]) (rest := []) (C := RX9) CFx (c_X9_isSide (s := s) (sz := s.toInt) rfl) 1 gX9_neighbours_X9_isSide rfl nd_X9_isSide ⟨Nat.le_of_ble_eq_true rfl, Nat.le_of_ble_eq_true rfl⟩ hK hP [] rfl rfl hl.1 rfl (Nat.le_of_ble_eq_true rfl) dX9_neighbours_9 ⟨Nat.le_refl _, Nat.le_refl _⟩ (fun r_4 hr_4 => ?_)
    rcases hr_4 with ⟨rfl, h_5⟩ | ⟨rfl, h_6⟩
    · refine nv_if_ne (tgt := 17) hex hby dX9_neighbours_12 (by decide) (by omega) (fun _ => ?_) (fun c => absurd c (by omega))
      obtain ⟨kn, hkn_, rfl, hkne⟩ := ni_of (x := k) (by omega)
      obtain ⟨sn, hsn_, rfl, hsne⟩ := ni_of (x := s) (by omega)
      have hkt : kz.toNat = kn := by omega
      have hst : sz.toNat = sn := by omega
      refine lv_aload_n hex hby dX9_neighbours_17 rfl (lv_at hl 0 rfl) ?_
      refine nv_get (v := .ref hu) CFx in_X9_neighbours_X9 hK hP 0 rfl rfl 6 (by decide) (List.mem_of_getElem? (i := 1) rfl) f9_surroundings dX9_neighbours_18 ?_
      refine lv_iload_n hex hby dX9_neighbours_21 rfl (lv_at hl 1 rfl) ?_
      refine lv_iload_n hex hby dX9_neighbours_22 rfl (lv_at hl 2 rfl) ?_
      refine mu_Vv (As := [.int (nI kn), .int (nI sn)]) (rest := []) (wr := [(h, .inr (9, f9)), (hw, .inr (5, f5))]) CFx (c_X7_findBeyond (hz := hu) (aB := aB) (hn := hn) (aC := aC) (aI := aI) (hd := hd) (aS := aS) (v2 := .int (nI bs)) (fa := fb) (fn := fn) (sd := 2 ^ m) (g := g) (ix := ix) (fd := fd) (c := c) (S := S) (k := kn) (s := sn) (T := T) (ns := ns) (m := m) (st := st) (lv := lv) fn_side fn_C fn_I fdc faS hfb hg hSb hN.1 hV hL hag hc hm6 (by omega) hix rfl hN (by omega)) 2 gX9_neighbours_X7_findBeyond rfl nd_X7_findBeyond ⟨Nat.le_of_ble_eq_true rfl, Nat.le_of_ble_eq_true rfl⟩ hK hP hD hS hA [2, 3, 4, 5, 6, 7, 8] [0, 1] rfl rfl (by decide) (by decide) (by decide) TR.nil rfl rfl rfl hl.1 rfl (Nat.le_of_ble_eq_true rfl) dX9_neighbours_23 ⟨Nat.le_refl _, Nat.le_refl _⟩ (fun u H locs hr_7 hP hD hS => ?_)
      obtain ⟨b1, f1⟩ := u
      dsimp only at hr_7 hP hD
      have hP : va_P (dC, dI) vwCl [(h, .inr (9, f9)), (hw, .inr (5, f5)), (hu, .inr (7, [.ref hn, .ref hd, .int (nI b1), .ref aB])), (aB, .inl (cI, 64, .inl (nA f1))), (hn, .inr (2, fn)), (aC, .inl (cI, 4096, .inl (nA g))), (aI, .inl (cI, 4096, .inl (nA ix))), (hd, .inr (1, fd)), (aS, .inl (cI, 497, .inl (nA S)))] H := hP
      have hD : va_D A [(h, .inr (9, f9)), (hw, .inr (5, f5)), (hu, .inr (7, [.ref hn, .ref hd, .int (nI b1), .ref aB])), (aB, .inl (cI, 64, .inl (nA f1))), (hn, .inr (2, fn)), (aC, .inl (cI, 4096, .inl (nA g))), (aI, .inl (cI, 4096, .inl (nA ix))), (hd, .inr (1, fd)), (aS, .inl (cI, 497, .inl (nA S)))] := hD
      obtain ⟨hss, hfb1, hb64⟩ := hr_7
      refine lv_aload_n hex hby dX9_neighbours_26 rfl (lv_at hl 0 rfl) ?_
      refine nv_get (v := .ref hu) CFx in_X9_neighbours_X9 hK hP 0 rfl rfl 6 (by decide) (List.mem_of_getElem? (i := 1) rfl) f9_surroundings dX9_neighbours_27 ?_
      refine nv_get (v := .int (nI b1)) CFx in_X9_neighbours_X7 hK hP 2 rfl rfl 2 (by decide) (List.mem_of_getElem? (i := 2) rfl) rfl dX9_neighbours_30 ?_
      exact hret _ (b1, f1) _ _ _ _ _ (Or.inl ⟨rfl, _, rfl, rfl, dX9_neighbours_33⟩) ⟨_, rfl, Or.inl ⟨b1, f1, rfl, (by omega), (by rw [hkt, hst]; exact hss), hfb1⟩⟩ hP hD hS
    · refine nv_if_ne (tgt := 17) hex hby dX9_neighbours_12 (by decide) (by omega) (fun c => absurd c (by omega)) (fun _ => ?_)
      refine lv_iconst (v := zI (-1)) hex hby dX9_neighbours_15 rfl ?_
      exact hret _ (bs, fb) _ _ _ _ _ (Or.inl ⟨rfl, _, rfl, rfl, dX9_neighbours_16⟩) ⟨_, rfl, Or.inr ⟨rfl, (by omega), hfb⟩⟩ hP hD hS
  · refine nv_if_eq (tgt := 15) hex hby dX9_neighbours_5 (by decide) (by omega) (fun _ => ?_) (fun c => absurd c (by omega))
    refine lv_iconst (v := zI (-1)) hex hby dX9_neighbours_15 rfl ?_
    exact hret _ (bs, fb) _ _ _ _ _ (Or.inl ⟨rfl, _, rfl, rfl, dX9_neighbours_16⟩) ⟨_, rfl, Or.inr ⟨rfl, (by omega), hfb⟩⟩ hP hD hS
theorem nd_X9_neighbour : ndV yX9_neighbour RX9 3 := by decide +kernel
theorem in_X9_neighbour_X7 : ∀ w ∈ wsX70, w ∈ wsX9_neighbour := fun _ h => List.mem_cons_of_mem _ (List.mem_append_left _ (List.mem_append_left _ (List.mem_append_left _ (List.mem_append_right _ (h)))))
theorem in_X9_neighbour_X9 : ∀ w ∈ wsX90, w ∈ wsX9_neighbour := fun _ h => List.mem_cons_of_mem _ (List.mem_append_left _ (List.mem_append_left _ (List.mem_append_left _ (List.mem_append_left _ (List.mem_append_right _ (h))))))
set_option maxHeartbeats 4000000 in
set_option maxRecDepth 100000 in
theorem c_X9_neighbour {h : Nat} {hw : Nat} {hu : Nat} {aB : Nat} {hn : Nat} {aC : Nat} {aI : Nat} {hd : Nat} {aS : Nat} {f9 : List Value} {f5 : List Value} {bs : Nat} {fb : Nat → Nat} {fn : List Value} {g : Nat → Nat} {ix : Nat → Nat} {fd : List Value} {c : Nat} {S : Nat → Nat} {k : Int32} {kz : Int} {s : Int32} {sz : Int} {q : Int32} {qz : Int} {T : Nat → Nat} {ns : Nat} {m : Nat} {st : Nat → Nat} {lv : Nat → Nat} (f9_now : f9[0]? = some (.ref hw)) (f9_surroundings : f9[6]? = some (.ref hu)) (f5_division : f5[6]? = some (.ref hd)) (fn_side : fn[0]? = some (.int (nI (2 ^ m)))) (fn_C : fn[2]? = some (.ref aC)) (fn_I : fn[3]? = some (.ref aI)) (fdc : fd[0]? = some (.int (nI c))) (faS : fd[1]? = some (.ref aS)) (hkz : k.toInt = kz) (hsz : s.toInt = sz) (hqz : q.toInt = qz) (hfb : ∀ j, fb j < 4096) (hg : ∀ j, g j < 4096) (hix : ∀ j, ix j < 4096) (hSb : ∀ j, S j < 4097) (hm6 : m ≤ 6) (hV : VT T ns) (hN : NumOK T m g ix) (hL : LvL m c st lv) (hag : ∀ j, j ≤ c → S j = st j) (hc : c ≤ 496) : MU l yX9_neighbour wsX9_neighbour 3 72 (dC, dI) (tyK cI cZ cS) [(h, .inr (9, f9)), (hw, .inr (5, f5)), (hu, .inr (7, [.ref hn, .ref hd, .int (nI bs), .ref aB])), (aB, .inl (cI, 64, .inl (nA fb))), (hn, .inr (2, fn)), (aC, .inl (cI, 4096, .inl (nA g))), (aI, .inl (cI, 4096, .inl (nA ix))), (hd, .inr (1, fd)), (aS, .inl (cI, 497, .inl (nA S)))] [] [.ref h, .int k, .int s, .int q] (fun rv_ (u_ : Nat × (Nat → Nat)) => rI (fun r => (∃ v : Nat, ∃ n : Nat, ∃ r_ : Nat → Nat, r = nI v ∧ ((0 ≤ kz ∧ kz < (c : Int)) ∧ (0 ≤ sz ∧ sz < 4) ∧ 0 ≤ qz) ∧ SSt n r_ (Nbr T m c st lv sz.toNat kz.toNat) ∧ qz < (n : Int) ∧ v = r_ qz.toNat ∧ (∀ j, u_.2 j < 4096)) ∨ (r = zI (-1) ∧ (¬ ((0 ≤ kz ∧ kz < (c : Int)) ∧ (0 ≤ sz ∧ sz < 4) ∧ 0 ≤ qz)) ∧ (∀ j, u_.2 j < 4096)) ∨ (∃ n : Nat, ∃ r_ : Nat → Nat, r = zI (-5) ∧ ((0 ≤ kz ∧ kz < (c : Int)) ∧ (0 ≤ sz ∧ sz < 4) ∧ 0 ≤ qz) ∧ SSt n r_ (Nbr T m c st lv sz.toNat kz.toNat) ∧ (n : Int) ≤ qz ∧ (∀ j, u_.2 j < 4096))) rv_) (fun (u_ : Nat × (Nat → Nat)) => [(h, .inr (9, f9)), (hw, .inr (5, f5)), (hu, .inr (7, [.ref hn, .ref hd, .int (nI u_.1), .ref aB])), (aB, .inl (cI, 64, .inl (nA u_.2))), (hn, .inr (2, fn)), (aC, .inl (cI, 4096, .inl (nA g))), (aI, .inl (cI, 4096, .inl (nA ix))), (hd, .inr (1, fd)), (aS, .inl (cI, 497, .inl (nA S)))]) := by
  refine mu_of (by decide) rfl (Nat.le_of_ble_eq_true rfl) ?_
  intro pp ee ss mm bb mt cd Q A CFx hP hK hD hS hA hTr hret ls hl
  obtain ⟨hex, hby, hml, hown, hts⟩ := id CFx
  have hl : lv_has ls 4 [(0, .ref h), (1, .int k), (2, .int s), (3, .int q)] := hl
  have h26 := p2_6 hm6
  have h46 := p4_6 hm6
  have h4p := p4_pos m
  refine lv_aload_n hex hby dX9_neighbour_0 rfl (lv_at hl 0 rfl) ?_
  refine lv_iload_n hex hby dX9_neighbour_1 rfl (lv_at hl 1 rfl) ?_
  refine ro_Vi (As := [.int k]) (rest := []) CFx (c_X9_isLeaf (h := h) (hw := hw) (hd := hd) (f9 := f9) (f5 := f5) (fd := fd) (c := c) (k := k) (kz := k.toInt) f9_now f5_division fdc rfl hc) 1 gX9_neighbour_X9_isLeaf rfl nd_X9_isLeaf ⟨Nat.le_of_ble_eq_true rfl, Nat.le_of_ble_eq_true rfl⟩ hK hP [0, 1, 7] rfl rfl rfl rfl hl.1 rfl (Nat.le_of_ble_eq_true rfl) dX9_neighbour_2 ⟨Nat.le_refl _, Nat.le_refl _⟩ (fun r_1 hr_1 => ?_)
  rcases hr_1 with ⟨rfl, h_2⟩ | ⟨rfl, h_3⟩
  · refine nv_if_eq (tgt := 19) hex hby dX9_neighbour_5 (by decide) (by omega) (fun c => absurd c (by omega)) (fun _ => ?_)
    refine lv_iload_n hex hby dX9_neighbour_8 rfl (lv_at hl 2 rfl) ?_
    refine ro_Si (As := [.int s]) (rest := []) (C := RX9) CFx (c_X9_isSide (s := s) (sz := s.toInt) rfl) 1 gX9_neighbour_X9_isSide rfl nd_X9_isSide ⟨Nat.le_of_ble_eq_true rfl, Nat.le_of_ble_eq_true rfl⟩ hK hP [] rfl rfl hl.1 rfl (Nat.le_of_ble_eq_true rfl) dX9_neighbour_9 ⟨Nat.le_refl _, Nat.le_refl _⟩ (fun r_4 hr_4 => ?_)
    rcases hr_4 with ⟨rfl, h_5⟩ | ⟨rfl, h_6⟩
    · refine nv_if_eq (tgt := 19) hex hby dX9_neighbour_12 (by decide) (by omega) (fun c => absurd c (by omega)) (fun _ => ?_)
      refine lv_iload_n hex hby dX9_neighbour_15 rfl (lv_at hl 3 rfl) ?_
      refine ni_if_ge (tgt := 21) (a := q.toInt) hex hby dX9_neighbour_16 (by decide) rfl (fun c_7 => ?_) (fun c_7 => ?_)
      · obtain ⟨kn, hkn_, rfl, hkne⟩ := ni_of (x := k) (by omega)
        obtain ⟨sn, hsn_, rfl, hsne⟩ := ni_of (x := s) (by omega)
        have hkt : kz.toNat = kn := by omega
        have hst : sz.toNat = sn := by omega
        obtain ⟨qn, hqn_, rfl, hqne⟩ := ni_of (x := q) (by omega)
        have hqt : qz.toNat = qn := by omega
        refine lv_aload_n hex hby dX9_neighbour_21 rfl (lv_at hl 0 rfl) ?_
        refine nv_get (v := .ref hu) CFx in_X9_neighbour_X9 hK hP 0 rfl rfl 6 (by decide) (List.mem_of_getElem? (i := 1) rfl) f9_surroundings dX9_neighbour_22 ?_
        refine lv_iload_n hex hby dX9_neighbour_25 rfl (lv_at hl 1 rfl) ?_
        refine lv_iload_n hex hby dX9_neighbour_26 rfl (lv_at hl 2 rfl) ?_
        refine mu_Vv (As := [.int (nI kn), .int (nI sn)]) (rest := []) (wr := [(h, .inr (9, f9)), (hw, .inr (5, f5))]) CFx (c_X7_findBeyond (hz := hu) (aB := aB) (hn := hn) (aC := aC) (aI := aI) (hd := hd) (aS := aS) (v2 := .int (nI bs)) (fa := fb) (fn := fn) (sd := 2 ^ m) (g := g) (ix := ix) (fd := fd) (c := c) (S := S) (k := kn) (s := sn) (T := T) (ns := ns) (m := m) (st := st) (lv := lv) fn_side fn_C fn_I fdc faS hfb hg hSb hN.1 hV hL hag hc hm6 (by omega) hix rfl hN (by omega)) 2 gX9_neighbour_X7_findBeyond rfl nd_X7_findBeyond ⟨Nat.le_of_ble_eq_true rfl, Nat.le_of_ble_eq_true rfl⟩ hK hP hD hS hA [2, 3, 4, 5, 6, 7, 8] [0, 1] rfl rfl (by decide) (by decide) (by decide) TR.nil rfl rfl rfl hl.1 rfl (Nat.le_of_ble_eq_true rfl) dX9_neighbour_27 ⟨Nat.le_refl _, Nat.le_refl _⟩ (fun u H locs hr_8 hP hD hS => ?_)
        obtain ⟨b1, f1⟩ := u
        dsimp only at hr_8 hP hD
        have hP : va_P (dC, dI) vwCl [(h, .inr (9, f9)), (hw, .inr (5, f5)), (hu, .inr (7, [.ref hn, .ref hd, .int (nI b1), .ref aB])), (aB, .inl (cI, 64, .inl (nA f1))), (hn, .inr (2, fn)), (aC, .inl (cI, 4096, .inl (nA g))), (aI, .inl (cI, 4096, .inl (nA ix))), (hd, .inr (1, fd)), (aS, .inl (cI, 497, .inl (nA S)))] H := hP
        have hD : va_D A [(h, .inr (9, f9)), (hw, .inr (5, f5)), (hu, .inr (7, [.ref hn, .ref hd, .int (nI b1), .ref aB])), (aB, .inl (cI, 64, .inl (nA f1))), (hn, .inr (2, fn)), (aC, .inl (cI, 4096, .inl (nA g))), (aI, .inl (cI, 4096, .inl (nA ix))), (hd, .inr (1, fd)), (aS, .inl (cI, 497, .inl (nA S)))] := hD
        obtain ⟨hss, hfb1, hb64⟩ := hr_8
        refine lv_iload_n hex hby dX9_neighbour_30 rfl (lv_at hl 3 rfl) ?_
        refine lv_aload_n hex hby dX9_neighbour_31 rfl (lv_at hl 0 rfl) ?_
        refine nv_get (v := .ref hu) CFx in_X9_neighbour_X9 hK hP 0 rfl rfl 6 (by decide) (List.mem_of_getElem? (i := 1) rfl) f9_surroundings dX9_neighbour_32 ?_
        refine nv_get (v := .int (nI b1)) CFx in_X9_neighbour_X7 hK hP 2 rfl rfl 2 (by decide) (List.mem_of_getElem? (i := 2) rfl) rfl dX9_neighbour_35 ?_
        refine nv_icmp_ge (tgt := 53) hex hby dX9_neighbour_38 (by decide) (by omega) (by omega) (fun c_11 => ?_) (fun c_11 => ?_)
        · refine lv_bipush (v := zI (-5)) hex hby dX9_neighbour_53 rfl ?_
          exact hret _ (b1, f1) _ _ _ _ _ (Or.inl ⟨rfl, _, rfl, rfl, dX9_neighbour_55⟩) ⟨_, rfl, Or.inr (Or.inr (⟨b1, f1, rfl, (by omega), (by rw [hkt, hst]; exact hss), (by omega), hfb1⟩))⟩ hP hD hS
        · refine lv_aload_n hex hby dX9_neighbour_41 rfl (lv_at hl 0 rfl) ?_
          refine nv_get (v := .ref hu) CFx in_X9_neighbour_X9 hK hP 0 rfl rfl 6 (by decide) (List.mem_of_getElem? (i := 1) rfl) f9_surroundings dX9_neighbour_42 ?_
          refine nv_get (v := .ref aB) CFx in_X9_neighbour_X7 hK hP 2 rfl rfl 3 (by decide) (List.mem_of_getElem? (i := 3) rfl) rfl dX9_neighbour_45 ?_
          refine lv_iload_n hex hby dX9_neighbour_48 rfl (lv_at hl 3 rfl) ?_
          refine nv_iald hex hby hK hP 3 0 rfl rfl (by omega) (by omega) dX9_neighbour_49 ?_
          have hb_12 := hfb1 qn
          refine lv_goto (tgt := 55) hex hby dX9_neighbour_50 (by decide) ?_
          exact hret _ (b1, f1) _ _ _ _ _ (Or.inl ⟨rfl, _, rfl, rfl, dX9_neighbour_55⟩) ⟨_, rfl, Or.inl ⟨(f1 qn), b1, f1, rfl, (by omega), (by rw [hkt, hst]; exact hss), (by omega), (by rw [hqt]), hfb1⟩⟩ hP hD hS
      · refine lv_iconst (v := zI (-1)) hex hby dX9_neighbour_19 rfl ?_
        exact hret _ (bs, fb) _ _ _ _ _ (Or.inl ⟨rfl, _, rfl, rfl, dX9_neighbour_20⟩) ⟨_, rfl, Or.inr (Or.inl ⟨rfl, (by omega), hfb⟩)⟩ hP hD hS
    · refine nv_if_eq (tgt := 19) hex hby dX9_neighbour_12 (by decide) (by omega) (fun _ => ?_) (fun c => absurd c (by omega))
      refine lv_iconst (v := zI (-1)) hex hby dX9_neighbour_19 rfl ?_
      exact hret _ (bs, fb) _ _ _ _ _ (Or.inl ⟨rfl, _, rfl, rfl, dX9_neighbour_20⟩) ⟨_, rfl, Or.inr (Or.inl ⟨rfl, (by omega), hfb⟩)⟩ hP hD hS
  · refine nv_if_eq (tgt := 19) hex hby dX9_neighbour_5 (by decide) (by omega) (fun _ => ?_) (fun c => absurd c (by omega))
    refine lv_iconst (v := zI (-1)) hex hby dX9_neighbour_19 rfl ?_
    exact hret _ (bs, fb) _ _ _ _ _ (Or.inl ⟨rfl, _, rfl, rfl, dX9_neighbour_20⟩) ⟨_, rfl, Or.inr (Or.inl ⟨rfl, (by omega), hfb⟩)⟩ hP hD hS
theorem nd_X9_walk : ndV yX9_walk RX9 2 := by decide +kernel
theorem in_X9_walk_X9 : ∀ w ∈ wsX90, w ∈ wsX9_walk := fun _ h => List.mem_cons_of_mem _ (List.mem_append_left _ (List.mem_append_left _ (List.mem_append_left _ (List.mem_append_left _ (List.mem_append_right _ (h))))))
set_option maxHeartbeats 4000000 in
set_option maxRecDepth 100000 in
theorem c_X9_walk {h : Nat} {hw : Nat} {hu : Nat} {aB : Nat} {hn : Nat} {aC : Nat} {aI : Nat} {hd : Nat} {aS : Nat} {f9 : List Value} {f5 : List Value} {bs : Nat} {fb : Nat → Nat} {fn : List Value} {g : Nat → Nat} {ix : Nat → Nat} {fd : List Value} {c : Nat} {S : Nat → Nat} {k : Int32} {kz : Int} {s : Int32} {sz : Int} {T : Nat → Nat} {ns : Nat} {m : Nat} {st : Nat → Nat} {lv : Nat → Nat} (f9_now : f9[0]? = some (.ref hw)) (f9_surroundings : f9[6]? = some (.ref hu)) (f5_division : f5[6]? = some (.ref hd)) (fn_side : fn[0]? = some (.int (nI (2 ^ m)))) (fn_C : fn[2]? = some (.ref aC)) (fn_I : fn[3]? = some (.ref aI)) (fdc : fd[0]? = some (.int (nI c))) (faS : fd[1]? = some (.ref aS)) (hkz : k.toInt = kz) (hsz : s.toInt = sz) (hfb : ∀ j, fb j < 4096) (hg : ∀ j, g j < 4096) (hix : ∀ j, ix j < 4096) (hSb : ∀ j, S j < 4097) (hm6 : m ≤ 6) (hV : VT T ns) (hN : NumOK T m g ix) (hL : LvL m c st lv) (hag : ∀ j, j ≤ c → S j = st j) (hc : c ≤ 496) : MU l yX9_walk wsX9_walk 5 118 (dC, dI) (tyK cI cZ cS) [(h, .inr (9, f9)), (hw, .inr (5, f5)), (hu, .inr (7, [.ref hn, .ref hd, .int (nI bs), .ref aB])), (aB, .inl (cI, 64, .inl (nA fb))), (hn, .inr (2, fn)), (aC, .inl (cI, 4096, .inl (nA g))), (aI, .inl (cI, 4096, .inl (nA ix))), (hd, .inr (1, fd)), (aS, .inl (cI, 497, .inl (nA S)))] [] [.ref h, .int k, .int s] (fun rv_ (u_ : Nat × (Nat → Nat)) => rI (fun r => (∃ n : Nat, r = nI n ∧ ((0 ≤ kz ∧ kz < (c : Int)) ∧ 0 ≤ sz ∧ sz < 4) ∧ WKend T m c st lv sz.toNat n kz.toNat ∧ (∀ j, u_.2 j < 4096)) ∨ (r = zI (-1) ∧ (¬ ((0 ≤ kz ∧ kz < (c : Int)) ∧ 0 ≤ sz ∧ sz < 4)) ∧ (∀ j, u_.2 j < 4096))) rv_) (fun (u_ : Nat × (Nat → Nat)) => [(h, .inr (9, f9)), (hw, .inr (5, f5)), (hu, .inr (7, [.ref hn, .ref hd, .int (nI u_.1), .ref aB])), (aB, .inl (cI, 64, .inl (nA u_.2))), (hn, .inr (2, fn)), (aC, .inl (cI, 4096, .inl (nA g))), (aI, .inl (cI, 4096, .inl (nA ix))), (hd, .inr (1, fd)), (aS, .inl (cI, 497, .inl (nA S)))]) := by
  refine mu_of (by decide) rfl (Nat.le_of_ble_eq_true rfl) ?_
  intro pp ee ss mm bb mt cd Q A CFx hP hK hD hS hA hTr hret ls hl
  obtain ⟨hex, hby, hml, hown, hts⟩ := id CFx
  have hl : lv_has ls 3 [(0, .ref h), (1, .int k), (2, .int s)] := hl
  have h26 := p2_6 hm6
  have h46 := p4_6 hm6
  have h4p := p4_pos m
  refine lv_aload_n hex hby dX9_walk_0 rfl (lv_at hl 0 rfl) ?_
  refine lv_iload_n hex hby dX9_walk_1 rfl (lv_at hl 1 rfl) ?_
  refine ro_Vi (As := [.int k]) (rest := []) CFx (c_X9_isLeaf (h := h) (hw := hw) (hd := hd) (f9 := f9) (f5 := f5) (fd := fd) (c := c) (k := k) (kz := k.toInt) f9_now f5_division fdc rfl hc) 1 gX9_walk_X9_isLeaf rfl nd_X9_isLeaf ⟨Nat.le_of_ble_eq_true rfl, Nat.le_of_ble_eq_true rfl⟩ hK hP [0, 1, 7] rfl rfl rfl rfl hl.1 rfl (Nat.le_of_ble_eq_true rfl) dX9_walk_2 ⟨Nat.le_refl _, Nat.le_refl _⟩ (fun r_1 hr_1 => ?_)
  rcases hr_1 with ⟨rfl, h_2⟩ | ⟨rfl, h_3⟩
  · refine nv_if_eq (tgt := 27) hex hby dX9_walk_5 (by decide) (by omega) (fun c => absurd c (by omega)) (fun _ => ?_)
    refine lv_iload_n hex hby dX9_walk_8 rfl (lv_at hl 2 rfl) ?_
    refine ro_Si (As := [.int s]) (rest := []) (C := RX9) CFx (c_X9_isSide (s := s) (sz := s.toInt) rfl) 1 gX9_walk_X9_isSide rfl nd_X9_isSide ⟨Nat.le_of_ble_eq_true rfl, Nat.le_of_ble_eq_true rfl⟩ hK hP [] rfl rfl hl.1 rfl (Nat.le_of_ble_eq_true rfl) dX9_walk_9 ⟨Nat.le_refl _, Nat.le_refl _⟩ (fun r_4 hr_4 => ?_)
    rcases hr_4 with ⟨rfl, h_5⟩ | ⟨rfl, h_6⟩
    · refine nv_if_eq (tgt := 27) hex hby dX9_walk_12 (by decide) (by omega) (fun c => absurd c (by omega)) (fun _ => ?_)
      obtain ⟨kn, hkn_, rfl, hkne⟩ := ni_of (x := k) (by omega)
      obtain ⟨sn, hsn_, rfl, hsne⟩ := ni_of (x := s) (by omega)
      have hkt : kz.toNat = kn := by omega
      have hst : sz.toNat = sn := by omega
      refine lv_aload_n hex hby dX9_walk_15 rfl (lv_at hl 0 rfl) ?_
      refine nv_get (v := .ref hu) CFx in_X9_walk_X9 hK hP 0 rfl rfl 6 (by decide) (List.mem_of_getElem? (i := 1) rfl) f9_surroundings dX9_walk_16 ?_
      refine lv_iload_n hex hby dX9_walk_19 rfl (lv_at hl 1 rfl) ?_
      refine lv_iload_n hex hby dX9_walk_20 rfl (lv_at hl 2 rfl) ?_
      refine mu_Vi (As := [.int (nI kn), .int (nI sn)]) (rest := []) (wr := [(h, .inr (9, f9)), (hw, .inr (5, f5))]) CFx (c_X7_countSteps (hz := hu) (aB := aB) (hn := hn) (aC := aC) (aI := aI) (hd := hd) (aS := aS) (bs := bs) (f := fb) (fn := fn) (sd := 2 ^ m) (g := g) (ix := ix) (fd := fd) (c := c) (S := S) (k := kn) (s := sn) (T := T) (ns := ns) (m := m) (st := st) (lv := lv) fn_side fn_C fn_I fdc faS hfb hg hSb hN.1 hV hL hag hc hm6 (by omega) hix rfl hN (by omega)) 2 gX9_walk_X7_countSteps rfl nd_X7_countSteps ⟨Nat.le_of_ble_eq_true rfl, Nat.le_of_ble_eq_true rfl⟩ hK hP hD hS hA [2, 3, 4, 5, 6, 7, 8] [0, 1] rfl rfl (by decide) (by decide) (by decide) TR.nil rfl rfl rfl hl.1 rfl (Nat.le_of_ble_eq_true rfl) dX9_walk_21 ⟨Nat.le_refl _, Nat.le_refl _⟩ (fun r_7 u H locs hr_7 hP hD hS => ?_)
      obtain ⟨b1, f1⟩ := u
      dsimp only at hr_7 hP hD
      have hP : va_P (dC, dI) vwCl [(h, .inr (9, f9)), (hw, .inr (5, f5)), (hu, .inr (7, [.ref hn, .ref hd, .int (nI b1), .ref aB])), (aB, .inl (cI, 64, .inl (nA f1))), (hn, .inr (2, fn)), (aC, .inl (cI, 4096, .inl (nA g))), (aI, .inl (cI, 4096, .inl (nA ix))), (hd, .inr (1, fd)), (aS, .inl (cI, 497, .inl (nA S)))] H := hP
      have hD : va_D A [(h, .inr (9, f9)), (hw, .inr (5, f5)), (hu, .inr (7, [.ref hn, .ref hd, .int (nI b1), .ref aB])), (aB, .inl (cI, 64, .inl (nA f1))), (hn, .inr (2, fn)), (aC, .inl (cI, 4096, .inl (nA g))), (aI, .inl (cI, 4096, .inl (nA ix))), (hd, .inr (1, fd)), (aS, .inl (cI, 497, .inl (nA S)))] := hD
      obtain ⟨n1, rfl, hwe, hfb1⟩ := hr_7
      refine lv_goto (tgt := 28) hex hby dX9_walk_24 (by decide) ?_
      exact hret _ (b1, f1) _ _ _ _ _ (Or.inl ⟨rfl, _, rfl, rfl, dX9_walk_28⟩) ⟨_, rfl, Or.inl ⟨n1, rfl, (by omega), (by rw [hkt, hst]; exact hwe), hfb1⟩⟩ hP hD hS
    · refine nv_if_eq (tgt := 27) hex hby dX9_walk_12 (by decide) (by omega) (fun _ => ?_) (fun c => absurd c (by omega))
      refine lv_iconst (v := zI (-1)) hex hby dX9_walk_27 rfl ?_
      exact hret _ (bs, fb) _ _ _ _ _ (Or.inl ⟨rfl, _, rfl, rfl, dX9_walk_28⟩) ⟨_, rfl, Or.inr ⟨rfl, (by omega), hfb⟩⟩ hP hD hS
  · refine nv_if_eq (tgt := 27) hex hby dX9_walk_5 (by decide) (by omega) (fun _ => ?_) (fun c => absurd c (by omega))
    refine lv_iconst (v := zI (-1)) hex hby dX9_walk_27 rfl ?_
    exact hret _ (bs, fb) _ _ _ _ _ (Or.inl ⟨rfl, _, rfl, rfl, dX9_walk_28⟩) ⟨_, rfl, Or.inr ⟨rfl, (by omega), hfb⟩⟩ hP hD hS
theorem nd_X9_walked : ndV yX9_walked RX9 3 := by decide +kernel
theorem in_X9_walked_X9 : ∀ w ∈ wsX90, w ∈ wsX9_walked := fun _ h => List.mem_cons_of_mem _ (List.mem_append_left _ (List.mem_append_left _ (List.mem_append_left _ (List.mem_append_left _ (List.mem_append_right _ (h))))))
set_option maxHeartbeats 4000000 in
set_option maxRecDepth 100000 in
theorem c_X9_walked {h : Nat} {hw : Nat} {hu : Nat} {aB : Nat} {hn : Nat} {aC : Nat} {aI : Nat} {hd : Nat} {aS : Nat} {f9 : List Value} {f5 : List Value} {bs : Nat} {fb : Nat → Nat} {fn : List Value} {g : Nat → Nat} {ix : Nat → Nat} {fd : List Value} {c : Nat} {S : Nat → Nat} {k : Int32} {kz : Int} {s : Int32} {sz : Int} {q : Int32} {qz : Int} {T : Nat → Nat} {ns : Nat} {m : Nat} {st : Nat → Nat} {lv : Nat → Nat} (f9_now : f9[0]? = some (.ref hw)) (f9_surroundings : f9[6]? = some (.ref hu)) (f5_division : f5[6]? = some (.ref hd)) (fn_side : fn[0]? = some (.int (nI (2 ^ m)))) (fn_C : fn[2]? = some (.ref aC)) (fn_I : fn[3]? = some (.ref aI)) (fdc : fd[0]? = some (.int (nI c))) (faS : fd[1]? = some (.ref aS)) (hkz : k.toInt = kz) (hsz : s.toInt = sz) (hqz : q.toInt = qz) (hfb : ∀ j, fb j < 4096) (hg : ∀ j, g j < 4096) (hix : ∀ j, ix j < 4096) (hSb : ∀ j, S j < 4097) (hm6 : m ≤ 6) (hV : VT T ns) (hN : NumOK T m g ix) (hL : LvL m c st lv) (hag : ∀ j, j ≤ c → S j = st j) (hc : c ≤ 496) : MU l yX9_walked wsX9_walked 5 120 (dC, dI) (tyK cI cZ cS) [(h, .inr (9, f9)), (hw, .inr (5, f5)), (hu, .inr (7, [.ref hn, .ref hd, .int (nI bs), .ref aB])), (aB, .inl (cI, 64, .inl (nA fb))), (hn, .inr (2, fn)), (aC, .inl (cI, 4096, .inl (nA g))), (aI, .inl (cI, 4096, .inl (nA ix))), (hd, .inr (1, fd)), (aS, .inl (cI, 497, .inl (nA S)))] [] [.ref h, .int k, .int s, .int q] (fun rv_ (u_ : Nat × (Nat → Nat)) => rI (fun r => (∃ v : Nat, r = nI v ∧ ((0 ≤ kz ∧ kz < (c : Int)) ∧ (0 ≤ sz ∧ sz < 4) ∧ 0 ≤ qz) ∧ WK T m c st lv sz.toNat qz.toNat kz.toNat v ∧ (∀ j, u_.2 j < 4096)) ∨ (r = zI (-1) ∧ (¬ ((0 ≤ kz ∧ kz < (c : Int)) ∧ (0 ≤ sz ∧ sz < 4) ∧ 0 ≤ qz)) ∧ (∀ j, u_.2 j < 4096)) ∨ (r = zI (-5) ∧ ((0 ≤ kz ∧ kz < (c : Int)) ∧ (0 ≤ sz ∧ sz < 4) ∧ 0 ≤ qz) ∧ WKlt T m c st lv sz.toNat kz.toNat qz.toNat ∧ (∀ j, u_.2 j < 4096))) rv_) (fun (u_ : Nat × (Nat → Nat)) => [(h, .inr (9, f9)), (hw, .inr (5, f5)), (hu, .inr (7, [.ref hn, .ref hd, .int (nI u_.1), .ref aB])), (aB, .inl (cI, 64, .inl (nA u_.2))), (hn, .inr (2, fn)), (aC, .inl (cI, 4096, .inl (nA g))), (aI, .inl (cI, 4096, .inl (nA ix))), (hd, .inr (1, fd)), (aS, .inl (cI, 497, .inl (nA S)))]) := by
  refine mu_of (by decide) rfl (Nat.le_of_ble_eq_true rfl) ?_
  intro pp ee ss mm bb mt cd Q A CFx hP hK hD hS hA hTr hret ls hl
  obtain ⟨hex, hby, hml, hown, hts⟩ := id CFx
  have hl : lv_has ls 5 [(0, .ref h), (1, .int k), (2, .int s), (3, .int q)] := hl
  have h26 := p2_6 hm6
  have h46 := p4_6 hm6
  have h4p := p4_pos m
  refine lv_aload_n hex hby dX9_walked_0 rfl (lv_at hl 0 rfl) ?_
  refine lv_iload_n hex hby dX9_walked_1 rfl (lv_at hl 1 rfl) ?_
  refine ro_Vi (As := [.int k]) (rest := []) CFx (c_X9_isLeaf (h := h) (hw := hw) (hd := hd) (f9 := f9) (f5 := f5) (fd := fd) (c := c) (k := k) (kz := k.toInt) f9_now f5_division fdc rfl hc) 1 gX9_walked_X9_isLeaf rfl nd_X9_isLeaf ⟨Nat.le_of_ble_eq_true rfl, Nat.le_of_ble_eq_true rfl⟩ hK hP [0, 1, 7] rfl rfl rfl rfl hl.1 rfl (Nat.le_of_ble_eq_true rfl) dX9_walked_2 ⟨Nat.le_refl _, Nat.le_refl _⟩ (fun r_1 hr_1 => ?_)
  rcases hr_1 with ⟨rfl, h_2⟩ | ⟨rfl, h_3⟩
  · refine nv_if_eq (tgt := 19) hex hby dX9_walked_5 (by decide) (by omega) (fun c => absurd c (by omega)) (fun _ => ?_)
    refine lv_iload_n hex hby dX9_walked_8 rfl (lv_at hl 2 rfl) ?_
    refine ro_Si (As := [.int s]) (rest := []) (C := RX9) CFx (c_X9_isSide (s := s) (sz := s.toInt) rfl) 1 gX9_walked_X9_isSide rfl nd_X9_isSide ⟨Nat.le_of_ble_eq_true rfl, Nat.le_of_ble_eq_true rfl⟩ hK hP [] rfl rfl hl.1 rfl (Nat.le_of_ble_eq_true rfl) dX9_walked_9 ⟨Nat.le_refl _, Nat.le_refl _⟩ (fun r_4 hr_4 => ?_)
    rcases hr_4 with ⟨rfl, h_5⟩ | ⟨rfl, h_6⟩
    · refine nv_if_eq (tgt := 19) hex hby dX9_walked_12 (by decide) (by omega) (fun c => absurd c (by omega)) (fun _ => ?_)
      refine lv_iload_n hex hby dX9_walked_15 rfl (lv_at hl 3 rfl) ?_
      refine ni_if_ge (tgt := 21) (a := q.toInt) hex hby dX9_walked_16 (by decide) rfl (fun c_7 => ?_) (fun c_7 => ?_)
      · obtain ⟨kn, hkn_, rfl, hkne⟩ := ni_of (x := k) (by omega)
        obtain ⟨sn, hsn_, rfl, hsne⟩ := ni_of (x := s) (by omega)
        have hkt : kz.toNat = kn := by omega
        have hst : sz.toNat = sn := by omega
        obtain ⟨qn, hqn_, rfl, hqne⟩ := ni_of (x := q) (by omega)
        have hqt : qz.toNat = qn := by omega
        refine lv_aload_n hex hby dX9_walked_21 rfl (lv_at hl 0 rfl) ?_
        refine nv_get (v := .ref hu) CFx in_X9_walked_X9 hK hP 0 rfl rfl 6 (by decide) (List.mem_of_getElem? (i := 1) rfl) f9_surroundings dX9_walked_22 ?_
        refine lv_iload_n hex hby dX9_walked_25 rfl (lv_at hl 1 rfl) ?_
        refine lv_iload_n hex hby dX9_walked_26 rfl (lv_at hl 2 rfl) ?_
        refine lv_iload_n hex hby dX9_walked_27 rfl (lv_at hl 3 rfl) ?_
        refine mu_Vi (As := [.int (nI kn), .int (nI sn), .int (nI qn)]) (rest := []) (wr := [(h, .inr (9, f9)), (hw, .inr (5, f5))]) CFx (c_X7_leafAfter (hz := hu) (aB := aB) (hn := hn) (aC := aC) (aI := aI) (hd := hd) (aS := aS) (bs := bs) (f := fb) (fn := fn) (sd := 2 ^ m) (g := g) (ix := ix) (fd := fd) (c := c) (S := S) (k := kn) (s := sn) (n := qn) (T := T) (ns := ns) (m := m) (st := st) (lv := lv) fn_side fn_C fn_I fdc faS hfb hg hSb hN.1 hV hL hag hc hm6 (by omega) hix rfl hN (by omega) (by omega)) 3 gX9_walked_X7_leafAfter rfl nd_X7_leafAfter ⟨Nat.le_of_ble_eq_true rfl, Nat.le_of_ble_eq_true rfl⟩ hK hP hD hS hA [2, 3, 4, 5, 6, 7, 8] [0, 1] rfl rfl (by decide) (by decide) (by decide) TR.nil rfl rfl rfl hl.1 rfl (Nat.le_of_ble_eq_true rfl) dX9_walked_28 ⟨Nat.le_refl _, Nat.le_refl _⟩ (fun r_8 u H locs hr_8 hP hD hS => ?_)
        obtain ⟨b1, f1⟩ := u
        dsimp only at hr_8 hP hD
        have hP : va_P (dC, dI) vwCl [(h, .inr (9, f9)), (hw, .inr (5, f5)), (hu, .inr (7, [.ref hn, .ref hd, .int (nI b1), .ref aB])), (aB, .inl (cI, 64, .inl (nA f1))), (hn, .inr (2, fn)), (aC, .inl (cI, 4096, .inl (nA g))), (aI, .inl (cI, 4096, .inl (nA ix))), (hd, .inr (1, fd)), (aS, .inl (cI, 497, .inl (nA S)))] H := hP
        have hD : va_D A [(h, .inr (9, f9)), (hw, .inr (5, f5)), (hu, .inr (7, [.ref hn, .ref hd, .int (nI b1), .ref aB])), (aB, .inl (cI, 64, .inl (nA f1))), (hn, .inr (2, fn)), (aC, .inl (cI, 4096, .inl (nA g))), (aI, .inl (cI, 4096, .inl (nA ix))), (hd, .inr (1, fd)), (aS, .inl (cI, 497, .inl (nA S)))] := hD
        rcases hr_8 with ⟨v1, rfl, hwe, hfb1⟩ | ⟨rfl, hwl, hfb1⟩
        · have hvc := hwe.lt (show kn < c by omega)
          refine lv_istore (lv' := [(4, .int (nI v1)), (0, .ref h), (1, .int (nI kn)), (2, .int (nI sn)), (3, .int (nI qn))]) hex hby dX9_walked_31 hl (by decide) rfl (fun ls hl => ?_)
          refine lv_iload hex hby dX9_walked_33 (lv_at hl 0 rfl) ?_
          refine lv_iconst (v := zI (-1)) hex hby dX9_walked_35 rfl ?_
          refine ni_icmp_ne (tgt := 44) (a := (v1 : Int)) (b := -1) hex hby dX9_walked_36 (by decide) (ni_toInt (by omega)) (zI_toInt (by omega) (by omega)) (fun c_11 => ?_) (fun c_11 => absurd c_11 (by omega))
          refine lv_iload hex hby dX9_walked_44 (lv_at hl 0 rfl) ?_
          exact hret _ (b1, f1) _ _ _ _ _ (Or.inl ⟨rfl, _, rfl, rfl, dX9_walked_46⟩) ⟨_, rfl, Or.inl ⟨v1, rfl, (by omega), (by rw [hkt, hst, hqt]; exact hwe), hfb1⟩⟩ hP hD hS
        · refine lv_istore (lv' := [(4, .int (zI (-1))), (0, .ref h), (1, .int (nI kn)), (2, .int (nI sn)), (3, .int (nI qn))]) hex hby dX9_walked_31 hl (by decide) rfl (fun ls hl => ?_)
          refine lv_iload hex hby dX9_walked_33 (lv_at hl 0 rfl) ?_
          refine lv_iconst (v := zI (-1)) hex hby dX9_walked_35 rfl ?_
          refine ni_icmp_ne (tgt := 44) (a := -1) (b := -1) hex hby dX9_walked_36 (by decide) (zI_toInt (by omega) (by omega)) (zI_toInt (by omega) (by omega)) (fun c_12 => absurd c_12 (by omega)) (fun c_12 => ?_)
          refine lv_bipush (v := zI (-5)) hex hby dX9_walked_39 rfl ?_
          refine lv_goto (tgt := 46) hex hby dX9_walked_41 (by decide) ?_
          exact hret _ (b1, f1) _ _ _ _ _ (Or.inl ⟨rfl, _, rfl, rfl, dX9_walked_46⟩) ⟨_, rfl, Or.inr (Or.inr (⟨rfl, (by omega), (by rw [hkt, hst, hqt]; exact hwl), hfb1⟩))⟩ hP hD hS
      · refine lv_iconst (v := zI (-1)) hex hby dX9_walked_19 rfl ?_
        exact hret _ (bs, fb) _ _ _ _ _ (Or.inl ⟨rfl, _, rfl, rfl, dX9_walked_20⟩) ⟨_, rfl, Or.inr (Or.inl ⟨rfl, (by omega), hfb⟩)⟩ hP hD hS
    · refine nv_if_eq (tgt := 19) hex hby dX9_walked_12 (by decide) (by omega) (fun _ => ?_) (fun c => absurd c (by omega))
      refine lv_iconst (v := zI (-1)) hex hby dX9_walked_19 rfl ?_
      exact hret _ (bs, fb) _ _ _ _ _ (Or.inl ⟨rfl, _, rfl, rfl, dX9_walked_20⟩) ⟨_, rfl, Or.inr (Or.inl ⟨rfl, (by omega), hfb⟩)⟩ hP hD hS
  · refine nv_if_eq (tgt := 19) hex hby dX9_walked_5 (by decide) (by omega) (fun _ => ?_) (fun c => absurd c (by omega))
    refine lv_iconst (v := zI (-1)) hex hby dX9_walked_19 rfl ?_
    exact hret _ (bs, fb) _ _ _ _ _ (Or.inl ⟨rfl, _, rfl, rfl, dX9_walked_20⟩) ⟨_, rfl, Or.inr (Or.inl ⟨rfl, (by omega), hfb⟩)⟩ hP hD hS
end CNR
