section CRR
variable {l : Launch} {dC : Nat → ClassId} {dI : Nat → Nat → Nat} {cI cZ cS : ClassId}
theorem nd_X9_clearText : ndV yX9_clearText RX9 0 := by decide +kernel
theorem in_X9_clearText_X8 : ∀ w ∈ wsX80, w ∈ wsX9_clearText := fun _ h => List.mem_cons_of_mem _ (List.mem_append_right _ (h))
theorem in_X9_clearText_X9 : ∀ w ∈ wsX90, w ∈ wsX9_clearText := fun _ h => List.mem_cons_of_mem _ (List.mem_append_left _ (List.mem_append_right _ (h)))
set_option maxHeartbeats 4000000 in
set_option maxRecDepth 100000 in
theorem c_X9_clearText {h : Nat} {hx_ : Nat} {f9 : List Value} {tl : Nat} {aX : Nat} (f9_text : f9[3]? = some (.ref hx_)) : MU l yX9_clearText wsX9_clearText 0 0 (dC, dI) (tyK cI cZ cS) [(h, .inr (9, f9)), (hx_, .inr (8, [.int (nI tl), .ref aX]))] [] [.ref h] (fun rv_ (u_ : Unit) => rI (fun r => r = nI tl) rv_) (fun (u_ : Unit) => [(h, .inr (9, f9)), (hx_, .inr (8, [.int (nI 0), .ref aX]))]) := by
  refine mu_of (by decide) rfl (Nat.le_of_ble_eq_true rfl) ?_
  intro pp ee ss mm bb mt cd Q A CFx hP hK hD hS hA hTr hret ls hl
  obtain ⟨hex, hby, hml, hown, hts⟩ := id CFx
  have hl : lv_has ls 2 [(0, .ref h)] := hl
  refine lv_aload_n hex hby dX9_clearText_0 rfl (lv_at hl 0 rfl) ?_
  refine nv_get (v := .ref hx_) CFx in_X9_clearText_X9 hK hP 0 rfl rfl 3 (by decide) (List.mem_of_getElem? (i := 1) rfl) f9_text dX9_clearText_1 ?_
  refine nv_get (v := .int (nI tl)) CFx in_X9_clearText_X8 hK hP 1 rfl rfl 0 (by decide) (List.mem_of_getElem? (i := 2) rfl) rfl dX9_clearText_4 ?_
  refine lv_istore_n (lv' := [(1, .int (nI tl)), (0, .ref h)]) hex hby dX9_clearText_7 rfl hl (by decide) rfl (fun ls hl => ?_)
  refine lv_aload_n hex hby dX9_clearText_8 rfl (lv_at hl 1 rfl) ?_
  refine nv_get (v := .ref hx_) CFx in_X9_clearText_X9 hK hP 0 rfl rfl 3 (by decide) (List.mem_of_getElem? (i := 1) rfl) f9_text dX9_clearText_9 ?_
  refine lv_iconst (v := nI 0) hex hby dX9_clearText_12 rfl ?_
  refine nv_put CFx in_X9_clearText_X8 tyX8 tyX8_ok nmX8 hK hP hD hS 1 rfl rfl 0 (by decide) (List.mem_of_getElem? (i := 2) rfl) rfl (by decide +kernel) (Nat.le_of_ble_eq_true rfl) dX9_clearText_13 (fun H locs hP hD hS => ?_)
  have hP : va_P (dC, dI) vwCl [(h, .inr (9, f9)), (hx_, .inr (8, [.int (nI 0), .ref aX]))] H := hP
  have hD : va_D A [(h, .inr (9, f9)), (hx_, .inr (8, [.int (nI 0), .ref aX]))] := hD
  refine lv_iload_n hex hby dX9_clearText_16 rfl (lv_at hl 0 rfl) ?_
  exact hret _ () _ _ _ _ _ (Or.inl ⟨rfl, _, rfl, rfl, dX9_clearText_17⟩) ⟨_, rfl, rfl⟩ hP hD hS
theorem nd_X9_append : ndV yX9_append RX9 1 := by decide +kernel
theorem in_X9_append_X8 : ∀ w ∈ wsX80, w ∈ wsX9_append := fun _ h => List.mem_cons_of_mem _ (List.mem_append_right _ (h))
theorem in_X9_append_X9 : ∀ w ∈ wsX90, w ∈ wsX9_append := fun _ h => List.mem_cons_of_mem _ (List.mem_append_left _ (List.mem_append_right _ (h)))
set_option maxHeartbeats 4000000 in
set_option maxRecDepth 100000 in
theorem c_X9_append {h : Nat} {hx_ : Nat} {aX : Nat} {f9 : List Value} {tl : Nat} {tx : Nat → Nat} {w : Int32} {wz : Int} (f9_text : f9[3]? = some (.ref hx_)) (hwz : w.toInt = wz) (htx : ∀ j, tx j < 128) (htl : tl ≤ 80) : MU l yX9_append wsX9_append 1 21 (dC, dI) (tyK cI cZ cS) [(h, .inr (9, f9)), (hx_, .inr (8, [.int (nI tl), .ref aX])), (aX, .inl (cI, 80, .inl (nA tx)))] [] [.ref h, .int w] (fun rv_ (u_ : Nat × (Nat → Nat)) => rI (fun r => (r = nI (tl + 1) ∧ (0 ≤ wz ∧ wz ≤ 127) ∧ tl < 80 ∧ tl + 1 = u_.1 ∧ upN tx tl wz.toNat = u_.2 ∧ (∀ j, u_.2 j < 128)) ∨ (r = zI (-2) ∧ (¬ (0 ≤ wz ∧ wz ≤ 127)) ∧ tl = u_.1 ∧ tx = u_.2) ∨ (r = zI (-4) ∧ (0 ≤ wz ∧ wz ≤ 127) ∧ 80 ≤ tl ∧ tl = u_.1 ∧ tx = u_.2)) rv_) (fun (u_ : Nat × (Nat → Nat)) => [(h, .inr (9, f9)), (hx_, .inr (8, [.int (nI u_.1), .ref aX])), (aX, .inl (cI, 80, .inl (nA u_.2)))]) := by
  refine mu_of (by decide) rfl (Nat.le_of_ble_eq_true rfl) ?_
  intro pp ee ss mm bb mt cd Q A CFx hP hK hD hS hA hTr hret ls hl
  obtain ⟨hex, hby, hml, hown, hts⟩ := id CFx
  have hl : lv_has ls 2 [(0, .ref h), (1, .int w)] := hl
  refine lv_iload_n hex hby dX9_append_0 rfl (lv_at hl 1 rfl) ?_
  refine ni_if_lt (tgt := 10) (a := w.toInt) hex hby dX9_append_1 (by decide) rfl (fun c_1 => ?_) (fun c_1 => ?_)
  · refine lv_bipush (v := zI (-2)) hex hby dX9_append_10 rfl ?_
    exact hret _ (tl, tx) _ _ _ _ _ (Or.inl ⟨rfl, _, rfl, rfl, dX9_append_12⟩) ⟨_, rfl, Or.inr (Or.inl ⟨rfl, (by omega), rfl, rfl⟩)⟩ hP hD hS
  · refine lv_iload_n hex hby dX9_append_4 rfl (lv_at hl 1 rfl) ?_
    refine lv_bipush (v := nI 127) hex hby dX9_append_5 rfl ?_
    refine ni_icmp_le (tgt := 13) (a := w.toInt) (b := (127 : Int)) hex hby dX9_append_7 (by decide) rfl (by rfl) (fun c_2 => ?_) (fun c_2 => ?_)
    · obtain ⟨jw_, hjw__, rfl, hjw_e⟩ := ni_of (x := w) (by omega)
      obtain rfl : jw_ = wz.toNat := by omega
      refine lv_aload_n hex hby dX9_append_13 rfl (lv_at hl 0 rfl) ?_
      refine nv_get (v := .ref hx_) CFx in_X9_append_X9 hK hP 0 rfl rfl 3 (by decide) (List.mem_of_getElem? (i := 1) rfl) f9_text dX9_append_14 ?_
      refine lv_iload_n hex hby dX9_append_17 rfl (lv_at hl 1 rfl) ?_
      refine mu_Vi (As := [.int (nI wz.toNat)]) (rest := []) (wr := [(h, .inr (9, f9))]) CFx (c_X8_add (hx_ := hx_) (aX := aX) (tl := tl) (tx := tx) (b := wz.toNat) htx htl (by omega)) 1 gX9_append_X8_add rfl nd_X8_add ⟨Nat.le_of_ble_eq_true rfl, Nat.le_of_ble_eq_true rfl⟩ hK hP hD hS hA [1, 2] [0] rfl rfl (by decide) (by decide) (by decide) TR.nil rfl rfl rfl hl.1 rfl (Nat.le_of_ble_eq_true rfl) dX9_append_18 ⟨Nat.le_refl _, Nat.le_refl _⟩ (fun r_3 u H locs hr_3 hP hD hS => ?_)
      obtain ⟨tl_4, tx_5⟩ := u
      dsimp only at hr_3 hP hD
      have hP : va_P (dC, dI) vwCl [(h, .inr (9, f9)), (hx_, .inr (8, [.int (nI tl_4), .ref aX])), (aX, .inl (cI, 80, .inl (nA tx_5)))] H := hP
      have hD : va_D A [(h, .inr (9, f9)), (hx_, .inr (8, [.int (nI tl_4), .ref aX])), (aX, .inl (cI, 80, .inl (nA tx_5)))] := hD
      rcases hr_3 with ⟨rfl, h_6, rfl, rfl⟩ | ⟨rfl, h_7, rfl, rfl⟩
      · refine nv_if_eq (tgt := 34) hex hby dX9_append_21 (by decide) (by omega) (fun c => absurd c (by omega)) (fun _ => ?_)
        refine lv_aload_n hex hby dX9_append_24 rfl (lv_at hl 0 rfl) ?_
        refine nv_get (v := .ref hx_) CFx in_X9_append_X9 hK hP 0 rfl rfl 3 (by decide) (List.mem_of_getElem? (i := 1) rfl) f9_text dX9_append_25 ?_
        refine nv_get (v := .int (nI (tl + 1))) CFx in_X9_append_X8 hK hP 1 rfl rfl 0 (by decide) (List.mem_of_getElem? (i := 2) rfl) rfl dX9_append_28 ?_
        refine lv_goto (tgt := 36) hex hby dX9_append_31 (by decide) ?_
        exact hret _ (tl + 1, (upN tx tl wz.toNat)) _ _ _ _ _ (Or.inl ⟨rfl, _, rfl, rfl, dX9_append_36⟩) ⟨_, rfl, Or.inl ⟨rfl, (by omega), (by omega), rfl, rfl, (upN_lt htx (by omega))⟩⟩ hP hD hS
      · refine nv_if_eq (tgt := 34) hex hby dX9_append_21 (by decide) (by omega) (fun _ => ?_) (fun c => absurd c (by omega))
        refine lv_bipush (v := zI (-4)) hex hby dX9_append_34 rfl ?_
        exact hret _ (tl, tx) _ _ _ _ _ (Or.inl ⟨rfl, _, rfl, rfl, dX9_append_36⟩) ⟨_, rfl, Or.inr (Or.inr (⟨rfl, (by omega), (by omega), rfl, rfl⟩))⟩ hP hD hS
    · refine lv_bipush (v := zI (-2)) hex hby dX9_append_10 rfl ?_
      exact hret _ (tl, tx) _ _ _ _ _ (Or.inl ⟨rfl, _, rfl, rfl, dX9_append_12⟩) ⟨_, rfl, Or.inr (Or.inl ⟨rfl, (by omega), rfl, rfl⟩)⟩ hP hD hS
theorem nd_X9_faultPosition : ndV yX9_faultPosition RX9 0 := by decide +kernel
theorem in_X9_faultPosition_X9 : ∀ w ∈ wsX90, w ∈ wsX9_faultPosition := fun _ h => List.mem_cons_of_mem _ (List.mem_append_left _ (List.mem_append_right _ (h)))
set_option maxHeartbeats 4000000 in
set_option maxRecDepth 100000 in
theorem c_X9_faultPosition {h : Nat} {hx_ : Nat} {aX : Nat} {f9 : List Value} {fx : List Value} {tl : Nat} {tx : Nat → Nat} (f9_text : f9[3]? = some (.ref hx_)) (ftl : fx[0]? = some (.int (nI tl))) (faX : fx[1]? = some (.ref aX)) (htx : ∀ j, tx j < 128) (htl : tl ≤ 80) : RO l yX9_faultPosition wsX9_faultPosition 4 88 (dC, dI) (tyK cI cZ cS) [(h, .inr (9, f9)), (hx_, .inr (8, fx)), (aX, .inl (cI, 80, .inl (nA tx)))] [.ref h] (rI (fun r => (∃ k : Nat, r = nI k ∧ Flt tx tl (k : Int)) ∨ (r = zI (-5) ∧ Flt tx tl (-1)))) := by
  refine ro_of (by decide) rfl (Nat.le_of_ble_eq_true rfl) ?_
  intro pp ee ss mm bb mt cd Q CFx hP hK hret ls hl
  obtain ⟨hex, hby, hml, hown, hts⟩ := id CFx
  have hl : lv_has ls 2 [(0, .ref h)] := hl
  refine lv_aload_n hex hby dX9_faultPosition_0 rfl (lv_at hl 0 rfl) ?_
  refine nv_get (v := .ref hx_) CFx in_X9_faultPosition_X9 hK hP 0 rfl rfl 3 (by decide) (List.mem_of_getElem? (i := 1) rfl) f9_text dX9_faultPosition_1 ?_
  refine ro_Vi (As := []) (rest := []) CFx (c_X8_findFault (hx_ := hx_) (aX := aX) (fx := fx) (tl := tl) (tx := tx) ftl faX htx htl) 0 gX9_faultPosition_X8_findFault rfl nd_X8_findFault ⟨Nat.le_of_ble_eq_true rfl, Nat.le_of_ble_eq_true rfl⟩ hK hP [1, 2] rfl rfl rfl rfl hl.1 rfl (Nat.le_of_ble_eq_true rfl) dX9_faultPosition_4 ⟨Nat.le_refl _, Nat.le_refl _⟩ (fun r_1 hr_1 => ?_)
  rcases hr_1 with ⟨k, rfl, hk1, hk2⟩ | ⟨rfl, hf⟩
  · refine lv_istore_n (lv' := [(1, .int (nI k)), (0, .ref h)]) hex hby dX9_faultPosition_7 rfl hl (by decide) rfl (fun ls hl => ?_)
    refine lv_iload_n hex hby dX9_faultPosition_8 rfl (lv_at hl 0 rfl) ?_
    refine lv_iconst (v := zI (-1)) hex hby dX9_faultPosition_9 rfl ?_
    refine ni_icmp_ne (tgt := 18) (a := (k : Int)) (b := -1) hex hby dX9_faultPosition_10 (by decide) (ni_toInt (by omega)) (zI_toInt (by omega) (by omega)) (fun c_2 => ?_) (fun c_2 => absurd c_2 (by omega))
    refine lv_iload_n hex hby dX9_faultPosition_18 rfl (lv_at hl 0 rfl) ?_
    exact hret _ _ _ _ (Or.inl ⟨rfl, _, rfl, rfl, dX9_faultPosition_19⟩) ⟨_, rfl, Or.inl ⟨k, rfl, hk2⟩⟩
  · refine lv_istore_n (lv' := [(1, .int (zI (-1))), (0, .ref h)]) hex hby dX9_faultPosition_7 rfl hl (by decide) rfl (fun ls hl => ?_)
    refine lv_iload_n hex hby dX9_faultPosition_8 rfl (lv_at hl 0 rfl) ?_
    refine lv_iconst (v := zI (-1)) hex hby dX9_faultPosition_9 rfl ?_
    refine ni_icmp_ne (tgt := 18) (a := -1) (b := -1) hex hby dX9_faultPosition_10 (by decide) (zI_toInt (by omega) (by omega)) (zI_toInt (by omega) (by omega)) (fun c_3 => absurd c_3 (by omega)) (fun c_3 => ?_)
    refine lv_bipush (v := zI (-5)) hex hby dX9_faultPosition_13 rfl ?_
    refine lv_goto (tgt := 19) hex hby dX9_faultPosition_15 (by decide) ?_
    exact hret _ _ _ _ (Or.inl ⟨rfl, _, rfl, rfl, dX9_faultPosition_19⟩) ⟨_, rfl, Or.inr ⟨rfl, hf⟩⟩
theorem nd_X9_interval : ndV yX9_interval RX9 2 := by decide +kernel
theorem in_X9_interval_X0 : ∀ w ∈ wsX00, w ∈ wsX9_interval := fun _ h => List.mem_cons_of_mem _ (List.mem_append_right _ (h))
theorem in_X9_interval_X9 : ∀ w ∈ wsX90, w ∈ wsX9_interval := fun _ h => List.mem_cons_of_mem _ (List.mem_append_left _ (List.mem_append_right _ (h)))
set_option maxHeartbeats 4000000 in
set_option maxRecDepth 100000 in
theorem c_X9_interval {h : Nat} {ho : Nat} {aF : Nat} {aG : Nat} {f9 : List Value} {fo : List Value} {cn : Nat} {F : Nat → Nat} {G : Nat → Nat} {k : Int32} {kz : Int} {w : Int32} {wz : Int} {T : Nat → Nat} {ns : Nat} {m : Nat} {rl : Nat} {rb : Nat} {rr : Nat} {ra : Nat} (f9_cover : f9[5]? = some (.ref ho)) (fcn : fo[0]? = some (.int (nI cn))) (faF : fo[1]? = some (.ref aF)) (faG : fo[2]? = some (.ref aG)) (hkz : k.toInt = kz) (hwz : w.toInt = wz) (hFb : ∀ j, F j < 4096) (hGb : ∀ j, G j < 4096) (hcn : cn ≤ 505) (hI : IvOK (inG (cvc T m) rl rb rr ra) (4 ^ m) cn F G) : RO l yX9_interval wsX9_interval 0 0 (dC, dI) (tyK cI cZ cS) [(h, .inr (9, f9)), (ho, .inr (0, fo)), (aF, .inl (cI, 505, .inl (nA F))), (aG, .inl (cI, 505, .inl (nA G)))] [.ref h, .int k, .int w] (rI (fun r => (∃ v : Nat, r = nI v ∧ (0 ≤ kz ∧ kz < ((ctP (stI (inG (cvc T m) rl rb rr ra)) (4 ^ m) : Nat) : Int)) ∧ IvAt (inG (cvc T m) rl rb rr ra) (4 ^ m) kz.toNat (wz ≠ 0) v) ∨ (r = zI (-1) ∧ (¬ (0 ≤ kz ∧ kz < ((ctP (stI (inG (cvc T m) rl rb rr ra)) (4 ^ m) : Nat) : Int)))))) := by
  refine ro_of (by decide) rfl (Nat.le_of_ble_eq_true rfl) ?_
  intro pp ee ss mm bb mt cd Q CFx hP hK hret ls hl
  obtain ⟨hex, hby, hml, hown, hts⟩ := id CFx
  have hl : lv_has ls 3 [(0, .ref h), (1, .int k), (2, .int w)] := hl
  have hc1 := hI.1
  refine lv_iload_n hex hby dX9_interval_0 rfl (lv_at hl 1 rfl) ?_
  refine ni_if_lt (tgt := 15) (a := k.toInt) hex hby dX9_interval_1 (by decide) rfl (fun c_1 => ?_) (fun c_1 => ?_)
  · refine lv_iconst (v := zI (-1)) hex hby dX9_interval_15 rfl ?_
    exact hret _ _ _ _ (Or.inl ⟨rfl, _, rfl, rfl, dX9_interval_16⟩) ⟨_, rfl, Or.inr ⟨rfl, (by omega)⟩⟩
  · refine lv_iload_n hex hby dX9_interval_4 rfl (lv_at hl 1 rfl) ?_
    refine lv_aload_n hex hby dX9_interval_5 rfl (lv_at hl 0 rfl) ?_
    refine nv_get (v := .ref ho) CFx in_X9_interval_X9 hK hP 0 rfl rfl 5 (by decide) (List.mem_of_getElem? (i := 1) rfl) f9_cover dX9_interval_6 ?_
    refine nv_get (v := .int (nI cn)) CFx in_X9_interval_X0 hK hP 1 rfl rfl 0 (by decide) (List.mem_of_getElem? (i := 2) rfl) fcn dX9_interval_9 ?_
    refine ni_icmp_lt (tgt := 17) (a := k.toInt) (b := (cn : Int)) hex hby dX9_interval_12 (by decide) rfl (ni_toInt (by omega)) (fun c_2 => ?_) (fun c_2 => ?_)
    · obtain ⟨kn, hkn_, rfl, hkne⟩ := ni_of (x := k) (by omega)
      have hkt : kz.toNat = kn := by omega
      refine lv_iload_n hex hby dX9_interval_17 rfl (lv_at hl 2 rfl) ?_
      refine ni_if_eq (tgt := 33) (a := w.toInt) hex hby dX9_interval_18 (by decide) rfl (fun c_3 => ?_) (fun c_3 => ?_)
      · refine lv_aload_n hex hby dX9_interval_33 rfl (lv_at hl 0 rfl) ?_
        refine nv_get (v := .ref ho) CFx in_X9_interval_X9 hK hP 0 rfl rfl 5 (by decide) (List.mem_of_getElem? (i := 1) rfl) f9_cover dX9_interval_34 ?_
        refine nv_get (v := .ref aF) CFx in_X9_interval_X0 hK hP 1 rfl rfl 1 (by decide) (List.mem_of_getElem? (i := 4) rfl) faF dX9_interval_37 ?_
        refine lv_iload_n hex hby dX9_interval_40 rfl (lv_at hl 1 rfl) ?_
        refine nv_iald hex hby hK hP 2 0 rfl rfl (by omega) (by omega) dX9_interval_41 ?_
        have hb_4 := hFb kn
        exact hret _ _ _ _ (Or.inl ⟨rfl, _, rfl, rfl, dX9_interval_42⟩) ⟨_, rfl, Or.inl ⟨(F kn), rfl, (by omega), (by rw [hkt]; exact ⟨cn, F, G, hI, by omega, fun z => absurd (show wz = 0 by omega) z, fun _ => rfl⟩)⟩⟩
      · refine lv_aload_n hex hby dX9_interval_21 rfl (lv_at hl 0 rfl) ?_
        refine nv_get (v := .ref ho) CFx in_X9_interval_X9 hK hP 0 rfl rfl 5 (by decide) (List.mem_of_getElem? (i := 1) rfl) f9_cover dX9_interval_22 ?_
        refine nv_get (v := .ref aG) CFx in_X9_interval_X0 hK hP 1 rfl rfl 2 (by decide) (List.mem_of_getElem? (i := 3) rfl) faG dX9_interval_25 ?_
        refine lv_iload_n hex hby dX9_interval_28 rfl (lv_at hl 1 rfl) ?_
        refine nv_iald hex hby hK hP 3 0 rfl rfl (by omega) (by omega) dX9_interval_29 ?_
        have hb_5 := hGb kn
        refine lv_goto (tgt := 42) hex hby dX9_interval_30 (by decide) ?_
        exact hret _ _ _ _ (Or.inl ⟨rfl, _, rfl, rfl, dX9_interval_42⟩) ⟨_, rfl, Or.inl ⟨(G kn), rfl, (by omega), (by rw [hkt]; exact ⟨cn, F, G, hI, by omega, fun _ => rfl, fun z => absurd (show wz ≠ 0 by omega) z⟩)⟩⟩
    · refine lv_iconst (v := zI (-1)) hex hby dX9_interval_15 rfl ?_
      exact hret _ _ _ _ (Or.inl ⟨rfl, _, rfl, rfl, dX9_interval_16⟩) ⟨_, rfl, Or.inr ⟨rfl, (by omega)⟩⟩
end CRR
