section CRR
variable {l : Launch} {dC : Nat → ClassId} {dI : Nat → Nat → Nat} {cI cZ cS : ClassId}
theorem nd_X9_clearText : ndV yX9_clearText RX9 0 := by decide +kernel
theorem in_X9_clearText_X8 : ∀ w ∈ wsX80, w ∈ wsX9_clearText := fun _ h => List.mem_cons_of_mem _ (List.mem_append_right _ (h))
theorem in_X9_clearText_X9 : ∀ w ∈ wsX90, w ∈ wsX9_clearText := fun _ h => List.mem_cons_of_mem _ (List.mem_append_left _ (List.mem_append_right _ (h)))
set_option maxHeartbeats 4000000 in
set_option maxRecDepth 100000 in
theorem c_X9_clearText {h : Nat} {hx_ : Nat} {f9 : List Value} {tl : Nat} {aX : Nat} (f9_text : f9[3]? = some (.ref hx_)) : MU l yX9_clearText wsX9_clearText 0 0 (dC, dI) (tyK cI cZ cS) [(h, .inr (9, f9)), (hx_, .inr (8, [.int (nI tl), .ref aX]))] [] [.ref h] (fun rv_ (u_ : Unit) => rI (fun r => r = nI tl) rv_) (fun (u_ : Unit) => [(h, .inr (9, f9)), (hx_, .inr (8, [.int (nI 0), .ref aX]))]) := by
  refine mu_of (by decide) rfl (Nat.le_of_ble_eq_true rfl) ?_
  intro pp ee ss mm bb mt cd Q A CFx hP hK hD hS hA hTr hret ls hl
  obtain ⟨hex, hby, hml, hown, hts⟩ := id CFx
  have hl : lv_has ls 2 [(0, .ref h)] := hl
  refine lv_aload_n hex hby dX9_clearText_0 rfl (lv_at hl 0 rfl) ?_
  refine nv_get (v := .ref hx_) CFx in_X9_clearText_X9 hK hP 0 rfl rfl 3 (by decide) (List.mem_of_getElem? (i := 1) rfl) f9_text dX9_clearText_1 ?_
  refine nv_get (v := .int (nI tl)) CFx in_X9_clearText_X8 hK hP 1 rfl rfl 0 (by decide) (List.mem_of_getElem? (i := 2) rfl) rfl dX9_clearText_4 ?_
  refine lv_istore_n (lv' := [(1, .int (nI tl)), (0, .ref h)]) hex hby dX9_clearText_7 rfl hl (by decide) rfl (fun ls hl => ?_)
  refine lv_aload_n hex hby dX9_clearText_8 rfl (lv_at hl 1 rfl) ?_
  refine nv_get (v := .ref hx_) CFx in_X9_clearText_X9 hK hP 0 rfl rfl 3 (by decide) (List.mem_of_getElem? (i := 1) rfl) f9_text dX9_clearText_9 ?_
  refine lv_iconst (v := nI 0) hex hby dX9_clearText_12 rfl ?_
  refine nv_put CFx in_X9_clearText_X8 tyX8 tyX8_ok nmX8 hK hP hD hS 1 rfl rfl 0 (by decide) (List.mem_of_getElem? (i := 2) rfl) rfl (by decide +kernel) (Nat.le_of_ble_eq_true rfl) dX9_clearText_13 (fun H locs hP hD hS => ?_)
  have hP : va_P (dC, dI) vwCl [(h, .inr (9, f9)), (hx_, .inr (8, [.int (nI 0), .ref aX]))] H := hP
  have hD : va_D A [(h, .inr (9, f9)), (hx_, .inr (8, [.int (nI 0), .ref aX]))] := hD
  refine lv_iload_n hex hby dX9_clearText_16 rfl (lv_at hl 0 rfl) ?_
  exact hret _ () _ _ _ _ _ (Or.inl ⟨rfl, _, rfl, rfl, dX9_clearText_17⟩) ⟨_, rfl, rfl⟩ hP hD hS
theorem nd_X9_append : ndV yX9_append RX9 1 := by decide +kernel
theorem in_X9_append_X8 : ∀ w ∈ wsX80, w ∈ wsX9_append := fun _ h => List.mem_cons_of_mem _ (List.mem_append_right _ (h))
theorem in_X9_append_X9 : ∀ w ∈ wsX90, w ∈ wsX9_append := fun _ h => List.mem_cons_of_mem _ (List.mem_append_left _ (List.mem_append_right _ (h)))
set_option maxHeartbeats 4000000 in
set_option maxRecDepth 100000 in
theorem c_X9_append {h : Nat} {hx_ : Nat} {aX : Nat} {f9 : List Value} {tl : Nat} {tx : Nat → Nat} {w : Int32} {wz : Int} (f9_text : f9[3]? = some (.ref hx_)) (hwz : w.toInt = wz) (htx : ∀ j, tx j < 128) (htl : tl ≤ 80) : MU l yX9_append wsX9_append 1 21 (dC, dI) (tyK cI cZ cS) [(h, .inr (9, f9)), (hx_, .inr (8, [.int (nI tl), .ref aX])), (aX, .inl (cI, 80, .inl (nA tx)))] [] [.ref h, .int w] (fun rv_ (u_ : Nat × (Nat → Nat)) => rI (fun r => (r = nI (tl + 1) ∧ (0 ≤ wz ∧ wz ≤ 127) ∧ tl < 80 ∧ tl + 1 = u_.1 ∧ upN tx tl wz.toNat = u_.2 ∧ (∀ j, u_.2 j < 128)) ∨ (r = zI (-2) ∧ (¬ (0 ≤ wz ∧ wz ≤ 127)) ∧ tl = u_.1 ∧ tx = u_.2) ∨ (r = zI (-4) ∧ (0 ≤ wz ∧ wz ≤ 127) ∧ 80 ≤ tl ∧ tl = u_.1 ∧ tx = u_.2)) rv_) (fun (u_ : Nat × (Nat → Nat)) => [(h, .inr (9, f9)), (hx_, .inr (8, [.int (nI u_.1), .ref aX])), (aX, .inl (cI, 80, .inl (nA u_.2)))]) := by
  refine mu_of (by decide) rfl (Nat.le_of_ble_eq_true rfl) ?_
  intro pp ee ss mm bb mt cd Q A CFx hP hK hD hS hA hTr hret ls hl
  obtain ⟨hex, hby, hml, hown, hts⟩ := id CFx
  have hl : lv_has ls 2 [(0, .ref h), (1, .int w)] := hl
  refine lv_iload_n hex hby dX9_append_0 rfl (lv_at hl 1 rfl) ?_
  refine ni_if_lt (tgt := 10) (a := w.toInt) hex hby dX9_append_1 (by decide) rfl (fun c_1 => ?_) (fun c_1 => ?_)
  · refine lv_bipush (v := zI (-2)) hex hby dX9_append_10 rfl ?_
    exact hret _ (tl, tx) _ _ _ _ _ (Or.inl ⟨rfl, _, rfl, rfl, dX9_append_12⟩) ⟨_, rfl, Or.inr (Or.inl ⟨rfl, (by omega), rfl, rfl⟩)⟩ hP hD hS
  · refine lv_iload_n hex hby dX9_append_4 rfl (lv_at hl 1 rfl) ?_
    refine lv_bipush (v := nI 127) hex hby dX9_append_5 rfl ?_
    refine ni_icmp_le (tgt := 13) (a := w.toInt) (b := (127 : Int)) hex hby dX9_append_7 (by decide) rfl (by rfl) (fun c_2 => ?_) (fun c_2 => ?_)
    · obtain ⟨jw_, hjw__, rfl, hjw_e⟩ := ni_of (x := w) (by omega)
      obtain rfl : jw_ = wz.toNat := by omega
      refine lv_aload_n hex hby dX9_append_13 rfl (lv_at hl 0 rfl) ?_
      refine nv_get (v := .ref hx_) CFx in_X9_append_X9 hK hP 0 rfl rfl 3 (by decide) (List.mem_of_getElem? (i := 1) rfl) f9_text dX9_append_14 ?_
      refine lv_iload_n hex hby dX9_append_17 rfl (lv_at hl 1 rfl) ?_
      refine mu_Vi (As := [.int (nI wz.toNat)]) (rest := []) (wr := [(h, .inr (9, f9))]) CFx (c_X8_add (hx_ := hx_) (aX := aX) (tl := tl) (tx := tx) (b := wz.toNat) htx htl (by omega)) 1 gX9_append_X8_add rfl nd_X8_add ⟨Nat.le_of_ble_eq_true rfl, Nat.le_of_ble_eq_true rfl⟩ hK hP hD hS hA [1, 2] [0] rfl rfl (by decide) (by decide) (by decide) TR.nil rfl rfl rfl hl.1 rfl (Nat.le_of_ble_eq_true rfl) dX9_append_18 ⟨Nat.le_refl _, Nat.le_refl _⟩ (fun r_3 u H locs hr_3 hP hD hS => ?_)
      obtain ⟨tl_4, tx_5⟩ := u
      dsimp only at hr_3 hP hD
      have hP : va_P (dC, dI) vwCl [(h, .inr (9, f9)), (hx_, .inr (8, [.int (nI tl_4), .ref aX])), (aX, .inl (cI, 80, .inl (nA tx_5)))] H := hP
      have hD : va_D A [(h, .inr (9, f9)), (hx_, .inr (8, [.int (nI tl_4), .ref aX])), (aX, .inl (cI, 80, .inl (nA tx_5)))] := hD
      rcases hr_3 with ⟨rfl, h_6, rfl, rfl⟩ | ⟨rfl, h_7, rfl, rfl⟩
      · refine nv_if_eq (tgt := 34) hex hby dX9_append_21 (by decide) (by omega) (fun c => absurd c (by omega)) (fun _ => ?_)
        refine lv_aload_n hex hby dX9_append_24 rfl (lv_at hl 0 rfl) ?_
        refine nv_get (v := .ref hx_) CFx in_X9_append_X9 hK hP 0 rfl rfl 3 (by decide) (List.mem_of_getElem? (i := 1) rfl) f9_text dX9_append_25 ?_
        refine nv_get (v := .int (nI (tl + 1))) CFx in_X9_append_X8 hK hP 1 rfl rfl 0 (by decide) (List.mem_of_getElem? (i := 2) rfl) rfl dX9_append_28 ?_
        refine lv_goto (tgt := 36) hex hby dX9_append_31 (by decide) ?_
        exact hret _ (tl + 1, (upN tx tl wz.toNat)) _ _ _ _ _ (Or.inl ⟨rfl, _, rfl, rfl, dX9_append_36⟩) ⟨_, rfl, Or.inl ⟨rfl, (by omega), (by omega), rfl, rfl, (upN_lt htx (by omega))⟩⟩ hP hD hS
      · refine nv_if_eq (tgt := 34) hex hby dX9_append_21 (by decide) (by omega) (fun _ => ?_) (fun c => absurd c (by omega))
        refine lv_bipush (v := zI (-4)) hex hby dX9_append_34 rfl ?_
        exact hret _ (tl, tx) _ _ _ _ _ (Or.inl ⟨rfl, _, rfl, rfl, dX9_append_36⟩) ⟨_, rfl, Or.inr (Or.inr (⟨rfl, (by omega), (by omega), rfl, rfl⟩))⟩ hP hD hS
    · refine lv_bipush (v := zI (-2)) hex hby dX9_append_10 rfl ?_
      exact hret _ (tl, tx) _ _ _ _ _ (Or.inl ⟨rfl, _, rfl, rfl, dX9_append_12⟩) ⟨_, rfl, Or.inr (Or.inl ⟨rfl, (by omega), rfl, rfl⟩)⟩ hP hD hS
theorem nd_X9_faultPosition : ndV yX9_faultPosition RX9 0 := by decide +kernel
theorem in_X9_faultPosition_X9 : ∀ w ∈ wsX90, w ∈ wsX9_faultPosition := fun _ h => List.mem_cons_of_mem _ (List.mem_append_left _ (List.mem_append_right _ (h)))
set_option maxHeartbeats 4000000 in
set_option maxRecDepth 100000 in
theorem c_X9_faultPosition {h : Nat} {hx_ : Nat} {aX : Nat} {f9 : List Value} {fx : List Value} {tl : Nat} {tx : Nat → Nat} (f9_text : f9[3]? = some (.ref hx_)) (ftl : fx[0]? = some (.int (nI tl))) (faX : fx[1]? = some (.ref aX)) (htx : ∀ j, tx j < 128) (htl : tl ≤ 80) : RO l yX9_faultPosition wsX9_faultPosition 4 88 (dC, dI) (tyK cI cZ cS) [(h, .inr (9, f9)), (hx_, .inr (8, fx)), (aX, .inl (cI, 80, .inl (nA tx)))] [.ref h] (rI (fun r => (∃ k : Nat, r = nI k ∧ Flt tx tl (k : Int)) ∨ (r = zI (-5) ∧ Flt tx tl (-1)))) := by
  refine ro_of (by decide) rfl (Nat.le_of_ble_eq_true rfl) ?_
  intro pp ee ss mm bb mt cd Q CFx hP hK hret ls hl
  obtain ⟨hex, hby, hml, hown, hts⟩ := id CFx
  have hl : lv_has ls 2 [(0, .ref h)] := hl
  refine lv_aload_n hex hby dX9_faultPosition_0 rfl (lv_at hl 0 rfl) ?_
  refine nv_get (v := .ref hx_) CFx in_X9_faultPosition_X9 hK hP 0 rfl rfl 3 (by decide) (List.mem_of_getElem? (i := 1) rfl) f9_text dX9_faultPosition_1 ?_
  refine ro_Vi (As := []) (rest := []) CFx (c_X8_findFault (hx_ := hx_) (aX := aX) (fx := fx) (tl := tl) (tx := tx) ftl faX htx htl) 0 gX9_faultPosition_X8_findFault rfl nd_X8_findFault ⟨Nat.le_of_ble_eq_true rfl, Nat.le_of_ble_eq_true rfl⟩ hK hP [1, 2] rfl rfl rfl rfl hl.1 rfl (Nat.le_of_ble_eq_true rfl) dX9_faultPosition_4 ⟨Nat.le_refl _, Nat.le_refl _⟩ (fun r_1 hr_1 => ?_)
  rcases hr_1 with ⟨k, rfl, hk1, hk2⟩ | ⟨rfl, hf⟩
  · refine lv_istore_n (lv' := [(1, .int (nI k)), (0, .ref h)]) hex hby dX9_faultPosition_7 rfl hl (by decide) rfl (fun ls hl => ?_)
    refine lv_iload_n hex hby dX9_faultPosition_8 rfl (lv_at hl 0 rfl) ?_
    refine lv_iconst (v := zI (-1)) hex hby dX9_faultPosition_9 rfl ?_
    refine ni_icmp_ne (tgt := 18) (a := (k : Int)) (b := -1) hex hby dX9_faultPosition_10 (by decide) (ni_toInt (by omega)) (zI_toInt (by omega) (by omega)) (fun c_2 => ?_) (fun c_2 => absurd c_2 (by omega))
    refine lv_iload_n hex hby dX9_faultPosition_18 rfl (lv_at hl 0 rfl) ?_
    exact hret _ _ _ _ (Or.inl ⟨rfl, _, rfl, rfl, dX9_faultPosition_19⟩) ⟨_, rfl, Or.inl ⟨k, rfl, hk2⟩⟩
  · refine lv_istore_n (lv' := [(1, .int (zI (-1))), (0, .ref h)]) hex hby dX9_faultPosition_7 rfl hl (by decide) rfl (fun ls hl => ?_)
    refine lv_iload_n hex hby dX9_faultPosition_8 rfl (lv_at hl 0 rfl) ?_
    refine lv_iconst (v := zI (-1)) hex hby dX9_faultPosition_9 rfl ?_
    refine ni_icmp_ne (tgt := 18) (a := -1) (b := -1) hex hby dX9_faultPosition_10 (by decide) (zI_toInt (by omega) (by omega)) (zI_toInt (by omega) (by omega)) (fun c_3 => absurd c_3 (by omega)) (fun c_3 => ?_)
    refine lv_bipush (v := zI (-5)) hex hby dX9_faultPosition_13 rfl ?_
    refine lv_goto (tgt := 19) hex hby dX9_faultPosition_15 (by decide) ?_
    exact hret _ _ _ _ (Or.inl ⟨rfl, _, rfl, rfl, dX9_faultPosition_19⟩) ⟨_, rfl, Or.inr ⟨rfl, hf⟩⟩
theorem nd_X9_interval : ndV yX9_interval RX9 2 := by decide +kernel
theorem in_X9_interval_X0 : ∀ w ∈ wsX00, w ∈ wsX9_interval := fun _ h => List.mem_cons_of_mem _ (List.mem_append_right _ (h))
theorem in_X9_interval_X9 : ∀ w ∈ wsX90, w ∈ wsX9_interval := fun _ h => List.mem_cons_of_mem _ (List.mem_append_left _ (List.mem_append_right _ (h)))
set_option maxHeartbeats 4000000 in
set_option maxRecDepth 100000 in
theorem c_X9_interval {h : Nat} {ho : Nat} {aF : Nat} {aG : Nat} {f9 : List Value} {fo : List Value} {cn : Nat} {F : Nat → Nat} {G : Nat → Nat} {k : Int32} {kz : Int} {w : Int32} {wz : Int} {T : Nat → Nat} {ns : Nat} {m : Nat} {rl : Nat} {rb : Nat} {rr : Nat} {ra : Nat} (f9_cover : f9[5]? = some (.ref ho)) (fcn : fo[0]? = some (.int (nI cn))) (faF : fo[1]? = some (.ref aF)) (faG : fo[2]? = some (.ref aG)) (hkz : k.toInt = kz) (hwz : w.toInt = wz) (hFb : ∀ j, F j < 4096) (hGb : ∀ j, G j < 4096) (hcn : cn ≤ 505) (hI : IvOK (inG (cvc T m) rl rb rr ra) (4 ^ m) cn F G) : RO l yX9_interval wsX9_interval 0 0 (dC, dI) (tyK cI cZ cS) [(h, .inr (9, f9)), (ho, .inr (0, fo)), (aF, .inl (cI, 505, .inl (nA F))), (aG, .inl (cI, 505, .inl (nA G)))] [.ref h, .int k, .int w] (rI (fun r => (∃ v : Nat, r = nI v ∧ (0 ≤ kz ∧ kz < ((ctP (stI (inG (cvc T m) rl rb rr ra)) (4 ^ m) : Nat) : Int)) ∧ IvAt (inG (cvc T m) rl rb rr ra) (4 ^ m) kz.toNat (wz ≠ 0) v) ∨ (r = zI (-1) ∧ (¬ (0 ≤ kz ∧ kz < ((ctP (stI (inG (cvc T m) rl rb rr ra)) (4 ^ m) : Nat) : Int)))))) := by
  refine ro_of (by decide) rfl (Nat.le_of_ble_eq_true rfl) ?_
  intro pp ee ss mm bb mt cd Q CFx hP hK hret ls hl
  obtain ⟨hex, hby, hml, hown, hts⟩ := id CFx
  have hl : lv_has ls 3 [(0, .ref h), (1, .int k), (2, .int w)] := hl
  have hc1 := hI.1
  refine lv_iload_n hex hby dX9_interval_0 rfl (lv_at hl 1 rfl) ?_
  refine ni_if_lt (tgt := 15) (a := k.toInt) hex hby dX9_interval_1 (by decide) rfl (fun c_1 => ?_) (fun c_1 => ?_)
  · refine lv_iconst (v := zI (-1)) hex hby dX9_interval_15 rfl ?_
    exact hret _ _ _ _ (Or.inl ⟨rfl, _, rfl, rfl, dX9_interval_16⟩) ⟨_, rfl, Or.inr ⟨rfl, (by omega)⟩⟩
  · refine lv_iload_n hex hby dX9_interval_4 rfl (lv_at hl 1 rfl) ?_
    refine lv_aload_n hex hby dX9_interval_5 rfl (lv_at hl 0 rfl) ?_
    refine nv_get (v := .ref ho) CFx in_X9_interval_X9 hK hP 0 rfl rfl 5 (by decide) (List.mem_of_getElem? (i := 1) rfl) f9_cover dX9_interval_6 ?_
    refine nv_get (v := .int (nI cn)) CFx in_X9_interval_X0 hK hP 1 rfl rfl 0 (by decide) (List.mem_of_getElem? (i := 2) rfl) fcn dX9_interval_9 ?_
    refine ni_icmp_lt (tgt := 17) (a := k.toInt) (b := (cn : Int)) hex hby dX9_interval_12 (by decide) rfl (ni_toInt (by omega)) (fun c_2 => ?_) (fun c_2 => ?_)
    · obtain ⟨kn, hkn_, rfl, hkne⟩ := ni_of (x := k) (by omega)
      have hkt : kz.toNat = kn := by omega
      refine lv_iload_n hex hby dX9_interval_17 rfl (lv_at hl 2 rfl) ?_
      refine ni_if_eq (tgt := 33) (a := w.toInt) hex hby dX9_interval_18 (by decide) rfl (fun c_3 => ?_) (fun c_3 => ?_)
      · refine lv_aload_n hex hby dX9_interval_33 rfl (lv_at hl 0 rfl) ?_
        refine nv_get (v := .ref ho) CFx in_X9_interval_X9 hK hP 0 rfl rfl 5 (by decide) (List.mem_of_getElem? (i := 1) rfl) f9_cover dX9_interval_34 ?_
        refine nv_get (v := .ref aF) CFx in_X9_interval_X0 hK hP 1 rfl rfl 1 (by decide) (List.mem_of_getElem? (i := 4) rfl) faF dX9_interval_37 ?_
        refine lv_iload_n hex hby dX9_interval_40 rfl (lv_at hl 1 rfl) ?_
        refine nv_iald hex hby hK hP 2 0 rfl rfl (by omega) (by omega) dX9_interval_41 ?_
        have hb_4 := hFb kn
        exact hret _ _ _ _ (Or.inl ⟨rfl, _, rfl, rfl, dX9_interval_42⟩) ⟨_, rfl, Or.inl ⟨(F kn), rfl, (by omega), (by rw [hkt]; exact ⟨cn, F, G, hI, by omega, fun z => absurd (show wz = 0 by omega) z, fun _ => rfl⟩)⟩⟩
      · refine lv_aload_n hex hby dX9_interval_21 rfl (lv_at hl 0 rfl) ?_
        refine nv_get (v := .ref ho) CFx in_X9_interval_X9 hK hP 0 rfl rfl 5 (by decide) (List.mem_of_getElem? (i := 1) rfl) f9_cover dX9_interval_22 ?_
        refine nv_get (v := .ref aG) CFx in_X9_interval_X0 hK hP 1 rfl rfl 2 (by decide) (List.mem_of_getElem? (i := 3) rfl) faG dX9_interval_25 ?_
        refine lv_iload_n hex hby dX9_interval_28 rfl (lv_at hl 1 rfl) ?_
        refine nv_iald hex hby hK hP 3 0 rfl rfl (by omega) (by omega) dX9_interval_29 ?_
        have hb_5 := hGb kn
        refine lv_goto (tgt := 42) hex hby dX9_interval_30 (by decide) ?_
        exact hret _ _ _ _ (Or.inl ⟨rfl, _, rfl, rfl, dX9_interval_42⟩) ⟨_, rfl, Or.inl ⟨(G kn), rfl, (by omega), (by rw [hkt]; exact ⟨cn, F, G, hI, by omega, fun _ => rfl, fun z => absurd (show wz ≠ 0 by omega) z⟩)⟩⟩
    · refine lv_iconst (v := zI (-1)) hex hby dX9_interval_15 rfl ?_
      exact hret _ _ _ _ (Or.inl ⟨rfl, _, rfl, rfl, dX9_interval_16⟩) ⟨_, rfl, Or.inr ⟨rfl, (by omega)⟩⟩
theorem nd_X9_leafAt : ndV yX9_leafAt RX9 2 := by decide +kernel
theorem in_X9_leafAt_X5 : ∀ w ∈ wsX50, w ∈ wsX9_leafAt := fun _ h => List.mem_cons_of_mem _ (List.mem_append_left _ (List.mem_append_left _ (List.mem_append_right _ (h))))
theorem in_X9_leafAt_X9 : ∀ w ∈ wsX90, w ∈ wsX9_leafAt := fun _ h => List.mem_cons_of_mem _ (List.mem_append_left _ (List.mem_append_left _ (List.mem_append_left _ (List.mem_append_right _ (h)))))
set_option maxHeartbeats 4000000 in
set_option maxRecDepth 100000 in
theorem c_X9_leafAt {h : Nat} {hw : Nat} {hd : Nat} {aS : Nat} {hn : Nat} {aI : Nat} {f9 : List Value} {f5 : List Value} {fd : List Value} {c : Nat} {S : Nat → Nat} {fn : List Value} {ix : Nat → Nat} {x : Int32} {xz : Int} {y : Int32} {yz : Int} {T : Nat → Nat} {ns : Nat} {g : Nat → Nat} {m : Nat} {st : Nat → Nat} {lv : Nat → Nat} (f9_now : f9[0]? = some (.ref hw)) (f9_numbering : f9[4]? = some (.ref hn)) (f5_division : f5[6]? = some (.ref hd)) (fdc : fd[0]? = some (.int (nI c))) (faS : fd[1]? = some (.ref aS)) (fn_side : fn[0]? = some (.int (nI (2 ^ m)))) (fn_I : fn[3]? = some (.ref aI)) (hxz : x.toInt = xz) (hyz : y.toInt = yz) (hix : ∀ j, ix j < 4096) (hm6 : m ≤ 6) (hV : VT T ns) (hN : NumOK T m g ix) (hSb : ∀ j, S j < 4097) (hL : LvL m c st lv) (hag : ∀ j, j ≤ c → S j = st j) (hc : c ≤ 496) : RO l yX9_leafAt wsX9_leafAt 1 25 (dC, dI) (tyK cI cZ cS) [(h, .inr (9, f9)), (hw, .inr (5, f5)), (hd, .inr (1, fd)), (aS, .inl (cI, 497, .inl (nA S))), (hn, .inr (2, fn)), (aI, .inl (cI, 4096, .inl (nA ix)))] [.ref h, .int x, .int y] (rI (fun r => (∃ v : Nat, r = nI v ∧ (0 ≤ xz ∧ xz < ((2 ^ m : Nat) : Int) ∧ 0 ≤ yz ∧ yz < ((2 ^ m : Nat) : Int)) ∧ v < c ∧ inLf T m st lv v xz.toNat yz.toNat) ∨ (r = zI (-1) ∧ (¬ (0 ≤ xz ∧ xz < ((2 ^ m : Nat) : Int) ∧ 0 ≤ yz ∧ yz < ((2 ^ m : Nat) : Int)))))) := by
  refine ro_of (by decide) rfl (Nat.le_of_ble_eq_true rfl) ?_
  intro pp ee ss mm bb mt cd Q CFx hP hK hret ls hl
  obtain ⟨hex, hby, hml, hown, hts⟩ := id CFx
  have hl : lv_has ls 3 [(0, .ref h), (1, .int x), (2, .int y)] := hl
  have h26 := p2_6 hm6
  have h46 := p4_6 hm6
  have h4p := p4_pos m
  refine lv_aload_n hex hby dX9_leafAt_0 rfl (lv_at hl 0 rfl) ?_
  refine nv_get (v := .ref hn) CFx in_X9_leafAt_X9 hK hP 0 rfl rfl 4 (by decide) (List.mem_of_getElem? (i := 1) rfl) f9_numbering dX9_leafAt_1 ?_
  refine lv_iload_n hex hby dX9_leafAt_4 rfl (lv_at hl 1 rfl) ?_
  refine lv_iload_n hex hby dX9_leafAt_5 rfl (lv_at hl 2 rfl) ?_
  refine ro_Vi (As := [.int x, .int y]) (rest := []) CFx (c_X2_holds (h := hn) (fs := fn) (sd := 2 ^ m) (x := x) (xz := x.toInt) (y := y) (yz := y.toInt) fn_side rfl rfl (by omega)) 2 gX9_leafAt_X2_holds rfl nd_X2_holds ⟨Nat.le_of_ble_eq_true rfl, Nat.le_of_ble_eq_true rfl⟩ hK hP [4] rfl rfl rfl rfl hl.1 rfl (Nat.le_of_ble_eq_true rfl) dX9_leafAt_6 ⟨Nat.le_refl _, Nat.le_refl _⟩ (fun r_1 hr_1 => ?_)
  rcases hr_1 with ⟨rfl, h_2⟩ | ⟨rfl, h_3⟩
  · refine nv_if_eq (tgt := 34) hex hby dX9_leafAt_9 (by decide) (by omega) (fun c => absurd c (by omega)) (fun _ => ?_)
    obtain ⟨xn, hxn_, rfl, hxne⟩ := ni_of (x := x) (by omega)
    obtain ⟨yn, hyn_, rfl, hyne⟩ := ni_of (x := y) (by omega)
    have hxt : xz.toNat = xn := by omega
    have hyt : yz.toNat = yn := by omega
    have hna := num_at hV hN (x := xn) (y := yn) (by omega) (by omega)
    refine lv_aload_n hex hby dX9_leafAt_12 rfl (lv_at hl 0 rfl) ?_
    refine nv_get (v := .ref hw) CFx in_X9_leafAt_X9 hK hP 0 rfl rfl 0 (by decide) (List.mem_of_getElem? (i := 2) rfl) f9_now dX9_leafAt_13 ?_
    refine nv_get (v := .ref hd) CFx in_X9_leafAt_X5 hK hP 1 rfl rfl 6 (by decide) (List.mem_of_getElem? (i := 3) rfl) f5_division dX9_leafAt_16 ?_
    refine lv_aload_n hex hby dX9_leafAt_19 rfl (lv_at hl 0 rfl) ?_
    refine nv_get (v := .ref hn) CFx in_X9_leafAt_X9 hK hP 0 rfl rfl 4 (by decide) (List.mem_of_getElem? (i := 1) rfl) f9_numbering dX9_leafAt_20 ?_
    refine lv_iload_n hex hby dX9_leafAt_23 rfl (lv_at hl 1 rfl) ?_
    refine lv_iload_n hex hby dX9_leafAt_24 rfl (lv_at hl 2 rfl) ?_
    refine ro_Vi (As := [.int (nI xn), .int (nI yn)]) (rest := [.ref hd]) CFx (c_X2_indexOf (h := hn) (aI := aI) (fs := fn) (ix := ix) (x := xn) (y := yn) fn_I hix (by omega) (by omega)) 2 gX9_leafAt_X2_indexOf rfl nd_X2_indexOf ⟨Nat.le_of_ble_eq_true rfl, Nat.le_of_ble_eq_true rfl⟩ hK hP [4, 5] rfl rfl rfl rfl hl.1 rfl (Nat.le_of_ble_eq_true rfl) dX9_leafAt_25 ⟨Nat.le_refl _, Nat.le_refl _⟩ (fun r_4 hr_4 => ?_)
    obtain rfl := hr_4
    refine ro_Vi (As := [.int (nI (ix (yn * 64 + xn)))]) (rest := []) CFx (c_X1_leafOfIndex (hd := hd) (aS := aS) (fd := fd) (c := c) (S := S) (i := ix (yn * 64 + xn)) (m := m) (st := st) (lv := lv) fdc faS hSb hL hag hc hm6 hna.1) 1 gX9_leafAt_X1_leafOfIndex rfl nd_X1_leafOfIndex ⟨Nat.le_of_ble_eq_true rfl, Nat.le_of_ble_eq_true rfl⟩ hK hP [2, 3] rfl rfl rfl rfl hl.1 rfl (Nat.le_of_ble_eq_true rfl) dX9_leafAt_28 ⟨Nat.le_refl _, Nat.le_refl _⟩ (fun r_5 hr_5 => ?_)
    obtain ⟨v, rfl, hv1, hv2, hv3⟩ := hr_5
    have hg1 := (geo hV hL hv1 hna.1).mp ⟨hv2, hv3⟩
    rw [hna.2.1, hna.2.2] at hg1
    refine lv_goto (tgt := 35) hex hby dX9_leafAt_31 (by decide) ?_
    exact hret _ _ _ _ (Or.inl ⟨rfl, _, rfl, rfl, dX9_leafAt_35⟩) ⟨_, rfl, Or.inl ⟨v, rfl, (by omega), hv1, (by rw [hxt, hyt]; exact hg1)⟩⟩
  · refine nv_if_eq (tgt := 34) hex hby dX9_leafAt_9 (by decide) (by omega) (fun _ => ?_) (fun c => absurd c (by omega))
    refine lv_iconst (v := zI (-1)) hex hby dX9_leafAt_34 rfl ?_
    exact hret _ _ _ _ (Or.inl ⟨rfl, _, rfl, rfl, dX9_leafAt_35⟩) ⟨_, rfl, Or.inr ⟨rfl, (by omega)⟩⟩
theorem nd_X9_redivide : ndV yX9_redivide RX9 0 := by decide +kernel
theorem in_X9_redivide_X5 : ∀ w ∈ wsX50, w ∈ wsX9_redivide := fun _ h => List.mem_cons_of_mem _ (List.mem_append_left _ (List.mem_append_left _ (List.mem_append_left _ (List.mem_append_right _ (h)))))
theorem in_X9_redivide_X9 : ∀ w ∈ wsX90, w ∈ wsX9_redivide := fun _ h => List.mem_cons_of_mem _ (List.mem_append_left _ (List.mem_append_left _ (List.mem_append_left _ (List.mem_append_left _ (List.mem_append_right _ (h))))))
set_option maxHeartbeats 4000000 in
set_option maxRecDepth 100000 in
theorem c_X9_redivide {h : Nat} {hw : Nat} {hd : Nat} {aS : Nat} {hn : Nat} {aI : Nat} {hq : Nat} {aP : Nat} {f9 : List Value} {f5 : List Value} {bk : Nat} {v0 : Value} {S0 : Nat → Nat} {fn : List Value} {ix : Nat → Nat} {fq : List Value} {pc : Nat} {P : Nat → Nat} {T : Nat → Nat} {ns : Nat} {g : Nat → Nat} {m : Nat} (f9_now : f9[0]? = some (.ref hw)) (f9_numbering : f9[4]? = some (.ref hn)) (f5_points : f5[4]? = some (.ref hq)) (f5_bucket : f5[5]? = some (.int (nI bk))) (f5_division : f5[6]? = some (.ref hd)) (fn_cells : fn[1]? = some (.int (nI (4 ^ m)))) (fn_I : fn[3]? = some (.ref aI)) (fpc : fq[0]? = some (.int (nI pc))) (faP : fq[1]? = some (.ref aP)) (hSb0 : ∀ j, S0 j < 4097) (hPb : ∀ j, P j < 4096) (hpc : pc ≤ 40) (hix : ∀ j, ix j < 4096) (hV : VT T ns) (hN : NumOK T m g ix) (hpg : ∀ j, j < pc → P j % 64 < 2 ^ m ∧ P j / 64 < 2 ^ m) (hm1 : 1 ≤ m) (hm6 : m ≤ 6) (hb1 : 1 ≤ bk) (hbk : bk ≤ 8) : MU l yX9_redivide wsX9_redivide 5 118 (dC, dI) (tyK cI cZ cS) [(h, .inr (9, f9)), (hw, .inr (5, f5)), (hd, .inr (1, [v0, .ref aS])), (aS, .inl (cI, 497, .inl (nA S0))), (hn, .inr (2, fn)), (aI, .inl (cI, 4096, .inl (nA ix))), (hq, .inr (3, fq)), (aP, .inl (cI, 40, .inl (nA P)))] [] [.ref h] (fun rv_ (u_ : Nat × (Nat → Nat)) => rV (∃ st' : Nat → Nat, ∃ lv' : Nat → Nat, DivC m pc bk (ptv T m P) u_.1 st' lv' ∧ LD T m pc (ptv T m P) u_.1 st' lv' ∧ (∀ j, j ≤ u_.1 → u_.2 j = st' j) ∧ (∀ j, u_.2 j < 4097)) rv_) (fun (u_ : Nat × (Nat → Nat)) => [(h, .inr (9, f9)), (hw, .inr (5, f5)), (hd, .inr (1, [.int (nI u_.1), .ref aS])), (aS, .inl (cI, 497, .inl (nA u_.2))), (hn, .inr (2, fn)), (aI, .inl (cI, 4096, .inl (nA ix))), (hq, .inr (3, fq)), (aP, .inl (cI, 40, .inl (nA P)))]) := by
  refine mu_of (by decide) rfl (Nat.le_of_ble_eq_true rfl) ?_
  intro pp ee ss mm bb mt cd Q A CFx hP hK hD hS hA hTr hret ls hl
  obtain ⟨hex, hby, hml, hown, hts⟩ := id CFx
  have hl : lv_has ls 1 [(0, .ref h)] := hl
  refine lv_aload_n hex hby dX9_redivide_0 rfl (lv_at hl 0 rfl) ?_
  refine nv_get (v := .ref hw) CFx in_X9_redivide_X9 hK hP 0 rfl rfl 0 (by decide) (List.mem_of_getElem? (i := 1) rfl) f9_now dX9_redivide_1 ?_
  refine nv_get (v := .ref hd) CFx in_X9_redivide_X5 hK hP 1 rfl rfl 6 (by decide) (List.mem_of_getElem? (i := 2) rfl) f5_division dX9_redivide_4 ?_
  refine lv_aload_n hex hby dX9_redivide_7 rfl (lv_at hl 0 rfl) ?_
  refine nv_get (v := .ref hn) CFx in_X9_redivide_X9 hK hP 0 rfl rfl 4 (by decide) (List.mem_of_getElem? (i := 3) rfl) f9_numbering dX9_redivide_8 ?_
  refine lv_aload_n hex hby dX9_redivide_11 rfl (lv_at hl 0 rfl) ?_
  refine nv_get (v := .ref hw) CFx in_X9_redivide_X9 hK hP 0 rfl rfl 0 (by decide) (List.mem_of_getElem? (i := 1) rfl) f9_now dX9_redivide_12 ?_
  refine nv_get (v := .ref hq) CFx in_X9_redivide_X5 hK hP 1 rfl rfl 4 (by decide) (List.mem_of_getElem? (i := 4) rfl) f5_points dX9_redivide_15 ?_
  refine lv_aload_n hex hby dX9_redivide_18 rfl (lv_at hl 0 rfl) ?_
  refine nv_get (v := .ref hw) CFx in_X9_redivide_X9 hK hP 0 rfl rfl 0 (by decide) (List.mem_of_getElem? (i := 1) rfl) f9_now dX9_redivide_19 ?_
  refine nv_get (v := .int (nI bk)) CFx in_X9_redivide_X5 hK hP 1 rfl rfl 5 (by decide) (List.mem_of_getElem? (i := 5) rfl) f5_bucket dX9_redivide_22 ?_
  refine mu_Vv (As := [.ref hn, .ref hq, .int (nI bk)]) (rest := []) (wr := [(h, .inr (9, f9)), (hw, .inr (5, f5))]) CFx (c_X1_fill (hd := hd) (aS := aS) (hn := hn) (aI := aI) (hq := hq) (aP := aP) (v0 := v0) (S0 := S0) (fn := fn) (ce := 4 ^ m) (ix := ix) (fq := fq) (pc := pc) (P := P) (b := bk) (T := T) (ns := ns) (m := m) fn_cells fn_I fpc faP hSb0 hPb hpc hix hV rfl hm1 hm6 hb1 hbk) 3 gX9_redivide_X1_fill rfl nd_X1_fill ⟨Nat.le_of_ble_eq_true rfl, Nat.le_of_ble_eq_true rfl⟩ hK hP hD hS hA [2, 3, 4, 5, 6, 7] [0, 1] rfl rfl (by decide) (by decide) (by decide) TR.nil rfl rfl rfl hl.1 rfl (Nat.le_of_ble_eq_true rfl) dX9_redivide_25 ⟨Nat.le_refl _, Nat.le_refl _⟩ (fun u H locs hr_1 hP hD hS => ?_)
  obtain ⟨c1, S1⟩ := u
  dsimp only at hr_1 hP hD
  have hP : va_P (dC, dI) vwCl [(h, .inr (9, f9)), (hw, .inr (5, f5)), (hd, .inr (1, [.int (nI c1), .ref aS])), (aS, .inl (cI, 497, .inl (nA S1))), (hn, .inr (2, fn)), (aI, .inl (cI, 4096, .inl (nA ix))), (hq, .inr (3, fq)), (aP, .inl (cI, 40, .inl (nA P)))] H := hP
  have hD : va_D A [(h, .inr (9, f9)), (hw, .inr (5, f5)), (hd, .inr (1, [.int (nI c1), .ref aS])), (aS, .inl (cI, 497, .inl (nA S1))), (hn, .inr (2, fn)), (aI, .inl (cI, 4096, .inl (nA ix))), (hq, .inr (3, fq)), (aP, .inl (cI, 40, .inl (nA P)))] := hD
  obtain ⟨sn, ln, hd1, hd2, hd3, hd4⟩ := hr_1
  exact hret _ (c1, S1) _ _ _ _ _ (Or.inr (Or.inr (Or.inl ⟨rfl, rfl, rfl, dX9_redivide_28⟩))) ⟨rfl, ⟨sn, ln, (hd1.congr (pg_iv hV hN hpg)), (hd2.congr (pg_iv hV hN hpg)), hd3, hd4⟩⟩ hP hD hS
theorem nd_X9_nearest : ndV yX9_nearest RX9 2 := by decide +kernel
theorem in_X9_nearest_X5 : ∀ w ∈ wsX50, w ∈ wsX9_nearest := fun _ h => List.mem_cons_of_mem _ (List.mem_append_left _ (List.mem_append_left _ (List.mem_append_right _ (h))))
theorem in_X9_nearest_X9 : ∀ w ∈ wsX90, w ∈ wsX9_nearest := fun _ h => List.mem_cons_of_mem _ (List.mem_append_left _ (List.mem_append_left _ (List.mem_append_left _ (List.mem_append_right _ (h)))))
set_option maxHeartbeats 4000000 in
set_option maxRecDepth 100000 in
theorem c_X9_nearest {h : Nat} {hw : Nat} {hq : Nat} {aP : Nat} {hn : Nat} {aI : Nat} {f9 : List Value} {f5 : List Value} {fq : List Value} {pc : Nat} {P : Nat → Nat} {fn : List Value} {ix : Nat → Nat} {x : Int32} {xz : Int} {y : Int32} {yz : Int} {T : Nat → Nat} {ns : Nat} {g : Nat → Nat} {m : Nat} (f9_now : f9[0]? = some (.ref hw)) (f9_numbering : f9[4]? = some (.ref hn)) (f5_points : f5[4]? = some (.ref hq)) (fpc : fq[0]? = some (.int (nI pc))) (faP : fq[1]? = some (.ref aP)) (fn_side : fn[0]? = some (.int (nI (2 ^ m)))) (fn_I : fn[3]? = some (.ref aI)) (hxz : x.toInt = xz) (hyz : y.toInt = yz) (hix : ∀ j, ix j < 4096) (hPb : ∀ j, P j < 4096) (hpc : pc ≤ 40) (hm6 : m ≤ 6) (hV : VT T ns) (hN : NumOK T m g ix) (hpg : ∀ j, j < pc → P j % 64 < 2 ^ m ∧ P j / 64 < 2 ^ m) : RO l yX9_nearest wsX9_nearest 3 70 (dC, dI) (tyK cI cZ cS) [(h, .inr (9, f9)), (hw, .inr (5, f5)), (hq, .inr (3, fq)), (aP, .inl (cI, 40, .inl (nA P))), (hn, .inr (2, fn)), (aI, .inl (cI, 4096, .inl (nA ix)))] [.ref h, .int x, .int y] (rI (fun r => (r = zI (nrs (ptv T m P) (cvi T m xz.toNat yz.toNat) pc) ∧ (0 ≤ xz ∧ xz < ((2 ^ m : Nat) : Int) ∧ 0 ≤ yz ∧ yz < ((2 ^ m : Nat) : Int)) ∧ 0 < pc) ∨ (r = zI (-5) ∧ (0 ≤ xz ∧ xz < ((2 ^ m : Nat) : Int) ∧ 0 ≤ yz ∧ yz < ((2 ^ m : Nat) : Int)) ∧ pc = 0) ∨ (r = zI (-1) ∧ (¬ (0 ≤ xz ∧ xz < ((2 ^ m : Nat) : Int) ∧ 0 ≤ yz ∧ yz < ((2 ^ m : Nat) : Int)))))) := by
  refine ro_of (by decide) rfl (Nat.le_of_ble_eq_true rfl) ?_
  intro pp ee ss mm bb mt cd Q CFx hP hK hret ls hl
  obtain ⟨hex, hby, hml, hown, hts⟩ := id CFx
  have hl : lv_has ls 4 [(0, .ref h), (1, .int x), (2, .int y)] := hl
  have h26 := p2_6 hm6
  have h46 := p4_6 hm6
  have h4p := p4_pos m
  refine lv_aload_n hex hby dX9_nearest_0 rfl (lv_at hl 0 rfl) ?_
  refine nv_get (v := .ref hn) CFx in_X9_nearest_X9 hK hP 0 rfl rfl 4 (by decide) (List.mem_of_getElem? (i := 1) rfl) f9_numbering dX9_nearest_1 ?_
  refine lv_iload_n hex hby dX9_nearest_4 rfl (lv_at hl 1 rfl) ?_
  refine lv_iload_n hex hby dX9_nearest_5 rfl (lv_at hl 2 rfl) ?_
  refine ro_Vi (As := [.int x, .int y]) (rest := []) CFx (c_X2_holds (h := hn) (fs := fn) (sd := 2 ^ m) (x := x) (xz := x.toInt) (y := y) (yz := y.toInt) fn_side rfl rfl (by omega)) 2 gX9_nearest_X2_holds rfl nd_X2_holds ⟨Nat.le_of_ble_eq_true rfl, Nat.le_of_ble_eq_true rfl⟩ hK hP [4] rfl rfl rfl rfl hl.1 rfl (Nat.le_of_ble_eq_true rfl) dX9_nearest_6 ⟨Nat.le_refl _, Nat.le_refl _⟩ (fun r_1 hr_1 => ?_)
  rcases hr_1 with ⟨rfl, h_2⟩ | ⟨rfl, h_3⟩
  · refine nv_if_ne (tgt := 14) hex hby dX9_nearest_9 (by decide) (by omega) (fun _ => ?_) (fun c => absurd c (by omega))
    obtain ⟨xn, hxn_, rfl, hxne⟩ := ni_of (x := x) (by omega)
    obtain ⟨yn, hyn_, rfl, hyne⟩ := ni_of (x := y) (by omega)
    have hxt : xz.toNat = xn := by omega
    have hyt : yz.toNat = yn := by omega
    have hob := hix (yn * 64 + xn)
    have hoc : ix (yn * 64 + xn) = cvi T m xn yn := hN.ix hV (by omega) (by omega)
    have hnr := nrs_rng (q := fun j => ix (P j)) (fun j => hix (P j)) (ix (yn * 64 + xn)) pc
    have hnp := @nrs_pos (fun j => ix (P j)) (ix (yn * 64 + xn)) pc
    have hn0 : pc = 0 → nrs (fun j => ix (P j)) (ix (yn * 64 + xn)) pc = -1 := by intro z; rw [z]; rfl
    refine lv_aload_n hex hby dX9_nearest_14 rfl (lv_at hl 0 rfl) ?_
    refine nv_get (v := .ref hw) CFx in_X9_nearest_X9 hK hP 0 rfl rfl 0 (by decide) (List.mem_of_getElem? (i := 2) rfl) f9_now dX9_nearest_15 ?_
    refine nv_get (v := .ref hq) CFx in_X9_nearest_X5 hK hP 1 rfl rfl 4 (by decide) (List.mem_of_getElem? (i := 3) rfl) f5_points dX9_nearest_18 ?_
    refine lv_aload_n hex hby dX9_nearest_21 rfl (lv_at hl 0 rfl) ?_
    refine nv_get (v := .ref hn) CFx in_X9_nearest_X9 hK hP 0 rfl rfl 4 (by decide) (List.mem_of_getElem? (i := 1) rfl) f9_numbering dX9_nearest_22 ?_
    refine lv_aload_n hex hby dX9_nearest_25 rfl (lv_at hl 0 rfl) ?_
    refine nv_get (v := .ref hn) CFx in_X9_nearest_X9 hK hP 0 rfl rfl 4 (by decide) (List.mem_of_getElem? (i := 1) rfl) f9_numbering dX9_nearest_26 ?_
    refine lv_iload_n hex hby dX9_nearest_29 rfl (lv_at hl 1 rfl) ?_
    refine lv_iload_n hex hby dX9_nearest_30 rfl (lv_at hl 2 rfl) ?_
    refine ro_Vi (As := [.int (nI xn), .int (nI yn)]) (rest := [.ref hn, .ref hq]) CFx (c_X2_indexOf (h := hn) (aI := aI) (fs := fn) (ix := ix) (x := xn) (y := yn) fn_I hix (by omega) (by omega)) 2 gX9_nearest_X2_indexOf rfl nd_X2_indexOf ⟨Nat.le_of_ble_eq_true rfl, Nat.le_of_ble_eq_true rfl⟩ hK hP [4, 5] rfl rfl rfl rfl hl.1 rfl (Nat.le_of_ble_eq_true rfl) dX9_nearest_31 ⟨Nat.le_refl _, Nat.le_refl _⟩ (fun r_4 hr_4 => ?_)
    obtain rfl := hr_4
    refine ro_Vi (As := [.ref hn, .int (nI (ix (yn * 64 + xn)))]) (rest := []) CFx (c_X3_findNearest (hq := hq) (aP := aP) (hn := hn) (aI := aI) (fq := fq) (pc := pc) (P := P) (fn := fn) (ix := ix) (own := ix (yn * 64 + xn)) fpc faP fn_I hPb hpc hix (by omega)) 2 gX9_nearest_X3_findNearest rfl nd_X3_findNearest ⟨Nat.le_of_ble_eq_true rfl, Nat.le_of_ble_eq_true rfl⟩ hK hP [2, 3, 4, 5] rfl rfl rfl rfl hl.1 rfl (Nat.le_of_ble_eq_true rfl) dX9_nearest_34 ⟨Nat.le_refl _, Nat.le_refl _⟩ (fun r_5 hr_5 => ?_)
    obtain rfl := hr_5
    refine lv_istore_n (lv' := [(3, .int (zI (nrs (fun j => ix (P j)) (ix (yn * 64 + xn)) pc))), (0, .ref h), (1, .int (nI xn)), (2, .int (nI yn))]) hex hby dX9_nearest_37 rfl hl (by decide) rfl (fun ls hl => ?_)
    refine lv_iload_n hex hby dX9_nearest_38 rfl (lv_at hl 0 rfl) ?_
    refine lv_iconst (v := zI (-1)) hex hby dX9_nearest_39 rfl ?_
    refine ni_icmp_ne (tgt := 48) (a := nrs (fun j => ix (P j)) (ix (yn * 64 + xn)) pc) (b := -1) hex hby dX9_nearest_40 (by decide) (zI_toInt (by omega) (by omega)) (zI_toInt (by omega) (by omega)) (fun c_6 => ?_) (fun c_6 => ?_)
    · refine lv_iload_n hex hby dX9_nearest_48 rfl (lv_at hl 0 rfl) ?_
      have pf_7 : 0 < pc := by
        skip
        rcases Nat.eq_zero_or_pos pc with z | z
        · exact absurd (hn0 z) (by omega)
        · exact z
      exact hret _ _ _ _ (Or.inl ⟨rfl, _, rfl, rfl, dX9_nearest_49⟩) ⟨_, rfl, Or.inl ⟨(congrArg zI (by rw [hxt, hyt, hoc]; exact nrs_congr (pg_iv hV hN hpg))), (by omega), pf_7⟩⟩
    · refine lv_bipush (v := zI (-5)) hex hby dX9_nearest_43 rfl ?_
      refine lv_goto (tgt := 49) hex hby dX9_nearest_45 (by decide) ?_
      have pf_8 : pc = 0 := by
        skip
        rcases Nat.eq_zero_or_pos pc with z | z
        · exact z
        · have := hnp z; omega
      exact hret _ _ _ _ (Or.inl ⟨rfl, _, rfl, rfl, dX9_nearest_49⟩) ⟨_, rfl, Or.inr (Or.inl ⟨rfl, (by omega), pf_8⟩)⟩
  · refine nv_if_ne (tgt := 14) hex hby dX9_nearest_9 (by decide) (by omega) (fun c => absurd c (by omega)) (fun _ => ?_)
    refine lv_iconst (v := zI (-1)) hex hby dX9_nearest_12 rfl ?_
    exact hret _ _ _ _ (Or.inl ⟨rfl, _, rfl, rfl, dX9_nearest_13⟩) ⟨_, rfl, Or.inr (Or.inr (⟨rfl, (by omega)⟩))⟩
theorem nd_X9_addPoint : ndV yX9_addPoint RX9 2 := by decide +kernel
theorem in_X9_addPoint_X3 : ∀ w ∈ wsX30, w ∈ wsX9_addPoint := fun _ h => List.mem_cons_of_mem _ (List.mem_append_left _ (List.mem_append_left _ (List.mem_append_right _ (h))))
theorem in_X9_addPoint_X5 : ∀ w ∈ wsX50, w ∈ wsX9_addPoint := fun _ h => List.mem_cons_of_mem _ (List.mem_append_left _ (List.mem_append_left _ (List.mem_append_left _ (List.mem_append_right _ (h)))))
theorem in_X9_addPoint_X9 : ∀ w ∈ wsX90, w ∈ wsX9_addPoint := fun _ h => List.mem_cons_of_mem _ (List.mem_append_left _ (List.mem_append_left _ (List.mem_append_left _ (List.mem_append_left _ (List.mem_append_right _ (h))))))
set_option maxHeartbeats 4000000 in
set_option maxRecDepth 100000 in
theorem c_X9_addPoint {h : Nat} {hw : Nat} {hd : Nat} {aS : Nat} {hn : Nat} {aI : Nat} {hq : Nat} {aP : Nat} {f9 : List Value} {f5 : List Value} {bk : Nat} {c : Nat} {S : Nat → Nat} {fn : List Value} {ix : Nat → Nat} {pc : Nat} {P : Nat → Nat} {x : Int32} {xz : Int} {y : Int32} {yz : Int} {T : Nat → Nat} {ns : Nat} {g : Nat → Nat} {m : Nat} (f9_now : f9[0]? = some (.ref hw)) (f9_numbering : f9[4]? = some (.ref hn)) (f5_points : f5[4]? = some (.ref hq)) (f5_bucket : f5[5]? = some (.int (nI bk))) (f5_division : f5[6]? = some (.ref hd)) (fn_side : fn[0]? = some (.int (nI (2 ^ m)))) (fn_cells : fn[1]? = some (.int (nI (4 ^ m)))) (fn_I : fn[3]? = some (.ref aI)) (hxz : x.toInt = xz) (hyz : y.toInt = yz) (hSb : ∀ j, S j < 4097) (hPb : ∀ j, P j < 4096) (hpc : pc ≤ 40) (hix : ∀ j, ix j < 4096) (hV : VT T ns) (hN : NumOK T m g ix) (hpg : ∀ j, j < pc → P j % 64 < 2 ^ m ∧ P j / 64 < 2 ^ m) (hm1 : 1 ≤ m) (hm6 : m ≤ 6) (hb1 : 1 ≤ bk) (hbk : bk ≤ 8) : MU l yX9_addPoint wsX9_addPoint 6 138 (dC, dI) (tyK cI cZ cS) [(h, .inr (9, f9)), (hw, .inr (5, f5)), (hd, .inr (1, [.int (nI c), .ref aS])), (aS, .inl (cI, 497, .inl (nA S))), (hn, .inr (2, fn)), (aI, .inl (cI, 4096, .inl (nA ix))), (hq, .inr (3, [.int (nI pc), .ref aP])), (aP, .inl (cI, 40, .inl (nA P)))] [] [.ref h, .int x, .int y] (fun rv_ (u_ : Nat × (Nat → Nat) × Nat × (Nat → Nat)) => rI (fun r => (∃ st' : Nat → Nat, ∃ lv' : Nat → Nat, r = nI (pc + 1) ∧ (0 ≤ xz ∧ xz < ((2 ^ m : Nat) : Int) ∧ 0 ≤ yz ∧ yz < ((2 ^ m : Nat) : Int)) ∧ (∀ j, j < pc → P j ≠ yz.toNat * 64 + xz.toNat) ∧ pc < 40 ∧ pc + 1 = u_.1 ∧ upN P pc (yz.toNat * 64 + xz.toNat) = u_.2.1 ∧ (∀ j, j < u_.1 → u_.2.1 j % 64 < 2 ^ m ∧ u_.2.1 j / 64 < 2 ^ m) ∧ (∀ j, u_.2.1 j < 4096) ∧ DivC m u_.1 bk (ptv T m u_.2.1) u_.2.2.1 st' lv' ∧ LD T m u_.1 (ptv T m u_.2.1) u_.2.2.1 st' lv' ∧ (∀ j, j ≤ u_.2.2.1 → u_.2.2.2 j = st' j) ∧ (∀ j, u_.2.2.2 j < 4097)) ∨ (r = zI (-1) ∧ (¬ (0 ≤ xz ∧ xz < ((2 ^ m : Nat) : Int) ∧ 0 ≤ yz ∧ yz < ((2 ^ m : Nat) : Int))) ∧ pc = u_.1 ∧ P = u_.2.1 ∧ c = u_.2.2.1 ∧ S = u_.2.2.2) ∨ (r = zI (-3) ∧ (0 ≤ xz ∧ xz < ((2 ^ m : Nat) : Int) ∧ 0 ≤ yz ∧ yz < ((2 ^ m : Nat) : Int)) ∧ HasP P pc (yz.toNat * 64 + xz.toNat) ∧ pc = u_.1 ∧ P = u_.2.1 ∧ c = u_.2.2.1 ∧ S = u_.2.2.2) ∨ (r = zI (-4) ∧ (0 ≤ xz ∧ xz < ((2 ^ m : Nat) : Int) ∧ 0 ≤ yz ∧ yz < ((2 ^ m : Nat) : Int)) ∧ (∀ j, j < pc → P j ≠ yz.toNat * 64 + xz.toNat) ∧ 40 ≤ pc ∧ pc = u_.1 ∧ P = u_.2.1 ∧ c = u_.2.2.1 ∧ S = u_.2.2.2)) rv_) (fun (u_ : Nat × (Nat → Nat) × Nat × (Nat → Nat)) => [(h, .inr (9, f9)), (hw, .inr (5, f5)), (hd, .inr (1, [.int (nI u_.2.2.1), .ref aS])), (aS, .inl (cI, 497, .inl (nA u_.2.2.2))), (hn, .inr (2, fn)), (aI, .inl (cI, 4096, .inl (nA ix))), (hq, .inr (3, [.int (nI u_.1), .ref aP])), (aP, .inl (cI, 40, .inl (nA u_.2.1)))]) := by
  refine mu_of (by decide) rfl (Nat.le_of_ble_eq_true rfl) ?_
  intro pp ee ss mm bb mt cd Q A CFx hP hK hD hS hA hTr hret ls hl
  obtain ⟨hex, hby, hml, hown, hts⟩ := id CFx
  have hl : lv_has ls 3 [(0, .ref h), (1, .int x), (2, .int y)] := hl
  have h26 := p2_6 hm6
  have h46 := p4_6 hm6
  have h4p := p4_pos m
  refine lv_aload_n hex hby dX9_addPoint_0 rfl (lv_at hl 0 rfl) ?_
  refine nv_get (v := .ref hn) CFx in_X9_addPoint_X9 hK hP 0 rfl rfl 4 (by decide) (List.mem_of_getElem? (i := 1) rfl) f9_numbering dX9_addPoint_1 ?_
  refine lv_iload_n hex hby dX9_addPoint_4 rfl (lv_at hl 1 rfl) ?_
  refine lv_iload_n hex hby dX9_addPoint_5 rfl (lv_at hl 2 rfl) ?_
  refine ro_Vi (As := [.int x, .int y]) (rest := []) CFx (c_X2_holds (h := hn) (fs := fn) (sd := 2 ^ m) (x := x) (xz := x.toInt) (y := y) (yz := y.toInt) fn_side rfl rfl (by omega)) 2 gX9_addPoint_X2_holds rfl nd_X2_holds ⟨Nat.le_of_ble_eq_true rfl, Nat.le_of_ble_eq_true rfl⟩ hK hP [4] rfl rfl rfl rfl hl.1 rfl (Nat.le_of_ble_eq_true rfl) dX9_addPoint_6 ⟨Nat.le_refl _, Nat.le_refl _⟩ (fun r_1 hr_1 => ?_)
  rcases hr_1 with ⟨rfl, h_2⟩ | ⟨rfl, h_3⟩
  · refine nv_if_ne (tgt := 14) hex hby dX9_addPoint_9 (by decide) (by omega) (fun _ => ?_) (fun c => absurd c (by omega))
    obtain ⟨jx_, hjx__, rfl, hjx_e⟩ := ni_of (x := x) (by omega)
    obtain rfl : jx_ = xz.toNat := by omega
    obtain ⟨jy_, hjy__, rfl, hjy_e⟩ := ni_of (x := y) (by omega)
    obtain rfl : jy_ = yz.toNat := by omega
    refine lv_aload_n hex hby dX9_addPoint_14 rfl (lv_at hl 0 rfl) ?_
    refine nv_get (v := .ref hw) CFx in_X9_addPoint_X9 hK hP 0 rfl rfl 0 (by decide) (List.mem_of_getElem? (i := 2) rfl) f9_now dX9_addPoint_15 ?_
    refine nv_get (v := .ref hq) CFx in_X9_addPoint_X5 hK hP 1 rfl rfl 4 (by decide) (List.mem_of_getElem? (i := 3) rfl) f5_points dX9_addPoint_18 ?_
    refine lv_iload_n hex hby dX9_addPoint_21 rfl (lv_at hl 1 rfl) ?_
    refine lv_iload_n hex hby dX9_addPoint_22 rfl (lv_at hl 2 rfl) ?_
    refine ro_Vi (As := [.int (nI xz.toNat), .int (nI yz.toNat)]) (rest := []) CFx (c_X3_find (hq := hq) (aP := aP) (fq := [.int (nI pc), .ref aP]) (pc := pc) (P := P) (x := xz.toNat) (y := yz.toNat) rfl rfl hPb hpc (by omega) (by omega)) 2 gX9_addPoint_X3_find rfl nd_X3_find ⟨Nat.le_of_ble_eq_true rfl, Nat.le_of_ble_eq_true rfl⟩ hK hP [6, 7] rfl rfl rfl rfl hl.1 rfl (Nat.le_of_ble_eq_true rfl) dX9_addPoint_23 ⟨Nat.le_refl _, Nat.le_refl _⟩ (fun r_4 hr_4 => ?_)
    rcases hr_4 with ⟨k, rfl, hk1, hk2, hk3⟩ | ⟨rfl, hno⟩
    · refine lv_iconst (v := zI (-1)) hex hby dX9_addPoint_26 rfl ?_
      refine ni_icmp_eq (tgt := 33) (a := (k : Int)) (b := -1) hex hby dX9_addPoint_27 (by decide) (ni_toInt (by omega)) (zI_toInt (by omega) (by omega)) (fun c_5 => absurd c_5 (by omega)) (fun c_5 => ?_)
      refine lv_bipush (v := zI (-3)) hex hby dX9_addPoint_30 rfl ?_
      exact hret _ (pc, P, c, S) _ _ _ _ _ (Or.inl ⟨rfl, _, rfl, rfl, dX9_addPoint_32⟩) ⟨_, rfl, Or.inr (Or.inr (Or.inl ⟨rfl, (by omega), ⟨k, hk1, hk2⟩, rfl, rfl, rfl, rfl⟩))⟩ hP hD hS
    · refine lv_iconst (v := zI (-1)) hex hby dX9_addPoint_26 rfl ?_
      refine ni_icmp_eq (tgt := 33) (a := -1) (b := -1) hex hby dX9_addPoint_27 (by decide) (zI_toInt (by omega) (by omega)) (zI_toInt (by omega) (by omega)) (fun c_6 => ?_) (fun c_6 => absurd c_6 (by omega))
      refine lv_aload_n hex hby dX9_addPoint_33 rfl (lv_at hl 0 rfl) ?_
      refine nv_get (v := .ref hw) CFx in_X9_addPoint_X9 hK hP 0 rfl rfl 0 (by decide) (List.mem_of_getElem? (i := 2) rfl) f9_now dX9_addPoint_34 ?_
      refine nv_get (v := .ref hq) CFx in_X9_addPoint_X5 hK hP 1 rfl rfl 4 (by decide) (List.mem_of_getElem? (i := 3) rfl) f5_points dX9_addPoint_37 ?_
      refine lv_iload_n hex hby dX9_addPoint_40 rfl (lv_at hl 1 rfl) ?_
      refine lv_iload_n hex hby dX9_addPoint_41 rfl (lv_at hl 2 rfl) ?_
      refine mu_Vi (As := [.int (nI xz.toNat), .int (nI yz.toNat)]) (rest := []) (wr := [(h, .inr (9, f9)), (hw, .inr (5, f5)), (hd, .inr (1, [.int (nI c), .ref aS])), (aS, .inl (cI, 497, .inl (nA S))), (hn, .inr (2, fn)), (aI, .inl (cI, 4096, .inl (nA ix)))]) CFx (c_X3_add (hq := hq) (aP := aP) (pc := pc) (P := P) (x := xz.toNat) (y := yz.toNat) hPb hpc (by omega) (by omega)) 2 gX9_addPoint_X3_add rfl nd_X3_add ⟨Nat.le_of_ble_eq_true rfl, Nat.le_of_ble_eq_true rfl⟩ hK hP hD hS hA [6, 7] [0, 1, 2, 3, 4, 5] rfl rfl (by decide) (by decide) (by decide) TR.nil rfl rfl rfl hl.1 rfl (Nat.le_of_ble_eq_true rfl) dX9_addPoint_42 ⟨Nat.le_refl _, Nat.le_refl _⟩ (fun r_7 u H locs hr_7 hP hD hS => ?_)
      obtain ⟨pc_8, P_9⟩ := u
      dsimp only at hr_7 hP hD
      have hP : va_P (dC, dI) vwCl [(h, .inr (9, f9)), (hw, .inr (5, f5)), (hd, .inr (1, [.int (nI c), .ref aS])), (aS, .inl (cI, 497, .inl (nA S))), (hn, .inr (2, fn)), (aI, .inl (cI, 4096, .inl (nA ix))), (hq, .inr (3, [.int (nI pc_8), .ref aP])), (aP, .inl (cI, 40, .inl (nA P_9)))] H := hP
      have hD : va_D A [(h, .inr (9, f9)), (hw, .inr (5, f5)), (hd, .inr (1, [.int (nI c), .ref aS])), (aS, .inl (cI, 497, .inl (nA S))), (hn, .inr (2, fn)), (aI, .inl (cI, 4096, .inl (nA ix))), (hq, .inr (3, [.int (nI pc_8), .ref aP])), (aP, .inl (cI, 40, .inl (nA P_9)))] := hD
      rcases hr_7 with ⟨rfl, h_10, rfl, rfl⟩ | ⟨rfl, h_11, rfl, rfl⟩
      · refine nv_if_ne (tgt := 51) hex hby dX9_addPoint_45 (by decide) (by omega) (fun _ => ?_) (fun c => absurd c (by omega))
        have hpg1 := pg_up hpg (q := yz.toNat * 64 + xz.toNat) (by omega)
        have hpb1 := upN_lt (k := pc) (x := yz.toNat * 64 + xz.toNat) hPb (show yz.toNat * 64 + xz.toNat < 4096 by omega)
        refine lv_aload_n hex hby dX9_addPoint_51 rfl (lv_at hl 0 rfl) ?_
        refine mu_Vv (As := []) (rest := []) (wr := []) CFx (c_X9_redivide (h := h) (hw := hw) (hd := hd) (aS := aS) (hn := hn) (aI := aI) (hq := hq) (aP := aP) (f9 := f9) (f5 := f5) (bk := bk) (v0 := .int (nI c)) (S0 := S) (fn := fn) (ix := ix) (fq := [.int (nI (pc + 1)), .ref aP]) (pc := pc + 1) (P := (upN P pc (yz.toNat * 64 + xz.toNat))) (T := T) (ns := ns) (g := g) (m := m) f9_now f9_numbering f5_points f5_bucket f5_division fn_cells fn_I rfl rfl hSb hpb1 (by omega) hix hV hN hpg1 hm1 hm6 hb1 hbk) 0 gX9_addPoint_X9_redivide rfl nd_X9_redivide ⟨Nat.le_of_ble_eq_true rfl, Nat.le_of_ble_eq_true rfl⟩ hK hP hD hS hA [0, 1, 2, 3, 4, 5, 6, 7] [] rfl rfl (by decide) (by decide) (by decide) TR.nil rfl rfl rfl hl.1 rfl (Nat.le_of_ble_eq_true rfl) dX9_addPoint_52 ⟨Nat.le_refl _, Nat.le_refl _⟩ (fun u H locs hr_12 hP hD hS => ?_)
        obtain ⟨c1, S1⟩ := u
        dsimp only at hr_12 hP hD
        have hP : va_P (dC, dI) vwCl [(h, .inr (9, f9)), (hw, .inr (5, f5)), (hd, .inr (1, [.int (nI c1), .ref aS])), (aS, .inl (cI, 497, .inl (nA S1))), (hn, .inr (2, fn)), (aI, .inl (cI, 4096, .inl (nA ix))), (hq, .inr (3, [.int (nI (pc + 1)), .ref aP])), (aP, .inl (cI, 40, .inl (nA (upN P pc (yz.toNat * 64 + xz.toNat)))))] H := hP
        have hD : va_D A [(h, .inr (9, f9)), (hw, .inr (5, f5)), (hd, .inr (1, [.int (nI c1), .ref aS])), (aS, .inl (cI, 497, .inl (nA S1))), (hn, .inr (2, fn)), (aI, .inl (cI, 4096, .inl (nA ix))), (hq, .inr (3, [.int (nI (pc + 1)), .ref aP])), (aP, .inl (cI, 40, .inl (nA (upN P pc (yz.toNat * 64 + xz.toNat)))))] := hD
        obtain ⟨sn, ln, hd1, hd2, hd3, hd4⟩ := hr_12
        refine lv_aload_n hex hby dX9_addPoint_55 rfl (lv_at hl 0 rfl) ?_
        refine nv_get (v := .ref hw) CFx in_X9_addPoint_X9 hK hP 0 rfl rfl 0 (by decide) (List.mem_of_getElem? (i := 2) rfl) f9_now dX9_addPoint_56 ?_
        refine nv_get (v := .ref hq) CFx in_X9_addPoint_X5 hK hP 1 rfl rfl 4 (by decide) (List.mem_of_getElem? (i := 3) rfl) f5_points dX9_addPoint_59 ?_
        refine nv_get (v := .int (nI (pc + 1))) CFx in_X9_addPoint_X3 hK hP 6 rfl rfl 0 (by decide) (List.mem_of_getElem? (i := 4) rfl) rfl dX9_addPoint_62 ?_
        exact hret _ (pc + 1, (upN P pc (yz.toNat * 64 + xz.toNat)), c1, S1) _ _ _ _ _ (Or.inl ⟨rfl, _, rfl, rfl, dX9_addPoint_65⟩) ⟨_, rfl, Or.inl ⟨sn, ln, rfl, (by omega), hno, (by omega), rfl, rfl, hpg1, hpb1, hd1, hd2, hd3, hd4⟩⟩ hP hD hS
      · refine nv_if_ne (tgt := 51) hex hby dX9_addPoint_45 (by decide) (by omega) (fun c => absurd c (by omega)) (fun _ => ?_)
        refine lv_bipush (v := zI (-4)) hex hby dX9_addPoint_48 rfl ?_
        exact hret _ (pc, P, c, S) _ _ _ _ _ (Or.inl ⟨rfl, _, rfl, rfl, dX9_addPoint_50⟩) ⟨_, rfl, Or.inr (Or.inr (Or.inr (⟨rfl, (by omega), hno, (by omega), rfl, rfl, rfl, rfl⟩)))⟩ hP hD hS
  · refine nv_if_ne (tgt := 14) hex hby dX9_addPoint_9 (by decide) (by omega) (fun c => absurd c (by omega)) (fun _ => ?_)
    refine lv_iconst (v := zI (-1)) hex hby dX9_addPoint_12 rfl ?_
    exact hret _ (pc, P, c, S) _ _ _ _ _ (Or.inl ⟨rfl, _, rfl, rfl, dX9_addPoint_13⟩) ⟨_, rfl, Or.inr (Or.inl ⟨rfl, (by omega), rfl, rfl, rfl, rfl⟩)⟩ hP hD hS
theorem nd_X9_removePoint : ndV yX9_removePoint RX9 2 := by decide +kernel
theorem in_X9_removePoint_X3 : ∀ w ∈ wsX30, w ∈ wsX9_removePoint := fun _ h => List.mem_cons_of_mem _ (List.mem_append_left _ (List.mem_append_left _ (List.mem_append_right _ (h))))
theorem in_X9_removePoint_X5 : ∀ w ∈ wsX50, w ∈ wsX9_removePoint := fun _ h => List.mem_cons_of_mem _ (List.mem_append_left _ (List.mem_append_left _ (List.mem_append_left _ (List.mem_append_right _ (h)))))
theorem in_X9_removePoint_X9 : ∀ w ∈ wsX90, w ∈ wsX9_removePoint := fun _ h => List.mem_cons_of_mem _ (List.mem_append_left _ (List.mem_append_left _ (List.mem_append_left _ (List.mem_append_left _ (List.mem_append_right _ (h))))))
set_option maxHeartbeats 4000000 in
set_option maxRecDepth 100000 in
theorem c_X9_removePoint {h : Nat} {hw : Nat} {hd : Nat} {aS : Nat} {hn : Nat} {aI : Nat} {hq : Nat} {aP : Nat} {f9 : List Value} {f5 : List Value} {bk : Nat} {c : Nat} {S : Nat → Nat} {fn : List Value} {ix : Nat → Nat} {pc : Nat} {P : Nat → Nat} {x : Int32} {xz : Int} {y : Int32} {yz : Int} {T : Nat → Nat} {ns : Nat} {g : Nat → Nat} {m : Nat} (f9_now : f9[0]? = some (.ref hw)) (f9_numbering : f9[4]? = some (.ref hn)) (f5_points : f5[4]? = some (.ref hq)) (f5_bucket : f5[5]? = some (.int (nI bk))) (f5_division : f5[6]? = some (.ref hd)) (fn_side : fn[0]? = some (.int (nI (2 ^ m)))) (fn_cells : fn[1]? = some (.int (nI (4 ^ m)))) (fn_I : fn[3]? = some (.ref aI)) (hxz : x.toInt = xz) (hyz : y.toInt = yz) (hSb : ∀ j, S j < 4097) (hPb : ∀ j, P j < 4096) (hpc : pc ≤ 40) (hix : ∀ j, ix j < 4096) (hV : VT T ns) (hN : NumOK T m g ix) (hpg : ∀ j, j < pc → P j % 64 < 2 ^ m ∧ P j / 64 < 2 ^ m) (hm1 : 1 ≤ m) (hm6 : m ≤ 6) (hb1 : 1 ≤ bk) (hbk : bk ≤ 8) : MU l yX9_removePoint wsX9_removePoint 6 138 (dC, dI) (tyK cI cZ cS) [(h, .inr (9, f9)), (hw, .inr (5, f5)), (hd, .inr (1, [.int (nI c), .ref aS])), (aS, .inl (cI, 497, .inl (nA S))), (hn, .inr (2, fn)), (aI, .inl (cI, 4096, .inl (nA ix))), (hq, .inr (3, [.int (nI pc), .ref aP])), (aP, .inl (cI, 40, .inl (nA P)))] [] [.ref h, .int x, .int y] (fun rv_ (u_ : Nat × (Nat → Nat) × Nat × (Nat → Nat)) => rI (fun r => (∃ st' : Nat → Nat, ∃ lv' : Nat → Nat, ∃ k : Nat, r = nI (pc - 1) ∧ (0 ≤ xz ∧ xz < ((2 ^ m : Nat) : Int) ∧ 0 ≤ yz ∧ yz < ((2 ^ m : Nat) : Int)) ∧ k < pc ∧ P k = yz.toNat * 64 + xz.toNat ∧ (∀ j, j < k → P j ≠ yz.toNat * 64 + xz.toNat) ∧ pc - 1 = u_.1 ∧ upN P k (P (pc - 1)) = u_.2.1 ∧ (∀ j, j < u_.1 → u_.2.1 j % 64 < 2 ^ m ∧ u_.2.1 j / 64 < 2 ^ m) ∧ (∀ j, u_.2.1 j < 4096) ∧ DivC m u_.1 bk (ptv T m u_.2.1) u_.2.2.1 st' lv' ∧ LD T m u_.1 (ptv T m u_.2.1) u_.2.2.1 st' lv' ∧ (∀ j, j ≤ u_.2.2.1 → u_.2.2.2 j = st' j) ∧ (∀ j, u_.2.2.2 j < 4097)) ∨ (r = zI (-1) ∧ (¬ (0 ≤ xz ∧ xz < ((2 ^ m : Nat) : Int) ∧ 0 ≤ yz ∧ yz < ((2 ^ m : Nat) : Int))) ∧ pc = u_.1 ∧ P = u_.2.1 ∧ c = u_.2.2.1 ∧ S = u_.2.2.2) ∨ (r = zI (-3) ∧ (0 ≤ xz ∧ xz < ((2 ^ m : Nat) : Int) ∧ 0 ≤ yz ∧ yz < ((2 ^ m : Nat) : Int)) ∧ (∀ j, j < pc → P j ≠ yz.toNat * 64 + xz.toNat) ∧ pc = u_.1 ∧ P = u_.2.1 ∧ c = u_.2.2.1 ∧ S = u_.2.2.2)) rv_) (fun (u_ : Nat × (Nat → Nat) × Nat × (Nat → Nat)) => [(h, .inr (9, f9)), (hw, .inr (5, f5)), (hd, .inr (1, [.int (nI u_.2.2.1), .ref aS])), (aS, .inl (cI, 497, .inl (nA u_.2.2.2))), (hn, .inr (2, fn)), (aI, .inl (cI, 4096, .inl (nA ix))), (hq, .inr (3, [.int (nI u_.1), .ref aP])), (aP, .inl (cI, 40, .inl (nA u_.2.1)))]) := by
  refine mu_of (by decide) rfl (Nat.le_of_ble_eq_true rfl) ?_
  intro pp ee ss mm bb mt cd Q A CFx hP hK hD hS hA hTr hret ls hl
  obtain ⟨hex, hby, hml, hown, hts⟩ := id CFx
  have hl : lv_has ls 3 [(0, .ref h), (1, .int x), (2, .int y)] := hl
  have h26 := p2_6 hm6
  have h46 := p4_6 hm6
  have h4p := p4_pos m
  refine lv_aload_n hex hby dX9_removePoint_0 rfl (lv_at hl 0 rfl) ?_
  refine nv_get (v := .ref hn) CFx in_X9_removePoint_X9 hK hP 0 rfl rfl 4 (by decide) (List.mem_of_getElem? (i := 1) rfl) f9_numbering dX9_removePoint_1 ?_
  refine lv_iload_n hex hby dX9_removePoint_4 rfl (lv_at hl 1 rfl) ?_
  refine lv_iload_n hex hby dX9_removePoint_5 rfl (lv_at hl 2 rfl) ?_
  refine ro_Vi (As := [.int x, .int y]) (rest := []) CFx (c_X2_holds (h := hn) (fs := fn) (sd := 2 ^ m) (x := x) (xz := x.toInt) (y := y) (yz := y.toInt) fn_side rfl rfl (by omega)) 2 gX9_removePoint_X2_holds rfl nd_X2_holds ⟨Nat.le_of_ble_eq_true rfl, Nat.le_of_ble_eq_true rfl⟩ hK hP [4] rfl rfl rfl rfl hl.1 rfl (Nat.le_of_ble_eq_true rfl) dX9_removePoint_6 ⟨Nat.le_refl _, Nat.le_refl _⟩ (fun r_1 hr_1 => ?_)
  rcases hr_1 with ⟨rfl, h_2⟩ | ⟨rfl, h_3⟩
  · refine nv_if_ne (tgt := 14) hex hby dX9_removePoint_9 (by decide) (by omega) (fun _ => ?_) (fun c => absurd c (by omega))
    obtain ⟨jx_, hjx__, rfl, hjx_e⟩ := ni_of (x := x) (by omega)
    obtain rfl : jx_ = xz.toNat := by omega
    obtain ⟨jy_, hjy__, rfl, hjy_e⟩ := ni_of (x := y) (by omega)
    obtain rfl : jy_ = yz.toNat := by omega
    refine lv_aload_n hex hby dX9_removePoint_14 rfl (lv_at hl 0 rfl) ?_
    refine nv_get (v := .ref hw) CFx in_X9_removePoint_X9 hK hP 0 rfl rfl 0 (by decide) (List.mem_of_getElem? (i := 2) rfl) f9_now dX9_removePoint_15 ?_
    refine nv_get (v := .ref hq) CFx in_X9_removePoint_X5 hK hP 1 rfl rfl 4 (by decide) (List.mem_of_getElem? (i := 3) rfl) f5_points dX9_removePoint_18 ?_
    refine lv_iload_n hex hby dX9_removePoint_21 rfl (lv_at hl 1 rfl) ?_
    refine lv_iload_n hex hby dX9_removePoint_22 rfl (lv_at hl 2 rfl) ?_
    refine mu_Vi (As := [.int (nI xz.toNat), .int (nI yz.toNat)]) (rest := []) (wr := [(h, .inr (9, f9)), (hw, .inr (5, f5)), (hd, .inr (1, [.int (nI c), .ref aS])), (aS, .inl (cI, 497, .inl (nA S))), (hn, .inr (2, fn)), (aI, .inl (cI, 4096, .inl (nA ix)))]) CFx (c_X3_remove (hq := hq) (aP := aP) (pc := pc) (P := P) (x := xz.toNat) (y := yz.toNat) hPb hpc (by omega) (by omega)) 2 gX9_removePoint_X3_remove rfl nd_X3_remove ⟨Nat.le_of_ble_eq_true rfl, Nat.le_of_ble_eq_true rfl⟩ hK hP hD hS hA [6, 7] [0, 1, 2, 3, 4, 5] rfl rfl (by decide) (by decide) (by decide) TR.nil rfl rfl rfl hl.1 rfl (Nat.le_of_ble_eq_true rfl) dX9_removePoint_23 ⟨Nat.le_refl _, Nat.le_refl _⟩ (fun r_4 u H locs hr_4 hP hD hS => ?_)
    obtain ⟨pc_5, P_6⟩ := u
    dsimp only at hr_4 hP hD
    have hP : va_P (dC, dI) vwCl [(h, .inr (9, f9)), (hw, .inr (5, f5)), (hd, .inr (1, [.int (nI c), .ref aS])), (aS, .inl (cI, 497, .inl (nA S))), (hn, .inr (2, fn)), (aI, .inl (cI, 4096, .inl (nA ix))), (hq, .inr (3, [.int (nI pc_5), .ref aP])), (aP, .inl (cI, 40, .inl (nA P_6)))] H := hP
    have hD : va_D A [(h, .inr (9, f9)), (hw, .inr (5, f5)), (hd, .inr (1, [.int (nI c), .ref aS])), (aS, .inl (cI, 497, .inl (nA S))), (hn, .inr (2, fn)), (aI, .inl (cI, 4096, .inl (nA ix))), (hq, .inr (3, [.int (nI pc_5), .ref aP])), (aP, .inl (cI, 40, .inl (nA P_6)))] := hD
    rcases hr_4 with ⟨k, rfl, hk1, hk2, hk3, rfl, rfl⟩ | ⟨rfl, hno, rfl, rfl⟩
    · refine nv_if_ne (tgt := 32) hex hby dX9_removePoint_26 (by decide) (by omega) (fun _ => ?_) (fun c => absurd c (by omega))
      have hpg1 := pg_rm (k := k) hpg (by omega)
      have hpb1 := upN_lt (k := k) (x := P (pc - 1)) hPb (hPb _)
      refine lv_aload_n hex hby dX9_removePoint_32 rfl (lv_at hl 0 rfl) ?_
      refine mu_Vv (As := []) (rest := []) (wr := []) CFx (c_X9_redivide (h := h) (hw := hw) (hd := hd) (aS := aS) (hn := hn) (aI := aI) (hq := hq) (aP := aP) (f9 := f9) (f5 := f5) (bk := bk) (v0 := .int (nI c)) (S0 := S) (fn := fn) (ix := ix) (fq := [.int (nI (pc - 1)), .ref aP]) (pc := pc - 1) (P := (upN P k (P (pc - 1)))) (T := T) (ns := ns) (g := g) (m := m) f9_now f9_numbering f5_points f5_bucket f5_division fn_cells fn_I rfl rfl hSb hpb1 (by omega) hix hV hN hpg1 hm1 hm6 hb1 hbk) 0 gX9_removePoint_X9_redivide rfl nd_X9_redivide ⟨Nat.le_of_ble_eq_true rfl, Nat.le_of_ble_eq_true rfl⟩ hK hP hD hS hA [0, 1, 2, 3, 4, 5, 6, 7] [] rfl rfl (by decide) (by decide) (by decide) TR.nil rfl rfl rfl hl.1 rfl (Nat.le_of_ble_eq_true rfl) dX9_removePoint_33 ⟨Nat.le_refl _, Nat.le_refl _⟩ (fun u H locs hr_7 hP hD hS => ?_)
      obtain ⟨c1, S1⟩ := u
      dsimp only at hr_7 hP hD
      have hP : va_P (dC, dI) vwCl [(h, .inr (9, f9)), (hw, .inr (5, f5)), (hd, .inr (1, [.int (nI c1), .ref aS])), (aS, .inl (cI, 497, .inl (nA S1))), (hn, .inr (2, fn)), (aI, .inl (cI, 4096, .inl (nA ix))), (hq, .inr (3, [.int (nI (pc - 1)), .ref aP])), (aP, .inl (cI, 40, .inl (nA (upN P k (P (pc - 1))))))] H := hP
      have hD : va_D A [(h, .inr (9, f9)), (hw, .inr (5, f5)), (hd, .inr (1, [.int (nI c1), .ref aS])), (aS, .inl (cI, 497, .inl (nA S1))), (hn, .inr (2, fn)), (aI, .inl (cI, 4096, .inl (nA ix))), (hq, .inr (3, [.int (nI (pc - 1)), .ref aP])), (aP, .inl (cI, 40, .inl (nA (upN P k (P (pc - 1))))))] := hD
      obtain ⟨sn, ln, hd1, hd2, hd3, hd4⟩ := hr_7
      refine lv_aload_n hex hby dX9_removePoint_36 rfl (lv_at hl 0 rfl) ?_
      refine nv_get (v := .ref hw) CFx in_X9_removePoint_X9 hK hP 0 rfl rfl 0 (by decide) (List.mem_of_getElem? (i := 2) rfl) f9_now dX9_removePoint_37 ?_
      refine nv_get (v := .ref hq) CFx in_X9_removePoint_X5 hK hP 1 rfl rfl 4 (by decide) (List.mem_of_getElem? (i := 3) rfl) f5_points dX9_removePoint_40 ?_
      refine nv_get (v := .int (nI (pc - 1))) CFx in_X9_removePoint_X3 hK hP 6 rfl rfl 0 (by decide) (List.mem_of_getElem? (i := 4) rfl) rfl dX9_removePoint_43 ?_
      exact hret _ (pc - 1, (upN P k (P (pc - 1))), c1, S1) _ _ _ _ _ (Or.inl ⟨rfl, _, rfl, rfl, dX9_removePoint_46⟩) ⟨_, rfl, Or.inl ⟨sn, ln, k, rfl, (by omega), hk1, hk2, hk3, rfl, rfl, hpg1, hpb1, hd1, hd2, hd3, hd4⟩⟩ hP hD hS
    · refine nv_if_ne (tgt := 32) hex hby dX9_removePoint_26 (by decide) (by omega) (fun c => absurd c (by omega)) (fun _ => ?_)
      refine lv_bipush (v := zI (-3)) hex hby dX9_removePoint_29 rfl ?_
      exact hret _ (pc, P, c, S) _ _ _ _ _ (Or.inl ⟨rfl, _, rfl, rfl, dX9_removePoint_31⟩) ⟨_, rfl, Or.inr (Or.inr (⟨rfl, (by omega), hno, rfl, rfl, rfl, rfl⟩))⟩ hP hD hS
  · refine nv_if_ne (tgt := 14) hex hby dX9_removePoint_9 (by decide) (by omega) (fun c => absurd c (by omega)) (fun _ => ?_)
    refine lv_iconst (v := zI (-1)) hex hby dX9_removePoint_12 rfl ?_
    exact hret _ (pc, P, c, S) _ _ _ _ _ (Or.inl ⟨rfl, _, rfl, rfl, dX9_removePoint_13⟩) ⟨_, rfl, Or.inr (Or.inl ⟨rfl, (by omega), rfl, rfl, rfl, rfl⟩)⟩ hP hD hS
theorem nd_X9_setBucket : ndV yX9_setBucket RX9 1 := by decide +kernel
theorem in_X9_setBucket_X5 : ∀ w ∈ wsX50, w ∈ wsX9_setBucket := fun _ h => List.mem_cons_of_mem _ (List.mem_append_left _ (List.mem_append_left _ (List.mem_append_left _ (List.mem_append_right _ (h)))))
theorem in_X9_setBucket_X9 : ∀ w ∈ wsX90, w ∈ wsX9_setBucket := fun _ h => List.mem_cons_of_mem _ (List.mem_append_left _ (List.mem_append_left _ (List.mem_append_left _ (List.mem_append_left _ (List.mem_append_right _ (h))))))
set_option maxHeartbeats 4000000 in
set_option maxRecDepth 100000 in
theorem c_X9_setBucket {h : Nat} {hw : Nat} {hd : Nat} {aS : Nat} {hn : Nat} {aI : Nat} {hq : Nat} {aP : Nat} {f9 : List Value} {u0 : Value} {u1 : Value} {u2 : Value} {u3 : Value} {bk : Nat} {c : Nat} {S : Nat → Nat} {fn : List Value} {ix : Nat → Nat} {fq : List Value} {pc : Nat} {P : Nat → Nat} {w : Int32} {wz : Int} {T : Nat → Nat} {ns : Nat} {g : Nat → Nat} {m : Nat} (f9_now : f9[0]? = some (.ref hw)) (f9_numbering : f9[4]? = some (.ref hn)) (fn_cells : fn[1]? = some (.int (nI (4 ^ m)))) (fn_I : fn[3]? = some (.ref aI)) (fpc : fq[0]? = some (.int (nI pc))) (faP : fq[1]? = some (.ref aP)) (hwz : w.toInt = wz) (hSb : ∀ j, S j < 4097) (hPb : ∀ j, P j < 4096) (hpc : pc ≤ 40) (hix : ∀ j, ix j < 4096) (hV : VT T ns) (hN : NumOK T m g ix) (hpg : ∀ j, j < pc → P j % 64 < 2 ^ m ∧ P j / 64 < 2 ^ m) (hm1 : 1 ≤ m) (hm6 : m ≤ 6) (hb1 : 1 ≤ bk) (hbk : bk ≤ 8) : MU l yX9_setBucket wsX9_setBucket 6 138 (dC, dI) (tyK cI cZ cS) [(h, .inr (9, f9)), (hw, .inr (5, [u0, u1, u2, u3, .ref hq, .int (nI bk), .ref hd])), (hd, .inr (1, [.int (nI c), .ref aS])), (aS, .inl (cI, 497, .inl (nA S))), (hn, .inr (2, fn)), (aI, .inl (cI, 4096, .inl (nA ix))), (hq, .inr (3, fq)), (aP, .inl (cI, 40, .inl (nA P)))] [] [.ref h, .int w] (fun rv_ (u_ : Nat × Nat × (Nat → Nat)) => rI (fun r => (∃ st' : Nat → Nat, ∃ lv' : Nat → Nat, r = nI bk ∧ (1 ≤ wz ∧ wz ≤ 8) ∧ wz.toNat = u_.1 ∧ DivC m pc u_.1 (ptv T m P) u_.2.1 st' lv' ∧ LD T m pc (ptv T m P) u_.2.1 st' lv' ∧ (∀ j, j ≤ u_.2.1 → u_.2.2 j = st' j) ∧ (∀ j, u_.2.2 j < 4097)) ∨ (r = zI (-2) ∧ (¬ (1 ≤ wz ∧ wz ≤ 8)) ∧ bk = u_.1 ∧ c = u_.2.1 ∧ S = u_.2.2)) rv_) (fun (u_ : Nat × Nat × (Nat → Nat)) => [(h, .inr (9, f9)), (hw, .inr (5, [u0, u1, u2, u3, .ref hq, .int (nI u_.1), .ref hd])), (hd, .inr (1, [.int (nI u_.2.1), .ref aS])), (aS, .inl (cI, 497, .inl (nA u_.2.2))), (hn, .inr (2, fn)), (aI, .inl (cI, 4096, .inl (nA ix))), (hq, .inr (3, fq)), (aP, .inl (cI, 40, .inl (nA P)))]) := by
  refine mu_of (by decide) rfl (Nat.le_of_ble_eq_true rfl) ?_
  intro pp ee ss mm bb mt cd Q A CFx hP hK hD hS hA hTr hret ls hl
  obtain ⟨hex, hby, hml, hown, hts⟩ := id CFx
  have hl : lv_has ls 3 [(0, .ref h), (1, .int w)] := hl
  have h26 := p2_6 hm6
  have h46 := p4_6 hm6
  have h4p := p4_pos m
  refine lv_iload_n hex hby dX9_setBucket_0 rfl (lv_at hl 1 rfl) ?_
  refine lv_iconst (v := nI 1) hex hby dX9_setBucket_1 rfl ?_
  refine ni_icmp_lt (tgt := 11) (a := w.toInt) (b := (1 : Int)) hex hby dX9_setBucket_2 (by decide) rfl (by rfl) (fun c_1 => ?_) (fun c_1 => ?_)
  · refine lv_bipush (v := zI (-2)) hex hby dX9_setBucket_11 rfl ?_
    exact hret _ (bk, c, S) _ _ _ _ _ (Or.inl ⟨rfl, _, rfl, rfl, dX9_setBucket_13⟩) ⟨_, rfl, Or.inr ⟨rfl, (by omega), rfl, rfl, rfl⟩⟩ hP hD hS
  · refine lv_iload_n hex hby dX9_setBucket_5 rfl (lv_at hl 1 rfl) ?_
    refine lv_bipush (v := nI 8) hex hby dX9_setBucket_6 rfl ?_
    refine ni_icmp_le (tgt := 14) (a := w.toInt) (b := (8 : Int)) hex hby dX9_setBucket_8 (by decide) rfl (by rfl) (fun c_2 => ?_) (fun c_2 => ?_)
    · obtain ⟨jw_, hjw__, rfl, hjw_e⟩ := ni_of (x := w) (by omega)
      obtain rfl : jw_ = wz.toNat := by omega
      refine lv_aload_n hex hby dX9_setBucket_14 rfl (lv_at hl 0 rfl) ?_
      refine nv_get (v := .ref hw) CFx in_X9_setBucket_X9 hK hP 0 rfl rfl 0 (by decide) (List.mem_of_getElem? (i := 1) rfl) f9_now dX9_setBucket_15 ?_
      refine nv_get (v := .int (nI bk)) CFx in_X9_setBucket_X5 hK hP 1 rfl rfl 5 (by decide) (List.mem_of_getElem? (i := 2) rfl) rfl dX9_setBucket_18 ?_
      refine lv_istore_n (lv' := [(2, .int (nI bk)), (0, .ref h), (1, .int (nI wz.toNat))]) hex hby dX9_setBucket_21 rfl hl (by decide) rfl (fun ls hl => ?_)
      refine lv_aload_n hex hby dX9_setBucket_22 rfl (lv_at hl 1 rfl) ?_
      refine nv_get (v := .ref hw) CFx in_X9_setBucket_X9 hK hP 0 rfl rfl 0 (by decide) (List.mem_of_getElem? (i := 1) rfl) f9_now dX9_setBucket_23 ?_
      refine lv_iload_n hex hby dX9_setBucket_26 rfl (lv_at hl 2 rfl) ?_
      refine nv_put CFx in_X9_setBucket_X5 tyX5 tyX5_ok nmX5 hK hP hD hS 1 rfl rfl 5 (by decide) (List.mem_of_getElem? (i := 2) rfl) rfl (by decide +kernel) (Nat.le_of_ble_eq_true rfl) dX9_setBucket_27 (fun H locs hP hD hS => ?_)
      have hP : va_P (dC, dI) vwCl [(h, .inr (9, f9)), (hw, .inr (5, [u0, u1, u2, u3, .ref hq, .int (nI wz.toNat), .ref hd])), (hd, .inr (1, [.int (nI c), .ref aS])), (aS, .inl (cI, 497, .inl (nA S))), (hn, .inr (2, fn)), (aI, .inl (cI, 4096, .inl (nA ix))), (hq, .inr (3, fq)), (aP, .inl (cI, 40, .inl (nA P)))] H := hP
      have hD : va_D A [(h, .inr (9, f9)), (hw, .inr (5, [u0, u1, u2, u3, .ref hq, .int (nI wz.toNat), .ref hd])), (hd, .inr (1, [.int (nI c), .ref aS])), (aS, .inl (cI, 497, .inl (nA S))), (hn, .inr (2, fn)), (aI, .inl (cI, 4096, .inl (nA ix))), (hq, .inr (3, fq)), (aP, .inl (cI, 40, .inl (nA P)))] := hD
      refine lv_aload_n hex hby dX9_setBucket_30 rfl (lv_at hl 1 rfl) ?_
      refine mu_Vv (As := []) (rest := []) (wr := []) CFx (c_X9_redivide (h := h) (hw := hw) (hd := hd) (aS := aS) (hn := hn) (aI := aI) (hq := hq) (aP := aP) (f9 := f9) (f5 := [u0, u1, u2, u3, .ref hq, .int (nI wz.toNat), .ref hd]) (bk := wz.toNat) (v0 := .int (nI c)) (S0 := S) (fn := fn) (ix := ix) (fq := fq) (pc := pc) (P := P) (T := T) (ns := ns) (g := g) (m := m) f9_now f9_numbering rfl rfl rfl fn_cells fn_I fpc faP hSb hPb hpc hix hV hN hpg hm1 hm6 (by omega) (by omega)) 0 gX9_setBucket_X9_redivide rfl nd_X9_redivide ⟨Nat.le_of_ble_eq_true rfl, Nat.le_of_ble_eq_true rfl⟩ hK hP hD hS hA [0, 1, 2, 3, 4, 5, 6, 7] [] rfl rfl (by decide) (by decide) (by decide) TR.nil rfl rfl rfl hl.1 rfl (Nat.le_of_ble_eq_true rfl) dX9_setBucket_31 ⟨Nat.le_refl _, Nat.le_refl _⟩ (fun u H locs hr_3 hP hD hS => ?_)
      obtain ⟨c1, S1⟩ := u
      dsimp only at hr_3 hP hD
      have hP : va_P (dC, dI) vwCl [(h, .inr (9, f9)), (hw, .inr (5, [u0, u1, u2, u3, .ref hq, .int (nI wz.toNat), .ref hd])), (hd, .inr (1, [.int (nI c1), .ref aS])), (aS, .inl (cI, 497, .inl (nA S1))), (hn, .inr (2, fn)), (aI, .inl (cI, 4096, .inl (nA ix))), (hq, .inr (3, fq)), (aP, .inl (cI, 40, .inl (nA P)))] H := hP
      have hD : va_D A [(h, .inr (9, f9)), (hw, .inr (5, [u0, u1, u2, u3, .ref hq, .int (nI wz.toNat), .ref hd])), (hd, .inr (1, [.int (nI c1), .ref aS])), (aS, .inl (cI, 497, .inl (nA S1))), (hn, .inr (2, fn)), (aI, .inl (cI, 4096, .inl (nA ix))), (hq, .inr (3, fq)), (aP, .inl (cI, 40, .inl (nA P)))] := hD
      obtain ⟨sn, ln, hd1, hd2, hd3, hd4⟩ := hr_3
      refine lv_iload_n hex hby dX9_setBucket_34 rfl (lv_at hl 0 rfl) ?_
      exact hret _ (wz.toNat, c1, S1) _ _ _ _ _ (Or.inl ⟨rfl, _, rfl, rfl, dX9_setBucket_35⟩) ⟨_, rfl, Or.inl ⟨sn, ln, rfl, (by omega), rfl, hd1, hd2, hd3, hd4⟩⟩ hP hD hS
    · refine lv_bipush (v := zI (-2)) hex hby dX9_setBucket_11 rfl ?_
      exact hret _ (bk, c, S) _ _ _ _ _ (Or.inl ⟨rfl, _, rfl, rfl, dX9_setBucket_13⟩) ⟨_, rfl, Or.inr ⟨rfl, (by omega), rfl, rfl, rfl⟩⟩ hP hD hS
theorem nd_X9_extra : ndV yX9_extra RX9 1 := by decide +kernel
theorem in_X9_extra_X9 : ∀ w ∈ wsX90, w ∈ wsX9_extra := fun _ h => List.mem_cons_of_mem _ (List.mem_append_left _ (List.mem_append_right _ (h)))
set_option maxHeartbeats 4000000 in
set_option maxRecDepth 100000 in
theorem c_X9_extra {h : Nat} {ho : Nat} {aF : Nat} {aG : Nat} {f9 : List Value} {fo : List Value} {cn : Nat} {F : Nat → Nat} {G : Nat → Nat} {k : Int32} {kz : Int} {T : Nat → Nat} {ns : Nat} {m : Nat} {rl : Nat} {rb : Nat} {rr : Nat} {ra : Nat} (f9_cover : f9[5]? = some (.ref ho)) (fcn : fo[0]? = some (.int (nI cn))) (faF : fo[1]? = some (.ref aF)) (faG : fo[2]? = some (.ref aG)) (hkz : k.toInt = kz) (hFb : ∀ j, F j < 4096) (hGb : ∀ j, G j < 4096) (hcn : cn ≤ 505) (hI : IvOK (inG (cvc T m) rl rb rr ra) (4 ^ m) cn F G) : RO l yX9_extra wsX9_extra 4 94 (dC, dI) (tyK cI cZ cS) [(h, .inr (9, f9)), (ho, .inr (0, fo)), (aF, .inl (cI, 505, .inl (nA F))), (aG, .inl (cI, 505, .inl (nA G)))] [.ref h, .int k] (rI (fun r => (∃ v : Nat, r = nI v ∧ 1 ≤ kz ∧ ExAt (inG (cvc T m) rl rb rr ra) (4 ^ m) kz.toNat v) ∨ (r = zI (-2) ∧ ¬ 1 ≤ kz))) := by
  refine ro_of (by decide) rfl (Nat.le_of_ble_eq_true rfl) ?_
  intro pp ee ss mm bb mt cd Q CFx hP hK hret ls hl
  obtain ⟨hex, hby, hml, hown, hts⟩ := id CFx
  have hl : lv_has ls 2 [(0, .ref h), (1, .int k)] := hl
  have hgap : ∀ p, p < cn - 1 → G p + 1 < F (p + 1) := fun p hp => hI.gap (by omega)
  refine lv_iload_n hex hby dX9_extra_0 rfl (lv_at hl 1 rfl) ?_
  refine lv_iconst (v := nI 1) hex hby dX9_extra_1 rfl ?_
  refine ni_icmp_ge (tgt := 10) (a := k.toInt) (b := (1 : Int)) hex hby dX9_extra_2 (by decide) rfl (by rfl) (fun c_1 => ?_) (fun c_1 => ?_)
  · obtain ⟨kn, hkn_, rfl, hkne⟩ := ni_of (x := k) (by omega)
    have hkt : kz.toNat = kn := by omega
    refine lv_aload_n hex hby dX9_extra_10 rfl (lv_at hl 0 rfl) ?_
    refine nv_get (v := .ref ho) CFx in_X9_extra_X9 hK hP 0 rfl rfl 5 (by decide) (List.mem_of_getElem? (i := 1) rfl) f9_cover dX9_extra_11 ?_
    refine lv_iload_n hex hby dX9_extra_14 rfl (lv_at hl 1 rfl) ?_
    refine ro_Vi (As := [.int (nI kn)]) (rest := []) CFx (c_X0_cellsOfJoinedGaps (ho := ho) (aF := aF) (aG := aG) (fo := fo) (cn := cn) (F := F) (G := G) (k := kn) fcn faF faG hFb hGb (by omega) hcn (by omega) (by omega)) 1 gX9_extra_X0_cellsOfJoinedGaps rfl nd_X0_cellsOfJoinedGaps ⟨Nat.le_of_ble_eq_true rfl, Nat.le_of_ble_eq_true rfl⟩ hK hP [1, 2, 3] rfl rfl rfl rfl hl.1 rfl (Nat.le_of_ble_eq_true rfl) dX9_extra_15 ⟨Nat.le_refl _, Nat.le_refl _⟩ (fun r_2 hr_2 => ?_)
    obtain rfl := hr_2
    exact hret _ _ _ _ (Or.inl ⟨rfl, _, rfl, rfl, dX9_extra_18⟩) ⟨_, rfl, Or.inl ⟨(exJ F G cn (cn - kn)), rfl, (by omega), (by rw [hkt]; exact ⟨cn, F, G, hI, rfl⟩)⟩⟩
  · refine lv_bipush (v := zI (-2)) hex hby dX9_extra_5 rfl ?_
    refine lv_goto (tgt := 18) hex hby dX9_extra_7 (by decide) ?_
    exact hret _ _ _ _ (Or.inl ⟨rfl, _, rfl, rfl, dX9_extra_18⟩) ⟨_, rfl, Or.inr ⟨rfl, (by omega)⟩⟩
theorem nd_X9_setRange : ndV yX9_setRange RX9 4 := by decide +kernel
theorem in_X9_setRange_X5 : ∀ w ∈ wsX50, w ∈ wsX9_setRange := fun _ h => List.mem_cons_of_mem _ (List.mem_append_left _ (List.mem_append_left _ (List.mem_append_left _ (List.mem_append_right _ (h)))))
theorem in_X9_setRange_X9 : ∀ w ∈ wsX90, w ∈ wsX9_setRange := fun _ h => List.mem_cons_of_mem _ (List.mem_append_left _ (List.mem_append_left _ (List.mem_append_left _ (List.mem_append_left _ (List.mem_append_right _ (h))))))
set_option maxHeartbeats 4000000 in
set_option maxRecDepth 100000 in
theorem c_X9_setRange {h : Nat} {hw : Nat} {hr : Nat} {ho : Nat} {aF : Nat} {aG : Nat} {hn : Nat} {aC : Nat} {f9 : List Value} {f5 : List Value} {rl : Nat} {rb : Nat} {rr : Nat} {ra : Nat} {cn : Nat} {F : Nat → Nat} {G : Nat → Nat} {fn : List Value} {g : Nat → Nat} {p1 : Int32} {p1z : Int} {p2 : Int32} {p2z : Int} {p3 : Int32} {p3z : Int} {p4 : Int32} {p4z : Int} {T : Nat → Nat} {ns : Nat} {ix : Nat → Nat} {m : Nat} (f9_now : f9[0]? = some (.ref hw)) (f9_numbering : f9[4]? = some (.ref hn)) (f9_cover : f9[5]? = some (.ref ho)) (f5_range : f5[3]? = some (.ref hr)) (fn_side : fn[0]? = some (.int (nI (2 ^ m)))) (fn_cells : fn[1]? = some (.int (nI (4 ^ m)))) (fn_C : fn[2]? = some (.ref aC)) (hp1z : p1.toInt = p1z) (hp2z : p2.toInt = p2z) (hp3z : p3.toInt = p3z) (hp4z : p4.toInt = p4z) (hFb : ∀ j, F j < 4096) (hGb : ∀ j, G j < 4096) (hg : ∀ j, g j < 4096) (hm6 : m ≤ 6) (hV : VT T ns) (hN : NumOK T m g ix) : MU l yX9_setRange wsX9_setRange 2 47 (dC, dI) (tyK cI cZ cS) [(h, .inr (9, f9)), (hw, .inr (5, f5)), (hr, .inr (4, [.int (nI rl), .int (nI rb), .int (nI rr), .int (nI ra)])), (ho, .inr (0, [.int (nI cn), .ref aF, .ref aG])), (aF, .inl (cI, 505, .inl (nA F))), (aG, .inl (cI, 505, .inl (nA G))), (hn, .inr (2, fn)), (aC, .inl (cI, 4096, .inl (nA g)))] [] [.ref h, .int p1, .int p2, .int p3, .int p4] (fun rv_ (u_ : Nat × Nat × Nat × Nat × Nat × (Nat → Nat) × (Nat → Nat)) => rI (fun r => (r = nI ((p3z.toNat - p1z.toNat + 1) * (p4z.toNat - p2z.toNat + 1)) ∧ ((0 ≤ p1z ∧ p1z < ((2 ^ m : Nat) : Int)) ∧ (0 ≤ p2z ∧ p2z < ((2 ^ m : Nat) : Int)) ∧ (p1z ≤ p3z ∧ p3z < ((2 ^ m : Nat) : Int)) ∧ (p2z ≤ p4z ∧ p4z < ((2 ^ m : Nat) : Int))) ∧ p1z.toNat = u_.1 ∧ p2z.toNat = u_.2.1 ∧ p3z.toNat = u_.2.2.1 ∧ p4z.toNat = u_.2.2.2.1 ∧ IvOK (inG (cvc T m) u_.1 u_.2.1 u_.2.2.1 u_.2.2.2.1) (4 ^ m) u_.2.2.2.2.1 u_.2.2.2.2.2.1 u_.2.2.2.2.2.2 ∧ u_.2.2.2.2.1 ≤ 505 ∧ (∀ j, u_.2.2.2.2.2.1 j < 4096) ∧ (∀ j, u_.2.2.2.2.2.2 j < 4096)) ∨ (r = zI (-2) ∧ (¬ ((0 ≤ p1z ∧ p1z < ((2 ^ m : Nat) : Int)) ∧ (0 ≤ p2z ∧ p2z < ((2 ^ m : Nat) : Int)) ∧ (p1z ≤ p3z ∧ p3z < ((2 ^ m : Nat) : Int)) ∧ (p2z ≤ p4z ∧ p4z < ((2 ^ m : Nat) : Int)))) ∧ rl = u_.1 ∧ rb = u_.2.1 ∧ rr = u_.2.2.1 ∧ ra = u_.2.2.2.1 ∧ cn = u_.2.2.2.2.1 ∧ F = u_.2.2.2.2.2.1 ∧ G = u_.2.2.2.2.2.2)) rv_) (fun (u_ : Nat × Nat × Nat × Nat × Nat × (Nat → Nat) × (Nat → Nat)) => [(h, .inr (9, f9)), (hw, .inr (5, f5)), (hr, .inr (4, [.int (nI u_.1), .int (nI u_.2.1), .int (nI u_.2.2.1), .int (nI u_.2.2.2.1)])), (ho, .inr (0, [.int (nI u_.2.2.2.2.1), .ref aF, .ref aG])), (aF, .inl (cI, 505, .inl (nA u_.2.2.2.2.2.1))), (aG, .inl (cI, 505, .inl (nA u_.2.2.2.2.2.2))), (hn, .inr (2, fn)), (aC, .inl (cI, 4096, .inl (nA g)))]) := by
  refine mu_of (by decide) rfl (Nat.le_of_ble_eq_true rfl) ?_
  intro pp ee ss mm bb mt cd Q A CFx hP hK hD hS hA hTr hret ls hl
  obtain ⟨hex, hby, hml, hown, hts⟩ := id CFx
  have hl : lv_has ls 5 [(0, .ref h), (1, .int p1), (2, .int p2), (3, .int p3), (4, .int p4)] := hl
  have h26 := p2_6 hm6
  have h46 := p4_6 hm6
  have h4p := p4_pos m
  refine lv_aload_n hex hby dX9_setRange_0 rfl (lv_at hl 0 rfl) ?_
  refine nv_get (v := .ref hn) CFx in_X9_setRange_X9 hK hP 0 rfl rfl 4 (by decide) (List.mem_of_getElem? (i := 1) rfl) f9_numbering dX9_setRange_1 ?_
  refine lv_iload_n hex hby dX9_setRange_4 rfl (lv_at hl 1 rfl) ?_
  refine lv_iload_n hex hby dX9_setRange_5 rfl (lv_at hl 2 rfl) ?_
  refine ro_Vi (As := [.int p1, .int p2]) (rest := []) CFx (c_X2_holds (h := hn) (fs := fn) (sd := 2 ^ m) (x := p1) (xz := p1.toInt) (y := p2) (yz := p2.toInt) fn_side rfl rfl (by omega)) 2 gX9_setRange_X2_holds rfl nd_X2_holds ⟨Nat.le_of_ble_eq_true rfl, Nat.le_of_ble_eq_true rfl⟩ hK hP [6] rfl rfl rfl rfl hl.1 rfl (Nat.le_of_ble_eq_true rfl) dX9_setRange_6 ⟨Nat.le_refl _, Nat.le_refl _⟩ (fun r_1 hr_1 => ?_)
  rcases hr_1 with ⟨rfl, h_2⟩ | ⟨rfl, h_3⟩
  · refine nv_if_eq (tgt := 36) hex hby dX9_setRange_9 (by decide) (by omega) (fun c => absurd c (by omega)) (fun _ => ?_)
    refine lv_aload_n hex hby dX9_setRange_12 rfl (lv_at hl 0 rfl) ?_
    refine nv_get (v := .ref hn) CFx in_X9_setRange_X9 hK hP 0 rfl rfl 4 (by decide) (List.mem_of_getElem? (i := 1) rfl) f9_numbering dX9_setRange_13 ?_
    refine lv_iload_n hex hby dX9_setRange_16 rfl (lv_at hl 3 rfl) ?_
    refine lv_iload hex hby dX9_setRange_17 (lv_at hl 4 rfl) ?_
    refine ro_Vi (As := [.int p3, .int p4]) (rest := []) CFx (c_X2_holds (h := hn) (fs := fn) (sd := 2 ^ m) (x := p3) (xz := p3.toInt) (y := p4) (yz := p4.toInt) fn_side rfl rfl (by omega)) 2 gX9_setRange_X2_holds rfl nd_X2_holds ⟨Nat.le_of_ble_eq_true rfl, Nat.le_of_ble_eq_true rfl⟩ hK hP [6] rfl rfl rfl rfl hl.1 rfl (Nat.le_of_ble_eq_true rfl) dX9_setRange_19 ⟨Nat.le_refl _, Nat.le_refl _⟩ (fun r_4 hr_4 => ?_)
    rcases hr_4 with ⟨rfl, h_5⟩ | ⟨rfl, h_6⟩
    · refine nv_if_eq (tgt := 36) hex hby dX9_setRange_22 (by decide) (by omega) (fun c => absurd c (by omega)) (fun _ => ?_)
      refine lv_iload_n hex hby dX9_setRange_25 rfl (lv_at hl 3 rfl) ?_
      refine lv_iload_n hex hby dX9_setRange_26 rfl (lv_at hl 1 rfl) ?_
      refine ni_icmp_lt (tgt := 36) (a := p3.toInt) (b := p1.toInt) hex hby dX9_setRange_27 (by decide) rfl rfl (fun c_7 => ?_) (fun c_7 => ?_)
      · refine lv_bipush (v := zI (-2)) hex hby dX9_setRange_36 rfl ?_
        exact hret _ (rl, rb, rr, ra, cn, F, G) _ _ _ _ _ (Or.inl ⟨rfl, _, rfl, rfl, dX9_setRange_38⟩) ⟨_, rfl, Or.inr ⟨rfl, (by omega), rfl, rfl, rfl, rfl, rfl, rfl, rfl⟩⟩ hP hD hS
      · refine lv_iload hex hby dX9_setRange_30 (lv_at hl 4 rfl) ?_
        refine lv_iload_n hex hby dX9_setRange_32 rfl (lv_at hl 2 rfl) ?_
        refine ni_icmp_ge (tgt := 39) (a := p4.toInt) (b := p2.toInt) hex hby dX9_setRange_33 (by decide) rfl rfl (fun c_8 => ?_) (fun c_8 => ?_)
        · obtain ⟨jp1_, hjp1__, rfl, hjp1_e⟩ := ni_of (x := p1) (by omega)
          obtain rfl : jp1_ = p1z.toNat := by omega
          obtain ⟨jp2_, hjp2__, rfl, hjp2_e⟩ := ni_of (x := p2) (by omega)
          obtain rfl : jp2_ = p2z.toNat := by omega
          obtain ⟨jp3_, hjp3__, rfl, hjp3_e⟩ := ni_of (x := p3) (by omega)
          obtain rfl : jp3_ = p3z.toNat := by omega
          obtain ⟨jp4_, hjp4__, rfl, hjp4_e⟩ := ni_of (x := p4) (by omega)
          obtain rfl : jp4_ = p4z.toNat := by omega
          refine lv_aload_n hex hby dX9_setRange_39 rfl (lv_at hl 0 rfl) ?_
          refine nv_get (v := .ref hw) CFx in_X9_setRange_X9 hK hP 0 rfl rfl 0 (by decide) (List.mem_of_getElem? (i := 2) rfl) f9_now dX9_setRange_40 ?_
          refine nv_get (v := .ref hr) CFx in_X9_setRange_X5 hK hP 1 rfl rfl 3 (by decide) (List.mem_of_getElem? (i := 3) rfl) f5_range dX9_setRange_43 ?_
          refine lv_iload_n hex hby dX9_setRange_46 rfl (lv_at hl 1 rfl) ?_
          refine lv_iload_n hex hby dX9_setRange_47 rfl (lv_at hl 2 rfl) ?_
          refine lv_iload_n hex hby dX9_setRange_48 rfl (lv_at hl 3 rfl) ?_
          refine lv_iload hex hby dX9_setRange_49 (lv_at hl 4 rfl) ?_
          refine mu_Vv (As := [.int (nI p1z.toNat), .int (nI p2z.toNat), .int (nI p3z.toNat), .int (nI p4z.toNat)]) (rest := []) (wr := [(h, .inr (9, f9)), (hw, .inr (5, f5)), (ho, .inr (0, [.int (nI cn), .ref aF, .ref aG])), (aF, .inl (cI, 505, .inl (nA F))), (aG, .inl (cI, 505, .inl (nA G))), (hn, .inr (2, fn)), (aC, .inl (cI, 4096, .inl (nA g)))]) CFx (c_X4_setEdges (hr := hr) (v0 := .int (nI rl)) (v1 := .int (nI rb)) (v2 := .int (nI rr)) (v3 := .int (nI ra)) (l0 := p1z.toNat) (b0 := p2z.toNat) (r0 := p3z.toNat) (a0 := p4z.toNat) ) 4 gX9_setRange_X4_setEdges rfl nd_X4_setEdges ⟨Nat.le_of_ble_eq_true rfl, Nat.le_of_ble_eq_true rfl⟩ hK hP hD hS hA [2] [0, 1, 3, 4, 5, 6, 7] rfl rfl (by decide) (by decide) (by decide) TR.nil rfl rfl rfl hl.1 rfl (Nat.le_of_ble_eq_true rfl) dX9_setRange_51 ⟨Nat.le_refl _, Nat.le_refl _⟩ (fun u H locs hr_9 hP hD hS => ?_)
          have hP : va_P (dC, dI) vwCl [(h, .inr (9, f9)), (hw, .inr (5, f5)), (ho, .inr (0, [.int (nI cn), .ref aF, .ref aG])), (aF, .inl (cI, 505, .inl (nA F))), (aG, .inl (cI, 505, .inl (nA G))), (hn, .inr (2, fn)), (aC, .inl (cI, 4096, .inl (nA g))), (hr, .inr (4, [.int (nI p1z.toNat), .int (nI p2z.toNat), .int (nI p3z.toNat), .int (nI p4z.toNat)]))] H := hP
          have hD : va_D A [(h, .inr (9, f9)), (hw, .inr (5, f5)), (ho, .inr (0, [.int (nI cn), .ref aF, .ref aG])), (aF, .inl (cI, 505, .inl (nA F))), (aG, .inl (cI, 505, .inl (nA G))), (hn, .inr (2, fn)), (aC, .inl (cI, 4096, .inl (nA g))), (hr, .inr (4, [.int (nI p1z.toNat), .int (nI p2z.toNat), .int (nI p3z.toNat), .int (nI p4z.toNat)]))] := hD
          refine lv_aload_n hex hby dX9_setRange_54 rfl (lv_at hl 0 rfl) ?_
          refine nv_get (v := .ref ho) CFx in_X9_setRange_X9 hK hP 0 rfl rfl 5 (by decide) (List.mem_of_getElem? (i := 4) rfl) f9_cover dX9_setRange_55 ?_
          refine lv_aload_n hex hby dX9_setRange_58 rfl (lv_at hl 0 rfl) ?_
          refine nv_get (v := .ref hn) CFx in_X9_setRange_X9 hK hP 0 rfl rfl 4 (by decide) (List.mem_of_getElem? (i := 1) rfl) f9_numbering dX9_setRange_59 ?_
          refine lv_aload_n hex hby dX9_setRange_62 rfl (lv_at hl 0 rfl) ?_
          refine nv_get (v := .ref hw) CFx in_X9_setRange_X9 hK hP 0 rfl rfl 0 (by decide) (List.mem_of_getElem? (i := 2) rfl) f9_now dX9_setRange_63 ?_
          refine nv_get (v := .ref hr) CFx in_X9_setRange_X5 hK hP 1 rfl rfl 3 (by decide) (List.mem_of_getElem? (i := 3) rfl) f5_range dX9_setRange_66 ?_
          refine mu_Vv (As := [.ref hn, .ref hr]) (rest := []) (wr := [(h, .inr (9, f9)), (hw, .inr (5, f5))]) CFx (c_X0_fill (ho := ho) (aF := aF) (aG := aG) (hn := hn) (aC := aC) (hr := hr) (v0 := .int (nI cn)) (Fa := F) (Ga := G) (fn := fn) (ce := 4 ^ m) (g := g) (fr := [.int (nI p1z.toNat), .int (nI p2z.toNat), .int (nI p3z.toNat), .int (nI p4z.toNat)]) (rl := p1z.toNat) (rb := p2z.toNat) (rr := p3z.toNat) (ra := p4z.toNat) (T := T) (ns := ns) (m := m) fn_cells fn_C rfl rfl rfl rfl hFb hGb hg (by omega) (by omega) (by omega) (by omega) hV hm6 rfl hN.1) 2 gX9_setRange_X0_fill rfl nd_X0_fill ⟨Nat.le_of_ble_eq_true rfl, Nat.le_of_ble_eq_true rfl⟩ hK hP hD hS hA [2, 3, 4, 5, 6, 7] [0, 1] rfl rfl (by decide) (by decide) (by decide) TR.nil rfl rfl rfl hl.1 rfl (Nat.le_of_ble_eq_true rfl) dX9_setRange_69 ⟨Nat.le_refl _, Nat.le_refl _⟩ (fun u H locs hr_10 hP hD hS => ?_)
          obtain ⟨n1, F1, G1⟩ := u
          dsimp only at hr_10 hP hD
          have hP : va_P (dC, dI) vwCl [(h, .inr (9, f9)), (hw, .inr (5, f5)), (ho, .inr (0, [.int (nI n1), .ref aF, .ref aG])), (aF, .inl (cI, 505, .inl (nA F1))), (aG, .inl (cI, 505, .inl (nA G1))), (hn, .inr (2, fn)), (aC, .inl (cI, 4096, .inl (nA g))), (hr, .inr (4, [.int (nI p1z.toNat), .int (nI p2z.toNat), .int (nI p3z.toNat), .int (nI p4z.toNat)]))] H := hP
          have hD : va_D A [(h, .inr (9, f9)), (hw, .inr (5, f5)), (ho, .inr (0, [.int (nI n1), .ref aF, .ref aG])), (aF, .inl (cI, 505, .inl (nA F1))), (aG, .inl (cI, 505, .inl (nA G1))), (hn, .inr (2, fn)), (aC, .inl (cI, 4096, .inl (nA g))), (hr, .inr (4, [.int (nI p1z.toNat), .int (nI p2z.toNat), .int (nI p3z.toNat), .int (nI p4z.toNat)]))] := hD
          obtain ⟨hI1, hc1, hF1, hG1⟩ := hr_10
          refine lv_iload_n hex hby dX9_setRange_72 rfl (lv_at hl 3 rfl) ?_
          refine lv_iload_n hex hby dX9_setRange_73 rfl (lv_at hl 1 rfl) ?_
          refine nv_isub hex hby dX9_setRange_74 (by omega) ?_
          refine lv_iconst (v := nI 1) hex hby dX9_setRange_75 rfl ?_
          refine nv_iadd hex hby dX9_setRange_76 ?_
          refine lv_iload hex hby dX9_setRange_77 (lv_at hl 4 rfl) ?_
          refine lv_iload_n hex hby dX9_setRange_79 rfl (lv_at hl 2 rfl) ?_
          refine nv_isub hex hby dX9_setRange_80 (by omega) ?_
          refine lv_iconst (v := nI 1) hex hby dX9_setRange_81 rfl ?_
          refine nv_iadd hex hby dX9_setRange_82 ?_
          refine nv_imul hex hby dX9_setRange_83 ?_
          exact hret _ (p1z.toNat, p2z.toNat, p3z.toNat, p4z.toNat, n1, F1, G1) _ _ _ _ _ (Or.inl ⟨rfl, _, rfl, rfl, dX9_setRange_84⟩) ⟨_, rfl, Or.inl ⟨rfl, (by omega), rfl, rfl, rfl, rfl, (hI1.congr (inG_congr (fun i hi => hN.1 i hi))), hc1, hF1, hG1⟩⟩ (hP.sub [0, 1, 7, 2, 3, 4, 5, 6] rfl) (hD.sub [0, 1, 7, 2, 3, 4, 5, 6] (by decide) rfl) hS
        · refine lv_bipush (v := zI (-2)) hex hby dX9_setRange_36 rfl ?_
          exact hret _ (rl, rb, rr, ra, cn, F, G) _ _ _ _ _ (Or.inl ⟨rfl, _, rfl, rfl, dX9_setRange_38⟩) ⟨_, rfl, Or.inr ⟨rfl, (by omega), rfl, rfl, rfl, rfl, rfl, rfl, rfl⟩⟩ hP hD hS
    · refine nv_if_eq (tgt := 36) hex hby dX9_setRange_22 (by decide) (by omega) (fun _ => ?_) (fun c => absurd c (by omega))
      refine lv_bipush (v := zI (-2)) hex hby dX9_setRange_36 rfl ?_
      exact hret _ (rl, rb, rr, ra, cn, F, G) _ _ _ _ _ (Or.inl ⟨rfl, _, rfl, rfl, dX9_setRange_38⟩) ⟨_, rfl, Or.inr ⟨rfl, (by omega), rfl, rfl, rfl, rfl, rfl, rfl, rfl⟩⟩ hP hD hS
  · refine nv_if_eq (tgt := 36) hex hby dX9_setRange_9 (by decide) (by omega) (fun _ => ?_) (fun c => absurd c (by omega))
    refine lv_bipush (v := zI (-2)) hex hby dX9_setRange_36 rfl ?_
    exact hret _ (rl, rb, rr, ra, cn, F, G) _ _ _ _ _ (Or.inl ⟨rfl, _, rfl, rfl, dX9_setRange_38⟩) ⟨_, rfl, Or.inr ⟨rfl, (by omega), rfl, rfl, rfl, rfl, rfl, rfl, rfl⟩⟩ hP hD hS
end CRR
