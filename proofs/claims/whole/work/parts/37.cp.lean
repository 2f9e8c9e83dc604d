section CPY
variable {l : Launch} {dC : Nat → ClassId} {dI : Nat → Nat → Nat} {cI cZ cS : ClassId}
theorem nd_X3_copyFrom : ndV yX3_copyFrom RX3 1 := by decide +kernel
theorem in_X3_copyFrom_X3 : ∀ w ∈ wsX30, w ∈ wsX3_copyFrom := fun _ h => List.mem_cons_of_mem _ (List.mem_append_right _ (h))
set_option maxHeartbeats 4000000 in
set_option maxRecDepth 100000 in
theorem c_X3_copyFrom {ha : Nat} {aX1 : Nat} {hb : Nat} {aX2 : Nat} {v0 : Value} {G0 : Nat → Nat} {cb : Nat} {G1 : Nat → Nat}  : MU l yX3_copyFrom wsX3_copyFrom 1 40 (dC, dI) (tyK cI cZ cS) [(ha, .inr (3, [v0, .ref aX1])), (aX1, .inl (cI, 40, .inl (nA G0))), (hb, .inr (3, [.int (nI cb), .ref aX2])), (aX2, .inl (cI, 40, .inl (nA G1)))] [] [.ref ha, .ref hb] (fun rv_ (u_ : Unit) => rV (True) rv_) (fun (u_ : Unit) => [(ha, .inr (3, [.int (nI cb), .ref aX1])), (aX1, .inl (cI, 40, .inl (nA G1))), (hb, .inr (3, [.int (nI cb), .ref aX2])), (aX2, .inl (cI, 40, .inl (nA G1)))]) := by
  refine mu_of (by decide) rfl (Nat.le_of_ble_eq_true rfl) ?_
  intro pp ee ss mm bb mt cd Q A CFx hP hK hD hS hA hTr hret ls hl
  obtain ⟨hex, hby, hml, hown, hts⟩ := id CFx
  have hl : lv_has ls 2 [(0, .ref ha), (1, .ref hb)] := hl
  refine lv_aload_n hex hby dX3_copyFrom_0 rfl (lv_at hl 0 rfl) ?_
  refine lv_aload_n hex hby dX3_copyFrom_1 rfl (lv_at hl 1 rfl) ?_
  refine nv_get (v := .int (nI cb)) CFx in_X3_copyFrom_X3 hK hP 2 rfl rfl 0 (by decide) (List.mem_of_getElem? (i := 1) rfl) rfl dX3_copyFrom_2 ?_
  refine nv_put CFx in_X3_copyFrom_X3 tyX3 tyX3_ok nmX3 hK hP hD hS 0 rfl rfl 0 (by decide) (List.mem_of_getElem? (i := 1) rfl) rfl (by decide +kernel) (Nat.le_of_ble_eq_true rfl) dX3_copyFrom_5 (fun H locs hP hD hS => ?_)
  have hP : va_P (dC, dI) vwCl [(ha, .inr (3, [.int (nI cb), .ref aX1])), (aX1, .inl (cI, 40, .inl (nA G0))), (hb, .inr (3, [.int (nI cb), .ref aX2])), (aX2, .inl (cI, 40, .inl (nA G1)))] H := hP
  have hD : va_D A [(ha, .inr (3, [.int (nI cb), .ref aX1])), (aX1, .inl (cI, 40, .inl (nA G0))), (hb, .inr (3, [.int (nI cb), .ref aX2])), (aX2, .inl (cI, 40, .inl (nA G1)))] := hD
  refine lv_aload_n hex hby dX3_copyFrom_8 rfl (lv_at hl 1 rfl) ?_
  refine nv_get (v := .ref aX2) CFx in_X3_copyFrom_X3 hK hP 2 rfl rfl 1 (by decide) (List.mem_of_getElem? (i := 2) rfl) rfl dX3_copyFrom_9 ?_
  refine lv_iconst (v := nI 0) hex hby dX3_copyFrom_12 rfl ?_
  refine lv_aload_n hex hby dX3_copyFrom_13 rfl (lv_at hl 0 rfl) ?_
  refine nv_get (v := .ref aX1) CFx in_X3_copyFrom_X3 hK hP 0 rfl rfl 1 (by decide) (List.mem_of_getElem? (i := 2) rfl) rfl dX3_copyFrom_14 ?_
  refine lv_iconst (v := nI 0) hex hby dX3_copyFrom_17 rfl ?_
  refine lv_aload_n hex hby dX3_copyFrom_18 rfl (lv_at hl 0 rfl) ?_
  refine nv_get (v := .ref aX1) CFx in_X3_copyFrom_X3 hK hP 0 rfl rfl 1 (by decide) (List.mem_of_getElem? (i := 2) rfl) rfl dX3_copyFrom_19 ?_
  refine va_alen (v := nI 40) hex hby hK hP 1 0 rfl rfl rfl dX3_copyFrom_22 ?_
  refine nv_copyA (n := 40) hex hby (hml.trans hl.1.symm) hown (hts _ (List.mem_of_getElem? (i := 3) rfl)) (hts _ (List.mem_of_getElem? (i := 4) rfl)) (hts _ (List.mem_of_getElem? (i := 5) rfl)) (hts _ (List.mem_of_getElem? (i := 6) rfl)) hK hP hD hS 3 1 0 rfl rfl rfl (by omega) (by omega) (Nat.le_of_ble_eq_true rfl) (by decide +kernel) dX3_copyFrom_23 (fun H locs hP hD hS => ?_)
  have hP : va_P (dC, dI) vwCl [(ha, .inr (3, [.int (nI cb), .ref aX1])), (aX1, .inl (cI, 40, .inl (nA G1))), (hb, .inr (3, [.int (nI cb), .ref aX2])), (aX2, .inl (cI, 40, .inl (nA G1)))] H := hP
  have hD : va_D A [(ha, .inr (3, [.int (nI cb), .ref aX1])), (aX1, .inl (cI, 40, .inl (nA G1))), (hb, .inr (3, [.int (nI cb), .ref aX2])), (aX2, .inl (cI, 40, .inl (nA G1)))] := hD
  exact hret _ () _ _ _ _ _ (Or.inr (Or.inr (Or.inl ⟨rfl, rfl, rfl, dX3_copyFrom_26⟩))) ⟨rfl, trivial⟩ hP hD hS
theorem nd_X1_copyFrom : ndV yX1_copyFrom RX1 1 := by decide +kernel
theorem in_X1_copyFrom_X1 : ∀ w ∈ wsX10, w ∈ wsX1_copyFrom := fun _ h => List.mem_cons_of_mem _ (List.mem_append_right _ (h))
set_option maxHeartbeats 4000000 in
set_option maxRecDepth 100000 in
theorem c_X1_copyFrom {ha : Nat} {aX1 : Nat} {hb : Nat} {aX2 : Nat} {v0 : Value} {G0 : Nat → Nat} {cb : Nat} {G1 : Nat → Nat}  : MU l yX1_copyFrom wsX1_copyFrom 1 40 (dC, dI) (tyK cI cZ cS) [(ha, .inr (1, [v0, .ref aX1])), (aX1, .inl (cI, 497, .inl (nA G0))), (hb, .inr (1, [.int (nI cb), .ref aX2])), (aX2, .inl (cI, 497, .inl (nA G1)))] [] [.ref ha, .ref hb] (fun rv_ (u_ : Unit) => rV (True) rv_) (fun (u_ : Unit) => [(ha, .inr (1, [.int (nI cb), .ref aX1])), (aX1, .inl (cI, 497, .inl (nA G1))), (hb, .inr (1, [.int (nI cb), .ref aX2])), (aX2, .inl (cI, 497, .inl (nA G1)))]) := by
  refine mu_of (by decide) rfl (Nat.le_of_ble_eq_true rfl) ?_
  intro pp ee ss mm bb mt cd Q A CFx hP hK hD hS hA hTr hret ls hl
  obtain ⟨hex, hby, hml, hown, hts⟩ := id CFx
  have hl : lv_has ls 2 [(0, .ref ha), (1, .ref hb)] := hl
  refine lv_aload_n hex hby dX1_copyFrom_0 rfl (lv_at hl 0 rfl) ?_
  refine lv_aload_n hex hby dX1_copyFrom_1 rfl (lv_at hl 1 rfl) ?_
  refine nv_get (v := .int (nI cb)) CFx in_X1_copyFrom_X1 hK hP 2 rfl rfl 0 (by decide) (List.mem_of_getElem? (i := 1) rfl) rfl dX1_copyFrom_2 ?_
  refine nv_put CFx in_X1_copyFrom_X1 tyX1 tyX1_ok nmX1 hK hP hD hS 0 rfl rfl 0 (by decide) (List.mem_of_getElem? (i := 1) rfl) rfl (by decide +kernel) (Nat.le_of_ble_eq_true rfl) dX1_copyFrom_5 (fun H locs hP hD hS => ?_)
  have hP : va_P (dC, dI) vwCl [(ha, .inr (1, [.int (nI cb), .ref aX1])), (aX1, .inl (cI, 497, .inl (nA G0))), (hb, .inr (1, [.int (nI cb), .ref aX2])), (aX2, .inl (cI, 497, .inl (nA G1)))] H := hP
  have hD : va_D A [(ha, .inr (1, [.int (nI cb), .ref aX1])), (aX1, .inl (cI, 497, .inl (nA G0))), (hb, .inr (1, [.int (nI cb), .ref aX2])), (aX2, .inl (cI, 497, .inl (nA G1)))] := hD
  refine lv_aload_n hex hby dX1_copyFrom_8 rfl (lv_at hl 1 rfl) ?_
  refine nv_get (v := .ref aX2) CFx in_X1_copyFrom_X1 hK hP 2 rfl rfl 1 (by decide) (List.mem_of_getElem? (i := 2) rfl) rfl dX1_copyFrom_9 ?_
  refine lv_iconst (v := nI 0) hex hby dX1_copyFrom_12 rfl ?_
  refine lv_aload_n hex hby dX1_copyFrom_13 rfl (lv_at hl 0 rfl) ?_
  refine nv_get (v := .ref aX1) CFx in_X1_copyFrom_X1 hK hP 0 rfl rfl 1 (by decide) (List.mem_of_getElem? (i := 2) rfl) rfl dX1_copyFrom_14 ?_
  refine lv_iconst (v := nI 0) hex hby dX1_copyFrom_17 rfl ?_
  refine lv_aload_n hex hby dX1_copyFrom_18 rfl (lv_at hl 0 rfl) ?_
  refine nv_get (v := .ref aX1) CFx in_X1_copyFrom_X1 hK hP 0 rfl rfl 1 (by decide) (List.mem_of_getElem? (i := 2) rfl) rfl dX1_copyFrom_19 ?_
  refine va_alen (v := nI 497) hex hby hK hP 1 0 rfl rfl rfl dX1_copyFrom_22 ?_
  refine nv_copyA (n := 497) hex hby (hml.trans hl.1.symm) hown (hts _ (List.mem_of_getElem? (i := 3) rfl)) (hts _ (List.mem_of_getElem? (i := 4) rfl)) (hts _ (List.mem_of_getElem? (i := 5) rfl)) (hts _ (List.mem_of_getElem? (i := 6) rfl)) hK hP hD hS 3 1 0 rfl rfl rfl (by omega) (by omega) (Nat.le_of_ble_eq_true rfl) (by decide +kernel) dX1_copyFrom_23 (fun H locs hP hD hS => ?_)
  have hP : va_P (dC, dI) vwCl [(ha, .inr (1, [.int (nI cb), .ref aX1])), (aX1, .inl (cI, 497, .inl (nA G1))), (hb, .inr (1, [.int (nI cb), .ref aX2])), (aX2, .inl (cI, 497, .inl (nA G1)))] H := hP
  have hD : va_D A [(ha, .inr (1, [.int (nI cb), .ref aX1])), (aX1, .inl (cI, 497, .inl (nA G1))), (hb, .inr (1, [.int (nI cb), .ref aX2])), (aX2, .inl (cI, 497, .inl (nA G1)))] := hD
  exact hret _ () _ _ _ _ _ (Or.inr (Or.inr (Or.inl ⟨rfl, rfl, rfl, dX1_copyFrom_26⟩))) ⟨rfl, trivial⟩ hP hD hS
theorem nd_X6_copyFrom : ndV yX6_copyFrom RX6 1 := by decide +kernel
theorem in_X6_copyFrom_X6 : ∀ w ∈ wsX60, w ∈ wsX6_copyFrom := fun _ h => List.mem_cons_of_mem _ (List.mem_append_right _ (h))
set_option maxHeartbeats 4000000 in
set_option maxRecDepth 100000 in
theorem c_X6_copyFrom {ha : Nat} {aX1 : Nat} {hb : Nat} {aX2 : Nat} {v0 : Value} {G0 : Nat → Nat} {cb : Nat} {G1 : Nat → Nat}  : MU l yX6_copyFrom wsX6_copyFrom 1 40 (dC, dI) (tyK cI cZ cS) [(ha, .inr (6, [v0, .ref aX1])), (aX1, .inl (cI, 32, .inl (nA G0))), (hb, .inr (6, [.int (nI cb), .ref aX2])), (aX2, .inl (cI, 32, .inl (nA G1)))] [] [.ref ha, .ref hb] (fun rv_ (u_ : Unit) => rV (True) rv_) (fun (u_ : Unit) => [(ha, .inr (6, [.int (nI cb), .ref aX1])), (aX1, .inl (cI, 32, .inl (nA G1))), (hb, .inr (6, [.int (nI cb), .ref aX2])), (aX2, .inl (cI, 32, .inl (nA G1)))]) := by
  refine mu_of (by decide) rfl (Nat.le_of_ble_eq_true rfl) ?_
  intro pp ee ss mm bb mt cd Q A CFx hP hK hD hS hA hTr hret ls hl
  obtain ⟨hex, hby, hml, hown, hts⟩ := id CFx
  have hl : lv_has ls 2 [(0, .ref ha), (1, .ref hb)] := hl
  refine lv_aload_n hex hby dX6_copyFrom_0 rfl (lv_at hl 0 rfl) ?_
  refine lv_aload_n hex hby dX6_copyFrom_1 rfl (lv_at hl 1 rfl) ?_
  refine nv_get (v := .int (nI cb)) CFx in_X6_copyFrom_X6 hK hP 2 rfl rfl 0 (by decide) (List.mem_of_getElem? (i := 1) rfl) rfl dX6_copyFrom_2 ?_
  refine nv_put CFx in_X6_copyFrom_X6 tyX6 tyX6_ok nmX6 hK hP hD hS 0 rfl rfl 0 (by decide) (List.mem_of_getElem? (i := 1) rfl) rfl (by decide +kernel) (Nat.le_of_ble_eq_true rfl) dX6_copyFrom_5 (fun H locs hP hD hS => ?_)
  have hP : va_P (dC, dI) vwCl [(ha, .inr (6, [.int (nI cb), .ref aX1])), (aX1, .inl (cI, 32, .inl (nA G0))), (hb, .inr (6, [.int (nI cb), .ref aX2])), (aX2, .inl (cI, 32, .inl (nA G1)))] H := hP
  have hD : va_D A [(ha, .inr (6, [.int (nI cb), .ref aX1])), (aX1, .inl (cI, 32, .inl (nA G0))), (hb, .inr (6, [.int (nI cb), .ref aX2])), (aX2, .inl (cI, 32, .inl (nA G1)))] := hD
  refine lv_aload_n hex hby dX6_copyFrom_8 rfl (lv_at hl 1 rfl) ?_
  refine nv_get (v := .ref aX2) CFx in_X6_copyFrom_X6 hK hP 2 rfl rfl 1 (by decide) (List.mem_of_getElem? (i := 2) rfl) rfl dX6_copyFrom_9 ?_
  refine lv_iconst (v := nI 0) hex hby dX6_copyFrom_12 rfl ?_
  refine lv_aload_n hex hby dX6_copyFrom_13 rfl (lv_at hl 0 rfl) ?_
  refine nv_get (v := .ref aX1) CFx in_X6_copyFrom_X6 hK hP 0 rfl rfl 1 (by decide) (List.mem_of_getElem? (i := 2) rfl) rfl dX6_copyFrom_14 ?_
  refine lv_iconst (v := nI 0) hex hby dX6_copyFrom_17 rfl ?_
  refine lv_aload_n hex hby dX6_copyFrom_18 rfl (lv_at hl 0 rfl) ?_
  refine nv_get (v := .ref aX1) CFx in_X6_copyFrom_X6 hK hP 0 rfl rfl 1 (by decide) (List.mem_of_getElem? (i := 2) rfl) rfl dX6_copyFrom_19 ?_
  refine va_alen (v := nI 32) hex hby hK hP 1 0 rfl rfl rfl dX6_copyFrom_22 ?_
  refine nv_copyA (n := 32) hex hby (hml.trans hl.1.symm) hown (hts _ (List.mem_of_getElem? (i := 3) rfl)) (hts _ (List.mem_of_getElem? (i := 4) rfl)) (hts _ (List.mem_of_getElem? (i := 5) rfl)) (hts _ (List.mem_of_getElem? (i := 6) rfl)) hK hP hD hS 3 1 0 rfl rfl rfl (by omega) (by omega) (Nat.le_of_ble_eq_true rfl) (by decide +kernel) dX6_copyFrom_23 (fun H locs hP hD hS => ?_)
  have hP : va_P (dC, dI) vwCl [(ha, .inr (6, [.int (nI cb), .ref aX1])), (aX1, .inl (cI, 32, .inl (nA G1))), (hb, .inr (6, [.int (nI cb), .ref aX2])), (aX2, .inl (cI, 32, .inl (nA G1)))] H := hP
  have hD : va_D A [(ha, .inr (6, [.int (nI cb), .ref aX1])), (aX1, .inl (cI, 32, .inl (nA G1))), (hb, .inr (6, [.int (nI cb), .ref aX2])), (aX2, .inl (cI, 32, .inl (nA G1)))] := hD
  exact hret _ () _ _ _ _ _ (Or.inr (Or.inr (Or.inl ⟨rfl, rfl, rfl, dX6_copyFrom_26⟩))) ⟨rfl, trivial⟩ hP hD hS
end CPY
