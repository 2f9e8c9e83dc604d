section NUM1
variable {l : Launch} {dC : Nat → ClassId} {dI : Nat → Nat → Nat} {cI cZ cS : ClassId}
theorem nd_X2_holds : ndV yX2_holds RX2 2 := by decide +kernel
theorem in_X2_holds_X2 : ∀ w ∈ wsX20, w ∈ wsX2_holds := fun _ h => List.mem_cons_of_mem _ (List.mem_append_right _ (h))
set_option maxHeartbeats 4000000 in
set_option maxRecDepth 100000 in
theorem c_X2_holds {h : Nat} {fs : List Value} {sd : Nat} {x : Int32} {xz : Int} {y : Int32} {yz : Int} (fsd : fs[0]? = some (.int (nI sd))) (hxz : x.toInt = xz) (hyz : y.toInt = yz) (hsd : sd ≤ 64) : RO l yX2_holds wsX2_holds 0 0 (dC, dI) (tyK cI cZ cS) [(h, .inr (2, fs))] [.ref h, .int x, .int y] (rI (fun r => (r = nI 1 ∧ (0 ≤ xz ∧ xz < sd ∧ 0 ≤ yz ∧ yz < sd)) ∨ (r = nI 0 ∧ (¬ (0 ≤ xz ∧ xz < sd ∧ 0 ≤ yz ∧ yz < sd))))) := by
  refine ro_of (by decide) rfl (Nat.le_of_ble_eq_true rfl) ?_
  intro pp ee ss mm bb mt cd Q CFx hP hK hret ls hl
  obtain ⟨hex, hby, hml, hown, hts⟩ := id CFx
  have hl : lv_has ls 3 [(0, .ref h), (1, .int x), (2, .int y)] := hl
  refine lv_iload_n hex hby dX2_holds_0 rfl (lv_at hl 1 rfl) ?_
  refine ni_if_lt (tgt := 28) (a := x.toInt) hex hby dX2_holds_1 (by decide) rfl (fun c_1 => ?_) (fun c_1 => ?_)
  · refine lv_iconst (v := nI 0) hex hby dX2_holds_28 rfl ?_
    exact hret _ _ _ _ (Or.inr (Or.inl ⟨rfl, _, (Or.inr rfl), rfl, rfl, dX2_holds_29⟩)) ⟨_, rfl, Or.inr ⟨rfl, (by omega)⟩⟩
  · refine lv_iload_n hex hby dX2_holds_4 rfl (lv_at hl 1 rfl) ?_
    refine lv_aload_n hex hby dX2_holds_5 rfl (lv_at hl 0 rfl) ?_
    refine nv_get (v := .int (nI sd)) CFx in_X2_holds_X2 hK hP 0 rfl rfl 0 (by decide) (List.mem_of_getElem? (i := 1) rfl) fsd dX2_holds_6 ?_
    refine ni_icmp_ge (tgt := 28) (a := x.toInt) (b := (sd : Int)) hex hby dX2_holds_9 (by decide) rfl (ni_toInt (by omega)) (fun c_2 => ?_) (fun c_2 => ?_)
    · refine lv_iconst (v := nI 0) hex hby dX2_holds_28 rfl ?_
      exact hret _ _ _ _ (Or.inr (Or.inl ⟨rfl, _, (Or.inr rfl), rfl, rfl, dX2_holds_29⟩)) ⟨_, rfl, Or.inr ⟨rfl, (by omega)⟩⟩
    · refine lv_iload_n hex hby dX2_holds_12 rfl (lv_at hl 2 rfl) ?_
      refine ni_if_lt (tgt := 28) (a := y.toInt) hex hby dX2_holds_13 (by decide) rfl (fun c_3 => ?_) (fun c_3 => ?_)
      · refine lv_iconst (v := nI 0) hex hby dX2_holds_28 rfl ?_
        exact hret _ _ _ _ (Or.inr (Or.inl ⟨rfl, _, (Or.inr rfl), rfl, rfl, dX2_holds_29⟩)) ⟨_, rfl, Or.inr ⟨rfl, (by omega)⟩⟩
      · refine lv_iload_n hex hby dX2_holds_16 rfl (lv_at hl 2 rfl) ?_
        refine lv_aload_n hex hby dX2_holds_17 rfl (lv_at hl 0 rfl) ?_
        refine nv_get (v := .int (nI sd)) CFx in_X2_holds_X2 hK hP 0 rfl rfl 0 (by decide) (List.mem_of_getElem? (i := 1) rfl) fsd dX2_holds_18 ?_
        refine ni_icmp_ge (tgt := 28) (a := y.toInt) (b := (sd : Int)) hex hby dX2_holds_21 (by decide) rfl (ni_toInt (by omega)) (fun c_4 => ?_) (fun c_4 => ?_)
        · refine lv_iconst (v := nI 0) hex hby dX2_holds_28 rfl ?_
          exact hret _ _ _ _ (Or.inr (Or.inl ⟨rfl, _, (Or.inr rfl), rfl, rfl, dX2_holds_29⟩)) ⟨_, rfl, Or.inr ⟨rfl, (by omega)⟩⟩
        · refine lv_iconst (v := nI 1) hex hby dX2_holds_24 rfl ?_
          refine lv_goto (tgt := 29) hex hby dX2_holds_25 (by decide) ?_
          exact hret _ _ _ _ (Or.inr (Or.inl ⟨rfl, _, (Or.inl rfl), rfl, rfl, dX2_holds_29⟩)) ⟨_, rfl, Or.inl ⟨rfl, (by omega)⟩⟩
theorem nd_X2_indexOf : ndV yX2_indexOf RX2 2 := by decide +kernel
theorem in_X2_indexOf_X2 : ∀ w ∈ wsX20, w ∈ wsX2_indexOf := fun _ h => List.mem_cons_of_mem _ (List.mem_append_right _ (h))
set_option maxHeartbeats 4000000 in
set_option maxRecDepth 100000 in
theorem c_X2_indexOf {h : Nat} {aI : Nat} {fs : List Value} {ix : Nat → Nat} {x : Nat} {y : Nat} (faI : fs[3]? = some (.ref aI)) (hix : ∀ j, ix j < 4096) (hx0 : x < 64) (hy0 : y < 64) : RO l yX2_indexOf wsX2_indexOf 0 0 (dC, dI) (tyK cI cZ cS) [(h, .inr (2, fs)), (aI, .inl (cI, 4096, .inl (nA ix)))] [.ref h, .int (nI x), .int (nI y)] (rI (fun r => r = nI (ix (y * 64 + x)))) := by
  refine ro_of (by decide) rfl (Nat.le_of_ble_eq_true rfl) ?_
  intro pp ee ss mm bb mt cd Q CFx hP hK hret ls hl
  obtain ⟨hex, hby, hml, hown, hts⟩ := id CFx
  have hl : lv_has ls 3 [(0, .ref h), (1, .int (nI x)), (2, .int (nI y))] := hl
  refine lv_aload_n hex hby dX2_indexOf_0 rfl (lv_at hl 0 rfl) ?_
  refine nv_get (v := .ref aI) CFx in_X2_indexOf_X2 hK hP 0 rfl rfl 3 (by decide) (List.mem_of_getElem? (i := 1) rfl) faI dX2_indexOf_1 ?_
  refine lv_iload_n hex hby dX2_indexOf_4 rfl (lv_at hl 2 rfl) ?_
  refine lv_bipush (v := nI 64) hex hby dX2_indexOf_5 rfl ?_
  refine nv_imul hex hby dX2_indexOf_7 ?_
  refine lv_iload_n hex hby dX2_indexOf_8 rfl (lv_at hl 1 rfl) ?_
  refine nv_iadd hex hby dX2_indexOf_9 ?_
  refine nv_iald hex hby hK hP 1 0 rfl rfl (by omega) (by omega) dX2_indexOf_10 ?_
  have hb_1 := hix (y * 64 + x)
  exact hret _ _ _ _ (Or.inl ⟨rfl, _, rfl, rfl, dX2_indexOf_11⟩) ⟨_, rfl, rfl⟩
theorem nd_X2_xAt : ndV yX2_xAt RX2 1 := by decide +kernel
theorem in_X2_xAt_X2 : ∀ w ∈ wsX20, w ∈ wsX2_xAt := fun _ h => List.mem_cons_of_mem _ (List.mem_append_right _ (h))
set_option maxHeartbeats 4000000 in
set_option maxRecDepth 100000 in
theorem c_X2_xAt {h : Nat} {aC : Nat} {fs : List Value} {g : Nat → Nat} {i : Nat} (faC : fs[2]? = some (.ref aC)) (hg : ∀ j, g j < 4096) (hi0 : i < 4096) : RO l yX2_xAt wsX2_xAt 0 0 (dC, dI) (tyK cI cZ cS) [(h, .inr (2, fs)), (aC, .inl (cI, 4096, .inl (nA g)))] [.ref h, .int (nI i)] (rI (fun r => r = nI (g i % 64))) := by
  refine ro_of (by decide) rfl (Nat.le_of_ble_eq_true rfl) ?_
  intro pp ee ss mm bb mt cd Q CFx hP hK hret ls hl
  obtain ⟨hex, hby, hml, hown, hts⟩ := id CFx
  have hl : lv_has ls 2 [(0, .ref h), (1, .int (nI i))] := hl
  refine lv_aload_n hex hby dX2_xAt_0 rfl (lv_at hl 0 rfl) ?_
  refine nv_get (v := .ref aC) CFx in_X2_xAt_X2 hK hP 0 rfl rfl 2 (by decide) (List.mem_of_getElem? (i := 1) rfl) faC dX2_xAt_1 ?_
  refine lv_iload_n hex hby dX2_xAt_4 rfl (lv_at hl 1 rfl) ?_
  refine nv_iald hex hby hK hP 1 0 rfl rfl (by omega) (by omega) dX2_xAt_5 ?_
  have hb_1 := hg i
  refine lv_bipush (v := nI 64) hex hby dX2_xAt_6 rfl ?_
  refine nv_irem hex hby dX2_xAt_8 (by omega) (by omega) (by omega) ?_
  exact hret _ _ _ _ (Or.inl ⟨rfl, _, rfl, rfl, dX2_xAt_9⟩) ⟨_, rfl, rfl⟩
theorem nd_X2_yAt : ndV yX2_yAt RX2 1 := by decide +kernel
theorem in_X2_yAt_X2 : ∀ w ∈ wsX20, w ∈ wsX2_yAt := fun _ h => List.mem_cons_of_mem _ (List.mem_append_right _ (h))
set_option maxHeartbeats 4000000 in
set_option maxRecDepth 100000 in
theorem c_X2_yAt {h : Nat} {aC : Nat} {fs : List Value} {g : Nat → Nat} {i : Nat} (faC : fs[2]? = some (.ref aC)) (hg : ∀ j, g j < 4096) (hi0 : i < 4096) : RO l yX2_yAt wsX2_yAt 0 0 (dC, dI) (tyK cI cZ cS) [(h, .inr (2, fs)), (aC, .inl (cI, 4096, .inl (nA g)))] [.ref h, .int (nI i)] (rI (fun r => r = nI (g i / 64))) := by
  refine ro_of (by decide) rfl (Nat.le_of_ble_eq_true rfl) ?_
  intro pp ee ss mm bb mt cd Q CFx hP hK hret ls hl
  obtain ⟨hex, hby, hml, hown, hts⟩ := id CFx
  have hl : lv_has ls 2 [(0, .ref h), (1, .int (nI i))] := hl
  refine lv_aload_n hex hby dX2_yAt_0 rfl (lv_at hl 0 rfl) ?_
  refine nv_get (v := .ref aC) CFx in_X2_yAt_X2 hK hP 0 rfl rfl 2 (by decide) (List.mem_of_getElem? (i := 1) rfl) faC dX2_yAt_1 ?_
  refine lv_iload_n hex hby dX2_yAt_4 rfl (lv_at hl 1 rfl) ?_
  refine nv_iald hex hby hK hP 1 0 rfl rfl (by omega) (by omega) dX2_yAt_5 ?_
  have hb_1 := hg i
  refine lv_bipush (v := nI 64) hex hby dX2_yAt_6 rfl ?_
  refine nv_idiv hex hby dX2_yAt_8 (by omega) (by omega) (by omega) ?_
  exact hret _ _ _ _ (Or.inl ⟨rfl, _, rfl, rfl, dX2_yAt_9⟩) ⟨_, rfl, rfl⟩
end NUM1
