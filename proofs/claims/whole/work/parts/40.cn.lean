section CNR
variable {l : Launch} {dC : Nat → ClassId} {dI : Nat → Nat → Nat} {cI cZ cS : ClassId}
theorem nd_X9_sumValue : ndV yX9_sumValue RX9 2 := by decide +kernel
set_option maxHeartbeats 4000000 in
set_option maxRecDepth 100000 in
theorem c_X9_sumValue {v : Int64} {w : Nat}  : RO l yX9_sumValue wsX9_sumValue 0 0 (dC, dI) (tyK cI cZ cS) [] [.long v, .int (nI w)] (rL (fun r => r = mr v w)) := by
  refine ro_of (by decide) rfl (Nat.le_of_ble_eq_true rfl) ?_
  intro pp ee ss mm bb mt cd Q CFx hP hK hret ls hl
  obtain ⟨hex, hby, hml, hown, hts⟩ := id CFx
  have hl : lv_has ls 3 [(0, .long v), (2, .int (nI w))] := hl
  refine lv_ldc2 (v := 31) hex hby hown (hts _ (List.mem_of_getElem? (i := 1) rfl)) dX9_sumValue_0 ?_
  refine lv_lload_n hex hby dX9_sumValue_3 rfl (lv_at hl 0 rfl) ?_
  refine lv_lmul hex hby dX9_sumValue_4 ?_
  refine lv_iload_n hex hby dX9_sumValue_5 rfl (lv_at hl 1 rfl) ?_
  refine lv_i2l hex hby dX9_sumValue_6 rfl ?_
  refine lv_ladd hex hby dX9_sumValue_7 ?_
  exact hret _ _ _ _ (Or.inr (Or.inr (Or.inr (Or.inl ⟨rfl, _, rfl, rfl, dX9_sumValue_8⟩)))) ⟨_, rfl, rfl⟩
end CNR
