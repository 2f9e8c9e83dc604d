section MST
variable {l : Launch} {dC : Nat → ClassId} {dI : Nat → Nat → Nat} {cI cZ cS : ClassId}
def HasP (P : Nat → Nat) (pc q : Nat) : Prop := ∃ k, k < pc ∧ P k = q
theorem cu_Tb {tb V : Nat → Nat} {cu tc : Nat} (h0 : TbOK mortT tb 0 1) (h1 : TbOK hilT tb 1 4) (h2 : TbOK V tb 2 tc) (hc : cu ≤ 2) : TbOK (cuT cu V) tb cu (cuN cu tc) := by
  rcases (show cu = 0 ∨ cu = 1 ∨ cu = 2 by omega) with e | e | e
  · subst e; exact h0
  · subst e; exact h1
  · subst e; exact h2
theorem cu_sm {sm : Nat → Nat} {cu tc : Nat} (h0 : sm 0 = 1) (h1 : sm 1 = 4) (h2 : sm 2 = tc) (hc : cu ≤ 2) : sm cu = cuN cu tc := by
  rcases (show cu = 0 ∨ cu = 1 ∨ cu = 2 by omega) with e | e | e
  · subst e; exact h0
  · subst e; exact h1
  · subst e; exact h2
theorem pg_iv {T : Nat → Nat} {n m pc : Nat} {g ix P : Nat → Nat} (hV : VT T n) (hN : NumOK T m g ix) (hpg : ∀ j, j < pc → P j % 64 < 2 ^ m ∧ P j / 64 < 2 ^ m) : ∀ i, i < pc → ix (P i) = ptv T m P i := fun i hi => hN.iv hV (hpg i hi).1 (hpg i hi).2
theorem pg_up {P : Nat → Nat} {m pc q : Nat} (h : ∀ j, j < pc → P j % 64 < 2 ^ m ∧ P j / 64 < 2 ^ m) (hq : q % 64 < 2 ^ m ∧ q / 64 < 2 ^ m) : ∀ j, j < pc + 1 → upN P pc q j % 64 < 2 ^ m ∧ upN P pc q j / 64 < 2 ^ m := by
  intro j hj
  rcases Nat.lt_or_ge j pc with z | z
  · rw [upN_n (by omega)]; exact h j z
  · rw [show j = pc by omega, upN_s]; exact hq
theorem pg_rm {P : Nat → Nat} {m pc k : Nat} (h : ∀ j, j < pc → P j % 64 < 2 ^ m ∧ P j / 64 < 2 ^ m) (hp : 0 < pc) : ∀ j, j < pc - 1 → upN P k (P (pc - 1)) j % 64 < 2 ^ m ∧ upN P k (P (pc - 1)) j / 64 < 2 ^ m := by
  intro j hj
  by_cases z : j = k
  · rw [z, upN_s]; exact h _ (by omega)
  · rw [upN_n z]; exact h j (by omega)
theorem nd_X10_append : ndV yX10_append RX10 1 := by decide +kernel
theorem in_X10_append_X10 : ∀ w ∈ wsX100, w ∈ wsX10_append := fun _ h => List.mem_cons_of_mem _ (List.mem_append_right _ (h))
set_option maxHeartbeats 4000000 in
set_option maxRecDepth 100000 in
theorem c_X10_append {h : Nat} {aX : Nat} {v0 : Value} {v1 : Value} {v2 : Value} {v3 : Value} {v4 : Value} {v5 : Value} {v6 : Value} {v7 : Value} {v8 : Value} {v9 : Value} {v10 : Value} {v11 : Value} {v12 : Value} {v13 : Value} {tl : Nat} {v16 : Value} {v17 : Value} {v18 : Value} {v19 : Value} {v20 : Value} {v21 : Value} {v22 : Value} {v23 : Value} {v24 : Value} {v25 : Value} {v26 : Value} {v27 : Value} {v28 : Value} {tx : Nat → Nat} {w : Int32} {wz : Int} (hwz : w.toInt = wz) (htx : ∀ j, tx j < 128) (htl : tl ≤ 80) : MU l yX10_append wsX10_append 1 22 (dC, dI) (tyK cI cZ cS) [(h, .inr (10, [v0, v1, v2, v3, v4, v5, v6, v7, v8, v9, v10, v11, v12, v13, .ref aX, .int (nI tl), v16, v17, v18, v19, v20, v21, v22, v23, v24, v25, v26, v27, v28])), (aX, .inl (cI, 80, .inl (nA tx)))] [] [.ref h, .int w] (fun rv_ (u_ : Nat × (Nat → Nat)) => rI (fun r => (r = nI (tl + 1) ∧ (0 ≤ wz ∧ wz ≤ 127) ∧ tl < 80 ∧ tl + 1 = u_.1 ∧ upN tx tl wz.toNat = u_.2 ∧ (∀ j, u_.2 j < 128)) ∨ (r = zI (-2) ∧ (¬ (0 ≤ wz ∧ wz ≤ 127)) ∧ tl = u_.1 ∧ tx = u_.2) ∨ (r = zI (-4) ∧ (0 ≤ wz ∧ wz ≤ 127) ∧ 80 ≤ tl ∧ tl = u_.1 ∧ tx = u_.2)) rv_) (fun (u_ : Nat × (Nat → Nat)) => [(h, .inr (10, [v0, v1, v2, v3, v4, v5, v6, v7, v8, v9, v10, v11, v12, v13, .ref aX, .int (nI u_.1), v16, v17, v18, v19, v20, v21, v22, v23, v24, v25, v26, v27, v28])), (aX, .inl (cI, 80, .inl (nA u_.2)))]) := by
  refine mu_of (by decide) rfl (Nat.le_of_ble_eq_true rfl) ?_
  intro pp ee ss mm bb mt cd Q A CFx hP hK hD hS hA hTr hret ls hl
  obtain ⟨hex, hby, hml, hown, hts⟩ := id CFx
  have hl : lv_has ls 2 [(0, .ref h), (1, .int w)] := hl
  refine lv_iload_n hex hby dX10_append_0 rfl (lv_at hl 1 rfl) ?_
  refine lv_iconst (v := nI 0) hex hby dX10_append_1 rfl ?_
  refine lv_bipush (v := nI 127) hex hby dX10_append_2 rfl ?_
  refine ro_Si (As := [.int w, .int (nI 0), .int (nI 127)]) (rest := []) (C := RX10) CFx (c_X10_in (x := w) (xz := w.toInt) (lo := nI 0) (loz := (0 : Int)) (hi := nI 127) (hiz := (127 : Int)) rfl (by rfl) (by rfl)) 3 gX10_append_X10_in rfl nd_X10_in ⟨Nat.le_of_ble_eq_true rfl, Nat.le_of_ble_eq_true rfl⟩ hK hP [] rfl rfl hl.1 rfl (Nat.le_of_ble_eq_true rfl) dX10_append_4 ⟨Nat.le_refl _, Nat.le_refl _⟩ (fun r_1 hr_1 => ?_)
  rcases hr_1 with ⟨rfl, h_2⟩ | ⟨rfl, h_3⟩
  · refine nv_if_ne (tgt := 13) hex hby dX10_append_7 (by decide) (by omega) (fun _ => ?_) (fun c => absurd c (by omega))
    refine lv_aload_n hex hby dX10_append_13 rfl (lv_at hl 0 rfl) ?_
    refine nv_get (v := .int (nI tl)) CFx in_X10_append_X10 hK hP 0 rfl rfl 15 (by decide) (List.mem_of_getElem? (i := 1) rfl) rfl dX10_append_14 ?_
    refine lv_bipush (v := nI 80) hex hby dX10_append_17 rfl ?_
    refine nv_icmp_ne (tgt := 25) hex hby dX10_append_19 (by decide) (by omega) (by omega) (fun c_4 => ?_) (fun c_4 => ?_)
    · obtain ⟨jw_, hjw__, rfl, hjw_e⟩ := ni_of (x := w) (by omega)
      obtain rfl : jw_ = wz.toNat := by omega
      refine lv_aload_n hex hby dX10_append_25 rfl (lv_at hl 0 rfl) ?_
      refine nv_get (v := .ref aX) CFx in_X10_append_X10 hK hP 0 rfl rfl 14 (by decide) (List.mem_of_getElem? (i := 2) rfl) rfl dX10_append_26 ?_
      refine lv_aload_n hex hby dX10_append_29 rfl (lv_at hl 0 rfl) ?_
      refine nv_get (v := .int (nI tl)) CFx in_X10_append_X10 hK hP 0 rfl rfl 15 (by decide) (List.mem_of_getElem? (i := 1) rfl) rfl dX10_append_30 ?_
      refine lv_iload_n hex hby dX10_append_33 rfl (lv_at hl 1 rfl) ?_
      refine nv_iast hex hby hK hP hD hS 1 0 rfl rfl (by omega) (by omega) dX10_append_34 (fun H locs hP hD hS => ?_)
      have hP : va_P (dC, dI) vwCl [(h, .inr (10, [v0, v1, v2, v3, v4, v5, v6, v7, v8, v9, v10, v11, v12, v13, .ref aX, .int (nI tl), v16, v17, v18, v19, v20, v21, v22, v23, v24, v25, v26, v27, v28])), (aX, .inl (cI, 80, .inl (nA (upN tx tl wz.toNat))))] H := hP
      have hD : va_D A [(h, .inr (10, [v0, v1, v2, v3, v4, v5, v6, v7, v8, v9, v10, v11, v12, v13, .ref aX, .int (nI tl), v16, v17, v18, v19, v20, v21, v22, v23, v24, v25, v26, v27, v28])), (aX, .inl (cI, 80, .inl (nA (upN tx tl wz.toNat))))] := hD
      have hB_5 := upN_lt (k := tl) (x := wz.toNat) htx (by omega)
      refine lv_aload_n hex hby dX10_append_35 rfl (lv_at hl 0 rfl) ?_
      refine lv_dup hex hby dX10_append_36 rfl ?_
      refine nv_get (v := .int (nI tl)) CFx in_X10_append_X10 hK hP 0 rfl rfl 15 (by decide) (List.mem_of_getElem? (i := 1) rfl) rfl dX10_append_37 ?_
      refine lv_iconst (v := nI 1) hex hby dX10_append_40 rfl ?_
      refine nv_iadd hex hby dX10_append_41 ?_
      refine nv_put CFx in_X10_append_X10 tyX10 tyX10_ok nmX10 hK hP hD hS 0 rfl rfl 15 (by decide) (List.mem_of_getElem? (i := 1) rfl) rfl (by decide +kernel) (Nat.le_of_ble_eq_true rfl) dX10_append_42 (fun H locs hP hD hS => ?_)
      have hP : va_P (dC, dI) vwCl [(h, .inr (10, [v0, v1, v2, v3, v4, v5, v6, v7, v8, v9, v10, v11, v12, v13, .ref aX, .int (nI (tl + 1)), v16, v17, v18, v19, v20, v21, v22, v23, v24, v25, v26, v27, v28])), (aX, .inl (cI, 80, .inl (nA (upN tx tl wz.toNat))))] H := hP
      have hD : va_D A [(h, .inr (10, [v0, v1, v2, v3, v4, v5, v6, v7, v8, v9, v10, v11, v12, v13, .ref aX, .int (nI (tl + 1)), v16, v17, v18, v19, v20, v21, v22, v23, v24, v25, v26, v27, v28])), (aX, .inl (cI, 80, .inl (nA (upN tx tl wz.toNat))))] := hD
      refine lv_aload_n hex hby dX10_append_45 rfl (lv_at hl 0 rfl) ?_
      refine nv_get (v := .int (nI (tl + 1))) CFx in_X10_append_X10 hK hP 0 rfl rfl 15 (by decide) (List.mem_of_getElem? (i := 1) rfl) rfl dX10_append_46 ?_
      exact hret _ (tl + 1, upN tx tl wz.toNat) _ _ _ _ _ (Or.inl ⟨rfl, _, rfl, rfl, dX10_append_49⟩) ⟨_, rfl, Or.inl ⟨rfl, (by omega), (by omega), rfl, rfl, hB_5⟩⟩ hP hD hS
    · refine lv_bipush (v := zI (-4)) hex hby dX10_append_22 rfl ?_
      exact hret _ (tl, tx) _ _ _ _ _ (Or.inl ⟨rfl, _, rfl, rfl, dX10_append_24⟩) ⟨_, rfl, Or.inr (Or.inr (⟨rfl, (by omega), (by omega), rfl, rfl⟩))⟩ hP hD hS
  · refine nv_if_ne (tgt := 13) hex hby dX10_append_7 (by decide) (by omega) (fun c => absurd c (by omega)) (fun _ => ?_)
    refine lv_bipush (v := zI (-2)) hex hby dX10_append_10 rfl ?_
    exact hret _ (tl, tx) _ _ _ _ _ (Or.inl ⟨rfl, _, rfl, rfl, dX10_append_12⟩) ⟨_, rfl, Or.inr (Or.inl ⟨rfl, (by omega), rfl, rfl⟩)⟩ hP hD hS
theorem nd_X10_clearText : ndV yX10_clearText RX10 0 := by decide +kernel
theorem in_X10_clearText_X10 : ∀ w ∈ wsX100, w ∈ wsX10_clearText := fun _ h => List.mem_cons_of_mem _ (List.mem_append_right _ (h))
set_option maxHeartbeats 4000000 in
set_option maxRecDepth 100000 in
theorem c_X10_clearText {h : Nat} {v0 : Value} {v1 : Value} {v2 : Value} {v3 : Value} {v4 : Value} {v5 : Value} {v6 : Value} {v7 : Value} {v8 : Value} {v9 : Value} {v10 : Value} {v11 : Value} {v12 : Value} {v13 : Value} {v14 : Value} {tl : Nat} {v16 : Value} {v17 : Value} {v18 : Value} {v19 : Value} {v20 : Value} {v21 : Value} {v22 : Value} {v23 : Value} {v24 : Value} {v25 : Value} {v26 : Value} {v27 : Value} {v28 : Value}  : MU l yX10_clearText wsX10_clearText 0 0 (dC, dI) (tyK cI cZ cS) [(h, .inr (10, [v0, v1, v2, v3, v4, v5, v6, v7, v8, v9, v10, v11, v12, v13, v14, .int (nI tl), v16, v17, v18, v19, v20, v21, v22, v23, v24, v25, v26, v27, v28]))] [] [.ref h] (fun rv_ (u_ : Unit) => rI (fun r => r = nI tl) rv_) (fun (u_ : Unit) => [(h, .inr (10, [v0, v1, v2, v3, v4, v5, v6, v7, v8, v9, v10, v11, v12, v13, v14, .int (nI 0), v16, v17, v18, v19, v20, v21, v22, v23, v24, v25, v26, v27, v28]))]) := by
  refine mu_of (by decide) rfl (Nat.le_of_ble_eq_true rfl) ?_
  intro pp ee ss mm bb mt cd Q A CFx hP hK hD hS hA hTr hret ls hl
  obtain ⟨hex, hby, hml, hown, hts⟩ := id CFx
  have hl : lv_has ls 2 [(0, .ref h)] := hl
  refine lv_aload_n hex hby dX10_clearText_0 rfl (lv_at hl 0 rfl) ?_
  refine nv_get (v := .int (nI tl)) CFx in_X10_clearText_X10 hK hP 0 rfl rfl 15 (by decide) (List.mem_of_getElem? (i := 1) rfl) rfl dX10_clearText_1 ?_
  refine lv_istore_n (lv' := [(1, .int (nI tl)), (0, .ref h)]) hex hby dX10_clearText_4 rfl hl (by decide) rfl (fun ls hl => ?_)
  refine lv_aload_n hex hby dX10_clearText_5 rfl (lv_at hl 1 rfl) ?_
  refine lv_iconst (v := nI 0) hex hby dX10_clearText_6 rfl ?_
  refine nv_put CFx in_X10_clearText_X10 tyX10 tyX10_ok nmX10 hK hP hD hS 0 rfl rfl 15 (by decide) (List.mem_of_getElem? (i := 1) rfl) rfl (by decide +kernel) (Nat.le_of_ble_eq_true rfl) dX10_clearText_7 (fun H locs hP hD hS => ?_)
  have hP : va_P (dC, dI) vwCl [(h, .inr (10, [v0, v1, v2, v3, v4, v5, v6, v7, v8, v9, v10, v11, v12, v13, v14, .int (nI 0), v16, v17, v18, v19, v20, v21, v22, v23, v24, v25, v26, v27, v28]))] H := hP
  have hD : va_D A [(h, .inr (10, [v0, v1, v2, v3, v4, v5, v6, v7, v8, v9, v10, v11, v12, v13, v14, .int (nI 0), v16, v17, v18, v19, v20, v21, v22, v23, v24, v25, v26, v27, v28]))] := hD
  refine lv_iload_n hex hby dX10_clearText_10 rfl (lv_at hl 0 rfl) ?_
  exact hret _ () _ _ _ _ _ (Or.inl ⟨rfl, _, rfl, rfl, dX10_clearText_11⟩) ⟨_, rfl, rfl⟩ hP hD hS
theorem nd_X10_pointAt : ndV yX10_pointAt RX10 2 := by decide +kernel
theorem in_X10_pointAt_X10 : ∀ w ∈ wsX100, w ∈ wsX10_pointAt := fun _ h => List.mem_cons_of_mem _ (List.mem_append_right _ (h))
set_option maxHeartbeats 4000000 in
set_option maxRecDepth 100000 in
theorem c_X10_pointAt {h : Nat} {aP : Nat} {fs : List Value} {pc : Nat} {P : Nat → Nat} {x : Nat} {y : Nat} (f_points : fs[8]? = some (.ref aP)) (f_pointMany : fs[9]? = some (.int (nI pc))) (hPb : ∀ j, P j < 4096) (hpc : pc ≤ 40) (hx0 : x < 64) (hy0 : y < 64) : RO l yX10_pointAt wsX10_pointAt 0 0 (dC, dI) (tyK cI cZ cS) [(h, .inr (10, fs)), (aP, .inl (cI, 40, .inl (nA P)))] [.ref h, .int (nI x), .int (nI y)] (rI (fun r => (∃ k : Nat, r = nI k ∧ k < pc ∧ P k = 64 * y + x ∧ (∀ j, j < k → P j ≠ 64 * y + x)) ∨ (r = zI (-1) ∧ (∀ j, j < pc → P j ≠ 64 * y + x)))) := by
  refine ro_of (by decide) rfl (Nat.le_of_ble_eq_true rfl) ?_
  intro pp ee ss mm bb mt cd Q CFx hP hK hret ls hl
  obtain ⟨hex, hby, hml, hown, hts⟩ := id CFx
  have hl : lv_has ls 4 [(0, .ref h), (1, .int (nI x)), (2, .int (nI y))] := hl
  refine lv_iconst (v := nI 0) hex hby dX10_pointAt_0 rfl ?_
  refine lv_istore_n (lv' := [(3, .int (nI 0)), (0, .ref h), (1, .int (nI x)), (2, .int (nI y))]) hex hby dX10_pointAt_1 rfl hl (by decide) rfl (fun ls hl => ?_)
  have loop2 : ∀ (nn : Nat) (i : Nat), (pc - i) < nn → (i ≤ pc) → (∀ j, j < i → P j ≠ 64 * y + x) → ∀ ls : Array Slot, lv_has ls 4 [(3, .int (nI i)), (0, .ref h), (1, .int (nI x)), (2, .int (nI y))] → W pp l ee (rmO 0 0) ss mm ([.ref h, .int (nI x), .int (nI y)] : List Value).toArray bb mt cd ss.heap [] 0 0 Q (F0 mm 2 ls []) := by
    intro nn
    induction nn with
    | zero => intro i hms2; exact absurd hms2 (Nat.not_lt_zero _)
    | succ nn ih2 =>
      intro i hms2 hi hno ls hl
      refine lv_iload_n hex hby dX10_pointAt_2 rfl (lv_at hl 0 rfl) ?_
      refine lv_aload_n hex hby dX10_pointAt_3 rfl (lv_at hl 1 rfl) ?_
      refine nv_get (v := .int (nI pc)) CFx in_X10_pointAt_X10 hK hP 0 rfl rfl 9 (by decide) (List.mem_of_getElem? (i := 1) rfl) f_pointMany dX10_pointAt_4 ?_
      refine nv_icmp_ge (tgt := 33) hex hby dX10_pointAt_7 (by decide) (by omega) (by omega) (fun c_1 => ?_) (fun c_1 => ?_)
      · refine lv_iconst (v := zI (-1)) hex hby dX10_pointAt_33 rfl ?_
        exact hret _ _ _ _ (Or.inl ⟨rfl, _, rfl, rfl, dX10_pointAt_34⟩) ⟨_, rfl, Or.inr ⟨rfl, (fun j hj => hno j (by omega))⟩⟩
      · refine lv_aload_n hex hby dX10_pointAt_10 rfl (lv_at hl 1 rfl) ?_
        refine nv_get (v := .ref aP) CFx in_X10_pointAt_X10 hK hP 0 rfl rfl 8 (by decide) (List.mem_of_getElem? (i := 2) rfl) f_points dX10_pointAt_11 ?_
        refine lv_iload_n hex hby dX10_pointAt_14 rfl (lv_at hl 0 rfl) ?_
        refine nv_iald hex hby hK hP 1 0 rfl rfl (by omega) (by omega) dX10_pointAt_15 ?_
        have hb_2 := hPb i
        refine lv_bipush (v := nI 64) hex hby dX10_pointAt_16 rfl ?_
        refine lv_iload_n hex hby dX10_pointAt_18 rfl (lv_at hl 3 rfl) ?_
        refine nv_imul hex hby dX10_pointAt_19 ?_
        refine lv_iload_n hex hby dX10_pointAt_20 rfl (lv_at hl 2 rfl) ?_
        refine nv_iadd hex hby dX10_pointAt_21 ?_
        refine nv_icmp_ne (tgt := 27) hex hby dX10_pointAt_22 (by decide) (by omega) (by omega) (fun c_3 => ?_) (fun c_3 => ?_)
        · refine lv_iinc (v := nI (i + 1)) (lv' := [(3, .int (nI (i + 1))), (0, .ref h), (1, .int (nI x)), (2, .int (nI y))]) hex hby dX10_pointAt_27 hl (k := 0) rfl (ni_inc _) (by decide) rfl (fun ls hl => ?_)
          refine lv_goto (tgt := 2) hex hby dX10_pointAt_30 (by decide) ?_
          have pf_4 : ∀ j, j < (i + 1) → P j ≠ 64 * y + x := by
            intro j hj
            rcases Nat.lt_or_ge j i with q | q
            · exact hno j q
            · rw [show j = i by omega]; omega
          exact ih2 (i + 1) (by omega) (by omega) pf_4 _ (lv_sub hl [0, 1, 2, 3] rfl)
        · refine lv_iload_n hex hby dX10_pointAt_25 rfl (lv_at hl 0 rfl) ?_
          exact hret _ _ _ _ (Or.inl ⟨rfl, _, rfl, rfl, dX10_pointAt_26⟩) ⟨_, rfl, Or.inl ⟨i, rfl, (by omega), (by omega), hno⟩⟩
  exact loop2 _ 0 (Nat.lt_succ_self _) (by omega) (fun j hj => absurd hj (by omega)) _ (lv_sub hl [0, 1, 2, 3] rfl)
theorem nd_X10_addPoint : ndV yX10_addPoint RX10 2 := by decide +kernel
theorem in_X10_addPoint_X10 : ∀ w ∈ wsX100, w ∈ wsX10_addPoint := fun _ h => List.mem_cons_of_mem _ (List.mem_append_right _ (h))
set_option maxHeartbeats 4000000 in
set_option maxRecDepth 100000 in
theorem c_X10_addPoint {h : Nat} {aP : Nat} {aI : Nat} {aS : Nat} {aL : Nat} {aO : Nat} {m : Nat} {v1 : Value} {v2 : Value} {v3 : Value} {v4 : Value} {v5 : Value} {v6 : Value} {v7 : Value} {pc : Nat} {bk : Nat} {c : Nat} {v14 : Value} {v15 : Value} {v16 : Value} {v17 : Value} {v18 : Value} {v19 : Value} {v20 : Value} {v22 : Value} {v23 : Value} {v24 : Value} {v25 : Value} {v27 : Value} {v28 : Value} {P : Nat → Nat} {ix : Nat → Nat} {S : Nat → Nat} {Lv : Nat → Nat} {O : Nat → Nat} {x : Int32} {xz : Int} {y : Int32} {yz : Int} {T : Nat → Nat} {ns : Nat} {g : Nat → Nat} (hxz : x.toInt = xz) (hyz : y.toInt = yz) (hPb : ∀ j, P j < 4096) (hpc : pc ≤ 40) (hix : ∀ j, ix j < 4096) (hSb : ∀ j, S j < 4096) (hLb : ∀ j, Lv j < 7) (hOb : ∀ j, O j < 4096) (hm6 : m ≤ 6) (hV : VT T ns) (hN : NumOK T m g ix) (hpg : ∀ j, j < pc → P j % 64 < 2 ^ m ∧ P j / 64 < 2 ^ m) (hbk : bk ≤ 8) : MU l yX10_addPoint wsX10_addPoint 2 46 (dC, dI) (tyK cI cZ cS) [(h, .inr (10, [.int (nI m), v1, v2, v3, v4, v5, v6, v7, .ref aP, .int (nI pc), .int (nI bk), .ref aS, .ref aL, .int (nI c), v14, v15, v16, v17, v18, v19, v20, .ref aI, v22, v23, v24, v25, .ref aO, v27, v28])), (aP, .inl (cI, 40, .inl (nA P))), (aI, .inl (cI, 4096, .inl (nA ix))), (aS, .inl (cI, 4096, .inl (nA S))), (aL, .inl (cI, 4096, .inl (nA Lv))), (aO, .inl (cI, 4096, .inl (nA O)))] [] [.ref h, .int x, .int y] (fun rv_ (u_ : Nat × (Nat → Nat) × Nat × (Nat → Nat) × (Nat → Nat) × (Nat → Nat)) => rI (fun r => (∃ st' : Nat → Nat, ∃ lv' : Nat → Nat, r = nI (pc + 1) ∧ (0 ≤ xz ∧ xz < ((2 ^ m : Nat) : Int) ∧ 0 ≤ yz ∧ yz < ((2 ^ m : Nat) : Int)) ∧ (∀ j, j < pc → P j ≠ 64 * yz.toNat + xz.toNat) ∧ pc < 40 ∧ pc + 1 = u_.1 ∧ upN P pc (64 * yz.toNat + xz.toNat) = u_.2.1 ∧ (∀ j, j < u_.1 → u_.2.1 j % 64 < 2 ^ m ∧ u_.2.1 j / 64 < 2 ^ m) ∧ (∀ j, u_.2.1 j < 4096) ∧ DivC m u_.1 bk (ptv T m u_.2.1) u_.2.2.1 st' lv' ∧ AG u_.2.2.1 st' lv' u_.2.2.2.1 u_.2.2.2.2.1 ∧ LfOK u_.2.2.1 st' u_.2.2.2.2.2 ∧ (∀ j, u_.2.2.2.1 j < 4096) ∧ (∀ j, u_.2.2.2.2.1 j < 7) ∧ (∀ j, u_.2.2.2.2.2 j < 4096)) ∨ (r = zI (-1) ∧ (¬ (0 ≤ xz ∧ xz < ((2 ^ m : Nat) : Int) ∧ 0 ≤ yz ∧ yz < ((2 ^ m : Nat) : Int))) ∧ pc = u_.1 ∧ P = u_.2.1 ∧ c = u_.2.2.1 ∧ S = u_.2.2.2.1 ∧ Lv = u_.2.2.2.2.1 ∧ O = u_.2.2.2.2.2) ∨ (r = zI (-3) ∧ (0 ≤ xz ∧ xz < ((2 ^ m : Nat) : Int) ∧ 0 ≤ yz ∧ yz < ((2 ^ m : Nat) : Int)) ∧ HasP P pc (64 * yz.toNat + xz.toNat) ∧ pc = u_.1 ∧ P = u_.2.1 ∧ c = u_.2.2.1 ∧ S = u_.2.2.2.1 ∧ Lv = u_.2.2.2.2.1 ∧ O = u_.2.2.2.2.2) ∨ (r = zI (-4) ∧ (0 ≤ xz ∧ xz < ((2 ^ m : Nat) : Int) ∧ 0 ≤ yz ∧ yz < ((2 ^ m : Nat) : Int)) ∧ (∀ j, j < pc → P j ≠ 64 * yz.toNat + xz.toNat) ∧ 40 ≤ pc ∧ pc = u_.1 ∧ P = u_.2.1 ∧ c = u_.2.2.1 ∧ S = u_.2.2.2.1 ∧ Lv = u_.2.2.2.2.1 ∧ O = u_.2.2.2.2.2)) rv_) (fun (u_ : Nat × (Nat → Nat) × Nat × (Nat → Nat) × (Nat → Nat) × (Nat → Nat)) => [(h, .inr (10, [.int (nI m), v1, v2, v3, v4, v5, v6, v7, .ref aP, .int (nI u_.1), .int (nI bk), .ref aS, .ref aL, .int (nI u_.2.2.1), v14, v15, v16, v17, v18, v19, v20, .ref aI, v22, v23, v24, v25, .ref aO, v27, v28])), (aP, .inl (cI, 40, .inl (nA u_.2.1))), (aI, .inl (cI, 4096, .inl (nA ix))), (aS, .inl (cI, 4096, .inl (nA u_.2.2.2.1))), (aL, .inl (cI, 4096, .inl (nA u_.2.2.2.2.1))), (aO, .inl (cI, 4096, .inl (nA u_.2.2.2.2.2)))]) := by
  refine mu_of (by decide) rfl (Nat.le_of_ble_eq_true rfl) ?_
  intro pp ee ss mm bb mt cd Q A CFx hP hK hD hS hA hTr hret ls hl
  obtain ⟨hex, hby, hml, hown, hts⟩ := id CFx
  have hl : lv_has ls 3 [(0, .ref h), (1, .int x), (2, .int y)] := hl
  have h26 := p2_6 hm6
  have h46 := p4_6 hm6
  have h4p := p4_pos m
  refine lv_aload_n hex hby dX10_addPoint_0 rfl (lv_at hl 0 rfl) ?_
  refine lv_iload_n hex hby dX10_addPoint_1 rfl (lv_at hl 1 rfl) ?_
  refine lv_iload_n hex hby dX10_addPoint_2 rfl (lv_at hl 2 rfl) ?_
  refine ro_Vi (As := [.int x, .int y]) (rest := []) CFx (c_X10_isCell (h := h) (fs := [.int (nI m), v1, v2, v3, v4, v5, v6, v7, .ref aP, .int (nI pc), .int (nI bk), .ref aS, .ref aL, .int (nI c), v14, v15, v16, v17, v18, v19, v20, .ref aI, v22, v23, v24, v25, .ref aO, v27, v28]) (m := m) (x := x) (xz := x.toInt) (y := y) (yz := y.toInt) rfl rfl rfl hm6) 2 gX10_addPoint_X10_isCell rfl nd_X10_isCell ⟨Nat.le_of_ble_eq_true rfl, Nat.le_of_ble_eq_true rfl⟩ hK hP [0] rfl rfl rfl rfl hl.1 rfl (Nat.le_of_ble_eq_true rfl) dX10_addPoint_3 ⟨Nat.le_refl _, Nat.le_refl _⟩ (fun r_1 hr_1 => ?_)
  rcases hr_1 with ⟨rfl, h_2⟩ | ⟨rfl, h_3⟩
  · refine nv_if_ne (tgt := 11) hex hby dX10_addPoint_6 (by decide) (by omega) (fun _ => ?_) (fun c => absurd c (by omega))
    obtain ⟨jx_, hjx__, rfl, hjx_e⟩ := ni_of (x := x) (by omega)
    obtain rfl : jx_ = xz.toNat := by omega
    obtain ⟨jy_, hjy__, rfl, hjy_e⟩ := ni_of (x := y) (by omega)
    obtain rfl : jy_ = yz.toNat := by omega
    refine lv_aload_n hex hby dX10_addPoint_11 rfl (lv_at hl 0 rfl) ?_
    refine lv_iload_n hex hby dX10_addPoint_12 rfl (lv_at hl 1 rfl) ?_
    refine lv_iload_n hex hby dX10_addPoint_13 rfl (lv_at hl 2 rfl) ?_
    refine ro_Vi (As := [.int (nI xz.toNat), .int (nI yz.toNat)]) (rest := []) CFx (c_X10_pointAt (h := h) (aP := aP) (fs := [.int (nI m), v1, v2, v3, v4, v5, v6, v7, .ref aP, .int (nI pc), .int (nI bk), .ref aS, .ref aL, .int (nI c), v14, v15, v16, v17, v18, v19, v20, .ref aI, v22, v23, v24, v25, .ref aO, v27, v28]) (pc := pc) (P := P) (x := xz.toNat) (y := yz.toNat) rfl rfl hPb hpc (by omega) (by omega)) 2 gX10_addPoint_X10_pointAt rfl nd_X10_pointAt ⟨Nat.le_of_ble_eq_true rfl, Nat.le_of_ble_eq_true rfl⟩ hK hP [0, 1] rfl rfl rfl rfl hl.1 rfl (Nat.le_of_ble_eq_true rfl) dX10_addPoint_14 ⟨Nat.le_refl _, Nat.le_refl _⟩ (fun r_4 hr_4 => ?_)
    rcases hr_4 with ⟨k, rfl, hk1, hk2, hk3⟩ | ⟨rfl, hno⟩
    · refine nv_if_lt (tgt := 23) hex hby dX10_addPoint_17 (by decide) (by omega) ?_
      refine lv_bipush (v := zI (-3)) hex hby dX10_addPoint_20 rfl ?_
      exact hret _ (pc, P, c, S, Lv, O) _ _ _ _ _ (Or.inl ⟨rfl, _, rfl, rfl, dX10_addPoint_22⟩) ⟨_, rfl, Or.inr (Or.inr (Or.inl ⟨rfl, (by omega), ⟨k, hk1, hk2⟩, rfl, rfl, rfl, rfl, rfl, rfl⟩))⟩ hP hD hS
    · refine ni_if_lt (tgt := 23) (a := -1) hex hby dX10_addPoint_17 (by decide) (zI_toInt (by omega) (by omega)) (fun c_5 => ?_) (fun c_5 => absurd c_5 (by omega))
      refine lv_aload_n hex hby dX10_addPoint_23 rfl (lv_at hl 0 rfl) ?_
      refine nv_get (v := .int (nI pc)) CFx in_X10_addPoint_X10 hK hP 0 rfl rfl 9 (by decide) (List.mem_of_getElem? (i := 1) rfl) rfl dX10_addPoint_24 ?_
      refine lv_bipush (v := nI 40) hex hby dX10_addPoint_27 rfl ?_
      refine nv_icmp_ne (tgt := 35) hex hby dX10_addPoint_29 (by decide) (by omega) (by omega) (fun c_6 => ?_) (fun c_6 => ?_)
      · refine lv_aload_n hex hby dX10_addPoint_35 rfl (lv_at hl 0 rfl) ?_
        refine nv_get (v := .ref aP) CFx in_X10_addPoint_X10 hK hP 0 rfl rfl 8 (by decide) (List.mem_of_getElem? (i := 2) rfl) rfl dX10_addPoint_36 ?_
        refine lv_aload_n hex hby dX10_addPoint_39 rfl (lv_at hl 0 rfl) ?_
        refine nv_get (v := .int (nI pc)) CFx in_X10_addPoint_X10 hK hP 0 rfl rfl 9 (by decide) (List.mem_of_getElem? (i := 1) rfl) rfl dX10_addPoint_40 ?_
        refine lv_bipush (v := nI 64) hex hby dX10_addPoint_43 rfl ?_
        refine lv_iload_n hex hby dX10_addPoint_45 rfl (lv_at hl 2 rfl) ?_
        refine nv_imul hex hby dX10_addPoint_46 ?_
        refine lv_iload_n hex hby dX10_addPoint_47 rfl (lv_at hl 1 rfl) ?_
        refine nv_iadd hex hby dX10_addPoint_48 ?_
        refine nv_iast hex hby hK hP hD hS 1 0 rfl rfl (by omega) (by omega) dX10_addPoint_49 (fun H locs hP hD hS => ?_)
        have hP : va_P (dC, dI) vwCl [(h, .inr (10, [.int (nI m), v1, v2, v3, v4, v5, v6, v7, .ref aP, .int (nI pc), .int (nI bk), .ref aS, .ref aL, .int (nI c), v14, v15, v16, v17, v18, v19, v20, .ref aI, v22, v23, v24, v25, .ref aO, v27, v28])), (aP, .inl (cI, 40, .inl (nA (upN P pc (64 * yz.toNat + xz.toNat))))), (aI, .inl (cI, 4096, .inl (nA ix))), (aS, .inl (cI, 4096, .inl (nA S))), (aL, .inl (cI, 4096, .inl (nA Lv))), (aO, .inl (cI, 4096, .inl (nA O)))] H := hP
        have hD : va_D A [(h, .inr (10, [.int (nI m), v1, v2, v3, v4, v5, v6, v7, .ref aP, .int (nI pc), .int (nI bk), .ref aS, .ref aL, .int (nI c), v14, v15, v16, v17, v18, v19, v20, .ref aI, v22, v23, v24, v25, .ref aO, v27, v28])), (aP, .inl (cI, 40, .inl (nA (upN P pc (64 * yz.toNat + xz.toNat))))), (aI, .inl (cI, 4096, .inl (nA ix))), (aS, .inl (cI, 4096, .inl (nA S))), (aL, .inl (cI, 4096, .inl (nA Lv))), (aO, .inl (cI, 4096, .inl (nA O)))] := hD
        have hB_7 := upN_lt (k := pc) (x := 64 * yz.toNat + xz.toNat) hPb (by omega)
        refine lv_aload_n hex hby dX10_addPoint_50 rfl (lv_at hl 0 rfl) ?_
        refine lv_dup hex hby dX10_addPoint_51 rfl ?_
        refine nv_get (v := .int (nI pc)) CFx in_X10_addPoint_X10 hK hP 0 rfl rfl 9 (by decide) (List.mem_of_getElem? (i := 1) rfl) rfl dX10_addPoint_52 ?_
        refine lv_iconst (v := nI 1) hex hby dX10_addPoint_55 rfl ?_
        refine nv_iadd hex hby dX10_addPoint_56 ?_
        refine nv_put CFx in_X10_addPoint_X10 tyX10 tyX10_ok nmX10 hK hP hD hS 0 rfl rfl 9 (by decide) (List.mem_of_getElem? (i := 1) rfl) rfl (by decide +kernel) (Nat.le_of_ble_eq_true rfl) dX10_addPoint_57 (fun H locs hP hD hS => ?_)
        have hP : va_P (dC, dI) vwCl [(h, .inr (10, [.int (nI m), v1, v2, v3, v4, v5, v6, v7, .ref aP, .int (nI (pc + 1)), .int (nI bk), .ref aS, .ref aL, .int (nI c), v14, v15, v16, v17, v18, v19, v20, .ref aI, v22, v23, v24, v25, .ref aO, v27, v28])), (aP, .inl (cI, 40, .inl (nA (upN P pc (64 * yz.toNat + xz.toNat))))), (aI, .inl (cI, 4096, .inl (nA ix))), (aS, .inl (cI, 4096, .inl (nA S))), (aL, .inl (cI, 4096, .inl (nA Lv))), (aO, .inl (cI, 4096, .inl (nA O)))] H := hP
        have hD : va_D A [(h, .inr (10, [.int (nI m), v1, v2, v3, v4, v5, v6, v7, .ref aP, .int (nI (pc + 1)), .int (nI bk), .ref aS, .ref aL, .int (nI c), v14, v15, v16, v17, v18, v19, v20, .ref aI, v22, v23, v24, v25, .ref aO, v27, v28])), (aP, .inl (cI, 40, .inl (nA (upN P pc (64 * yz.toNat + xz.toNat))))), (aI, .inl (cI, 4096, .inl (nA ix))), (aS, .inl (cI, 4096, .inl (nA S))), (aL, .inl (cI, 4096, .inl (nA Lv))), (aO, .inl (cI, 4096, .inl (nA O)))] := hD
        have hpg1 := pg_up hpg (q := 64 * yz.toNat + xz.toNat) (by omega)
        refine lv_aload_n hex hby dX10_addPoint_60 rfl (lv_at hl 0 rfl) ?_
        have hpb1 := upN_lt (k := pc) (x := 64 * yz.toNat + xz.toNat) hPb (show 64 * yz.toNat + xz.toNat < 4096 by omega)
        refine mu_Vv (As := []) (rest := []) (wr := []) CFx (c_X10_divides (h := h) (aP := aP) (aI := aI) (aS := aS) (aL := aL) (aO := aO) (m := m) (v1 := v1) (v2 := v2) (v3 := v3) (v4 := v4) (v5 := v5) (v6 := v6) (v7 := v7) (pc := pc + 1) (bk := bk) (v13 := .int (nI c)) (v14 := v14) (v15 := v15) (v16 := v16) (v17 := v17) (v18 := v18) (v19 := v19) (v20 := v20) (v22 := v22) (v23 := v23) (v24 := v24) (v25 := v25) (v27 := v27) (v28 := v28) (P := upN P pc (64 * yz.toNat + xz.toNat)) (ix := ix) (S0 := S) (L0 := Lv) (O0 := O) hpb1 (by omega) hix hSb hLb hOb hm6 hbk) 0 gX10_addPoint_X10_divides rfl nd_X10_divides ⟨Nat.le_of_ble_eq_true rfl, Nat.le_of_ble_eq_true rfl⟩ hK hP hD hS hA [0, 1, 2, 3, 4, 5] [] rfl rfl (by decide) (by decide) (by decide) TR.nil rfl rfl rfl hl.1 rfl (Nat.le_of_ble_eq_true rfl) dX10_addPoint_61 ⟨Nat.le_refl _, Nat.le_refl _⟩ (fun u H locs hr_8 hP hD hS => ?_)
        obtain ⟨c1, S1, L1, O1⟩ := u
        dsimp only at hr_8 hP hD
        have hP : va_P (dC, dI) vwCl [(h, .inr (10, [.int (nI m), v1, v2, v3, v4, v5, v6, v7, .ref aP, .int (nI (pc + 1)), .int (nI bk), .ref aS, .ref aL, .int (nI c1), v14, v15, v16, v17, v18, v19, v20, .ref aI, v22, v23, v24, v25, .ref aO, v27, v28])), (aP, .inl (cI, 40, .inl (nA (upN P pc (64 * yz.toNat + xz.toNat))))), (aI, .inl (cI, 4096, .inl (nA ix))), (aS, .inl (cI, 4096, .inl (nA S1))), (aL, .inl (cI, 4096, .inl (nA L1))), (aO, .inl (cI, 4096, .inl (nA O1)))] H := hP
        have hD : va_D A [(h, .inr (10, [.int (nI m), v1, v2, v3, v4, v5, v6, v7, .ref aP, .int (nI (pc + 1)), .int (nI bk), .ref aS, .ref aL, .int (nI c1), v14, v15, v16, v17, v18, v19, v20, .ref aI, v22, v23, v24, v25, .ref aO, v27, v28])), (aP, .inl (cI, 40, .inl (nA (upN P pc (64 * yz.toNat + xz.toNat))))), (aI, .inl (cI, 4096, .inl (nA ix))), (aS, .inl (cI, 4096, .inl (nA S1))), (aL, .inl (cI, 4096, .inl (nA L1))), (aO, .inl (cI, 4096, .inl (nA O1)))] := hD
        obtain ⟨sn, ln, hd1, hd2, hd3, hd4, hd5, hd6⟩ := hr_8
        refine lv_aload_n hex hby dX10_addPoint_64 rfl (lv_at hl 0 rfl) ?_
        refine nv_get (v := .int (nI (pc + 1))) CFx in_X10_addPoint_X10 hK hP 0 rfl rfl 9 (by decide) (List.mem_of_getElem? (i := 1) rfl) rfl dX10_addPoint_65 ?_
        exact hret _ ((pc + 1), (upN P pc (64 * yz.toNat + xz.toNat)), c1, S1, L1, O1) _ _ _ _ _ (Or.inl ⟨rfl, _, rfl, rfl, dX10_addPoint_68⟩) ⟨_, rfl, Or.inl ⟨sn, ln, rfl, (by omega), hno, (by omega), rfl, rfl, hpg1, hpb1, (hd1.congr (pg_iv hV hN hpg1)), hd2, hd3, hd4, hd5, hd6⟩⟩ hP hD hS
      · refine lv_bipush (v := zI (-4)) hex hby dX10_addPoint_32 rfl ?_
        exact hret _ (pc, P, c, S, Lv, O) _ _ _ _ _ (Or.inl ⟨rfl, _, rfl, rfl, dX10_addPoint_34⟩) ⟨_, rfl, Or.inr (Or.inr (Or.inr (⟨rfl, (by omega), hno, (by omega), rfl, rfl, rfl, rfl, rfl, rfl⟩)))⟩ hP hD hS
  · refine nv_if_ne (tgt := 11) hex hby dX10_addPoint_6 (by decide) (by omega) (fun c => absurd c (by omega)) (fun _ => ?_)
    refine lv_iconst (v := zI (-1)) hex hby dX10_addPoint_9 rfl ?_
    exact hret _ (pc, P, c, S, Lv, O) _ _ _ _ _ (Or.inl ⟨rfl, _, rfl, rfl, dX10_addPoint_10⟩) ⟨_, rfl, Or.inr (Or.inl ⟨rfl, (by omega), rfl, rfl, rfl, rfl, rfl, rfl⟩)⟩ hP hD hS
theorem nd_X10_removePoint : ndV yX10_removePoint RX10 2 := by decide +kernel
theorem in_X10_removePoint_X10 : ∀ w ∈ wsX100, w ∈ wsX10_removePoint := fun _ h => List.mem_cons_of_mem _ (List.mem_append_right _ (h))
set_option maxHeartbeats 4000000 in
set_option maxRecDepth 100000 in
theorem c_X10_removePoint {h : Nat} {aP : Nat} {aI : Nat} {aS : Nat} {aL : Nat} {aO : Nat} {m : Nat} {v1 : Value} {v2 : Value} {v3 : Value} {v4 : Value} {v5 : Value} {v6 : Value} {v7 : Value} {pc : Nat} {bk : Nat} {c : Nat} {v14 : Value} {v15 : Value} {v16 : Value} {v17 : Value} {v18 : Value} {v19 : Value} {v20 : Value} {v22 : Value} {v23 : Value} {v24 : Value} {v25 : Value} {v27 : Value} {v28 : Value} {P : Nat → Nat} {ix : Nat → Nat} {S : Nat → Nat} {Lv : Nat → Nat} {O : Nat → Nat} {x : Int32} {xz : Int} {y : Int32} {yz : Int} {T : Nat → Nat} {ns : Nat} {g : Nat → Nat} (hxz : x.toInt = xz) (hyz : y.toInt = yz) (hPb : ∀ j, P j < 4096) (hpc : pc ≤ 40) (hix : ∀ j, ix j < 4096) (hSb : ∀ j, S j < 4096) (hLb : ∀ j, Lv j < 7) (hOb : ∀ j, O j < 4096) (hm6 : m ≤ 6) (hV : VT T ns) (hN : NumOK T m g ix) (hpg : ∀ j, j < pc → P j % 64 < 2 ^ m ∧ P j / 64 < 2 ^ m) (hbk : bk ≤ 8) : MU l yX10_removePoint wsX10_removePoint 2 46 (dC, dI) (tyK cI cZ cS) [(h, .inr (10, [.int (nI m), v1, v2, v3, v4, v5, v6, v7, .ref aP, .int (nI pc), .int (nI bk), .ref aS, .ref aL, .int (nI c), v14, v15, v16, v17, v18, v19, v20, .ref aI, v22, v23, v24, v25, .ref aO, v27, v28])), (aP, .inl (cI, 40, .inl (nA P))), (aI, .inl (cI, 4096, .inl (nA ix))), (aS, .inl (cI, 4096, .inl (nA S))), (aL, .inl (cI, 4096, .inl (nA Lv))), (aO, .inl (cI, 4096, .inl (nA O)))] [] [.ref h, .int x, .int y] (fun rv_ (u_ : Nat × (Nat → Nat) × Nat × (Nat → Nat) × (Nat → Nat) × (Nat → Nat)) => rI (fun r => (∃ st' : Nat → Nat, ∃ lv' : Nat → Nat, ∃ k : Nat, r = nI (pc - 1) ∧ (0 ≤ xz ∧ xz < ((2 ^ m : Nat) : Int) ∧ 0 ≤ yz ∧ yz < ((2 ^ m : Nat) : Int)) ∧ k < pc ∧ P k = 64 * yz.toNat + xz.toNat ∧ (∀ j, j < k → P j ≠ 64 * yz.toNat + xz.toNat) ∧ pc - 1 = u_.1 ∧ upN P k (P (pc - 1)) = u_.2.1 ∧ (∀ j, j < u_.1 → u_.2.1 j % 64 < 2 ^ m ∧ u_.2.1 j / 64 < 2 ^ m) ∧ (∀ j, u_.2.1 j < 4096) ∧ DivC m u_.1 bk (ptv T m u_.2.1) u_.2.2.1 st' lv' ∧ AG u_.2.2.1 st' lv' u_.2.2.2.1 u_.2.2.2.2.1 ∧ LfOK u_.2.2.1 st' u_.2.2.2.2.2 ∧ (∀ j, u_.2.2.2.1 j < 4096) ∧ (∀ j, u_.2.2.2.2.1 j < 7) ∧ (∀ j, u_.2.2.2.2.2 j < 4096)) ∨ (r = zI (-1) ∧ (¬ (0 ≤ xz ∧ xz < ((2 ^ m : Nat) : Int) ∧ 0 ≤ yz ∧ yz < ((2 ^ m : Nat) : Int))) ∧ pc = u_.1 ∧ P = u_.2.1 ∧ c = u_.2.2.1 ∧ S = u_.2.2.2.1 ∧ Lv = u_.2.2.2.2.1 ∧ O = u_.2.2.2.2.2) ∨ (r = zI (-3) ∧ (0 ≤ xz ∧ xz < ((2 ^ m : Nat) : Int) ∧ 0 ≤ yz ∧ yz < ((2 ^ m : Nat) : Int)) ∧ (∀ j, j < pc → P j ≠ 64 * yz.toNat + xz.toNat) ∧ pc = u_.1 ∧ P = u_.2.1 ∧ c = u_.2.2.1 ∧ S = u_.2.2.2.1 ∧ Lv = u_.2.2.2.2.1 ∧ O = u_.2.2.2.2.2)) rv_) (fun (u_ : Nat × (Nat → Nat) × Nat × (Nat → Nat) × (Nat → Nat) × (Nat → Nat)) => [(h, .inr (10, [.int (nI m), v1, v2, v3, v4, v5, v6, v7, .ref aP, .int (nI u_.1), .int (nI bk), .ref aS, .ref aL, .int (nI u_.2.2.1), v14, v15, v16, v17, v18, v19, v20, .ref aI, v22, v23, v24, v25, .ref aO, v27, v28])), (aP, .inl (cI, 40, .inl (nA u_.2.1))), (aI, .inl (cI, 4096, .inl (nA ix))), (aS, .inl (cI, 4096, .inl (nA u_.2.2.2.1))), (aL, .inl (cI, 4096, .inl (nA u_.2.2.2.2.1))), (aO, .inl (cI, 4096, .inl (nA u_.2.2.2.2.2)))]) := by
  refine mu_of (by decide) rfl (Nat.le_of_ble_eq_true rfl) ?_
  intro pp ee ss mm bb mt cd Q A CFx hP hK hD hS hA hTr hret ls hl
  obtain ⟨hex, hby, hml, hown, hts⟩ := id CFx
  have hl : lv_has ls 4 [(0, .ref h), (1, .int x), (2, .int y)] := hl
  have h26 := p2_6 hm6
  have h46 := p4_6 hm6
  have h4p := p4_pos m
  refine lv_aload_n hex hby dX10_removePoint_0 rfl (lv_at hl 0 rfl) ?_
  refine lv_iload_n hex hby dX10_removePoint_1 rfl (lv_at hl 1 rfl) ?_
  refine lv_iload_n hex hby dX10_removePoint_2 rfl (lv_at hl 2 rfl) ?_
  refine ro_Vi (As := [.int x, .int y]) (rest := []) CFx (c_X10_isCell (h := h) (fs := [.int (nI m), v1, v2, v3, v4, v5, v6, v7, .ref aP, .int (nI pc), .int (nI bk), .ref aS, .ref aL, .int (nI c), v14, v15, v16, v17, v18, v19, v20, .ref aI, v22, v23, v24, v25, .ref aO, v27, v28]) (m := m) (x := x) (xz := x.toInt) (y := y) (yz := y.toInt) rfl rfl rfl hm6) 2 gX10_removePoint_X10_isCell rfl nd_X10_isCell ⟨Nat.le_of_ble_eq_true rfl, Nat.le_of_ble_eq_true rfl⟩ hK hP [0] rfl rfl rfl rfl hl.1 rfl (Nat.le_of_ble_eq_true rfl) dX10_removePoint_3 ⟨Nat.le_refl _, Nat.le_refl _⟩ (fun r_1 hr_1 => ?_)
  rcases hr_1 with ⟨rfl, h_2⟩ | ⟨rfl, h_3⟩
  · refine nv_if_ne (tgt := 11) hex hby dX10_removePoint_6 (by decide) (by omega) (fun _ => ?_) (fun c => absurd c (by omega))
    obtain ⟨jx_, hjx__, rfl, hjx_e⟩ := ni_of (x := x) (by omega)
    obtain rfl : jx_ = xz.toNat := by omega
    obtain ⟨jy_, hjy__, rfl, hjy_e⟩ := ni_of (x := y) (by omega)
    obtain rfl : jy_ = yz.toNat := by omega
    refine lv_aload_n hex hby dX10_removePoint_11 rfl (lv_at hl 0 rfl) ?_
    refine lv_iload_n hex hby dX10_removePoint_12 rfl (lv_at hl 1 rfl) ?_
    refine lv_iload_n hex hby dX10_removePoint_13 rfl (lv_at hl 2 rfl) ?_
    refine ro_Vi (As := [.int (nI xz.toNat), .int (nI yz.toNat)]) (rest := []) CFx (c_X10_pointAt (h := h) (aP := aP) (fs := [.int (nI m), v1, v2, v3, v4, v5, v6, v7, .ref aP, .int (nI pc), .int (nI bk), .ref aS, .ref aL, .int (nI c), v14, v15, v16, v17, v18, v19, v20, .ref aI, v22, v23, v24, v25, .ref aO, v27, v28]) (pc := pc) (P := P) (x := xz.toNat) (y := yz.toNat) rfl rfl hPb hpc (by omega) (by omega)) 2 gX10_removePoint_X10_pointAt rfl nd_X10_pointAt ⟨Nat.le_of_ble_eq_true rfl, Nat.le_of_ble_eq_true rfl⟩ hK hP [0, 1] rfl rfl rfl rfl hl.1 rfl (Nat.le_of_ble_eq_true rfl) dX10_removePoint_14 ⟨Nat.le_refl _, Nat.le_refl _⟩ (fun r_4 hr_4 => ?_)
    rcases hr_4 with ⟨k, rfl, hk1, hk2, hk3⟩ | ⟨rfl, hno⟩
    · refine lv_istore_n (lv' := [(3, .int (nI k)), (0, .ref h), (1, .int (nI xz.toNat)), (2, .int (nI yz.toNat))]) hex hby dX10_removePoint_17 rfl hl (by decide) rfl (fun ls hl => ?_)
      refine lv_iload_n hex hby dX10_removePoint_18 rfl (lv_at hl 0 rfl) ?_
      refine nv_if_ge (tgt := 25) hex hby dX10_removePoint_19 (by decide) (by omega) ?_
      refine lv_aload_n hex hby dX10_removePoint_25 rfl (lv_at hl 1 rfl) ?_
      refine lv_dup hex hby dX10_removePoint_26 rfl ?_
      refine nv_get (v := .int (nI pc)) CFx in_X10_removePoint_X10 hK hP 0 rfl rfl 9 (by decide) (List.mem_of_getElem? (i := 1) rfl) rfl dX10_removePoint_27 ?_
      refine lv_iconst (v := nI 1) hex hby dX10_removePoint_30 rfl ?_
      refine nv_isub hex hby dX10_removePoint_31 (by omega) ?_
      refine nv_put CFx in_X10_removePoint_X10 tyX10 tyX10_ok nmX10 hK hP hD hS 0 rfl rfl 9 (by decide) (List.mem_of_getElem? (i := 1) rfl) rfl (by decide +kernel) (Nat.le_of_ble_eq_true rfl) dX10_removePoint_32 (fun H locs hP hD hS => ?_)
      have hP : va_P (dC, dI) vwCl [(h, .inr (10, [.int (nI m), v1, v2, v3, v4, v5, v6, v7, .ref aP, .int (nI (pc - 1)), .int (nI bk), .ref aS, .ref aL, .int (nI c), v14, v15, v16, v17, v18, v19, v20, .ref aI, v22, v23, v24, v25, .ref aO, v27, v28])), (aP, .inl (cI, 40, .inl (nA P))), (aI, .inl (cI, 4096, .inl (nA ix))), (aS, .inl (cI, 4096, .inl (nA S))), (aL, .inl (cI, 4096, .inl (nA Lv))), (aO, .inl (cI, 4096, .inl (nA O)))] H := hP
      have hD : va_D A [(h, .inr (10, [.int (nI m), v1, v2, v3, v4, v5, v6, v7, .ref aP, .int (nI (pc - 1)), .int (nI bk), .ref aS, .ref aL, .int (nI c), v14, v15, v16, v17, v18, v19, v20, .ref aI, v22, v23, v24, v25, .ref aO, v27, v28])), (aP, .inl (cI, 40, .inl (nA P))), (aI, .inl (cI, 4096, .inl (nA ix))), (aS, .inl (cI, 4096, .inl (nA S))), (aL, .inl (cI, 4096, .inl (nA Lv))), (aO, .inl (cI, 4096, .inl (nA O)))] := hD
      refine lv_aload_n hex hby dX10_removePoint_35 rfl (lv_at hl 1 rfl) ?_
      refine nv_get (v := .ref aP) CFx in_X10_removePoint_X10 hK hP 0 rfl rfl 8 (by decide) (List.mem_of_getElem? (i := 2) rfl) rfl dX10_removePoint_36 ?_
      refine lv_iload_n hex hby dX10_removePoint_39 rfl (lv_at hl 0 rfl) ?_
      refine lv_aload_n hex hby dX10_removePoint_40 rfl (lv_at hl 1 rfl) ?_
      refine nv_get (v := .ref aP) CFx in_X10_removePoint_X10 hK hP 0 rfl rfl 8 (by decide) (List.mem_of_getElem? (i := 2) rfl) rfl dX10_removePoint_41 ?_
      refine lv_aload_n hex hby dX10_removePoint_44 rfl (lv_at hl 1 rfl) ?_
      refine nv_get (v := .int (nI (pc - 1))) CFx in_X10_removePoint_X10 hK hP 0 rfl rfl 9 (by decide) (List.mem_of_getElem? (i := 1) rfl) rfl dX10_removePoint_45 ?_
      refine nv_iald hex hby hK hP 1 0 rfl rfl (by omega) (by omega) dX10_removePoint_48 ?_
      have hb_5 := hPb (pc - 1)
      refine nv_iast hex hby hK hP hD hS 1 0 rfl rfl (by omega) (by omega) dX10_removePoint_49 (fun H locs hP hD hS => ?_)
      have hP : va_P (dC, dI) vwCl [(h, .inr (10, [.int (nI m), v1, v2, v3, v4, v5, v6, v7, .ref aP, .int (nI (pc - 1)), .int (nI bk), .ref aS, .ref aL, .int (nI c), v14, v15, v16, v17, v18, v19, v20, .ref aI, v22, v23, v24, v25, .ref aO, v27, v28])), (aP, .inl (cI, 40, .inl (nA (upN P k (P (pc - 1)))))), (aI, .inl (cI, 4096, .inl (nA ix))), (aS, .inl (cI, 4096, .inl (nA S))), (aL, .inl (cI, 4096, .inl (nA Lv))), (aO, .inl (cI, 4096, .inl (nA O)))] H := hP
      have hD : va_D A [(h, .inr (10, [.int (nI m), v1, v2, v3, v4, v5, v6, v7, .ref aP, .int (nI (pc - 1)), .int (nI bk), .ref aS, .ref aL, .int (nI c), v14, v15, v16, v17, v18, v19, v20, .ref aI, v22, v23, v24, v25, .ref aO, v27, v28])), (aP, .inl (cI, 40, .inl (nA (upN P k (P (pc - 1)))))), (aI, .inl (cI, 4096, .inl (nA ix))), (aS, .inl (cI, 4096, .inl (nA S))), (aL, .inl (cI, 4096, .inl (nA Lv))), (aO, .inl (cI, 4096, .inl (nA O)))] := hD
      have hB_6 := upN_lt (k := k) (x := P (pc - 1)) hPb (by omega)
      have hpg1 := pg_rm (k := k) hpg (by omega)
      refine lv_aload_n hex hby dX10_removePoint_50 rfl (lv_at hl 1 rfl) ?_
      have hpb1 := upN_lt (k := k) (x := P (pc - 1)) hPb (hPb _)
      refine mu_Vv (As := []) (rest := []) (wr := []) CFx (c_X10_divides (h := h) (aP := aP) (aI := aI) (aS := aS) (aL := aL) (aO := aO) (m := m) (v1 := v1) (v2 := v2) (v3 := v3) (v4 := v4) (v5 := v5) (v6 := v6) (v7 := v7) (pc := pc - 1) (bk := bk) (v13 := .int (nI c)) (v14 := v14) (v15 := v15) (v16 := v16) (v17 := v17) (v18 := v18) (v19 := v19) (v20 := v20) (v22 := v22) (v23 := v23) (v24 := v24) (v25 := v25) (v27 := v27) (v28 := v28) (P := upN P k (P (pc - 1))) (ix := ix) (S0 := S) (L0 := Lv) (O0 := O) hpb1 (by omega) hix hSb hLb hOb hm6 hbk) 0 gX10_removePoint_X10_divides rfl nd_X10_divides ⟨Nat.le_of_ble_eq_true rfl, Nat.le_of_ble_eq_true rfl⟩ hK hP hD hS hA [0, 1, 2, 3, 4, 5] [] rfl rfl (by decide) (by decide) (by decide) TR.nil rfl rfl rfl hl.1 rfl (Nat.le_of_ble_eq_true rfl) dX10_removePoint_51 ⟨Nat.le_refl _, Nat.le_refl _⟩ (fun u H locs hr_7 hP hD hS => ?_)
      obtain ⟨c1, S1, L1, O1⟩ := u
      dsimp only at hr_7 hP hD
      have hP : va_P (dC, dI) vwCl [(h, .inr (10, [.int (nI m), v1, v2, v3, v4, v5, v6, v7, .ref aP, .int (nI (pc - 1)), .int (nI bk), .ref aS, .ref aL, .int (nI c1), v14, v15, v16, v17, v18, v19, v20, .ref aI, v22, v23, v24, v25, .ref aO, v27, v28])), (aP, .inl (cI, 40, .inl (nA (upN P k (P (pc - 1)))))), (aI, .inl (cI, 4096, .inl (nA ix))), (aS, .inl (cI, 4096, .inl (nA S1))), (aL, .inl (cI, 4096, .inl (nA L1))), (aO, .inl (cI, 4096, .inl (nA O1)))] H := hP
      have hD : va_D A [(h, .inr (10, [.int (nI m), v1, v2, v3, v4, v5, v6, v7, .ref aP, .int (nI (pc - 1)), .int (nI bk), .ref aS, .ref aL, .int (nI c1), v14, v15, v16, v17, v18, v19, v20, .ref aI, v22, v23, v24, v25, .ref aO, v27, v28])), (aP, .inl (cI, 40, .inl (nA (upN P k (P (pc - 1)))))), (aI, .inl (cI, 4096, .inl (nA ix))), (aS, .inl (cI, 4096, .inl (nA S1))), (aL, .inl (cI, 4096, .inl (nA L1))), (aO, .inl (cI, 4096, .inl (nA O1)))] := hD
      obtain ⟨sn, ln, hd1, hd2, hd3, hd4, hd5, hd6⟩ := hr_7
      refine lv_aload_n hex hby dX10_removePoint_54 rfl (lv_at hl 1 rfl) ?_
      refine nv_get (v := .int (nI (pc - 1))) CFx in_X10_removePoint_X10 hK hP 0 rfl rfl 9 (by decide) (List.mem_of_getElem? (i := 1) rfl) rfl dX10_removePoint_55 ?_
      exact hret _ ((pc - 1), (upN P k (P (pc - 1))), c1, S1, L1, O1) _ _ _ _ _ (Or.inl ⟨rfl, _, rfl, rfl, dX10_removePoint_58⟩) ⟨_, rfl, Or.inl ⟨sn, ln, k, rfl, (by omega), hk1, hk2, hk3, rfl, rfl, hpg1, hpb1, (hd1.congr (pg_iv hV hN hpg1)), hd2, hd3, hd4, hd5, hd6⟩⟩ hP hD hS
    · refine lv_istore_n (lv' := [(3, .int (zI (-1))), (0, .ref h), (1, .int (nI xz.toNat)), (2, .int (nI yz.toNat))]) hex hby dX10_removePoint_17 rfl hl (by decide) rfl (fun ls hl => ?_)
      refine lv_iload_n hex hby dX10_removePoint_18 rfl (lv_at hl 0 rfl) ?_
      refine ni_if_ge (tgt := 25) (a := -1) hex hby dX10_removePoint_19 (by decide) (zI_toInt (by omega) (by omega)) (fun c_12 => absurd c_12 (by omega)) (fun c_12 => ?_)
      refine lv_bipush (v := zI (-3)) hex hby dX10_removePoint_22 rfl ?_
      exact hret _ (pc, P, c, S, Lv, O) _ _ _ _ _ (Or.inl ⟨rfl, _, rfl, rfl, dX10_removePoint_24⟩) ⟨_, rfl, Or.inr (Or.inr (⟨rfl, (by omega), hno, rfl, rfl, rfl, rfl, rfl, rfl⟩))⟩ hP hD hS
  · refine nv_if_ne (tgt := 11) hex hby dX10_removePoint_6 (by decide) (by omega) (fun c => absurd c (by omega)) (fun _ => ?_)
    refine lv_iconst (v := zI (-1)) hex hby dX10_removePoint_9 rfl ?_
    exact hret _ (pc, P, c, S, Lv, O) _ _ _ _ _ (Or.inl ⟨rfl, _, rfl, rfl, dX10_removePoint_10⟩) ⟨_, rfl, Or.inr (Or.inl ⟨rfl, (by omega), rfl, rfl, rfl, rfl, rfl, rfl⟩)⟩ hP hD hS
theorem nd_X10_setBucket : ndV yX10_setBucket RX10 1 := by decide +kernel
theorem in_X10_setBucket_X10 : ∀ w ∈ wsX100, w ∈ wsX10_setBucket := fun _ h => List.mem_cons_of_mem _ (List.mem_append_right _ (h))
set_option maxHeartbeats 4000000 in
set_option maxRecDepth 100000 in
theorem c_X10_setBucket {h : Nat} {aP : Nat} {aI : Nat} {aS : Nat} {aL : Nat} {aO : Nat} {m : Nat} {v1 : Value} {v2 : Value} {v3 : Value} {v4 : Value} {v5 : Value} {v6 : Value} {v7 : Value} {pc : Nat} {bk : Nat} {c : Nat} {v14 : Value} {v15 : Value} {v16 : Value} {v17 : Value} {v18 : Value} {v19 : Value} {v20 : Value} {v22 : Value} {v23 : Value} {v24 : Value} {v25 : Value} {v27 : Value} {v28 : Value} {P : Nat → Nat} {ix : Nat → Nat} {S : Nat → Nat} {Lv : Nat → Nat} {O : Nat → Nat} {w : Int32} {wz : Int} {T : Nat → Nat} {ns : Nat} {g : Nat → Nat} (hwz : w.toInt = wz) (hPb : ∀ j, P j < 4096) (hpc : pc ≤ 40) (hix : ∀ j, ix j < 4096) (hSb : ∀ j, S j < 4096) (hLb : ∀ j, Lv j < 7) (hOb : ∀ j, O j < 4096) (hm6 : m ≤ 6) (hV : VT T ns) (hN : NumOK T m g ix) (hpg : ∀ j, j < pc → P j % 64 < 2 ^ m ∧ P j / 64 < 2 ^ m) (hbk : bk ≤ 8) : MU l yX10_setBucket wsX10_setBucket 2 46 (dC, dI) (tyK cI cZ cS) [(h, .inr (10, [.int (nI m), v1, v2, v3, v4, v5, v6, v7, .ref aP, .int (nI pc), .int (nI bk), .ref aS, .ref aL, .int (nI c), v14, v15, v16, v17, v18, v19, v20, .ref aI, v22, v23, v24, v25, .ref aO, v27, v28])), (aP, .inl (cI, 40, .inl (nA P))), (aI, .inl (cI, 4096, .inl (nA ix))), (aS, .inl (cI, 4096, .inl (nA S))), (aL, .inl (cI, 4096, .inl (nA Lv))), (aO, .inl (cI, 4096, .inl (nA O)))] [] [.ref h, .int w] (fun rv_ (u_ : Nat × Nat × (Nat → Nat) × (Nat → Nat) × (Nat → Nat)) => rI (fun r => (∃ st' : Nat → Nat, ∃ lv' : Nat → Nat, r = nI bk ∧ (1 ≤ wz ∧ wz ≤ 8) ∧ wz.toNat = u_.1 ∧ DivC m pc u_.1 (ptv T m P) u_.2.1 st' lv' ∧ AG u_.2.1 st' lv' u_.2.2.1 u_.2.2.2.1 ∧ LfOK u_.2.1 st' u_.2.2.2.2 ∧ (∀ j, u_.2.2.1 j < 4096) ∧ (∀ j, u_.2.2.2.1 j < 7) ∧ (∀ j, u_.2.2.2.2 j < 4096)) ∨ (r = zI (-2) ∧ (¬ (1 ≤ wz ∧ wz ≤ 8)) ∧ bk = u_.1 ∧ c = u_.2.1 ∧ S = u_.2.2.1 ∧ Lv = u_.2.2.2.1 ∧ O = u_.2.2.2.2)) rv_) (fun (u_ : Nat × Nat × (Nat → Nat) × (Nat → Nat) × (Nat → Nat)) => [(h, .inr (10, [.int (nI m), v1, v2, v3, v4, v5, v6, v7, .ref aP, .int (nI pc), .int (nI u_.1), .ref aS, .ref aL, .int (nI u_.2.1), v14, v15, v16, v17, v18, v19, v20, .ref aI, v22, v23, v24, v25, .ref aO, v27, v28])), (aP, .inl (cI, 40, .inl (nA P))), (aI, .inl (cI, 4096, .inl (nA ix))), (aS, .inl (cI, 4096, .inl (nA u_.2.2.1))), (aL, .inl (cI, 4096, .inl (nA u_.2.2.2.1))), (aO, .inl (cI, 4096, .inl (nA u_.2.2.2.2)))]) := by
  refine mu_of (by decide) rfl (Nat.le_of_ble_eq_true rfl) ?_
  intro pp ee ss mm bb mt cd Q A CFx hP hK hD hS hA hTr hret ls hl
  obtain ⟨hex, hby, hml, hown, hts⟩ := id CFx
  have hl : lv_has ls 3 [(0, .ref h), (1, .int w)] := hl
  have h26 := p2_6 hm6
  have h46 := p4_6 hm6
  have h4p := p4_pos m
  refine lv_iload_n hex hby dX10_setBucket_0 rfl (lv_at hl 1 rfl) ?_
  refine lv_iconst (v := nI 1) hex hby dX10_setBucket_1 rfl ?_
  refine lv_bipush (v := nI 8) hex hby dX10_setBucket_2 rfl ?_
  refine ro_Si (As := [.int w, .int (nI 1), .int (nI 8)]) (rest := []) (C := RX10) CFx (c_X10_in (x := w) (xz := w.toInt) (lo := nI 1) (loz := (1 : Int)) (hi := nI 8) (hiz := (8 : Int)) rfl (by rfl) (by rfl)) 3 gX10_setBucket_X10_in rfl nd_X10_in ⟨Nat.le_of_ble_eq_true rfl, Nat.le_of_ble_eq_true rfl⟩ hK hP [] rfl rfl hl.1 rfl (Nat.le_of_ble_eq_true rfl) dX10_setBucket_4 ⟨Nat.le_refl _, Nat.le_refl _⟩ (fun r_1 hr_1 => ?_)
  rcases hr_1 with ⟨rfl, h_2⟩ | ⟨rfl, h_3⟩
  · refine nv_if_ne (tgt := 13) hex hby dX10_setBucket_7 (by decide) (by omega) (fun _ => ?_) (fun c => absurd c (by omega))
    obtain ⟨jw_, hjw__, rfl, hjw_e⟩ := ni_of (x := w) (by omega)
    obtain rfl : jw_ = wz.toNat := by omega
    refine lv_aload_n hex hby dX10_setBucket_13 rfl (lv_at hl 0 rfl) ?_
    refine nv_get (v := .int (nI bk)) CFx in_X10_setBucket_X10 hK hP 0 rfl rfl 10 (by decide) (List.mem_of_getElem? (i := 1) rfl) rfl dX10_setBucket_14 ?_
    refine lv_istore_n (lv' := [(2, .int (nI bk)), (0, .ref h), (1, .int (nI wz.toNat))]) hex hby dX10_setBucket_17 rfl hl (by decide) rfl (fun ls hl => ?_)
    refine lv_aload_n hex hby dX10_setBucket_18 rfl (lv_at hl 1 rfl) ?_
    refine lv_iload_n hex hby dX10_setBucket_19 rfl (lv_at hl 2 rfl) ?_
    refine nv_put CFx in_X10_setBucket_X10 tyX10 tyX10_ok nmX10 hK hP hD hS 0 rfl rfl 10 (by decide) (List.mem_of_getElem? (i := 1) rfl) rfl (by decide +kernel) (Nat.le_of_ble_eq_true rfl) dX10_setBucket_20 (fun H locs hP hD hS => ?_)
    have hP : va_P (dC, dI) vwCl [(h, .inr (10, [.int (nI m), v1, v2, v3, v4, v5, v6, v7, .ref aP, .int (nI pc), .int (nI wz.toNat), .ref aS, .ref aL, .int (nI c), v14, v15, v16, v17, v18, v19, v20, .ref aI, v22, v23, v24, v25, .ref aO, v27, v28])), (aP, .inl (cI, 40, .inl (nA P))), (aI, .inl (cI, 4096, .inl (nA ix))), (aS, .inl (cI, 4096, .inl (nA S))), (aL, .inl (cI, 4096, .inl (nA Lv))), (aO, .inl (cI, 4096, .inl (nA O)))] H := hP
    have hD : va_D A [(h, .inr (10, [.int (nI m), v1, v2, v3, v4, v5, v6, v7, .ref aP, .int (nI pc), .int (nI wz.toNat), .ref aS, .ref aL, .int (nI c), v14, v15, v16, v17, v18, v19, v20, .ref aI, v22, v23, v24, v25, .ref aO, v27, v28])), (aP, .inl (cI, 40, .inl (nA P))), (aI, .inl (cI, 4096, .inl (nA ix))), (aS, .inl (cI, 4096, .inl (nA S))), (aL, .inl (cI, 4096, .inl (nA Lv))), (aO, .inl (cI, 4096, .inl (nA O)))] := hD
    refine lv_aload_n hex hby dX10_setBucket_23 rfl (lv_at hl 1 rfl) ?_
    refine mu_Vv (As := []) (rest := []) (wr := []) CFx (c_X10_divides (h := h) (aP := aP) (aI := aI) (aS := aS) (aL := aL) (aO := aO) (m := m) (v1 := v1) (v2 := v2) (v3 := v3) (v4 := v4) (v5 := v5) (v6 := v6) (v7 := v7) (pc := pc) (bk := wz.toNat) (v13 := .int (nI c)) (v14 := v14) (v15 := v15) (v16 := v16) (v17 := v17) (v18 := v18) (v19 := v19) (v20 := v20) (v22 := v22) (v23 := v23) (v24 := v24) (v25 := v25) (v27 := v27) (v28 := v28) (P := P) (ix := ix) (S0 := S) (L0 := Lv) (O0 := O) hPb hpc hix hSb hLb hOb hm6 (by omega)) 0 gX10_setBucket_X10_divides rfl nd_X10_divides ⟨Nat.le_of_ble_eq_true rfl, Nat.le_of_ble_eq_true rfl⟩ hK hP hD hS hA [0, 1, 2, 3, 4, 5] [] rfl rfl (by decide) (by decide) (by decide) TR.nil rfl rfl rfl hl.1 rfl (Nat.le_of_ble_eq_true rfl) dX10_setBucket_24 ⟨Nat.le_refl _, Nat.le_refl _⟩ (fun u H locs hr_4 hP hD hS => ?_)
    obtain ⟨c1, S1, L1, O1⟩ := u
    dsimp only at hr_4 hP hD
    have hP : va_P (dC, dI) vwCl [(h, .inr (10, [.int (nI m), v1, v2, v3, v4, v5, v6, v7, .ref aP, .int (nI pc), .int (nI wz.toNat), .ref aS, .ref aL, .int (nI c1), v14, v15, v16, v17, v18, v19, v20, .ref aI, v22, v23, v24, v25, .ref aO, v27, v28])), (aP, .inl (cI, 40, .inl (nA P))), (aI, .inl (cI, 4096, .inl (nA ix))), (aS, .inl (cI, 4096, .inl (nA S1))), (aL, .inl (cI, 4096, .inl (nA L1))), (aO, .inl (cI, 4096, .inl (nA O1)))] H := hP
    have hD : va_D A [(h, .inr (10, [.int (nI m), v1, v2, v3, v4, v5, v6, v7, .ref aP, .int (nI pc), .int (nI wz.toNat), .ref aS, .ref aL, .int (nI c1), v14, v15, v16, v17, v18, v19, v20, .ref aI, v22, v23, v24, v25, .ref aO, v27, v28])), (aP, .inl (cI, 40, .inl (nA P))), (aI, .inl (cI, 4096, .inl (nA ix))), (aS, .inl (cI, 4096, .inl (nA S1))), (aL, .inl (cI, 4096, .inl (nA L1))), (aO, .inl (cI, 4096, .inl (nA O1)))] := hD
    obtain ⟨sn, ln, hd1, hd2, hd3, hd4, hd5, hd6⟩ := hr_4
    refine lv_iload_n hex hby dX10_setBucket_27 rfl (lv_at hl 0 rfl) ?_
    exact hret _ (wz.toNat, c1, S1, L1, O1) _ _ _ _ _ (Or.inl ⟨rfl, _, rfl, rfl, dX10_setBucket_28⟩) ⟨_, rfl, Or.inl ⟨sn, ln, rfl, (by omega), rfl, (hd1.congr (pg_iv hV hN hpg)), hd2, hd3, hd4, hd5, hd6⟩⟩ hP hD hS
  · refine nv_if_ne (tgt := 13) hex hby dX10_setBucket_7 (by decide) (by omega) (fun c => absurd c (by omega)) (fun _ => ?_)
    refine lv_bipush (v := zI (-2)) hex hby dX10_setBucket_10 rfl ?_
    exact hret _ (bk, c, S, Lv, O) _ _ _ _ _ (Or.inl ⟨rfl, _, rfl, rfl, dX10_setBucket_12⟩) ⟨_, rfl, Or.inr ⟨rfl, (by omega), rfl, rfl, rfl, rfl, rfl⟩⟩ hP hD hS
theorem nd_X10_setRange : ndV yX10_setRange RX10 4 := by decide +kernel
theorem in_X10_setRange_X10 : ∀ w ∈ wsX100, w ∈ wsX10_setRange := fun _ h => List.mem_cons_of_mem _ (List.mem_append_right _ (h))
set_option maxHeartbeats 4000000 in
set_option maxRecDepth 100000 in
theorem c_X10_setRange {h : Nat} {m : Nat} {v1 : Value} {v2 : Value} {v3 : Value} {rl : Nat} {rb : Nat} {rr : Nat} {ra : Nat} {v8 : Value} {v9 : Value} {v10 : Value} {v11 : Value} {v12 : Value} {v13 : Value} {v14 : Value} {v15 : Value} {v16 : Value} {v17 : Value} {v18 : Value} {v19 : Value} {v20 : Value} {v21 : Value} {v22 : Value} {v23 : Value} {v24 : Value} {v25 : Value} {v26 : Value} {v27 : Value} {v28 : Value} {p1 : Int32} {p1z : Int} {p2 : Int32} {p2z : Int} {p3 : Int32} {p3z : Int} {p4 : Int32} {p4z : Int} (hp1z : p1.toInt = p1z) (hp2z : p2.toInt = p2z) (hp3z : p3.toInt = p3z) (hp4z : p4.toInt = p4z) (hm6 : m ≤ 6) : MU l yX10_setRange wsX10_setRange 1 22 (dC, dI) (tyK cI cZ cS) [(h, .inr (10, [.int (nI m), v1, v2, v3, .int (nI rl), .int (nI rb), .int (nI rr), .int (nI ra), v8, v9, v10, v11, v12, v13, v14, v15, v16, v17, v18, v19, v20, v21, v22, v23, v24, v25, v26, v27, v28]))] [] [.ref h, .int p1, .int p2, .int p3, .int p4] (fun rv_ (u_ : Nat × Nat × Nat × Nat) => rI (fun r => (r = nI ((p3z.toNat - p1z.toNat + 1) * (p4z.toNat - p2z.toNat + 1)) ∧ ((0 ≤ p1z ∧ p1z < ((2 ^ m : Nat) : Int)) ∧ (0 ≤ p2z ∧ p2z < ((2 ^ m : Nat) : Int)) ∧ (p1z ≤ p3z ∧ p3z < ((2 ^ m : Nat) : Int)) ∧ (p2z ≤ p4z ∧ p4z < ((2 ^ m : Nat) : Int))) ∧ p1z.toNat = u_.1 ∧ p2z.toNat = u_.2.1 ∧ p3z.toNat = u_.2.2.1 ∧ p4z.toNat = u_.2.2.2) ∨ (r = zI (-2) ∧ (¬ ((0 ≤ p1z ∧ p1z < ((2 ^ m : Nat) : Int)) ∧ (0 ≤ p2z ∧ p2z < ((2 ^ m : Nat) : Int)) ∧ (p1z ≤ p3z ∧ p3z < ((2 ^ m : Nat) : Int)) ∧ (p2z ≤ p4z ∧ p4z < ((2 ^ m : Nat) : Int)))) ∧ rl = u_.1 ∧ rb = u_.2.1 ∧ rr = u_.2.2.1 ∧ ra = u_.2.2.2)) rv_) (fun (u_ : Nat × Nat × Nat × Nat) => [(h, .inr (10, [.int (nI m), v1, v2, v3, .int (nI u_.1), .int (nI u_.2.1), .int (nI u_.2.2.1), .int (nI u_.2.2.2), v8, v9, v10, v11, v12, v13, v14, v15, v16, v17, v18, v19, v20, v21, v22, v23, v24, v25, v26, v27, v28]))]) := by
  refine mu_of (by decide) rfl (Nat.le_of_ble_eq_true rfl) ?_
  intro pp ee ss mm bb mt cd Q A CFx hP hK hD hS hA hTr hret ls hl
  obtain ⟨hex, hby, hml, hown, hts⟩ := id CFx
  have hl : lv_has ls 6 [(0, .ref h), (1, .int p1), (2, .int p2), (3, .int p3), (4, .int p4)] := hl
  have h26 := p2_6 hm6
  have h2p := p2_pos m
  refine lv_aload_n hex hby dX10_setRange_0 rfl (lv_at hl 0 rfl) ?_
  refine ro_Vi (As := []) (rest := []) CFx (c_X10_side (h := h) (fs := [.int (nI m), v1, v2, v3, .int (nI rl), .int (nI rb), .int (nI rr), .int (nI ra), v8, v9, v10, v11, v12, v13, v14, v15, v16, v17, v18, v19, v20, v21, v22, v23, v24, v25, v26, v27, v28]) (m := m) rfl hm6) 0 gX10_setRange_X10_side rfl nd_X10_side ⟨Nat.le_of_ble_eq_true rfl, Nat.le_of_ble_eq_true rfl⟩ hK hP [0] rfl rfl rfl rfl hl.1 rfl (Nat.le_of_ble_eq_true rfl) dX10_setRange_1 ⟨Nat.le_refl _, Nat.le_refl _⟩ (fun r_1 hr_1 => ?_)
  obtain rfl := hr_1
  refine lv_iconst (v := nI 1) hex hby dX10_setRange_4 rfl ?_
  refine nv_isub hex hby dX10_setRange_5 (by omega) ?_
  refine lv_istore (lv' := [(5, .int (nI (2 ^ m - 1))), (0, .ref h), (1, .int p1), (2, .int p2), (3, .int p3), (4, .int p4)]) hex hby dX10_setRange_6 hl (by decide) rfl (fun ls hl => ?_)
  refine lv_iload_n hex hby dX10_setRange_8 rfl (lv_at hl 2 rfl) ?_
  refine lv_iconst (v := nI 0) hex hby dX10_setRange_9 rfl ?_
  refine lv_iload hex hby dX10_setRange_10 (lv_at hl 0 rfl) ?_
  refine ro_Si (As := [.int p1, .int (nI 0), .int (nI (2 ^ m - 1))]) (rest := []) (C := RX10) CFx (c_X10_in (x := p1) (xz := p1.toInt) (lo := nI 0) (loz := (0 : Int)) (hi := nI (2 ^ m - 1)) (hiz := ((2 ^ m - 1 : Nat) : Int)) rfl (by rfl) (ni_toInt (by omega))) 3 gX10_setRange_X10_in rfl nd_X10_in ⟨Nat.le_of_ble_eq_true rfl, Nat.le_of_ble_eq_true rfl⟩ hK hP [] rfl rfl hl.1 rfl (Nat.le_of_ble_eq_true rfl) dX10_setRange_12 ⟨Nat.le_refl _, Nat.le_refl _⟩ (fun r_2 hr_2 => ?_)
  rcases hr_2 with ⟨rfl, h_3⟩ | ⟨rfl, h_4⟩
  · refine nv_if_eq (tgt := 49) hex hby dX10_setRange_15 (by decide) (by omega) (fun c => absurd c (by omega)) (fun _ => ?_)
    refine lv_iload_n hex hby dX10_setRange_18 rfl (lv_at hl 3 rfl) ?_
    refine lv_iconst (v := nI 0) hex hby dX10_setRange_19 rfl ?_
    refine lv_iload hex hby dX10_setRange_20 (lv_at hl 0 rfl) ?_
    refine ro_Si (As := [.int p2, .int (nI 0), .int (nI (2 ^ m - 1))]) (rest := []) (C := RX10) CFx (c_X10_in (x := p2) (xz := p2.toInt) (lo := nI 0) (loz := (0 : Int)) (hi := nI (2 ^ m - 1)) (hiz := ((2 ^ m - 1 : Nat) : Int)) rfl (by rfl) (ni_toInt (by omega))) 3 gX10_setRange_X10_in rfl nd_X10_in ⟨Nat.le_of_ble_eq_true rfl, Nat.le_of_ble_eq_true rfl⟩ hK hP [] rfl rfl hl.1 rfl (Nat.le_of_ble_eq_true rfl) dX10_setRange_22 ⟨Nat.le_refl _, Nat.le_refl _⟩ (fun r_5 hr_5 => ?_)
    rcases hr_5 with ⟨rfl, h_6⟩ | ⟨rfl, h_7⟩
    · refine nv_if_eq (tgt := 49) hex hby dX10_setRange_25 (by decide) (by omega) (fun c => absurd c (by omega)) (fun _ => ?_)
      refine lv_iload_n hex hby dX10_setRange_28 rfl (lv_at hl 4 rfl) ?_
      refine lv_iload_n hex hby dX10_setRange_29 rfl (lv_at hl 2 rfl) ?_
      refine lv_iload hex hby dX10_setRange_30 (lv_at hl 0 rfl) ?_
      refine ro_Si (As := [.int p3, .int p1, .int (nI (2 ^ m - 1))]) (rest := []) (C := RX10) CFx (c_X10_in (x := p3) (xz := p3.toInt) (lo := p1) (loz := p1.toInt) (hi := nI (2 ^ m - 1)) (hiz := ((2 ^ m - 1 : Nat) : Int)) rfl rfl (ni_toInt (by omega))) 3 gX10_setRange_X10_in rfl nd_X10_in ⟨Nat.le_of_ble_eq_true rfl, Nat.le_of_ble_eq_true rfl⟩ hK hP [] rfl rfl hl.1 rfl (Nat.le_of_ble_eq_true rfl) dX10_setRange_32 ⟨Nat.le_refl _, Nat.le_refl _⟩ (fun r_8 hr_8 => ?_)
      rcases hr_8 with ⟨rfl, h_9⟩ | ⟨rfl, h_10⟩
      · refine nv_if_eq (tgt := 49) hex hby dX10_setRange_35 (by decide) (by omega) (fun c => absurd c (by omega)) (fun _ => ?_)
        refine lv_iload hex hby dX10_setRange_38 (lv_at hl 5 rfl) ?_
        refine lv_iload_n hex hby dX10_setRange_40 rfl (lv_at hl 3 rfl) ?_
        refine lv_iload hex hby dX10_setRange_41 (lv_at hl 0 rfl) ?_
        refine ro_Si (As := [.int p4, .int p2, .int (nI (2 ^ m - 1))]) (rest := []) (C := RX10) CFx (c_X10_in (x := p4) (xz := p4.toInt) (lo := p2) (loz := p2.toInt) (hi := nI (2 ^ m - 1)) (hiz := ((2 ^ m - 1 : Nat) : Int)) rfl rfl (ni_toInt (by omega))) 3 gX10_setRange_X10_in rfl nd_X10_in ⟨Nat.le_of_ble_eq_true rfl, Nat.le_of_ble_eq_true rfl⟩ hK hP [] rfl rfl hl.1 rfl (Nat.le_of_ble_eq_true rfl) dX10_setRange_43 ⟨Nat.le_refl _, Nat.le_refl _⟩ (fun r_11 hr_11 => ?_)
        rcases hr_11 with ⟨rfl, h_12⟩ | ⟨rfl, h_13⟩
        · refine nv_if_ne (tgt := 52) hex hby dX10_setRange_46 (by decide) (by omega) (fun _ => ?_) (fun c => absurd c (by omega))
          obtain ⟨jp1_, hjp1__, rfl, hjp1_e⟩ := ni_of (x := p1) (by omega)
          obtain rfl : jp1_ = p1z.toNat := by omega
          obtain ⟨jp2_, hjp2__, rfl, hjp2_e⟩ := ni_of (x := p2) (by omega)
          obtain rfl : jp2_ = p2z.toNat := by omega
          obtain ⟨jp3_, hjp3__, rfl, hjp3_e⟩ := ni_of (x := p3) (by omega)
          obtain rfl : jp3_ = p3z.toNat := by omega
          obtain ⟨jp4_, hjp4__, rfl, hjp4_e⟩ := ni_of (x := p4) (by omega)
          obtain rfl : jp4_ = p4z.toNat := by omega
          refine lv_aload_n hex hby dX10_setRange_52 rfl (lv_at hl 1 rfl) ?_
          refine lv_iload_n hex hby dX10_setRange_53 rfl (lv_at hl 2 rfl) ?_
          refine nv_put CFx in_X10_setRange_X10 tyX10 tyX10_ok nmX10 hK hP hD hS 0 rfl rfl 4 (by decide) (List.mem_of_getElem? (i := 1) rfl) rfl (by decide +kernel) (Nat.le_of_ble_eq_true rfl) dX10_setRange_54 (fun H locs hP hD hS => ?_)
          have hP : va_P (dC, dI) vwCl [(h, .inr (10, [.int (nI m), v1, v2, v3, .int (nI p1z.toNat), .int (nI rb), .int (nI rr), .int (nI ra), v8, v9, v10, v11, v12, v13, v14, v15, v16, v17, v18, v19, v20, v21, v22, v23, v24, v25, v26, v27, v28]))] H := hP
          have hD : va_D A [(h, .inr (10, [.int (nI m), v1, v2, v3, .int (nI p1z.toNat), .int (nI rb), .int (nI rr), .int (nI ra), v8, v9, v10, v11, v12, v13, v14, v15, v16, v17, v18, v19, v20, v21, v22, v23, v24, v25, v26, v27, v28]))] := hD
          refine lv_aload_n hex hby dX10_setRange_57 rfl (lv_at hl 1 rfl) ?_
          refine lv_iload_n hex hby dX10_setRange_58 rfl (lv_at hl 3 rfl) ?_
          refine nv_put CFx in_X10_setRange_X10 tyX10 tyX10_ok nmX10 hK hP hD hS 0 rfl rfl 5 (by decide) (List.mem_of_getElem? (i := 2) rfl) rfl (by decide +kernel) (Nat.le_of_ble_eq_true rfl) dX10_setRange_59 (fun H locs hP hD hS => ?_)
          have hP : va_P (dC, dI) vwCl [(h, .inr (10, [.int (nI m), v1, v2, v3, .int (nI p1z.toNat), .int (nI p2z.toNat), .int (nI rr), .int (nI ra), v8, v9, v10, v11, v12, v13, v14, v15, v16, v17, v18, v19, v20, v21, v22, v23, v24, v25, v26, v27, v28]))] H := hP
          have hD : va_D A [(h, .inr (10, [.int (nI m), v1, v2, v3, .int (nI p1z.toNat), .int (nI p2z.toNat), .int (nI rr), .int (nI ra), v8, v9, v10, v11, v12, v13, v14, v15, v16, v17, v18, v19, v20, v21, v22, v23, v24, v25, v26, v27, v28]))] := hD
          refine lv_aload_n hex hby dX10_setRange_62 rfl (lv_at hl 1 rfl) ?_
          refine lv_iload_n hex hby dX10_setRange_63 rfl (lv_at hl 4 rfl) ?_
          refine nv_put CFx in_X10_setRange_X10 tyX10 tyX10_ok nmX10 hK hP hD hS 0 rfl rfl 6 (by decide) (List.mem_of_getElem? (i := 3) rfl) rfl (by decide +kernel) (Nat.le_of_ble_eq_true rfl) dX10_setRange_64 (fun H locs hP hD hS => ?_)
          have hP : va_P (dC, dI) vwCl [(h, .inr (10, [.int (nI m), v1, v2, v3, .int (nI p1z.toNat), .int (nI p2z.toNat), .int (nI p3z.toNat), .int (nI ra), v8, v9, v10, v11, v12, v13, v14, v15, v16, v17, v18, v19, v20, v21, v22, v23, v24, v25, v26, v27, v28]))] H := hP
          have hD : va_D A [(h, .inr (10, [.int (nI m), v1, v2, v3, .int (nI p1z.toNat), .int (nI p2z.toNat), .int (nI p3z.toNat), .int (nI ra), v8, v9, v10, v11, v12, v13, v14, v15, v16, v17, v18, v19, v20, v21, v22, v23, v24, v25, v26, v27, v28]))] := hD
          refine lv_aload_n hex hby dX10_setRange_67 rfl (lv_at hl 1 rfl) ?_
          refine lv_iload hex hby dX10_setRange_68 (lv_at hl 5 rfl) ?_
          refine nv_put CFx in_X10_setRange_X10 tyX10 tyX10_ok nmX10 hK hP hD hS 0 rfl rfl 7 (by decide) (List.mem_of_getElem? (i := 4) rfl) rfl (by decide +kernel) (Nat.le_of_ble_eq_true rfl) dX10_setRange_70 (fun H locs hP hD hS => ?_)
          have hP : va_P (dC, dI) vwCl [(h, .inr (10, [.int (nI m), v1, v2, v3, .int (nI p1z.toNat), .int (nI p2z.toNat), .int (nI p3z.toNat), .int (nI p4z.toNat), v8, v9, v10, v11, v12, v13, v14, v15, v16, v17, v18, v19, v20, v21, v22, v23, v24, v25, v26, v27, v28]))] H := hP
          have hD : va_D A [(h, .inr (10, [.int (nI m), v1, v2, v3, .int (nI p1z.toNat), .int (nI p2z.toNat), .int (nI p3z.toNat), .int (nI p4z.toNat), v8, v9, v10, v11, v12, v13, v14, v15, v16, v17, v18, v19, v20, v21, v22, v23, v24, v25, v26, v27, v28]))] := hD
          refine lv_iload_n hex hby dX10_setRange_73 rfl (lv_at hl 4 rfl) ?_
          refine lv_iload_n hex hby dX10_setRange_74 rfl (lv_at hl 2 rfl) ?_
          refine nv_isub hex hby dX10_setRange_75 (by omega) ?_
          refine lv_iconst (v := nI 1) hex hby dX10_setRange_76 rfl ?_
          refine nv_iadd hex hby dX10_setRange_77 ?_
          refine lv_iload hex hby dX10_setRange_78 (lv_at hl 5 rfl) ?_
          refine lv_iload_n hex hby dX10_setRange_80 rfl (lv_at hl 3 rfl) ?_
          refine nv_isub hex hby dX10_setRange_81 (by omega) ?_
          refine lv_iconst (v := nI 1) hex hby dX10_setRange_82 rfl ?_
          refine nv_iadd hex hby dX10_setRange_83 ?_
          refine nv_imul hex hby dX10_setRange_84 ?_
          exact hret _ (p1z.toNat, p2z.toNat, p3z.toNat, p4z.toNat) _ _ _ _ _ (Or.inl ⟨rfl, _, rfl, rfl, dX10_setRange_85⟩) ⟨_, rfl, Or.inl ⟨rfl, (by omega), rfl, rfl, rfl, rfl⟩⟩ hP hD hS
        · refine nv_if_ne (tgt := 52) hex hby dX10_setRange_46 (by decide) (by omega) (fun c => absurd c (by omega)) (fun _ => ?_)
          refine lv_bipush (v := zI (-2)) hex hby dX10_setRange_49 rfl ?_
          exact hret _ (rl, rb, rr, ra) _ _ _ _ _ (Or.inl ⟨rfl, _, rfl, rfl, dX10_setRange_51⟩) ⟨_, rfl, Or.inr ⟨rfl, (by omega), rfl, rfl, rfl, rfl⟩⟩ hP hD hS
      · refine nv_if_eq (tgt := 49) hex hby dX10_setRange_35 (by decide) (by omega) (fun _ => ?_) (fun c => absurd c (by omega))
        refine lv_bipush (v := zI (-2)) hex hby dX10_setRange_49 rfl ?_
        exact hret _ (rl, rb, rr, ra) _ _ _ _ _ (Or.inl ⟨rfl, _, rfl, rfl, dX10_setRange_51⟩) ⟨_, rfl, Or.inr ⟨rfl, (by omega), rfl, rfl, rfl, rfl⟩⟩ hP hD hS
    · refine nv_if_eq (tgt := 49) hex hby dX10_setRange_25 (by decide) (by omega) (fun _ => ?_) (fun c => absurd c (by omega))
      refine lv_bipush (v := zI (-2)) hex hby dX10_setRange_49 rfl ?_
      exact hret _ (rl, rb, rr, ra) _ _ _ _ _ (Or.inl ⟨rfl, _, rfl, rfl, dX10_setRange_51⟩) ⟨_, rfl, Or.inr ⟨rfl, (by omega), rfl, rfl, rfl, rfl⟩⟩ hP hD hS
  · refine nv_if_eq (tgt := 49) hex hby dX10_setRange_15 (by decide) (by omega) (fun _ => ?_) (fun c => absurd c (by omega))
    refine lv_bipush (v := zI (-2)) hex hby dX10_setRange_49 rfl ?_
    exact hret _ (rl, rb, rr, ra) _ _ _ _ _ (Or.inl ⟨rfl, _, rfl, rfl, dX10_setRange_51⟩) ⟨_, rfl, Or.inr ⟨rfl, (by omega), rfl, rfl, rfl, rfl⟩⟩ hP hD hS
theorem nd_X10_setLevels : ndV yX10_setLevels RX10 1 := by decide +kernel
theorem in_X10_setLevels_X10 : ∀ w ∈ wsX100, w ∈ wsX10_setLevels := fun _ h => List.mem_cons_of_mem _ (List.mem_append_right _ (h))
set_option maxHeartbeats 4000000 in
set_option maxRecDepth 100000 in
theorem c_X10_setLevels {h : Nat} {aT : Nat} {aP : Nat} {aI : Nat} {aC : Nat} {aS : Nat} {aL : Nat} {aO : Nat} {m : Nat} {cu : Nat} {v2 : Value} {rl : Nat} {rb : Nat} {rr : Nat} {ra : Nat} {pc : Nat} {bk : Nat} {c : Nat} {v14 : Value} {v15 : Value} {v16 : Value} {v17 : Value} {v18 : Value} {v19 : Value} {v20 : Value} {v23 : Value} {v24 : Value} {v25 : Value} {v27 : Value} {v28 : Value} {tb : Nat → Nat} {P : Nat → Nat} {ix : Nat → Nat} {g : Nat → Nat} {S : Nat → Nat} {Lv : Nat → Nat} {O : Nat → Nat} {w : Int32} {wz : Int} {T : Nat → Nat} {ns : Nat} (hwz : w.toInt = wz) (htb : ∀ j, tb j < 10) (hPb : ∀ j, P j < 4096) (hpc : pc ≤ 40) (hix : ∀ j, ix j < 4096) (hg : ∀ j, g j < 4096) (hSb : ∀ j, S j < 4096) (hLb : ∀ j, Lv j < 7) (hOb : ∀ j, O j < 4096) (hbk : bk ≤ 8) (hcu : cu ≤ 2) (hV : VT T ns) (hT : TbOK T tb cu ns) (hm6 : m ≤ 6) : MU l yX10_setLevels wsX10_setLevels 3 73 (dC, dI) (tyK cI cZ cS) [(h, .inr (10, [.int (nI m), .int (nI cu), v2, .ref aT, .int (nI rl), .int (nI rb), .int (nI rr), .int (nI ra), .ref aP, .int (nI pc), .int (nI bk), .ref aS, .ref aL, .int (nI c), v14, v15, v16, v17, v18, v19, v20, .ref aI, .ref aC, v23, v24, v25, .ref aO, v27, v28])), (aT, .inl (cI, 192, .inl (nA tb))), (aP, .inl (cI, 40, .inl (nA P))), (aI, .inl (cI, 4096, .inl (nA ix))), (aC, .inl (cI, 4096, .inl (nA g))), (aS, .inl (cI, 4096, .inl (nA S))), (aL, .inl (cI, 4096, .inl (nA Lv))), (aO, .inl (cI, 4096, .inl (nA O)))] [] [.ref h, .int w] (fun rv_ (u_ : Nat × Nat × Nat × Nat × Nat × Nat × (Nat → Nat) × (Nat → Nat) × Nat × (Nat → Nat) × (Nat → Nat) × (Nat → Nat)) => rI (fun r => (∃ st' : Nat → Nat, ∃ lv' : Nat → Nat, r = nI m ∧ (1 ≤ wz ∧ wz ≤ 6) ∧ wz.toNat = u_.1 ∧ 0 = u_.2.1 ∧ 0 = u_.2.2.1 ∧ 2 ^ wz.toNat - 1 = u_.2.2.2.1 ∧ 2 ^ wz.toNat - 1 = u_.2.2.2.2.1 ∧ 0 = u_.2.2.2.2.2.1 ∧ NumOK T u_.1 u_.2.2.2.2.2.2.2.1 u_.2.2.2.2.2.2.1 ∧ (∀ j, u_.2.2.2.2.2.2.2.1 j < 4096) ∧ (∀ j, u_.2.2.2.2.2.2.1 j < 4096) ∧ DivC u_.1 u_.2.2.2.2.2.1 bk (ptv T u_.1 P) u_.2.2.2.2.2.2.2.2.1 st' lv' ∧ AG u_.2.2.2.2.2.2.2.2.1 st' lv' u_.2.2.2.2.2.2.2.2.2.1 u_.2.2.2.2.2.2.2.2.2.2.1 ∧ LfOK u_.2.2.2.2.2.2.2.2.1 st' u_.2.2.2.2.2.2.2.2.2.2.2 ∧ (∀ j, u_.2.2.2.2.2.2.2.2.2.1 j < 4096) ∧ (∀ j, u_.2.2.2.2.2.2.2.2.2.2.1 j < 7) ∧ (∀ j, u_.2.2.2.2.2.2.2.2.2.2.2 j < 4096)) ∨ (r = zI (-2) ∧ (¬ (1 ≤ wz ∧ wz ≤ 6)) ∧ m = u_.1 ∧ rl = u_.2.1 ∧ rb = u_.2.2.1 ∧ rr = u_.2.2.2.1 ∧ ra = u_.2.2.2.2.1 ∧ pc = u_.2.2.2.2.2.1 ∧ ix = u_.2.2.2.2.2.2.1 ∧ g = u_.2.2.2.2.2.2.2.1 ∧ c = u_.2.2.2.2.2.2.2.2.1 ∧ S = u_.2.2.2.2.2.2.2.2.2.1 ∧ Lv = u_.2.2.2.2.2.2.2.2.2.2.1 ∧ O = u_.2.2.2.2.2.2.2.2.2.2.2)) rv_) (fun (u_ : Nat × Nat × Nat × Nat × Nat × Nat × (Nat → Nat) × (Nat → Nat) × Nat × (Nat → Nat) × (Nat → Nat) × (Nat → Nat)) => [(h, .inr (10, [.int (nI u_.1), .int (nI cu), v2, .ref aT, .int (nI u_.2.1), .int (nI u_.2.2.1), .int (nI u_.2.2.2.1), .int (nI u_.2.2.2.2.1), .ref aP, .int (nI u_.2.2.2.2.2.1), .int (nI bk), .ref aS, .ref aL, .int (nI u_.2.2.2.2.2.2.2.2.1), v14, v15, v16, v17, v18, v19, v20, .ref aI, .ref aC, v23, v24, v25, .ref aO, v27, v28])), (aT, .inl (cI, 192, .inl (nA tb))), (aP, .inl (cI, 40, .inl (nA P))), (aI, .inl (cI, 4096, .inl (nA u_.2.2.2.2.2.2.1))), (aC, .inl (cI, 4096, .inl (nA u_.2.2.2.2.2.2.2.1))), (aS, .inl (cI, 4096, .inl (nA u_.2.2.2.2.2.2.2.2.2.1))), (aL, .inl (cI, 4096, .inl (nA u_.2.2.2.2.2.2.2.2.2.2.1))), (aO, .inl (cI, 4096, .inl (nA u_.2.2.2.2.2.2.2.2.2.2.2)))]) := by
  refine mu_of (by decide) rfl (Nat.le_of_ble_eq_true rfl) ?_
  intro pp ee ss mm bb mt cd Q A CFx hP hK hD hS hA hTr hret ls hl
  obtain ⟨hex, hby, hml, hown, hts⟩ := id CFx
  have hl : lv_has ls 3 [(0, .ref h), (1, .int w)] := hl
  refine lv_iload_n hex hby dX10_setLevels_0 rfl (lv_at hl 1 rfl) ?_
  refine lv_iconst (v := nI 1) hex hby dX10_setLevels_1 rfl ?_
  refine lv_bipush (v := nI 6) hex hby dX10_setLevels_2 rfl ?_
  refine ro_Si (As := [.int w, .int (nI 1), .int (nI 6)]) (rest := []) (C := RX10) CFx (c_X10_in (x := w) (xz := w.toInt) (lo := nI 1) (loz := (1 : Int)) (hi := nI 6) (hiz := (6 : Int)) rfl (by rfl) (by rfl)) 3 gX10_setLevels_X10_in rfl nd_X10_in ⟨Nat.le_of_ble_eq_true rfl, Nat.le_of_ble_eq_true rfl⟩ hK hP [] rfl rfl hl.1 rfl (Nat.le_of_ble_eq_true rfl) dX10_setLevels_4 ⟨Nat.le_refl _, Nat.le_refl _⟩ (fun r_1 hr_1 => ?_)
  rcases hr_1 with ⟨rfl, h_2⟩ | ⟨rfl, h_3⟩
  · refine nv_if_ne (tgt := 13) hex hby dX10_setLevels_7 (by decide) (by omega) (fun _ => ?_) (fun c => absurd c (by omega))
    obtain ⟨jw_, hjw__, rfl, hjw_e⟩ := ni_of (x := w) (by omega)
    obtain rfl : jw_ = wz.toNat := by omega
    have h26 := p2_6 (show wz.toNat ≤ 6 by omega)
    have h2p := p2_pos wz.toNat
    refine lv_aload_n hex hby dX10_setLevels_13 rfl (lv_at hl 0 rfl) ?_
    refine nv_get (v := .int (nI m)) CFx in_X10_setLevels_X10 hK hP 0 rfl rfl 0 (by decide) (List.mem_of_getElem? (i := 1) rfl) rfl dX10_setLevels_14 ?_
    refine lv_istore_n (lv' := [(2, .int (nI m)), (0, .ref h), (1, .int (nI wz.toNat))]) hex hby dX10_setLevels_17 rfl hl (by decide) rfl (fun ls hl => ?_)
    refine lv_aload_n hex hby dX10_setLevels_18 rfl (lv_at hl 1 rfl) ?_
    refine lv_iload_n hex hby dX10_setLevels_19 rfl (lv_at hl 2 rfl) ?_
    refine nv_put CFx in_X10_setLevels_X10 tyX10 tyX10_ok nmX10 hK hP hD hS 0 rfl rfl 0 (by decide) (List.mem_of_getElem? (i := 1) rfl) rfl (by decide +kernel) (Nat.le_of_ble_eq_true rfl) dX10_setLevels_20 (fun H locs hP hD hS => ?_)
    have hP : va_P (dC, dI) vwCl [(h, .inr (10, [.int (nI wz.toNat), .int (nI cu), v2, .ref aT, .int (nI rl), .int (nI rb), .int (nI rr), .int (nI ra), .ref aP, .int (nI pc), .int (nI bk), .ref aS, .ref aL, .int (nI c), v14, v15, v16, v17, v18, v19, v20, .ref aI, .ref aC, v23, v24, v25, .ref aO, v27, v28])), (aT, .inl (cI, 192, .inl (nA tb))), (aP, .inl (cI, 40, .inl (nA P))), (aI, .inl (cI, 4096, .inl (nA ix))), (aC, .inl (cI, 4096, .inl (nA g))), (aS, .inl (cI, 4096, .inl (nA S))), (aL, .inl (cI, 4096, .inl (nA Lv))), (aO, .inl (cI, 4096, .inl (nA O)))] H := hP
    have hD : va_D A [(h, .inr (10, [.int (nI wz.toNat), .int (nI cu), v2, .ref aT, .int (nI rl), .int (nI rb), .int (nI rr), .int (nI ra), .ref aP, .int (nI pc), .int (nI bk), .ref aS, .ref aL, .int (nI c), v14, v15, v16, v17, v18, v19, v20, .ref aI, .ref aC, v23, v24, v25, .ref aO, v27, v28])), (aT, .inl (cI, 192, .inl (nA tb))), (aP, .inl (cI, 40, .inl (nA P))), (aI, .inl (cI, 4096, .inl (nA ix))), (aC, .inl (cI, 4096, .inl (nA g))), (aS, .inl (cI, 4096, .inl (nA S))), (aL, .inl (cI, 4096, .inl (nA Lv))), (aO, .inl (cI, 4096, .inl (nA O)))] := hD
    refine lv_aload_n hex hby dX10_setLevels_23 rfl (lv_at hl 1 rfl) ?_
    refine lv_iconst (v := nI 0) hex hby dX10_setLevels_24 rfl ?_
    refine nv_put CFx in_X10_setLevels_X10 tyX10 tyX10_ok nmX10 hK hP hD hS 0 rfl rfl 4 (by decide) (List.mem_of_getElem? (i := 2) rfl) rfl (by decide +kernel) (Nat.le_of_ble_eq_true rfl) dX10_setLevels_25 (fun H locs hP hD hS => ?_)
    have hP : va_P (dC, dI) vwCl [(h, .inr (10, [.int (nI wz.toNat), .int (nI cu), v2, .ref aT, .int (nI 0), .int (nI rb), .int (nI rr), .int (nI ra), .ref aP, .int (nI pc), .int (nI bk), .ref aS, .ref aL, .int (nI c), v14, v15, v16, v17, v18, v19, v20, .ref aI, .ref aC, v23, v24, v25, .ref aO, v27, v28])), (aT, .inl (cI, 192, .inl (nA tb))), (aP, .inl (cI, 40, .inl (nA P))), (aI, .inl (cI, 4096, .inl (nA ix))), (aC, .inl (cI, 4096, .inl (nA g))), (aS, .inl (cI, 4096, .inl (nA S))), (aL, .inl (cI, 4096, .inl (nA Lv))), (aO, .inl (cI, 4096, .inl (nA O)))] H := hP
    have hD : va_D A [(h, .inr (10, [.int (nI wz.toNat), .int (nI cu), v2, .ref aT, .int (nI 0), .int (nI rb), .int (nI rr), .int (nI ra), .ref aP, .int (nI pc), .int (nI bk), .ref aS, .ref aL, .int (nI c), v14, v15, v16, v17, v18, v19, v20, .ref aI, .ref aC, v23, v24, v25, .ref aO, v27, v28])), (aT, .inl (cI, 192, .inl (nA tb))), (aP, .inl (cI, 40, .inl (nA P))), (aI, .inl (cI, 4096, .inl (nA ix))), (aC, .inl (cI, 4096, .inl (nA g))), (aS, .inl (cI, 4096, .inl (nA S))), (aL, .inl (cI, 4096, .inl (nA Lv))), (aO, .inl (cI, 4096, .inl (nA O)))] := hD
    refine lv_aload_n hex hby dX10_setLevels_28 rfl (lv_at hl 1 rfl) ?_
    refine lv_iconst (v := nI 0) hex hby dX10_setLevels_29 rfl ?_
    refine nv_put CFx in_X10_setLevels_X10 tyX10 tyX10_ok nmX10 hK hP hD hS 0 rfl rfl 5 (by decide) (List.mem_of_getElem? (i := 3) rfl) rfl (by decide +kernel) (Nat.le_of_ble_eq_true rfl) dX10_setLevels_30 (fun H locs hP hD hS => ?_)
    have hP : va_P (dC, dI) vwCl [(h, .inr (10, [.int (nI wz.toNat), .int (nI cu), v2, .ref aT, .int (nI 0), .int (nI 0), .int (nI rr), .int (nI ra), .ref aP, .int (nI pc), .int (nI bk), .ref aS, .ref aL, .int (nI c), v14, v15, v16, v17, v18, v19, v20, .ref aI, .ref aC, v23, v24, v25, .ref aO, v27, v28])), (aT, .inl (cI, 192, .inl (nA tb))), (aP, .inl (cI, 40, .inl (nA P))), (aI, .inl (cI, 4096, .inl (nA ix))), (aC, .inl (cI, 4096, .inl (nA g))), (aS, .inl (cI, 4096, .inl (nA S))), (aL, .inl (cI, 4096, .inl (nA Lv))), (aO, .inl (cI, 4096, .inl (nA O)))] H := hP
    have hD : va_D A [(h, .inr (10, [.int (nI wz.toNat), .int (nI cu), v2, .ref aT, .int (nI 0), .int (nI 0), .int (nI rr), .int (nI ra), .ref aP, .int (nI pc), .int (nI bk), .ref aS, .ref aL, .int (nI c), v14, v15, v16, v17, v18, v19, v20, .ref aI, .ref aC, v23, v24, v25, .ref aO, v27, v28])), (aT, .inl (cI, 192, .inl (nA tb))), (aP, .inl (cI, 40, .inl (nA P))), (aI, .inl (cI, 4096, .inl (nA ix))), (aC, .inl (cI, 4096, .inl (nA g))), (aS, .inl (cI, 4096, .inl (nA S))), (aL, .inl (cI, 4096, .inl (nA Lv))), (aO, .inl (cI, 4096, .inl (nA O)))] := hD
    refine lv_aload_n hex hby dX10_setLevels_33 rfl (lv_at hl 1 rfl) ?_
    refine lv_aload_n hex hby dX10_setLevels_34 rfl (lv_at hl 1 rfl) ?_
    refine ro_Vi (As := []) (rest := [.ref h]) CFx (c_X10_side (h := h) (fs := [.int (nI wz.toNat), .int (nI cu), v2, .ref aT, .int (nI 0), .int (nI 0), .int (nI rr), .int (nI ra), .ref aP, .int (nI pc), .int (nI bk), .ref aS, .ref aL, .int (nI c), v14, v15, v16, v17, v18, v19, v20, .ref aI, .ref aC, v23, v24, v25, .ref aO, v27, v28]) (m := wz.toNat) rfl (by omega)) 0 gX10_setLevels_X10_side rfl nd_X10_side ⟨Nat.le_of_ble_eq_true rfl, Nat.le_of_ble_eq_true rfl⟩ hK hP [0] rfl rfl rfl rfl hl.1 rfl (Nat.le_of_ble_eq_true rfl) dX10_setLevels_35 ⟨Nat.le_refl _, Nat.le_refl _⟩ (fun r_4 hr_4 => ?_)
    obtain rfl := hr_4
    refine lv_iconst (v := nI 1) hex hby dX10_setLevels_38 rfl ?_
    refine nv_isub hex hby dX10_setLevels_39 (by omega) ?_
    refine nv_put CFx in_X10_setLevels_X10 tyX10 tyX10_ok nmX10 hK hP hD hS 0 rfl rfl 6 (by decide) (List.mem_of_getElem? (i := 4) rfl) rfl (by decide +kernel) (Nat.le_of_ble_eq_true rfl) dX10_setLevels_40 (fun H locs hP hD hS => ?_)
    have hP : va_P (dC, dI) vwCl [(h, .inr (10, [.int (nI wz.toNat), .int (nI cu), v2, .ref aT, .int (nI 0), .int (nI 0), .int (nI (2 ^ wz.toNat - 1)), .int (nI ra), .ref aP, .int (nI pc), .int (nI bk), .ref aS, .ref aL, .int (nI c), v14, v15, v16, v17, v18, v19, v20, .ref aI, .ref aC, v23, v24, v25, .ref aO, v27, v28])), (aT, .inl (cI, 192, .inl (nA tb))), (aP, .inl (cI, 40, .inl (nA P))), (aI, .inl (cI, 4096, .inl (nA ix))), (aC, .inl (cI, 4096, .inl (nA g))), (aS, .inl (cI, 4096, .inl (nA S))), (aL, .inl (cI, 4096, .inl (nA Lv))), (aO, .inl (cI, 4096, .inl (nA O)))] H := hP
    have hD : va_D A [(h, .inr (10, [.int (nI wz.toNat), .int (nI cu), v2, .ref aT, .int (nI 0), .int (nI 0), .int (nI (2 ^ wz.toNat - 1)), .int (nI ra), .ref aP, .int (nI pc), .int (nI bk), .ref aS, .ref aL, .int (nI c), v14, v15, v16, v17, v18, v19, v20, .ref aI, .ref aC, v23, v24, v25, .ref aO, v27, v28])), (aT, .inl (cI, 192, .inl (nA tb))), (aP, .inl (cI, 40, .inl (nA P))), (aI, .inl (cI, 4096, .inl (nA ix))), (aC, .inl (cI, 4096, .inl (nA g))), (aS, .inl (cI, 4096, .inl (nA S))), (aL, .inl (cI, 4096, .inl (nA Lv))), (aO, .inl (cI, 4096, .inl (nA O)))] := hD
    refine lv_aload_n hex hby dX10_setLevels_43 rfl (lv_at hl 1 rfl) ?_
    refine lv_aload_n hex hby dX10_setLevels_44 rfl (lv_at hl 1 rfl) ?_
    refine ro_Vi (As := []) (rest := [.ref h]) CFx (c_X10_side (h := h) (fs := [.int (nI wz.toNat), .int (nI cu), v2, .ref aT, .int (nI 0), .int (nI 0), .int (nI (2 ^ wz.toNat - 1)), .int (nI ra), .ref aP, .int (nI pc), .int (nI bk), .ref aS, .ref aL, .int (nI c), v14, v15, v16, v17, v18, v19, v20, .ref aI, .ref aC, v23, v24, v25, .ref aO, v27, v28]) (m := wz.toNat) rfl (by omega)) 0 gX10_setLevels_X10_side rfl nd_X10_side ⟨Nat.le_of_ble_eq_true rfl, Nat.le_of_ble_eq_true rfl⟩ hK hP [0] rfl rfl rfl rfl hl.1 rfl (Nat.le_of_ble_eq_true rfl) dX10_setLevels_45 ⟨Nat.le_refl _, Nat.le_refl _⟩ (fun r_5 hr_5 => ?_)
    obtain rfl := hr_5
    refine lv_iconst (v := nI 1) hex hby dX10_setLevels_48 rfl ?_
    refine nv_isub hex hby dX10_setLevels_49 (by omega) ?_
    refine nv_put CFx in_X10_setLevels_X10 tyX10 tyX10_ok nmX10 hK hP hD hS 0 rfl rfl 7 (by decide) (List.mem_of_getElem? (i := 5) rfl) rfl (by decide +kernel) (Nat.le_of_ble_eq_true rfl) dX10_setLevels_50 (fun H locs hP hD hS => ?_)
    have hP : va_P (dC, dI) vwCl [(h, .inr (10, [.int (nI wz.toNat), .int (nI cu), v2, .ref aT, .int (nI 0), .int (nI 0), .int (nI (2 ^ wz.toNat - 1)), .int (nI (2 ^ wz.toNat - 1)), .ref aP, .int (nI pc), .int (nI bk), .ref aS, .ref aL, .int (nI c), v14, v15, v16, v17, v18, v19, v20, .ref aI, .ref aC, v23, v24, v25, .ref aO, v27, v28])), (aT, .inl (cI, 192, .inl (nA tb))), (aP, .inl (cI, 40, .inl (nA P))), (aI, .inl (cI, 4096, .inl (nA ix))), (aC, .inl (cI, 4096, .inl (nA g))), (aS, .inl (cI, 4096, .inl (nA S))), (aL, .inl (cI, 4096, .inl (nA Lv))), (aO, .inl (cI, 4096, .inl (nA O)))] H := hP
    have hD : va_D A [(h, .inr (10, [.int (nI wz.toNat), .int (nI cu), v2, .ref aT, .int (nI 0), .int (nI 0), .int (nI (2 ^ wz.toNat - 1)), .int (nI (2 ^ wz.toNat - 1)), .ref aP, .int (nI pc), .int (nI bk), .ref aS, .ref aL, .int (nI c), v14, v15, v16, v17, v18, v19, v20, .ref aI, .ref aC, v23, v24, v25, .ref aO, v27, v28])), (aT, .inl (cI, 192, .inl (nA tb))), (aP, .inl (cI, 40, .inl (nA P))), (aI, .inl (cI, 4096, .inl (nA ix))), (aC, .inl (cI, 4096, .inl (nA g))), (aS, .inl (cI, 4096, .inl (nA S))), (aL, .inl (cI, 4096, .inl (nA Lv))), (aO, .inl (cI, 4096, .inl (nA O)))] := hD
    refine lv_aload_n hex hby dX10_setLevels_53 rfl (lv_at hl 1 rfl) ?_
    refine lv_iconst (v := nI 0) hex hby dX10_setLevels_54 rfl ?_
    refine nv_put CFx in_X10_setLevels_X10 tyX10 tyX10_ok nmX10 hK hP hD hS 0 rfl rfl 9 (by decide) (List.mem_of_getElem? (i := 6) rfl) rfl (by decide +kernel) (Nat.le_of_ble_eq_true rfl) dX10_setLevels_55 (fun H locs hP hD hS => ?_)
    have hP : va_P (dC, dI) vwCl [(h, .inr (10, [.int (nI wz.toNat), .int (nI cu), v2, .ref aT, .int (nI 0), .int (nI 0), .int (nI (2 ^ wz.toNat - 1)), .int (nI (2 ^ wz.toNat - 1)), .ref aP, .int (nI 0), .int (nI bk), .ref aS, .ref aL, .int (nI c), v14, v15, v16, v17, v18, v19, v20, .ref aI, .ref aC, v23, v24, v25, .ref aO, v27, v28])), (aT, .inl (cI, 192, .inl (nA tb))), (aP, .inl (cI, 40, .inl (nA P))), (aI, .inl (cI, 4096, .inl (nA ix))), (aC, .inl (cI, 4096, .inl (nA g))), (aS, .inl (cI, 4096, .inl (nA S))), (aL, .inl (cI, 4096, .inl (nA Lv))), (aO, .inl (cI, 4096, .inl (nA O)))] H := hP
    have hD : va_D A [(h, .inr (10, [.int (nI wz.toNat), .int (nI cu), v2, .ref aT, .int (nI 0), .int (nI 0), .int (nI (2 ^ wz.toNat - 1)), .int (nI (2 ^ wz.toNat - 1)), .ref aP, .int (nI 0), .int (nI bk), .ref aS, .ref aL, .int (nI c), v14, v15, v16, v17, v18, v19, v20, .ref aI, .ref aC, v23, v24, v25, .ref aO, v27, v28])), (aT, .inl (cI, 192, .inl (nA tb))), (aP, .inl (cI, 40, .inl (nA P))), (aI, .inl (cI, 4096, .inl (nA ix))), (aC, .inl (cI, 4096, .inl (nA g))), (aS, .inl (cI, 4096, .inl (nA S))), (aL, .inl (cI, 4096, .inl (nA Lv))), (aO, .inl (cI, 4096, .inl (nA O)))] := hD
    refine lv_aload_n hex hby dX10_setLevels_58 rfl (lv_at hl 1 rfl) ?_
    refine mu_Vv (As := []) (rest := []) (wr := []) CFx (c_X10_numbers (h := h) (aT := aT) (aP := aP) (aI := aI) (aC := aC) (aS := aS) (aL := aL) (aO := aO) (m := wz.toNat) (cu := cu) (v2 := v2) (v4 := .int (nI 0)) (v5 := .int (nI 0)) (v6 := .int (nI (2 ^ wz.toNat - 1))) (v7 := .int (nI (2 ^ wz.toNat - 1))) (pc := 0) (bk := bk) (v13 := .int (nI c)) (v14 := v14) (v15 := v15) (v16 := v16) (v17 := v17) (v18 := v18) (v19 := v19) (v20 := v20) (v23 := v23) (v24 := v24) (v25 := v25) (v27 := v27) (v28 := v28) (tb := tb) (P := P) (ix0 := ix) (g0 := g) (S0 := S) (L0 := Lv) (O0 := O) (T := T) (ns := ns) htb hPb (by omega) hix hg hSb hLb hOb (by omega) (by omega) hbk hcu hV hT) 0 gX10_setLevels_X10_numbers rfl nd_X10_numbers ⟨Nat.le_of_ble_eq_true rfl, Nat.le_of_ble_eq_true rfl⟩ hK hP hD hS hA [0, 1, 2, 3, 4, 5, 6, 7] [] rfl rfl (by decide) (by decide) (by decide) TR.nil rfl rfl rfl hl.1 rfl (Nat.le_of_ble_eq_true rfl) dX10_setLevels_59 ⟨Nat.le_refl _, Nat.le_refl _⟩ (fun u H locs hr_6 hP hD hS => ?_)
    obtain ⟨ix1, g1, c1, S1, L1, O1⟩ := u
    dsimp only at hr_6 hP hD
    have hP : va_P (dC, dI) vwCl [(h, .inr (10, [.int (nI wz.toNat), .int (nI cu), v2, .ref aT, .int (nI 0), .int (nI 0), .int (nI (2 ^ wz.toNat - 1)), .int (nI (2 ^ wz.toNat - 1)), .ref aP, .int (nI 0), .int (nI bk), .ref aS, .ref aL, .int (nI c1), v14, v15, v16, v17, v18, v19, v20, .ref aI, .ref aC, v23, v24, v25, .ref aO, v27, v28])), (aT, .inl (cI, 192, .inl (nA tb))), (aP, .inl (cI, 40, .inl (nA P))), (aI, .inl (cI, 4096, .inl (nA ix1))), (aC, .inl (cI, 4096, .inl (nA g1))), (aS, .inl (cI, 4096, .inl (nA S1))), (aL, .inl (cI, 4096, .inl (nA L1))), (aO, .inl (cI, 4096, .inl (nA O1)))] H := hP
    have hD : va_D A [(h, .inr (10, [.int (nI wz.toNat), .int (nI cu), v2, .ref aT, .int (nI 0), .int (nI 0), .int (nI (2 ^ wz.toNat - 1)), .int (nI (2 ^ wz.toNat - 1)), .ref aP, .int (nI 0), .int (nI bk), .ref aS, .ref aL, .int (nI c1), v14, v15, v16, v17, v18, v19, v20, .ref aI, .ref aC, v23, v24, v25, .ref aO, v27, v28])), (aT, .inl (cI, 192, .inl (nA tb))), (aP, .inl (cI, 40, .inl (nA P))), (aI, .inl (cI, 4096, .inl (nA ix1))), (aC, .inl (cI, 4096, .inl (nA g1))), (aS, .inl (cI, 4096, .inl (nA S1))), (aL, .inl (cI, 4096, .inl (nA L1))), (aO, .inl (cI, 4096, .inl (nA O1)))] := hD
    obtain ⟨sn, ln, hn0, hn1, hn2, hn3, hn4, hn5, hn6, hn7, hn8⟩ := hr_6
    refine lv_iload_n hex hby dX10_setLevels_62 rfl (lv_at hl 0 rfl) ?_
    have pf_13 : DivC wz.toNat 0 bk (ptv T wz.toNat P) c1 sn ln := by
      skip
      exact hn3.congr (fun i hi => absurd hi (by omega))
    exact hret _ (wz.toNat, 0, 0, 2 ^ wz.toNat - 1, 2 ^ wz.toNat - 1, 0, ix1, g1, c1, S1, L1, O1) _ _ _ _ _ (Or.inl ⟨rfl, _, rfl, rfl, dX10_setLevels_63⟩) ⟨_, rfl, Or.inl ⟨sn, ln, rfl, (by omega), rfl, rfl, rfl, rfl, rfl, rfl, hn0, hn1, hn2, pf_13, hn4, hn5, hn6, hn7, hn8⟩⟩ hP hD hS
  · refine nv_if_ne (tgt := 13) hex hby dX10_setLevels_7 (by decide) (by omega) (fun c => absurd c (by omega)) (fun _ => ?_)
    refine lv_bipush (v := zI (-2)) hex hby dX10_setLevels_10 rfl ?_
    exact hret _ (m, rl, rb, rr, ra, pc, ix, g, c, S, Lv, O) _ _ _ _ _ (Or.inl ⟨rfl, _, rfl, rfl, dX10_setLevels_12⟩) ⟨_, rfl, Or.inr ⟨rfl, (by omega), rfl, rfl, rfl, rfl, rfl, rfl, rfl, rfl, rfl, rfl, rfl, rfl⟩⟩ hP hD hS
theorem nd_X10_setCurve : ndV yX10_setCurve RX10 1 := by decide +kernel
theorem in_X10_setCurve_X10 : ∀ w ∈ wsX100, w ∈ wsX10_setCurve := fun _ h => List.mem_cons_of_mem _ (List.mem_append_right _ (h))
set_option maxHeartbeats 4000000 in
set_option maxRecDepth 100000 in
theorem c_X10_setCurve {h : Nat} {aT : Nat} {aP : Nat} {aI : Nat} {aC : Nat} {aS : Nat} {aL : Nat} {aO : Nat} {m : Nat} {cu : Nat} {v2 : Value} {rl : Nat} {rb : Nat} {rr : Nat} {ra : Nat} {pc : Nat} {bk : Nat} {c : Nat} {v14 : Value} {v15 : Value} {v16 : Value} {v17 : Value} {v18 : Value} {v19 : Value} {v20 : Value} {v23 : Value} {v24 : Value} {v25 : Value} {v27 : Value} {v28 : Value} {tb : Nat → Nat} {P : Nat → Nat} {ix : Nat → Nat} {g : Nat → Nat} {S : Nat → Nat} {Lv : Nat → Nat} {O : Nat → Nat} {w : Int32} {wz : Int} {V : Nat → Nat} {tc : Nat} (hwz : w.toInt = wz) (htb : ∀ j, tb j < 10) (hPb : ∀ j, P j < 4096) (hpc : pc ≤ 40) (hix : ∀ j, ix j < 4096) (hg : ∀ j, g j < 4096) (hSb : ∀ j, S j < 4096) (hLb : ∀ j, Lv j < 7) (hOb : ∀ j, O j < 4096) (hbk : bk ≤ 8) (hcu : cu ≤ 2) (hm1 : 1 ≤ m) (hm6 : m ≤ 6) (hpg : ∀ j, j < pc → P j % 64 < 2 ^ m ∧ P j / 64 < 2 ^ m) (hT0 : TbOK mortT tb 0 1) (hT1 : TbOK hilT tb 1 4) (hT2 : TbOK V tb 2 tc) (hVt : VT V tc) : MU l yX10_setCurve wsX10_setCurve 3 73 (dC, dI) (tyK cI cZ cS) [(h, .inr (10, [.int (nI m), .int (nI cu), v2, .ref aT, .int (nI rl), .int (nI rb), .int (nI rr), .int (nI ra), .ref aP, .int (nI pc), .int (nI bk), .ref aS, .ref aL, .int (nI c), v14, v15, v16, v17, v18, v19, v20, .ref aI, .ref aC, v23, v24, v25, .ref aO, v27, v28])), (aT, .inl (cI, 192, .inl (nA tb))), (aP, .inl (cI, 40, .inl (nA P))), (aI, .inl (cI, 4096, .inl (nA ix))), (aC, .inl (cI, 4096, .inl (nA g))), (aS, .inl (cI, 4096, .inl (nA S))), (aL, .inl (cI, 4096, .inl (nA Lv))), (aO, .inl (cI, 4096, .inl (nA O)))] [] [.ref h, .int w] (fun rv_ (u_ : Nat × (Nat → Nat) × (Nat → Nat) × Nat × (Nat → Nat) × (Nat → Nat) × (Nat → Nat)) => rI (fun r => (∃ st' : Nat → Nat, ∃ lv' : Nat → Nat, r = nI cu ∧ (0 ≤ wz ∧ wz ≤ 2) ∧ wz.toNat = u_.1 ∧ NumOK (cuT u_.1 V) m u_.2.2.1 u_.2.1 ∧ (∀ j, u_.2.2.1 j < 4096) ∧ (∀ j, u_.2.1 j < 4096) ∧ DivC m pc bk (ptv (cuT u_.1 V) m P) u_.2.2.2.1 st' lv' ∧ AG u_.2.2.2.1 st' lv' u_.2.2.2.2.1 u_.2.2.2.2.2.1 ∧ LfOK u_.2.2.2.1 st' u_.2.2.2.2.2.2 ∧ (∀ j, u_.2.2.2.2.1 j < 4096) ∧ (∀ j, u_.2.2.2.2.2.1 j < 7) ∧ (∀ j, u_.2.2.2.2.2.2 j < 4096)) ∨ (r = zI (-2) ∧ (¬ (0 ≤ wz ∧ wz ≤ 2)) ∧ cu = u_.1 ∧ ix = u_.2.1 ∧ g = u_.2.2.1 ∧ c = u_.2.2.2.1 ∧ S = u_.2.2.2.2.1 ∧ Lv = u_.2.2.2.2.2.1 ∧ O = u_.2.2.2.2.2.2)) rv_) (fun (u_ : Nat × (Nat → Nat) × (Nat → Nat) × Nat × (Nat → Nat) × (Nat → Nat) × (Nat → Nat)) => [(h, .inr (10, [.int (nI m), .int (nI u_.1), v2, .ref aT, .int (nI rl), .int (nI rb), .int (nI rr), .int (nI ra), .ref aP, .int (nI pc), .int (nI bk), .ref aS, .ref aL, .int (nI u_.2.2.2.1), v14, v15, v16, v17, v18, v19, v20, .ref aI, .ref aC, v23, v24, v25, .ref aO, v27, v28])), (aT, .inl (cI, 192, .inl (nA tb))), (aP, .inl (cI, 40, .inl (nA P))), (aI, .inl (cI, 4096, .inl (nA u_.2.1))), (aC, .inl (cI, 4096, .inl (nA u_.2.2.1))), (aS, .inl (cI, 4096, .inl (nA u_.2.2.2.2.1))), (aL, .inl (cI, 4096, .inl (nA u_.2.2.2.2.2.1))), (aO, .inl (cI, 4096, .inl (nA u_.2.2.2.2.2.2)))]) := by
  refine mu_of (by decide) rfl (Nat.le_of_ble_eq_true rfl) ?_
  intro pp ee ss mm bb mt cd Q A CFx hP hK hD hS hA hTr hret ls hl
  obtain ⟨hex, hby, hml, hown, hts⟩ := id CFx
  have hl : lv_has ls 3 [(0, .ref h), (1, .int w)] := hl
  refine lv_iload_n hex hby dX10_setCurve_0 rfl (lv_at hl 1 rfl) ?_
  refine lv_iconst (v := nI 0) hex hby dX10_setCurve_1 rfl ?_
  refine lv_iconst (v := nI 2) hex hby dX10_setCurve_2 rfl ?_
  refine ro_Si (As := [.int w, .int (nI 0), .int (nI 2)]) (rest := []) (C := RX10) CFx (c_X10_in (x := w) (xz := w.toInt) (lo := nI 0) (loz := (0 : Int)) (hi := nI 2) (hiz := (2 : Int)) rfl (by rfl) (by rfl)) 3 gX10_setCurve_X10_in rfl nd_X10_in ⟨Nat.le_of_ble_eq_true rfl, Nat.le_of_ble_eq_true rfl⟩ hK hP [] rfl rfl hl.1 rfl (Nat.le_of_ble_eq_true rfl) dX10_setCurve_3 ⟨Nat.le_refl _, Nat.le_refl _⟩ (fun r_1 hr_1 => ?_)
  rcases hr_1 with ⟨rfl, h_2⟩ | ⟨rfl, h_3⟩
  · refine nv_if_ne (tgt := 12) hex hby dX10_setCurve_6 (by decide) (by omega) (fun _ => ?_) (fun c => absurd c (by omega))
    obtain ⟨jw_, hjw__, rfl, hjw_e⟩ := ni_of (x := w) (by omega)
    obtain rfl : jw_ = wz.toNat := by omega
    refine lv_aload_n hex hby dX10_setCurve_12 rfl (lv_at hl 0 rfl) ?_
    refine nv_get (v := .int (nI cu)) CFx in_X10_setCurve_X10 hK hP 0 rfl rfl 1 (by decide) (List.mem_of_getElem? (i := 1) rfl) rfl dX10_setCurve_13 ?_
    refine lv_istore_n (lv' := [(2, .int (nI cu)), (0, .ref h), (1, .int (nI wz.toNat))]) hex hby dX10_setCurve_16 rfl hl (by decide) rfl (fun ls hl => ?_)
    refine lv_aload_n hex hby dX10_setCurve_17 rfl (lv_at hl 1 rfl) ?_
    refine lv_iload_n hex hby dX10_setCurve_18 rfl (lv_at hl 2 rfl) ?_
    refine nv_put CFx in_X10_setCurve_X10 tyX10 tyX10_ok nmX10 hK hP hD hS 0 rfl rfl 1 (by decide) (List.mem_of_getElem? (i := 1) rfl) rfl (by decide +kernel) (Nat.le_of_ble_eq_true rfl) dX10_setCurve_19 (fun H locs hP hD hS => ?_)
    have hP : va_P (dC, dI) vwCl [(h, .inr (10, [.int (nI m), .int (nI wz.toNat), v2, .ref aT, .int (nI rl), .int (nI rb), .int (nI rr), .int (nI ra), .ref aP, .int (nI pc), .int (nI bk), .ref aS, .ref aL, .int (nI c), v14, v15, v16, v17, v18, v19, v20, .ref aI, .ref aC, v23, v24, v25, .ref aO, v27, v28])), (aT, .inl (cI, 192, .inl (nA tb))), (aP, .inl (cI, 40, .inl (nA P))), (aI, .inl (cI, 4096, .inl (nA ix))), (aC, .inl (cI, 4096, .inl (nA g))), (aS, .inl (cI, 4096, .inl (nA S))), (aL, .inl (cI, 4096, .inl (nA Lv))), (aO, .inl (cI, 4096, .inl (nA O)))] H := hP
    have hD : va_D A [(h, .inr (10, [.int (nI m), .int (nI wz.toNat), v2, .ref aT, .int (nI rl), .int (nI rb), .int (nI rr), .int (nI ra), .ref aP, .int (nI pc), .int (nI bk), .ref aS, .ref aL, .int (nI c), v14, v15, v16, v17, v18, v19, v20, .ref aI, .ref aC, v23, v24, v25, .ref aO, v27, v28])), (aT, .inl (cI, 192, .inl (nA tb))), (aP, .inl (cI, 40, .inl (nA P))), (aI, .inl (cI, 4096, .inl (nA ix))), (aC, .inl (cI, 4096, .inl (nA g))), (aS, .inl (cI, 4096, .inl (nA S))), (aL, .inl (cI, 4096, .inl (nA Lv))), (aO, .inl (cI, 4096, .inl (nA O)))] := hD
    refine lv_aload_n hex hby dX10_setCurve_22 rfl (lv_at hl 1 rfl) ?_
    refine mu_Vv (As := []) (rest := []) (wr := []) CFx (c_X10_numbers (h := h) (aT := aT) (aP := aP) (aI := aI) (aC := aC) (aS := aS) (aL := aL) (aO := aO) (m := m) (cu := wz.toNat) (v2 := v2) (v4 := .int (nI rl)) (v5 := .int (nI rb)) (v6 := .int (nI rr)) (v7 := .int (nI ra)) (pc := pc) (bk := bk) (v13 := .int (nI c)) (v14 := v14) (v15 := v15) (v16 := v16) (v17 := v17) (v18 := v18) (v19 := v19) (v20 := v20) (v23 := v23) (v24 := v24) (v25 := v25) (v27 := v27) (v28 := v28) (tb := tb) (P := P) (ix0 := ix) (g0 := g) (S0 := S) (L0 := Lv) (O0 := O) (T := cuT wz.toNat V) (ns := cuN wz.toNat tc) htb hPb hpc hix hg hSb hLb hOb hm1 hm6 hbk (by omega) (cuT_VT hVt) (cu_Tb hT0 hT1 hT2 (by omega))) 0 gX10_setCurve_X10_numbers rfl nd_X10_numbers ⟨Nat.le_of_ble_eq_true rfl, Nat.le_of_ble_eq_true rfl⟩ hK hP hD hS hA [0, 1, 2, 3, 4, 5, 6, 7] [] rfl rfl (by decide) (by decide) (by decide) TR.nil rfl rfl rfl hl.1 rfl (Nat.le_of_ble_eq_true rfl) dX10_setCurve_23 ⟨Nat.le_refl _, Nat.le_refl _⟩ (fun u H locs hr_4 hP hD hS => ?_)
    obtain ⟨ix1, g1, c1, S1, L1, O1⟩ := u
    dsimp only at hr_4 hP hD
    have hP : va_P (dC, dI) vwCl [(h, .inr (10, [.int (nI m), .int (nI wz.toNat), v2, .ref aT, .int (nI rl), .int (nI rb), .int (nI rr), .int (nI ra), .ref aP, .int (nI pc), .int (nI bk), .ref aS, .ref aL, .int (nI c1), v14, v15, v16, v17, v18, v19, v20, .ref aI, .ref aC, v23, v24, v25, .ref aO, v27, v28])), (aT, .inl (cI, 192, .inl (nA tb))), (aP, .inl (cI, 40, .inl (nA P))), (aI, .inl (cI, 4096, .inl (nA ix1))), (aC, .inl (cI, 4096, .inl (nA g1))), (aS, .inl (cI, 4096, .inl (nA S1))), (aL, .inl (cI, 4096, .inl (nA L1))), (aO, .inl (cI, 4096, .inl (nA O1)))] H := hP
    have hD : va_D A [(h, .inr (10, [.int (nI m), .int (nI wz.toNat), v2, .ref aT, .int (nI rl), .int (nI rb), .int (nI rr), .int (nI ra), .ref aP, .int (nI pc), .int (nI bk), .ref aS, .ref aL, .int (nI c1), v14, v15, v16, v17, v18, v19, v20, .ref aI, .ref aC, v23, v24, v25, .ref aO, v27, v28])), (aT, .inl (cI, 192, .inl (nA tb))), (aP, .inl (cI, 40, .inl (nA P))), (aI, .inl (cI, 4096, .inl (nA ix1))), (aC, .inl (cI, 4096, .inl (nA g1))), (aS, .inl (cI, 4096, .inl (nA S1))), (aL, .inl (cI, 4096, .inl (nA L1))), (aO, .inl (cI, 4096, .inl (nA O1)))] := hD
    obtain ⟨sn, ln, hn0, hn1, hn2, hn3, hn4, hn5, hn6, hn7, hn8⟩ := hr_4
    refine lv_iload_n hex hby dX10_setCurve_26 rfl (lv_at hl 0 rfl) ?_
    exact hret _ (wz.toNat, ix1, g1, c1, S1, L1, O1) _ _ _ _ _ (Or.inl ⟨rfl, _, rfl, rfl, dX10_setCurve_27⟩) ⟨_, rfl, Or.inl ⟨sn, ln, rfl, (by omega), rfl, hn0, hn1, hn2, (hn3.congr (pg_iv (cuT_VT hVt) hn0 hpg)), hn4, hn5, hn6, hn7, hn8⟩⟩ hP hD hS
  · refine nv_if_ne (tgt := 12) hex hby dX10_setCurve_6 (by decide) (by omega) (fun c => absurd c (by omega)) (fun _ => ?_)
    refine lv_bipush (v := zI (-2)) hex hby dX10_setCurve_9 rfl ?_
    exact hret _ (cu, ix, g, c, S, Lv, O) _ _ _ _ _ (Or.inl ⟨rfl, _, rfl, rfl, dX10_setCurve_11⟩) ⟨_, rfl, Or.inr ⟨rfl, (by omega), rfl, rfl, rfl, rfl, rfl, rfl, rfl⟩⟩ hP hD hS
theorem nrs_pos {q : Nat → Nat} {own n : Nat} (h : 0 < n) : 0 ≤ nrs q own n := by
  cases n with
  | zero => omega
  | succ n =>
    induction n with
    | zero => rw [nrs, if_pos (Or.inl (show nrs q own 0 = -1 from rfl))]; omega
    | succ n ih =>
      have := ih (by omega)
      rw [nrs]
      split <;> omega
theorem nd_X10_nearest : ndV yX10_nearest RX10 2 := by decide +kernel
theorem in_X10_nearest_X10 : ∀ w ∈ wsX100, w ∈ wsX10_nearest := fun _ h => List.mem_cons_of_mem _ (List.mem_append_right _ (h))
set_option maxHeartbeats 4000000 in
set_option maxRecDepth 100000 in
theorem c_X10_nearest {h : Nat} {aI : Nat} {aP : Nat} {fs : List Value} {m : Nat} {pc : Nat} {ix : Nat → Nat} {P : Nat → Nat} {x : Int32} {xz : Int} {y : Int32} {yz : Int} {T : Nat → Nat} {ns : Nat} {g : Nat → Nat} (f_m : fs[0]? = some (.int (nI m))) (f_points : fs[8]? = some (.ref aP)) (f_pointMany : fs[9]? = some (.int (nI pc))) (f_indexOf : fs[21]? = some (.ref aI)) (hxz : x.toInt = xz) (hyz : y.toInt = yz) (hix : ∀ j, ix j < 4096) (hPb : ∀ j, P j < 4096) (hpc : pc ≤ 40) (hm6 : m ≤ 6) (hV : VT T ns) (hN : NumOK T m g ix) (hpg : ∀ j, j < pc → P j % 64 < 2 ^ m ∧ P j / 64 < 2 ^ m) : RO l yX10_nearest wsX10_nearest 2 44 (dC, dI) (tyK cI cZ cS) [(h, .inr (10, fs)), (aI, .inl (cI, 4096, .inl (nA ix))), (aP, .inl (cI, 40, .inl (nA P)))] [.ref h, .int x, .int y] (rI (fun r => (r = zI (nrs (ptv T m P) (cvi T m xz.toNat yz.toNat) pc) ∧ (0 ≤ xz ∧ xz < ((2 ^ m : Nat) : Int) ∧ 0 ≤ yz ∧ yz < ((2 ^ m : Nat) : Int)) ∧ 0 < pc) ∨ (r = zI (-5) ∧ (0 ≤ xz ∧ xz < ((2 ^ m : Nat) : Int) ∧ 0 ≤ yz ∧ yz < ((2 ^ m : Nat) : Int)) ∧ pc = 0) ∨ (r = zI (-1) ∧ (¬ (0 ≤ xz ∧ xz < ((2 ^ m : Nat) : Int) ∧ 0 ≤ yz ∧ yz < ((2 ^ m : Nat) : Int)))))) := by
  refine ro_of (by decide) rfl (Nat.le_of_ble_eq_true rfl) ?_
  intro pp ee ss mm bb mt cd Q CFx hP hK hret ls hl
  obtain ⟨hex, hby, hml, hown, hts⟩ := id CFx
  have hl : lv_has ls 8 [(0, .ref h), (1, .int x), (2, .int y)] := hl
  have h26 := p2_6 hm6
  have h46 := p4_6 hm6
  have h4p := p4_pos m
  refine lv_aload_n hex hby dX10_nearest_0 rfl (lv_at hl 0 rfl) ?_
  refine lv_iload_n hex hby dX10_nearest_1 rfl (lv_at hl 1 rfl) ?_
  refine lv_iload_n hex hby dX10_nearest_2 rfl (lv_at hl 2 rfl) ?_
  refine ro_Vi (As := [.int x, .int y]) (rest := []) CFx (c_X10_isCell (h := h) (fs := fs) (m := m) (x := x) (xz := x.toInt) (y := y) (yz := y.toInt) f_m rfl rfl hm6) 2 gX10_nearest_X10_isCell rfl nd_X10_isCell ⟨Nat.le_of_ble_eq_true rfl, Nat.le_of_ble_eq_true rfl⟩ hK hP [0] rfl rfl rfl rfl hl.1 rfl (Nat.le_of_ble_eq_true rfl) dX10_nearest_3 ⟨Nat.le_refl _, Nat.le_refl _⟩ (fun r_1 hr_1 => ?_)
  rcases hr_1 with ⟨rfl, h_2⟩ | ⟨rfl, h_3⟩
  · refine nv_if_ne (tgt := 11) hex hby dX10_nearest_6 (by decide) (by omega) (fun _ => ?_) (fun c => absurd c (by omega))
    obtain ⟨jx_, hjx__, rfl, hjx_e⟩ := ni_of (x := x) (by omega)
    obtain rfl : jx_ = xz.toNat := by omega
    obtain ⟨jy_, hjy__, rfl, hjy_e⟩ := ni_of (x := y) (by omega)
    obtain rfl : jy_ = yz.toNat := by omega
    refine lv_aload_n hex hby dX10_nearest_11 rfl (lv_at hl 0 rfl) ?_
    refine nv_get (v := .ref aI) CFx in_X10_nearest_X10 hK hP 0 rfl rfl 21 (by decide) (List.mem_of_getElem? (i := 1) rfl) f_indexOf dX10_nearest_12 ?_
    refine lv_bipush (v := nI 64) hex hby dX10_nearest_15 rfl ?_
    refine lv_iload_n hex hby dX10_nearest_17 rfl (lv_at hl 2 rfl) ?_
    refine nv_imul hex hby dX10_nearest_18 ?_
    refine lv_iload_n hex hby dX10_nearest_19 rfl (lv_at hl 1 rfl) ?_
    refine nv_iadd hex hby dX10_nearest_20 ?_
    refine nv_iald hex hby hK hP 1 0 rfl rfl (by omega) (by omega) dX10_nearest_21 ?_
    have hb_4 := hix (64 * yz.toNat + xz.toNat)
    obtain ⟨own, hown_⟩ : ∃ q, q = ix (64 * yz.toNat + xz.toNat) := ⟨_, rfl⟩
    refine nv_top (y := nI own) (congrArg nI hown_.symm) ?_
    have hob := hix (64 * yz.toNat + xz.toNat)
    have hoc : own = cvi T m xz.toNat yz.toNat := by rw [hown_, show 64 * yz.toNat + xz.toNat = yz.toNat * 64 + xz.toNat by omega]; exact hN.ix hV (by omega) (by omega)
    refine lv_istore_n (lv' := [(3, .int (nI own)), (0, .ref h), (1, .int (nI xz.toNat)), (2, .int (nI yz.toNat))]) hex hby dX10_nearest_22 rfl hl (by decide) rfl (fun ls hl => ?_)
    refine lv_bipush (v := zI (-5)) hex hby dX10_nearest_23 rfl ?_
    refine lv_istore (lv' := [(4, .int (zI (-5))), (3, .int (nI own)), (0, .ref h), (1, .int (nI xz.toNat)), (2, .int (nI yz.toNat))]) hex hby dX10_nearest_25 hl (by decide) rfl (fun ls hl => ?_)
    refine lv_iconst (v := nI 0) hex hby dX10_nearest_27 rfl ?_
    refine lv_istore (lv' := [(5, .int (nI 0)), (4, .int (zI (-5))), (3, .int (nI own)), (0, .ref h), (1, .int (nI xz.toNat)), (2, .int (nI yz.toNat))]) hex hby dX10_nearest_28 hl (by decide) rfl (fun ls hl => ?_)
    have loop30 : ∀ (nn : Nat) (z : Int) (i : Nat), (pc - i) < nn → (i ≤ pc) → ((i = 0 ∧ z = -5) ∨ (0 < i ∧ z = nrs (fun j => ix (P j)) own i ∧ 0 ≤ z)) → (-5 ≤ z ∧ z < 4096) → ∀ ls : Array Slot, lv_has ls 8 [(5, .int (nI i)), (4, .int (zI z)), (3, .int (nI own)), (0, .ref h), (1, .int (nI xz.toNat)), (2, .int (nI yz.toNat))] → W pp l ee (rmO 2 44) ss mm ([.ref h, .int (nI xz.toNat), .int (nI yz.toNat)] : List Value).toArray bb mt cd ss.heap [] 0 0 Q (F0 mm 30 ls []) := by
      intro nn
      induction nn with
      | zero => intro z i hms30; exact absurd hms30 (Nat.not_lt_zero _)
      | succ nn ih30 =>
        intro z i hms30 hi hz hzr ls hl
        refine lv_iload hex hby dX10_nearest_30 (lv_at hl 0 rfl) ?_
        refine lv_aload_n hex hby dX10_nearest_32 rfl (lv_at hl 3 rfl) ?_
        refine nv_get (v := .int (nI pc)) CFx in_X10_nearest_X10 hK hP 0 rfl rfl 9 (by decide) (List.mem_of_getElem? (i := 2) rfl) f_pointMany dX10_nearest_33 ?_
        refine nv_icmp_ge (tgt := 111) hex hby dX10_nearest_36 (by decide) (by omega) (by omega) (fun c_5 => ?_) (fun c_5 => ?_)
        · rcases hz with ⟨he1, rfl⟩ | ⟨he1, he2, he3⟩
          · refine lv_iload hex hby dX10_nearest_111 (lv_at hl 1 rfl) ?_
            exact hret _ _ _ _ (Or.inl ⟨rfl, _, rfl, rfl, dX10_nearest_113⟩) ⟨_, rfl, Or.inr (Or.inl ⟨rfl, (by omega), (by omega)⟩)⟩
          · refine lv_iload hex hby dX10_nearest_111 (lv_at hl 1 rfl) ?_
            exact hret _ _ _ _ (Or.inl ⟨rfl, _, rfl, rfl, dX10_nearest_113⟩) ⟨_, rfl, Or.inl ⟨(congrArg zI (by rw [he2, show i = pc by omega, hoc]; exact nrs_congr (pg_iv hV hN hpg))), (by omega), (by omega)⟩⟩
        · refine lv_aload_n hex hby dX10_nearest_39 rfl (lv_at hl 3 rfl) ?_
          refine nv_get (v := .ref aI) CFx in_X10_nearest_X10 hK hP 0 rfl rfl 21 (by decide) (List.mem_of_getElem? (i := 1) rfl) f_indexOf dX10_nearest_40 ?_
          refine lv_aload_n hex hby dX10_nearest_43 rfl (lv_at hl 3 rfl) ?_
          refine nv_get (v := .ref aP) CFx in_X10_nearest_X10 hK hP 0 rfl rfl 8 (by decide) (List.mem_of_getElem? (i := 3) rfl) f_points dX10_nearest_44 ?_
          refine lv_iload hex hby dX10_nearest_47 (lv_at hl 0 rfl) ?_
          refine nv_iald hex hby hK hP 2 0 rfl rfl (by omega) (by omega) dX10_nearest_49 ?_
          have hb_6 := hPb i
          refine nv_iald hex hby hK hP 1 0 rfl rfl (by omega) (by omega) dX10_nearest_50 ?_
          have hb_7 := hix (P i)
          have hbi := hix (P i)
          refine lv_istore (lv' := [(6, .int (nI (ix (P i)))), (5, .int (nI i)), (4, .int (zI z)), (3, .int (nI own)), (0, .ref h), (1, .int (nI xz.toNat)), (2, .int (nI yz.toNat))]) hex hby dX10_nearest_51 hl (by decide) rfl (fun ls hl => ?_)
          refine lv_iload hex hby dX10_nearest_53 (lv_at hl 2 rfl) ?_
          refine ni_if_ge (tgt := 62) (a := z) hex hby dX10_nearest_55 (by decide) (zI_toInt (by omega) (by omega)) (fun c_8 => ?_) (fun c_8 => ?_)
          · refine lv_iload hex hby dX10_nearest_62 (lv_at hl 2 rfl) ?_
            refine lv_iload_n hex hby dX10_nearest_64 rfl (lv_at hl 3 rfl) ?_
            refine nz_isub (a := z) (b := (own : Int)) hex hby dX10_nearest_65 rfl (ni_nz _) ?_
            refine ro_Si (As := [.int (zI (z - (own : Int)))]) (rest := []) (C := RX10) CFx (c_X10_size (z := z - (own : Int)) (by omega) (by omega)) 1 gX10_nearest_X10_size rfl nd_X10_size ⟨Nat.le_of_ble_eq_true rfl, Nat.le_of_ble_eq_true rfl⟩ hK hP [] rfl rfl hl.1 rfl (Nat.le_of_ble_eq_true rfl) dX10_nearest_66 ⟨Nat.le_refl _, Nat.le_refl _⟩ (fun r_9 hr_9 => ?_)
            obtain rfl := hr_9
            refine lv_iload hex hby dX10_nearest_69 (lv_at hl 0 rfl) ?_
            refine lv_iload_n hex hby dX10_nearest_71 rfl (lv_at hl 3 rfl) ?_
            refine nz_isub (a := ((ix (P i) : Nat) : Int)) (b := (own : Int)) hex hby dX10_nearest_72 (ni_nz _) (ni_nz _) ?_
            refine ro_Si (As := [.int (zI (((ix (P i) : Nat) : Int) - (own : Int)))]) (rest := [.int (nI ((z - (own : Int)).natAbs))]) (C := RX10) CFx (c_X10_size (z := ((ix (P i) : Nat) : Int) - (own : Int)) (by omega) (by omega)) 1 gX10_nearest_X10_size rfl nd_X10_size ⟨Nat.le_of_ble_eq_true rfl, Nat.le_of_ble_eq_true rfl⟩ hK hP [] rfl rfl hl.1 rfl (Nat.le_of_ble_eq_true rfl) dX10_nearest_73 ⟨Nat.le_refl _, Nat.le_refl _⟩ (fun r_10 hr_10 => ?_)
            obtain rfl := hr_10
            refine nz_isub (a := (((z - (own : Int)).natAbs : Nat) : Int)) (b := (((((ix (P i) : Nat) : Int) - (own : Int)).natAbs : Nat) : Int)) hex hby dX10_nearest_76 (ni_nz _) (ni_nz _) ?_
            refine lv_istore (lv' := [(7, .int (zI ((((z - (own : Int)).natAbs : Nat) : Int) - (((((ix (P i) : Nat) : Int) - (own : Int)).natAbs : Nat) : Int)))), (6, .int (nI (ix (P i)))), (5, .int (nI i)), (4, .int (zI z)), (3, .int (nI own)), (0, .ref h), (1, .int (nI xz.toNat)), (2, .int (nI yz.toNat))]) hex hby dX10_nearest_77 hl (by decide) rfl (fun ls hl => ?_)
            refine lv_iload hex hby dX10_nearest_79 (lv_at hl 0 rfl) ?_
            refine ni_if_gt (tgt := 96) (a := (((z - (own : Int)).natAbs : Nat) : Int) - (((((ix (P i) : Nat) : Int) - (own : Int)).natAbs : Nat) : Int)) hex hby dX10_nearest_81 (by decide) (zI_toInt (by omega) (by omega)) (fun c_11 => ?_) (fun c_11 => ?_)
            · refine lv_iload hex hby dX10_nearest_96 (lv_at hl 1 rfl) ?_
              refine lv_goto (tgt := 103) hex hby dX10_nearest_98 (by decide) ?_
              refine lv_istore (lv' := [(4, .int (nI (ix (P i)))), (7, .int (zI ((((z - (own : Int)).natAbs : Nat) : Int) - (((((ix (P i) : Nat) : Int) - (own : Int)).natAbs : Nat) : Int)))), (6, .int (nI (ix (P i)))), (5, .int (nI i)), (3, .int (nI own)), (0, .ref h), (1, .int (nI xz.toNat)), (2, .int (nI yz.toNat))]) hex hby dX10_nearest_103 hl (by decide) rfl (fun ls hl => ?_)
              refine lv_iinc (v := nI (i + 1)) (lv' := [(5, .int (nI (i + 1))), (4, .int (nI (ix (P i)))), (7, .int (zI ((((z - (own : Int)).natAbs : Nat) : Int) - (((((ix (P i) : Nat) : Int) - (own : Int)).natAbs : Nat) : Int)))), (6, .int (nI (ix (P i)))), (3, .int (nI own)), (0, .ref h), (1, .int (nI xz.toNat)), (2, .int (nI yz.toNat))]) hex hby dX10_nearest_105 hl (k := 3) rfl (ni_inc _) (by decide) rfl (fun ls hl => ?_)
              refine lv_goto (tgt := 30) hex hby dX10_nearest_108 (by decide) ?_
              have pf_12 : ((i + 1) = 0 ∧ ((ix (P i) : Nat) : Int) = -5) ∨ (0 < (i + 1) ∧ ((ix (P i) : Nat) : Int) = nrs (fun j => ix (P j)) own (i + 1) ∧ 0 ≤ ((ix (P i) : Nat) : Int)) := by
                right
                rcases hz with ⟨h1, h2⟩ | ⟨h1, h2, h3⟩
                · omega
                · exact ⟨by omega, by rw [nrs, ← h2, if_pos (by omega)], by omega⟩
              rw [ni_nz (ix (P i))] at hl
              exact ih30 ((ix (P i) : Nat) : Int) (i + 1) (by omega) (by omega) pf_12 (by omega) _ (lv_sub hl [0, 1, 4, 5, 6, 7] rfl)
            · refine lv_iload hex hby dX10_nearest_84 (lv_at hl 0 rfl) ?_
              refine ni_if_ne (tgt := 101) (a := (((z - (own : Int)).natAbs : Nat) : Int) - (((((ix (P i) : Nat) : Int) - (own : Int)).natAbs : Nat) : Int)) hex hby dX10_nearest_86 (by decide) (zI_toInt (by omega) (by omega)) (fun c_13 => ?_) (fun c_13 => ?_)
              · refine lv_iload hex hby dX10_nearest_101 (lv_at hl 3 rfl) ?_
                refine lv_istore (lv' := [(4, .int (zI z)), (7, .int (zI ((((z - (own : Int)).natAbs : Nat) : Int) - (((((ix (P i) : Nat) : Int) - (own : Int)).natAbs : Nat) : Int)))), (6, .int (nI (ix (P i)))), (5, .int (nI i)), (3, .int (nI own)), (0, .ref h), (1, .int (nI xz.toNat)), (2, .int (nI yz.toNat))]) hex hby dX10_nearest_103 hl (by decide) rfl (fun ls hl => ?_)
                refine lv_iinc (v := nI (i + 1)) (lv' := [(5, .int (nI (i + 1))), (4, .int (zI z)), (7, .int (zI ((((z - (own : Int)).natAbs : Nat) : Int) - (((((ix (P i) : Nat) : Int) - (own : Int)).natAbs : Nat) : Int)))), (6, .int (nI (ix (P i)))), (3, .int (nI own)), (0, .ref h), (1, .int (nI xz.toNat)), (2, .int (nI yz.toNat))]) hex hby dX10_nearest_105 hl (k := 3) rfl (ni_inc _) (by decide) rfl (fun ls hl => ?_)
                refine lv_goto (tgt := 30) hex hby dX10_nearest_108 (by decide) ?_
                have pf_14 : ((i + 1) = 0 ∧ z = -5) ∨ (0 < (i + 1) ∧ z = nrs (fun j => ix (P j)) own (i + 1) ∧ 0 ≤ z) := by
                  right
                  rcases hz with ⟨h1, h2⟩ | ⟨h1, h2, h3⟩
                  · omega
                  · exact ⟨by omega, by rw [nrs, ← h2, if_neg (by omega)], h3⟩
                exact ih30 z (i + 1) (by omega) (by omega) pf_14 (by omega) _ (lv_sub hl [0, 1, 4, 5, 6, 7] rfl)
              · refine lv_iload hex hby dX10_nearest_89 (lv_at hl 1 rfl) ?_
                refine lv_iload hex hby dX10_nearest_91 (lv_at hl 3 rfl) ?_
                refine ni_icmp_ge (tgt := 101) (a := ((ix (P i) : Nat) : Int)) (b := z) hex hby dX10_nearest_93 (by decide) (ni_toInt (by omega)) (zI_toInt (by omega) (by omega)) (fun c_15 => ?_) (fun c_15 => ?_)
                · refine lv_iload hex hby dX10_nearest_101 (lv_at hl 3 rfl) ?_
                  refine lv_istore (lv' := [(4, .int (zI z)), (7, .int (zI ((((z - (own : Int)).natAbs : Nat) : Int) - (((((ix (P i) : Nat) : Int) - (own : Int)).natAbs : Nat) : Int)))), (6, .int (nI (ix (P i)))), (5, .int (nI i)), (3, .int (nI own)), (0, .ref h), (1, .int (nI xz.toNat)), (2, .int (nI yz.toNat))]) hex hby dX10_nearest_103 hl (by decide) rfl (fun ls hl => ?_)
                  refine lv_iinc (v := nI (i + 1)) (lv' := [(5, .int (nI (i + 1))), (4, .int (zI z)), (7, .int (zI ((((z - (own : Int)).natAbs : Nat) : Int) - (((((ix (P i) : Nat) : Int) - (own : Int)).natAbs : Nat) : Int)))), (6, .int (nI (ix (P i)))), (3, .int (nI own)), (0, .ref h), (1, .int (nI xz.toNat)), (2, .int (nI yz.toNat))]) hex hby dX10_nearest_105 hl (k := 3) rfl (ni_inc _) (by decide) rfl (fun ls hl => ?_)
                  refine lv_goto (tgt := 30) hex hby dX10_nearest_108 (by decide) ?_
                  have pf_16 : ((i + 1) = 0 ∧ z = -5) ∨ (0 < (i + 1) ∧ z = nrs (fun j => ix (P j)) own (i + 1) ∧ 0 ≤ z) := by
                    right
                    rcases hz with ⟨h1, h2⟩ | ⟨h1, h2, h3⟩
                    · omega
                    · exact ⟨by omega, by rw [nrs, ← h2, if_neg (by omega)], h3⟩
                  exact ih30 z (i + 1) (by omega) (by omega) pf_16 (by omega) _ (lv_sub hl [0, 1, 4, 5, 6, 7] rfl)
                · refine lv_iload hex hby dX10_nearest_96 (lv_at hl 1 rfl) ?_
                  refine lv_goto (tgt := 103) hex hby dX10_nearest_98 (by decide) ?_
                  refine lv_istore (lv' := [(4, .int (nI (ix (P i)))), (7, .int (zI ((((z - (own : Int)).natAbs : Nat) : Int) - (((((ix (P i) : Nat) : Int) - (own : Int)).natAbs : Nat) : Int)))), (6, .int (nI (ix (P i)))), (5, .int (nI i)), (3, .int (nI own)), (0, .ref h), (1, .int (nI xz.toNat)), (2, .int (nI yz.toNat))]) hex hby dX10_nearest_103 hl (by decide) rfl (fun ls hl => ?_)
                  refine lv_iinc (v := nI (i + 1)) (lv' := [(5, .int (nI (i + 1))), (4, .int (nI (ix (P i)))), (7, .int (zI ((((z - (own : Int)).natAbs : Nat) : Int) - (((((ix (P i) : Nat) : Int) - (own : Int)).natAbs : Nat) : Int)))), (6, .int (nI (ix (P i)))), (3, .int (nI own)), (0, .ref h), (1, .int (nI xz.toNat)), (2, .int (nI yz.toNat))]) hex hby dX10_nearest_105 hl (k := 3) rfl (ni_inc _) (by decide) rfl (fun ls hl => ?_)
                  refine lv_goto (tgt := 30) hex hby dX10_nearest_108 (by decide) ?_
                  have pf_17 : ((i + 1) = 0 ∧ ((ix (P i) : Nat) : Int) = -5) ∨ (0 < (i + 1) ∧ ((ix (P i) : Nat) : Int) = nrs (fun j => ix (P j)) own (i + 1) ∧ 0 ≤ ((ix (P i) : Nat) : Int)) := by
                    right
                    rcases hz with ⟨h1, h2⟩ | ⟨h1, h2, h3⟩
                    · omega
                    · exact ⟨by omega, by rw [nrs, ← h2, if_pos (by omega)], by omega⟩
                  rw [ni_nz (ix (P i))] at hl
                  exact ih30 ((ix (P i) : Nat) : Int) (i + 1) (by omega) (by omega) pf_17 (by omega) _ (lv_sub hl [0, 1, 4, 5, 6, 7] rfl)
          · refine lv_iconst (v := nI 1) hex hby dX10_nearest_58 rfl ?_
            refine lv_goto (tgt := 77) hex hby dX10_nearest_59 (by decide) ?_
            refine lv_istore (lv' := [(7, .int (nI 1)), (6, .int (nI (ix (P i)))), (5, .int (nI i)), (4, .int (zI z)), (3, .int (nI own)), (0, .ref h), (1, .int (nI xz.toNat)), (2, .int (nI yz.toNat))]) hex hby dX10_nearest_77 hl (by decide) rfl (fun ls hl => ?_)
            refine lv_iload hex hby dX10_nearest_79 (lv_at hl 0 rfl) ?_
            refine nv_if_gt (tgt := 96) hex hby dX10_nearest_81 (by decide) (by omega) (fun _ => ?_) (fun c => absurd c (by omega))
            refine lv_iload hex hby dX10_nearest_96 (lv_at hl 1 rfl) ?_
            refine lv_goto (tgt := 103) hex hby dX10_nearest_98 (by decide) ?_
            refine lv_istore (lv' := [(4, .int (nI (ix (P i)))), (7, .int (nI 1)), (6, .int (nI (ix (P i)))), (5, .int (nI i)), (3, .int (nI own)), (0, .ref h), (1, .int (nI xz.toNat)), (2, .int (nI yz.toNat))]) hex hby dX10_nearest_103 hl (by decide) rfl (fun ls hl => ?_)
            refine lv_iinc (v := nI (i + 1)) (lv' := [(5, .int (nI (i + 1))), (4, .int (nI (ix (P i)))), (7, .int (nI 1)), (6, .int (nI (ix (P i)))), (3, .int (nI own)), (0, .ref h), (1, .int (nI xz.toNat)), (2, .int (nI yz.toNat))]) hex hby dX10_nearest_105 hl (k := 3) rfl (ni_inc _) (by decide) rfl (fun ls hl => ?_)
            refine lv_goto (tgt := 30) hex hby dX10_nearest_108 (by decide) ?_
            have pf_18 : ((i + 1) = 0 ∧ ((ix (P i) : Nat) : Int) = -5) ∨ (0 < (i + 1) ∧ ((ix (P i) : Nat) : Int) = nrs (fun j => ix (P j)) own (i + 1) ∧ 0 ≤ ((ix (P i) : Nat) : Int)) := by
              right
              rcases hz with ⟨h1, h2⟩ | ⟨h1, h2, h3⟩
              · exact ⟨by omega, by rw [h1, nrs, if_pos (Or.inl (show nrs (fun j => ix (P j)) own 0 = -1 from rfl))], by omega⟩
              · omega
            rw [ni_nz (ix (P i))] at hl
            exact ih30 ((ix (P i) : Nat) : Int) (i + 1) (by omega) (by omega) pf_18 (by omega) _ (lv_sub hl [0, 1, 4, 5, 6, 7] rfl)
    exact loop30 _ (-5) 0 (Nat.lt_succ_self _) (by omega) (Or.inl ⟨rfl, rfl⟩) (by omega) _ (lv_sub hl [0, 1, 2, 3, 4, 5] rfl)
  · refine nv_if_ne (tgt := 11) hex hby dX10_nearest_6 (by decide) (by omega) (fun c => absurd c (by omega)) (fun _ => ?_)
    refine lv_iconst (v := zI (-1)) hex hby dX10_nearest_9 rfl ?_
    exact hret _ _ _ _ (Or.inl ⟨rfl, _, rfl, rfl, dX10_nearest_10⟩) ⟨_, rfl, Or.inr (Or.inr (⟨rfl, (by omega)⟩))⟩
end MST
