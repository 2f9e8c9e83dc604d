section MST
variable {l : Launch} {dC : Nat → ClassId} {dI : Nat → Nat → Nat} {cI cZ cS : ClassId}
def HasP (P : Nat → Nat) (pc q : Nat) : Prop := ∃ k, k < pc ∧ P k = q
theorem cu_Tb {tb V : Nat → Nat} {cu tc : Nat} (h0 : TbOK mortT tb 0 1) (h1 : TbOK hilT tb 1 4) (h2 : TbOK V tb 2 tc) (hc : cu ≤ 2) : TbOK (cuT cu V) tb cu (cuN cu tc) := by
  rcases (show cu = 0 ∨ cu = 1 ∨ cu = 2 by omega) with e | e | e
  · subst e; exact h0
  · subst e; exact h1
  · subst e; exact h2
theorem cu_sm {sm : Nat → Nat} {cu tc : Nat} (h0 : sm 0 = 1) (h1 : sm 1 = 4) (h2 : sm 2 = tc) (hc : cu ≤ 2) : sm cu = cuN cu tc := by
  rcases (show cu = 0 ∨ cu = 1 ∨ cu = 2 by omega) with e | e | e
  · subst e; exact h0
  · subst e; exact h1
  · subst e; exact h2
theorem pg_iv {T : Nat → Nat} {n m pc : Nat} {g ix P : Nat → Nat} (hV : VT T n) (hN : NumOK T m g ix) (hpg : ∀ j, j < pc → P j % 64 < 2 ^ m ∧ P j / 64 < 2 ^ m) : ∀ i, i < pc → ix (P i) = ptv T m P i := fun i hi => hN.iv hV (hpg i hi).1 (hpg i hi).2
theorem pg_up {P : Nat → Nat} {m pc q : Nat} (h : ∀ j, j < pc → P j % 64 < 2 ^ m ∧ P j / 64 < 2 ^ m) (hq : q % 64 < 2 ^ m ∧ q / 64 < 2 ^ m) : ∀ j, j < pc + 1 → upN P pc q j % 64 < 2 ^ m ∧ upN P pc q j / 64 < 2 ^ m := by
  intro j hj
  rcases Nat.lt_or_ge j pc with z | z
  · rw [upN_n (by omega)]; exact h j z
  · rw [show j = pc by omega, upN_s]; exact hq
theorem pg_rm {P : Nat → Nat} {m pc k : Nat} (h : ∀ j, j < pc → P j % 64 < 2 ^ m ∧ P j / 64 < 2 ^ m) (hp : 0 < pc) : ∀ j, j < pc - 1 → upN P k (P (pc - 1)) j % 64 < 2 ^ m ∧ upN P k (P (pc - 1)) j / 64 < 2 ^ m := by
  intro j hj
  by_cases z : j = k
  · rw [z, upN_s]; exact h _ (by omega)
  · rw [upN_n z]; exact h j (by omega)
theorem nd_X10_append : ndV yX10_append RX10 1 := by decide +kernel
theorem in_X10_append_X10 : ∀ w ∈ wsX100, w ∈ wsX10_append := fun _ h => List.mem_cons_of_mem _ (List.mem_append_right _ (h))
set_option maxHeartbeats 4000000 in
set_option maxRecDepth 100000 in
theorem c_X10_append {h : Nat} {aX : Nat} {v0 : Value} {v1 : Value} {v2 : Value} {v3 : Value} {v4 : Value} {v5 : Value} {v6 : Value} {v7 : Value} {v8 : Value} {v9 : Value} {v10 : Value} {v11 : Value} {v12 : Value} {v13 : Value} {tl : Nat} {v16 : Value} {v17 : Value} {v18 : Value} {v19 : Value} {v20 : Value} {v21 : Value} {v22 : Value} {v23 : Value} {v24 : Value} {v25 : Value} {v26 : Value} {v27 : Value} {v28 : Value} {tx : Nat → Nat} {w : Int32} {wz : Int} (hwz : w.toInt = wz) (htx : ∀ j, tx j < 128) (htl : tl ≤ 80) : MU l yX10_append wsX10_append 1 22 (dC, dI) (tyK cI cZ cS) [(h, .inr (10, [v0, v1, v2, v3, v4, v5, v6, v7, v8, v9, v10, v11, v12, v13, .ref aX, .int (nI tl), v16, v17, v18, v19, v20, v21, v22, v23, v24, v25, v26, v27, v28])), (aX, .inl (cI, 80, .inl (nA tx)))] [] [.ref h, .int w] (fun rv_ (u_ : Nat × (Nat → Nat)) => rI (fun r => (r = nI (tl + 1) ∧ (0 ≤ wz ∧ wz ≤ 127) ∧ tl < 80 ∧ tl + 1 = u_.1 ∧ upN tx tl wz.toNat = u_.2 ∧ (∀ j, u_.2 j < 128)) ∨ (r = zI (-2) ∧ (¬ (0 ≤ wz ∧ wz ≤ 127)) ∧ tl = u_.1 ∧ tx = u_.2) ∨ (r = zI (-4) ∧ (0 ≤ wz ∧ wz ≤ 127) ∧ 80 ≤ tl ∧ tl = u_.1 ∧ tx = u_.2)) rv_) (fun (u_ : Nat × (Nat → Nat)) => [(h, .inr (10, [v0, v1, v2, v3, v4, v5, v6, v7, v8, v9, v10, v11, v12, v13, .ref aX, .int (nI u_.1), v16, v17, v18, v19, v20, v21, v22, v23, v24, v25, v26, v27, v28])), (aX, .inl (cI, 80, .inl (nA u_.2)))]) := by
  refine mu_of (by decide) rfl (Nat.le_of_ble_eq_true rfl) ?_
  intro pp ee ss mm bb mt cd Q A CFx hP hK hD hS hA hTr hret ls hl
  obtain ⟨hex, hby, hml, hown, hts⟩ := id CFx
  have hl : lv_has ls 2 [(0, .ref h), (1, .int w)] := hl
  refine lv_iload_n hex hby dX10_append_0 rfl (lv_at hl 1 rfl) ?_
  refine lv_iconst (v := nI 0) hex hby dX10_append_1 rfl ?_
  refine lv_bipush (v := nI 127) hex hby dX10_append_2 rfl ?_
  refine ro_Si (As := [.int w, .int (nI 0), .int (nI 127)]) (rest := []) (C := RX10) CFx (c_X10_in (x := w) (xz := w.toInt) (lo := nI 0) (loz := (0 : Int)) (hi := nI 127) (hiz := (127 : Int)) rfl (by rfl) (by rfl)) 3 gX10_append_X10_in rfl nd_X10_in ⟨Nat.le_of_ble_eq_true rfl, Nat.le_of_ble_eq_true rfl⟩ hK hP [] rfl rfl hl.1 rfl (Nat.le_of_ble_eq_true rfl) dX10_append_4 ⟨Nat.le_refl _, Nat.le_refl _⟩ (fun r_1 hr_1 => ?_)
  rcases hr_1 with ⟨rfl, h_2⟩ | ⟨rfl, h_3⟩
  · refine nv_if_ne (tgt := 13) hex hby dX10_append_7 (by decide) (by omega) (fun _ => ?_) (fun c => absurd c (by omega))
    refine lv_aload_n hex hby dX10_append_13 rfl (lv_at hl 0 rfl) ?_
    refine nv_get (v := .int (nI tl)) CFx in_X10_append_X10 hK hP 0 rfl rfl 15 (by decide) (List.mem_of_getElem? (i := 1) rfl) rfl dX10_append_14 ?_
    refine lv_bipush (v := nI 80) hex hby dX10_append_17 rfl ?_
    refine nv_icmp_ne (tgt := 25) hex hby dX10_append_19 (by decide) (by omega) (by omega) (fun c_4 => ?_) (fun c_4 => ?_)
    · obtain ⟨jw_, hjw__, rfl, hjw_e⟩ := ni_of (x := w) (by omega)
      obtain rfl : jw_ = wz.toNat := by omega
      refine lv_aload_n hex hby dX10_append_25 rfl (lv_at hl 0 rfl) ?_
      refine nv_get (v := .ref aX) CFx in_X10_append_X10 hK hP 0 rfl rfl 14 (by decide) (List.mem_of_getElem? (i := 2) rfl) rfl dX10_append_26 ?_
      refine lv_aload_n hex hby dX10_append_29 rfl (lv_at hl 0 rfl) ?_
      refine nv_get (v := .int (nI tl)) CFx in_X10_append_X10 hK hP 0 rfl rfl 15 (by decide) (List.mem_of_getElem? (i := 1) rfl) rfl dX10_append_30 ?_
      refine lv_iload_n hex hby dX10_append_33 rfl (lv_at hl 1 rfl) ?_
      refine nv_iast hex hby hK hP hD hS 1 0 rfl rfl (by omega) (by omega) dX10_append_34 (fun H locs hP hD hS => ?_)
      have hP : va_P (dC, dI) vwCl [(h, .inr (10, [v0, v1, v2, v3, v4, v5, v6, v7, v8, v9, v10, v11, v12, v13, .ref aX, .int (nI tl), v16, v17, v18, v19, v20, v21, v22, v23, v24, v25, v26, v27, v28])), (aX, .inl (cI, 80, .inl (nA (upN tx tl wz.toNat))))] H := hP
      have hD : va_D A [(h, .inr (10, [v0, v1, v2, v3, v4, v5, v6, v7, v8, v9, v10, v11, v12, v13, .ref aX, .int (nI tl), v16, v17, v18, v19, v20, v21, v22, v23, v24, v25, v26, v27, v28])), (aX, .inl (cI, 80, .inl (nA (upN tx tl wz.toNat))))] := hD
      have hB_5 := upN_lt (k := tl) (x := wz.toNat) htx (by omega)
      refine lv_aload_n hex hby dX10_append_35 rfl (lv_at hl 0 rfl) ?_
      refine lv_dup hex hby dX10_append_36 rfl ?_
      refine nv_get (v := .int (nI tl)) CFx in_X10_append_X10 hK hP 0 rfl rfl 15 (by decide) (List.mem_of_getElem? (i := 1) rfl) rfl dX10_append_37 ?_
      refine lv_iconst (v := nI 1) hex hby dX10_append_40 rfl ?_
      refine nv_iadd hex hby dX10_append_41 ?_
      refine nv_put CFx in_X10_append_X10 tyX10 tyX10_ok nmX10 hK hP hD hS 0 rfl rfl 15 (by decide) (List.mem_of_getElem? (i := 1) rfl) rfl (by decide +kernel) (Nat.le_of_ble_eq_true rfl) dX10_append_42 (fun H locs hP hD hS => ?_)
      have hP : va_P (dC, dI) vwCl [(h, .inr (10, [v0, v1, v2, v3, v4, v5, v6, v7, v8, v9, v10, v11, v12, v13, .ref aX, .int (nI (tl + 1)), v16, v17, v18, v19, v20, v21, v22, v23, v24, v25, v26, v27, v28])), (aX, .inl (cI, 80, .inl (nA (upN tx tl wz.toNat))))] H := hP
      have hD : va_D A [(h, .inr (10, [v0, v1, v2, v3, v4, v5, v6, v7, v8, v9, v10, v11, v12, v13, .ref aX, .int (nI (tl + 1)), v16, v17, v18, v19, v20, v21, v22, v23, v24, v25, v26, v27, v28])), (aX, .inl (cI, 80, .inl (nA (upN tx tl wz.toNat))))] := hD
      refine lv_aload_n hex hby dX10_append_45 rfl (lv_at hl 0 rfl) ?_
      refine nv_get (v := .int (nI (tl + 1))) CFx in_X10_append_X10 hK hP 0 rfl rfl 15 (by decide) (List.mem_of_getElem? (i := 1) rfl) rfl dX10_append_46 ?_
      exact hret _ (tl + 1, upN tx tl wz.toNat) _ _ _ _ _ (Or.inl ⟨rfl, _, rfl, rfl, dX10_append_49⟩) ⟨_, rfl, Or.inl ⟨rfl, (by omega), (by omega), rfl, rfl, hB_5⟩⟩ hP hD hS
    · refine lv_bipush (v := zI (-4)) hex hby dX10_append_22 rfl ?_
      exact hret _ (tl, tx) _ _ _ _ _ (Or.inl ⟨rfl, _, rfl, rfl, dX10_append_24⟩) ⟨_, rfl, Or.inr (Or.inr (⟨rfl, (by omega), (by omega), rfl, rfl⟩))⟩ hP hD hS
  · refine nv_if_ne (tgt := 13) hex hby dX10_append_7 (by decide) (by omega) (fun c => absurd c (by omega)) (fun _ => ?_)
    refine lv_bipush (v := zI (-2)) hex hby dX10_append_10 rfl ?_
    exact hret _ (tl, tx) _ _ _ _ _ (Or.inl ⟨rfl, _, rfl, rfl, dX10_append_12⟩) ⟨_, rfl, Or.inr (Or.inl ⟨rfl, (by omega), rfl, rfl⟩)⟩ hP hD hS
theorem nd_X10_clearText : ndV yX10_clearText RX10 0 := by decide +kernel
theorem in_X10_clearText_X10 : ∀ w ∈ wsX100, w ∈ wsX10_clearText := fun _ h => List.mem_cons_of_mem _ (List.mem_append_right _ (h))
set_option maxHeartbeats 4000000 in
set_option maxRecDepth 100000 in
theorem c_X10_clearText {h : Nat} {v0 : Value} {v1 : Value} {v2 : Value} {v3 : Value} {v4 : Value} {v5 : Value} {v6 : Value} {v7 : Value} {v8 : Value} {v9 : Value} {v10 : Value} {v11 : Value} {v12 : Value} {v13 : Value} {v14 : Value} {tl : Nat} {v16 : Value} {v17 : Value} {v18 : Value} {v19 : Value} {v20 : Value} {v21 : Value} {v22 : Value} {v23 : Value} {v24 : Value} {v25 : Value} {v26 : Value} {v27 : Value} {v28 : Value}  : MU l yX10_clearText wsX10_clearText 0 0 (dC, dI) (tyK cI cZ cS) [(h, .inr (10, [v0, v1, v2, v3, v4, v5, v6, v7, v8, v9, v10, v11, v12, v13, v14, .int (nI tl), v16, v17, v18, v19, v20, v21, v22, v23, v24, v25, v26, v27, v28]))] [] [.ref h] (fun rv_ (u_ : Unit) => rI (fun r => r = nI tl) rv_) (fun (u_ : Unit) => [(h, .inr (10, [v0, v1, v2, v3, v4, v5, v6, v7, v8, v9, v10, v11, v12, v13, v14, .int (nI 0), v16, v17, v18, v19, v20, v21, v22, v23, v24, v25, v26, v27, v28]))]) := by
  refine mu_of (by decide) rfl (Nat.le_of_ble_eq_true rfl) ?_
  intro pp ee ss mm bb mt cd Q A CFx hP hK hD hS hA hTr hret ls hl
  obtain ⟨hex, hby, hml, hown, hts⟩ := id CFx
  have hl : lv_has ls 2 [(0, .ref h)] := hl
  refine lv_aload_n hex hby dX10_clearText_0 rfl (lv_at hl 0 rfl) ?_
  refine nv_get (v := .int (nI tl)) CFx in_X10_clearText_X10 hK hP 0 rfl rfl 15 (by decide) (List.mem_of_getElem? (i := 1) rfl) rfl dX10_clearText_1 ?_
  refine lv_istore_n (lv' := [(1, .int (nI tl)), (0, .ref h)]) hex hby dX10_clearText_4 rfl hl (by decide) rfl (fun ls hl => ?_)
  refine lv_aload_n hex hby dX10_clearText_5 rfl (lv_at hl 1 rfl) ?_
  refine lv_iconst (v := nI 0) hex hby dX10_clearText_6 rfl ?_
  refine nv_put CFx in_X10_clearText_X10 tyX10 tyX10_ok nmX10 hK hP hD hS 0 rfl rfl 15 (by decide) (List.mem_of_getElem? (i := 1) rfl) rfl (by decide +kernel) (Nat.le_of_ble_eq_true rfl) dX10_clearText_7 (fun H locs hP hD hS => ?_)
  have hP : va_P (dC, dI) vwCl [(h, .inr (10, [v0, v1, v2, v3, v4, v5, v6, v7, v8, v9, v10, v11, v12, v13, v14, .int (nI 0), v16, v17, v18, v19, v20, v21, v22, v23, v24, v25, v26, v27, v28]))] H := hP
  have hD : va_D A [(h, .inr (10, [v0, v1, v2, v3, v4, v5, v6, v7, v8, v9, v10, v11, v12, v13, v14, .int (nI 0), v16, v17, v18, v19, v20, v21, v22, v23, v24, v25, v26, v27, v28]))] := hD
  refine lv_iload_n hex hby dX10_clearText_10 rfl (lv_at hl 0 rfl) ?_
  exact hret _ () _ _ _ _ _ (Or.inl ⟨rfl, _, rfl, rfl, dX10_clearText_11⟩) ⟨_, rfl, rfl⟩ hP hD hS
theorem nd_X10_pointAt : ndV yX10_pointAt RX10 2 := by decide +kernel
theorem in_X10_pointAt_X10 : ∀ w ∈ wsX100, w ∈ wsX10_pointAt := fun _ h => List.mem_cons_of_mem _ (List.mem_append_right _ (h))
set_option maxHeartbeats 4000000 in
set_option maxRecDepth 100000 in
theorem c_X10_pointAt {h : Nat} {aP : Nat} {fs : List Value} {pc : Nat} {P : Nat → Nat} {x : Nat} {y : Nat} (f_points : fs[8]? = some (.ref aP)) (f_pointMany : fs[9]? = some (.int (nI pc))) (hPb : ∀ j, P j < 4096) (hpc : pc ≤ 40) (hx0 : x < 64) (hy0 : y < 64) : RO l yX10_pointAt wsX10_pointAt 0 0 (dC, dI) (tyK cI cZ cS) [(h, .inr (10, fs)), (aP, .inl (cI, 40, .inl (nA P)))] [.ref h, .int (nI x), .int (nI y)] (rI (fun r => (∃ k : Nat, r = nI k ∧ k < pc ∧ P k = 64 * y + x ∧ (∀ j, j < k → P j ≠ 64 * y + x)) ∨ (r = zI (-1) ∧ (∀ j, j < pc → P j ≠ 64 * y + x)))) := by
  refine ro_of (by decide) rfl (Nat.le_of_ble_eq_true rfl) ?_
  intro pp ee ss mm bb mt cd Q CFx hP hK hret ls hl
  obtain ⟨hex, hby, hml, hown, hts⟩ := id CFx
  have hl : lv_has ls 4 [(0, .ref h), (1, .int (nI x)), (2, .int (nI y))] := hl
  refine lv_iconst (v := nI 0) hex hby dX10_pointAt_0 rfl ?_
  refine lv_istore_n (lv' := [(3, .int (nI 0)), (0, .ref h), (1, .int (nI x)), (2, .int (nI y))]) hex hby dX10_pointAt_1 rfl hl (by decide) rfl (fun ls hl => ?_)
  have loop2 : ∀ (nn : Nat) (i : Nat), (pc - i) < nn → (i ≤ pc) → (∀ j, j < i → P j ≠ 64 * y + x) → ∀ ls : Array Slot, lv_has ls 4 [(3, .int (nI i)), (0, .ref h), (1, .int (nI x)), (2, .int (nI y))] → W pp l ee (rmO 0 0) ss mm ([.ref h, .int (nI x), .int (nI y)] : List Value).toArray bb mt cd ss.heap [] 0 0 Q (F0 mm 2 ls []) := by
    intro nn
    induction nn with
    | zero => intro i hms2; exact absurd hms2 (Nat.not_lt_zero _)
    | succ nn ih2 =>
      intro i hms2 hi hno ls hl
      refine lv_iload_n hex hby dX10_pointAt_2 rfl (lv_at hl 0 rfl) ?_
      refine lv_aload_n hex hby dX10_pointAt_3 rfl (lv_at hl 1 rfl) ?_
      refine nv_get (v := .int (nI pc)) CFx in_X10_pointAt_X10 hK hP 0 rfl rfl 9 (by decide) (List.mem_of_getElem? (i := 1) rfl) f_pointMany dX10_pointAt_4 ?_
      refine nv_icmp_ge (tgt := 33) hex hby dX10_pointAt_7 (by decide) (by omega) (by omega) (fun c_1 => ?_) (fun c_1 => ?_)
      · refine lv_iconst (v := zI (-1)) hex hby dX10_pointAt_33 rfl ?_
        exact hret _ _ _ _ (Or.inl ⟨rfl, _, rfl, rfl, dX10_pointAt_34⟩) ⟨_, rfl, Or.inr ⟨rfl, (fun j hj => hno j (by omega))⟩⟩
      · refine lv_aload_n hex hby dX10_pointAt_10 rfl (lv_at hl 1 rfl) ?_
        refine nv_get (v := .ref aP) CFx in_X10_pointAt_X10 hK hP 0 rfl rfl 8 (by decide) (List.mem_of_getElem? (i := 2) rfl) f_points dX10_pointAt_11 ?_
        refine lv_iload_n hex hby dX10_pointAt_14 rfl (lv_at hl 0 rfl) ?_
        refine nv_iald hex hby hK hP 1 0 rfl rfl (by omega) (by omega) dX10_pointAt_15 ?_
        have hb_2 := hPb i
        refine lv_bipush (v := nI 64) hex hby dX10_pointAt_16 rfl ?_
        refine lv_iload_n hex hby dX10_pointAt_18 rfl (lv_at hl 3 rfl) ?_
        refine nv_imul hex hby dX10_pointAt_19 ?_
        refine lv_iload_n hex hby dX10_pointAt_20 rfl (lv_at hl 2 rfl) ?_
        refine nv_iadd hex hby dX10_pointAt_21 ?_
        refine nv_icmp_ne (tgt := 27) hex hby dX10_pointAt_22 (by decide) (by omega) (by omega) (fun c_3 => ?_) (fun c_3 => ?_)
        · refine lv_iinc (v := nI (i + 1)) (lv' := [(3, .int (nI (i + 1))), (0, .ref h), (1, .int (nI x)), (2, .int (nI y))]) hex hby dX10_pointAt_27 hl (k := 0) rfl (ni_inc _) (by decide) rfl (fun ls hl => ?_)
          refine lv_goto (tgt := 2) hex hby dX10_pointAt_30 (by decide) ?_
          have pf_4 : ∀ j, j < (i + 1) → P j ≠ 64 * y + x := by
            intro j hj
            rcases Nat.lt_or_ge j i with q | q
            · exact hno j q
            · rw [show j = i by omega]; omega
          exact ih2 (i + 1) (by omega) (by omega) pf_4 _ (lv_sub hl [0, 1, 2, 3] rfl)
        · refine lv_iload_n hex hby dX10_pointAt_25 rfl (lv_at hl 0 rfl) ?_
          exact hret _ _ _ _ (Or.inl ⟨rfl, _, rfl, rfl, dX10_pointAt_26⟩) ⟨_, rfl, Or.inl ⟨i, rfl, (by omega), (by omega), hno⟩⟩
  exact loop2 _ 0 (Nat.lt_succ_self _) (by omega) (fun j hj => absurd hj (by omega)) _ (lv_sub hl [0, 1, 2, 3] rfl)
theorem nd_X10_addPoint : ndV yX10_addPoint RX10 2 := by decide +kernel
theorem in_X10_addPoint_X10 : ∀ w ∈ wsX100, w ∈ wsX10_addPoint := fun _ h => List.mem_cons_of_mem _ (List.mem_append_right _ (h))
set_option maxHeartbeats 4000000 in
set_option maxRecDepth 100000 in
theorem c_X10_addPoint {h : Nat} {aP : Nat} {aI : Nat} {aS : Nat} {aL : Nat} {aO : Nat} {m : Nat} {v1 : Value} {v2 : Value} {v3 : Value} {v4 : Value} {v5 : Value} {v6 : Value} {v7 : Value} {pc : Nat} {bk : Nat} {c : Nat} {v14 : Value} {v15 : Value} {v16 : Value} {v17 : Value} {v18 : Value} {v19 : Value} {v20 : Value} {v22 : Value} {v23 : Value} {v24 : Value} {v25 : Value} {v27 : Value} {v28 : Value} {P : Nat → Nat} {ix : Nat → Nat} {S : Nat → Nat} {Lv : Nat → Nat} {O : Nat → Nat} {x : Int32} {xz : Int} {y : Int32} {yz : Int} {T : Nat → Nat} {ns : Nat} {g : Nat → Nat} (hxz : x.toInt = xz) (hyz : y.toInt = yz) (hPb : ∀ j, P j < 4096) (hpc : pc ≤ 40) (hix : ∀ j, ix j < 4096) (hSb : ∀ j, S j < 4096) (hLb : ∀ j, Lv j < 7) (hOb : ∀ j, O j < 4096) (hm6 : m ≤ 6) (hV : VT T ns) (hN : NumOK T m g ix) (hpg : ∀ j, j < pc → P j % 64 < 2 ^ m ∧ P j / 64 < 2 ^ m) (hbk : bk ≤ 8) : MU l yX10_addPoint wsX10_addPoint 2 46 (dC, dI) (tyK cI cZ cS) [(h, .inr (10, [.int (nI m), v1, v2, v3, v4, v5, v6, v7, .ref aP, .int (nI pc), .int (nI bk), .ref aS, .ref aL, .int (nI c), v14, v15, v16, v17, v18, v19, v20, .ref aI, v22, v23, v24, v25, .ref aO, v27, v28])), (aP, .inl (cI, 40, .inl (nA P))), (aI, .inl (cI, 4096, .inl (nA ix))), (aS, .inl (cI, 4096, .inl (nA S))), (aL, .inl (cI, 4096, .inl (nA Lv))), (aO, .inl (cI, 4096, .inl (nA O)))] [] [.ref h, .int x, .int y] (fun rv_ (u_ : Nat × (Nat → Nat) × Nat × (Nat → Nat) × (Nat → Nat) × (Nat → Nat)) => rI (fun r => (∃ st' : Nat → Nat, ∃ lv' : Nat → Nat, r = nI (pc + 1) ∧ (0 ≤ xz ∧ xz < ((2 ^ m : Nat) : Int) ∧ 0 ≤ yz ∧ yz < ((2 ^ m : Nat) : Int)) ∧ (∀ j, j < pc → P j ≠ 64 * yz.toNat + xz.toNat) ∧ pc < 40 ∧ pc + 1 = u_.1 ∧ upN P pc (64 * yz.toNat + xz.toNat) = u_.2.1 ∧ (∀ j, j < u_.1 → u_.2.1 j % 64 < 2 ^ m ∧ u_.2.1 j / 64 < 2 ^ m) ∧ (∀ j, u_.2.1 j < 4096) ∧ DivC m u_.1 bk (ptv T m u_.2.1) u_.2.2.1 st' lv' ∧ AG u_.2.2.1 st' lv' u_.2.2.2.1 u_.2.2.2.2.1 ∧ LfOK u_.2.2.1 st' u_.2.2.2.2.2 ∧ (∀ j, u_.2.2.2.1 j < 4096) ∧ (∀ j, u_.2.2.2.2.1 j < 7) ∧ (∀ j, u_.2.2.2.2.2 j < 4096)) ∨ (r = zI (-1) ∧ (¬ (0 ≤ xz ∧ xz < ((2 ^ m : Nat) : Int) ∧ 0 ≤ yz ∧ yz < ((2 ^ m : Nat) : Int))) ∧ pc = u_.1 ∧ P = u_.2.1 ∧ c = u_.2.2.1 ∧ S = u_.2.2.2.1 ∧ Lv = u_.2.2.2.2.1 ∧ O = u_.2.2.2.2.2) ∨ (r = zI (-3) ∧ (0 ≤ xz ∧ xz < ((2 ^ m : Nat) : Int) ∧ 0 ≤ yz ∧ yz < ((2 ^ m : Nat) : Int)) ∧ HasP P pc (64 * yz.toNat + xz.toNat) ∧ pc = u_.1 ∧ P = u_.2.1 ∧ c = u_.2.2.1 ∧ S = u_.2.2.2.1 ∧ Lv = u_.2.2.2.2.1 ∧ O = u_.2.2.2.2.2) ∨ (r = zI (-4) ∧ (0 ≤ xz ∧ xz < ((2 ^ m : Nat) : Int) ∧ 0 ≤ yz ∧ yz < ((2 ^ m : Nat) : Int)) ∧ (∀ j, j < pc → P j ≠ 64 * yz.toNat + xz.toNat) ∧ 40 ≤ pc ∧ pc = u_.1 ∧ P = u_.2.1 ∧ c = u_.2.2.1 ∧ S = u_.2.2.2.1 ∧ Lv = u_.2.2.2.2.1 ∧ O = u_.2.2.2.2.2)) rv_) (fun (u_ : Nat × (Nat → Nat) × Nat × (Nat → Nat) × (Nat → Nat) × (Nat → Nat)) => [(h, .inr (10, [.int (nI m), v1, v2, v3, v4, v5, v6, v7, .ref aP, .int (nI u_.1), .int (nI bk), .ref aS, .ref aL, .int (nI u_.2.2.1), v14, v15, v16, v17, v18, v19, v20, .ref aI, v22, v23, v24, v25, .ref aO, v27, v28])), (aP, .inl (cI, 40, .inl (nA u_.2.1))), (aI, .inl (cI, 4096, .inl (nA ix))), (aS, .inl (cI, 4096, .inl (nA u_.2.2.2.1))), (aL, .inl (cI, 4096, .inl (nA u_.2.2.2.2.1))), (aO, .inl (cI, 4096, .inl (nA u_.2.2.2.2.2)))]) := by
  refine mu_of (by decide) rfl (Nat.le_of_ble_eq_true rfl) ?_
  intro pp ee ss mm bb mt cd Q A CFx hP hK hD hS hA hTr hret ls hl
  obtain ⟨hex, hby, hml, hown, hts⟩ := id CFx
  have hl : lv_has ls 3 [(0, .ref h), (1, .int x), (2, .int y)] := hl
  have h26 := p2_6 hm6
  have h46 := p4_6 hm6
  have h4p := p4_pos m
  refine lv_aload_n hex hby dX10_addPoint_0 rfl (lv_at hl 0 rfl) ?_
  refine lv_iload_n hex hby dX10_addPoint_1 rfl (lv_at hl 1 rfl) ?_
  refine lv_iload_n hex hby dX10_addPoint_2 rfl (lv_at hl 2 rfl) ?_
  refine ro_Vi (As := [.int x, .int y]) (rest := []) CFx (c_X10_isCell (h := h) (fs := [.int (nI m), v1, v2, v3, v4, v5, v6, v7, .ref aP, .int (nI pc), .int (nI bk), .ref aS, .ref aL, .int (nI c), v14, v15, v16, v17, v18, v19, v20, .ref aI, v22, v23, v24, v25, .ref aO, v27, v28]) (m := m) (x := x) (xz := x.toInt) (y := y) (yz := y.toInt) rfl rfl rfl hm6) 2 gX10_addPoint_X10_isCell rfl nd_X10_isCell ⟨Nat.le_of_ble_eq_true rfl, Nat.le_of_ble_eq_true rfl⟩ hK hP [0] rfl rfl rfl rfl hl.1 rfl (Nat.le_of_ble_eq_true rfl) dX10_addPoint_3 ⟨Nat.le_refl _, Nat.le_refl _⟩ (fun r_1 hr_1 => ?_)
  rcases hr_1 with ⟨rfl, h_2⟩ | ⟨rfl, h_3⟩
  · refine nv_if_ne (tgt := 11) hex hby dX10_addPoint_6 (by decide) (by omega) (fun _ => ?_) (fun c => absurd c (by omega))
    obtain ⟨jx_, hjx__, rfl, hjx_e⟩ := ni_of (x := x) (by omega)
    obtain rfl : jx_ = xz.toNat := by omega
    obtain ⟨jy_, hjy__, rfl, hjy_e⟩ := ni_of (x := y) (by omega)
    obtain rfl : jy_ = yz.toNat := by omega
    refine lv_aload_n hex hby dX10_addPoint_11 rfl (lv_at hl 0 rfl) ?_
    refine lv_iload_n hex hby dX10_addPoint_12 rfl (lv_at hl 1 rfl) ?_
    refine lv_iload_n hex hby dX10_addPoint_13 rfl (lv_at hl 2 rfl) ?_
    refine ro_Vi (As := [.int (nI xz.toNat), .int (nI yz.toNat)]) (rest := []) CFx (c_X10_pointAt (h := h) (aP := aP) (fs := [.int (nI m), v1, v2, v3, v4, v5, v6, v7, .ref aP, .int (nI pc), .int (nI bk), .ref aS, .ref aL, .int (nI c), v14, v15, v16, v17, v18, v19, v20, .ref aI, v22, v23, v24, v25, .ref aO, v27, v28]) (pc := pc) (P := P) (x := xz.toNat) (y := yz.toNat) rfl rfl hPb hpc (by omega) (by omega)) 2 gX10_addPoint_X10_pointAt rfl nd_X10_pointAt ⟨Nat.le_of_ble_eq_true rfl, Nat.le_of_ble_eq_true rfl⟩ hK hP [0, 1] rfl rfl rfl rfl hl.1 rfl (Nat.le_of_ble_eq_true rfl) dX10_addPoint_14 ⟨Nat.le_refl _, Nat.le_refl _⟩ (fun r_4 hr_4 => ?_)
    rcases hr_4 with ⟨k, rfl, hk1, hk2, hk3⟩ | ⟨rfl, hno⟩
    · refine nv_if_lt (tgt := 23) hex hby dX10_addPoint_17 (by decide) (by omega) ?_
      refine lv_bipush (v := zI (-3)) hex hby dX10_addPoint_20 rfl ?_
      exact hret _ (pc, P, c, S, Lv, O) _ _ _ _ _ (Or.inl ⟨rfl, _, rfl, rfl, dX10_addPoint_22⟩) ⟨_, rfl, Or.inr (Or.inr (Or.inl ⟨rfl, (by omega), ⟨k, hk1, hk2⟩, rfl, rfl, rfl, rfl, rfl, rfl⟩))⟩ hP hD hS
    · refine ni_if_lt (tgt := 23) (a := -1) hex hby dX10_addPoint_17 (by decide) (zI_toInt (by omega) (by omega)) (fun c_5 => ?_) (fun c_5 => absurd c_5 (by omega))
      refine lv_aload_n hex hby dX10_addPoint_23 rfl (lv_at hl 0 rfl) ?_
      refine nv_get (v := .int (nI pc)) CFx in_X10_addPoint_X10 hK hP 0 rfl rfl 9 (by decide) (List.mem_of_getElem? (i := 1) rfl) rfl dX10_addPoint_24 ?_
      refine lv_bipush (v := nI 40) hex hby dX10_addPoint_27 rfl ?_
      refine nv_icmp_ne (tgt := 35) hex hby dX10_addPoint_29 (by decide) (by omega) (by omega) (fun c_6 => ?_) (fun c_6 => ?_)
      · refine lv_aload_n hex hby dX10_addPoint_35 rfl (lv_at hl 0 rfl) ?_
        refine nv_get (v := .ref aP) CFx in_X10_addPoint_X10 hK hP 0 rfl rfl 8 (by decide) (List.mem_of_getElem? (i := 2) rfl) rfl dX10_addPoint_36 ?_
        refine lv_aload_n hex hby dX10_addPoint_39 rfl (lv_at hl 0 rfl) ?_
        refine nv_get (v := .int (nI pc)) CFx in_X10_addPoint_X10 hK hP 0 rfl rfl 9 (by decide) (List.mem_of_getElem? (i := 1) rfl) rfl dX10_addPoint_40 ?_
        refine lv_bipush (v := nI 64) hex hby dX10_addPoint_43 rfl ?_
        refine lv_iload_n hex hby dX10_addPoint_45 rfl (lv_at hl 2 rfl) ?_
        refine nv_imul hex hby dX10_addPoint_46 ?_
        refine lv_iload_n hex hby dX10_addPoint_47 rfl (lv_at hl 1 rfl) ?_
        refine nv_iadd hex hby dX10_addPoint_48 ?_
        refine nv_iast hex hby hK hP hD hS 1 0 rfl rfl (by omega) (by omega) dX10_addPoint_49 (fun H locs hP hD hS => ?_)
        have hP : va_P (dC, dI) vwCl [(h, .inr (10, [.int (nI m), v1, v2, v3, v4, v5, v6, v7, .ref aP, .int (nI pc), .int (nI bk), .ref aS, .ref aL, .int (nI c), v14, v15, v16, v17, v18, v19, v20, .ref aI, v22, v23, v24, v25, .ref aO, v27, v28])), (aP, .inl (cI, 40, .inl (nA (upN P pc (64 * yz.toNat + xz.toNat))))), (aI, .inl (cI, 4096, .inl (nA ix))), (aS, .inl (cI, 4096, .inl (nA S))), (aL, .inl (cI, 4096, .inl (nA Lv))), (aO, .inl (cI, 4096, .inl (nA O)))] H := hP
        have hD : va_D A [(h, .inr (10, [.int (nI m), v1, v2, v3, v4, v5, v6, v7, .ref aP, .int (nI pc), .int (nI bk), .ref aS, .ref aL, .int (nI c), v14, v15, v16, v17, v18, v19, v20, .ref aI, v22, v23, v24, v25, .ref aO, v27, v28])), (aP, .inl (cI, 40, .inl (nA (upN P pc (64 * yz.toNat + xz.toNat))))), (aI, .inl (cI, 4096, .inl (nA ix))), (aS, .inl (cI, 4096, .inl (nA S))), (aL, .inl (cI, 4096, .inl (nA Lv))), (aO, .inl (cI, 4096, .inl (nA O)))] := hD
        have hB_7 := upN_lt (k := pc) (x := 64 * yz.toNat + xz.toNat) hPb (by omega)
        refine lv_aload_n hex hby dX10_addPoint_50 rfl (lv_at hl 0 rfl) ?_
        refine lv_dup hex hby dX10_addPoint_51 rfl ?_
        refine nv_get (v := .int (nI pc)) CFx in_X10_addPoint_X10 hK hP 0 rfl rfl 9 (by decide) (List.mem_of_getElem? (i := 1) rfl) rfl dX10_addPoint_52 ?_
        refine lv_iconst (v := nI 1) hex hby dX10_addPoint_55 rfl ?_
        refine nv_iadd hex hby dX10_addPoint_56 ?_
        refine nv_put CFx in_X10_addPoint_X10 tyX10 tyX10_ok nmX10 hK hP hD hS 0 rfl rfl 9 (by decide) (List.mem_of_getElem? (i := 1) rfl) rfl (by decide +kernel) (Nat.le_of_ble_eq_true rfl) dX10_addPoint_57 (fun H locs hP hD hS => ?_)
        have hP : va_P (dC, dI) vwCl [(h, .inr (10, [.int (nI m), v1, v2, v3, v4, v5, v6, v7, .ref aP, .int (nI (pc + 1)), .int (nI bk), .ref aS, .ref aL, .int (nI c), v14, v15, v16, v17, v18, v19, v20, .ref aI, v22, v23, v24, v25, .ref aO, v27, v28])), (aP, .inl (cI, 40, .inl (nA (upN P pc (64 * yz.toNat + xz.toNat))))), (aI, .inl (cI, 4096, .inl (nA ix))), (aS, .inl (cI, 4096, .inl (nA S))), (aL, .inl (cI, 4096, .inl (nA Lv))), (aO, .inl (cI, 4096, .inl (nA O)))] H := hP
        have hD : va_D A [(h, .inr (10, [.int (nI m), v1, v2, v3, v4, v5, v6, v7, .ref aP, .int (nI (pc + 1)), .int (nI bk), .ref aS, .ref aL, .int (nI c), v14, v15, v16, v17, v18, v19, v20, .ref aI, v22, v23, v24, v25, .ref aO, v27, v28])), (aP, .inl (cI, 40, .inl (nA (upN P pc (64 * yz.toNat + xz.toNat))))), (aI, .inl (cI, 4096, .inl (nA ix))), (aS, .inl (cI, 4096, .inl (nA S))), (aL, .inl (cI, 4096, .inl (nA Lv))), (aO, .inl (cI, 4096, .inl (nA O)))] := hD
        have hpg1 := pg_up hpg (q := 64 * yz.toNat + xz.toNat) (by omega)
        refine lv_aload_n hex hby dX10_addPoint_60 rfl (lv_at hl 0 rfl) ?_
        have hpb1 := upN_lt (k := pc) (x := 64 * yz.toNat + xz.toNat) hPb (show 64 * yz.toNat + xz.toNat < 4096 by omega)
        refine mu_Vv (As := []) (rest := []) (wr := []) CFx (c_X10_divides (h := h) (aP := aP) (aI := aI) (aS := aS) (aL := aL) (aO := aO) (m := m) (v1 := v1) (v2 := v2) (v3 := v3) (v4 := v4) (v5 := v5) (v6 := v6) (v7 := v7) (pc := pc + 1) (bk := bk) (v13 := .int (nI c)) (v14 := v14) (v15 := v15) (v16 := v16) (v17 := v17) (v18 := v18) (v19 := v19) (v20 := v20) (v22 := v22) (v23 := v23) (v24 := v24) (v25 := v25) (v27 := v27) (v28 := v28) (P := upN P pc (64 * yz.toNat + xz.toNat)) (ix := ix) (S0 := S) (L0 := Lv) (O0 := O) hpb1 (by omega) hix hSb hLb hOb hm6 hbk) 0 gX10_addPoint_X10_divides rfl nd_X10_divides ⟨Nat.le_of_ble_eq_true rfl, Nat.le_of_ble_eq_true rfl⟩ hK hP hD hS hA [0, 1, 2, 3, 4, 5] [] rfl rfl (by decide) (by decide) (by decide) TR.nil rfl rfl rfl hl.1 rfl (Nat.le_of_ble_eq_true rfl) dX10_addPoint_61 ⟨Nat.le_refl _, Nat.le_refl _⟩ (fun u H locs hr_8 hP hD hS => ?_)
        obtain ⟨c1, S1, L1, O1⟩ := u
        dsimp only at hr_8 hP hD
        have hP : va_P (dC, dI) vwCl [(h, .inr (10, [.int (nI m), v1, v2, v3, v4, v5, v6, v7, .ref aP, .int (nI (pc + 1)), .int (nI bk), .ref aS, .ref aL, .int (nI c1), v14, v15, v16, v17, v18, v19, v20, .ref aI, v22, v23, v24, v25, .ref aO, v27, v28])), (aP, .inl (cI, 40, .inl (nA (upN P pc (64 * yz.toNat + xz.toNat))))), (aI, .inl (cI, 4096, .inl (nA ix))), (aS, .inl (cI, 4096, .inl (nA S1))), (aL, .inl (cI, 4096, .inl (nA L1))), (aO, .inl (cI, 4096, .inl (nA O1)))] H := hP
        have hD : va_D A [(h, .inr (10, [.int (nI m), v1, v2, v3, v4, v5, v6, v7, .ref aP, .int (nI (pc + 1)), .int (nI bk), .ref aS, .ref aL, .int (nI c1), v14, v15, v16, v17, v18, v19, v20, .ref aI, v22, v23, v24, v25, .ref aO, v27, v28])), (aP, .inl (cI, 40, .inl (nA (upN P pc (64 * yz.toNat + xz.toNat))))), (aI, .inl (cI, 4096, .inl (nA ix))), (aS, .inl (cI, 4096, .inl (nA S1))), (aL, .inl (cI, 4096, .inl (nA L1))), (aO, .inl (cI, 4096, .inl (nA O1)))] := hD
        obtain ⟨sn, ln, hd1, hd2, hd3, hd4, hd5, hd6⟩ := hr_8
        refine lv_aload_n hex hby dX10_addPoint_64 rfl (lv_at hl 0 rfl) ?_
        refine nv_get (v := .int (nI (pc + 1))) CFx in_X10_addPoint_X10 hK hP 0 rfl rfl 9 (by decide) (List.mem_of_getElem? (i := 1) rfl) rfl dX10_addPoint_65 ?_
        exact hret _ ((pc + 1), (upN P pc (64 * yz.toNat + xz.toNat)), c1, S1, L1, O1) _ _ _ _ _ (Or.inl ⟨rfl, _, rfl, rfl, dX10_addPoint_68⟩) ⟨_, rfl, Or.inl ⟨sn, ln, rfl, (by omega), hno, (by omega), rfl, rfl, hpg1, hpb1, (hd1.congr (pg_iv hV hN hpg1)), hd2, hd3, hd4, hd5, hd6⟩⟩ hP hD hS
      · refine lv_bipush (v := zI (-4)) hex hby dX10_addPoint_32 rfl ?_
        exact hret _ (pc, P, c, S, Lv, O) _ _ _ _ _ (Or.inl ⟨rfl, _, rfl, rfl, dX10_addPoint_34⟩) ⟨_, rfl, Or.inr (Or.inr (Or.inr (⟨rfl, (by omega), hno, (by omega), rfl, rfl, rfl, rfl, rfl, rfl⟩)))⟩ hP hD hS
  · refine nv_if_ne (tgt := 11) hex hby dX10_addPoint_6 (by decide) (by omega) (fun c => absurd c (by omega)) (fun _ => ?_)
    refine lv_iconst (v := zI (-1)) hex hby dX10_addPoint_9 rfl ?_
    exact hret _ (pc, P, c, S, Lv, O) _ _ _ _ _ (Or.inl ⟨rfl, _, rfl, rfl, dX10_addPoint_10⟩) ⟨_, rfl, Or.inr (Or.inl ⟨rfl, (by omega), rfl, rfl, rfl, rfl, rfl, rfl⟩)⟩ hP hD hS
theorem nd_X10_removePoint : ndV yX10_removePoint RX10 2 := by decide +kernel
theorem in_X10_removePoint_X10 : ∀ w ∈ wsX100, w ∈ wsX10_removePoint := fun _ h => List.mem_cons_of_mem _ (List.mem_append_right _ (h))
set_option maxHeartbeats 4000000 in
set_option maxRecDepth 100000 in
theorem c_X10_removePoint {h : Nat} {aP : Nat} {aI : Nat} {aS : Nat} {aL : Nat} {aO : Nat} {m : Nat} {v1 : Value} {v2 : Value} {v3 : Value} {v4 : Value} {v5 : Value} {v6 : Value} {v7 : Value} {pc : Nat} {bk : Nat} {c : Nat} {v14 : Value} {v15 : Value} {v16 : Value} {v17 : Value} {v18 : Value} {v19 : Value} {v20 : Value} {v22 : Value} {v23 : Value} {v24 : Value} {v25 : Value} {v27 : Value} {v28 : Value} {P : Nat → Nat} {ix : Nat → Nat} {S : Nat → Nat} {Lv : Nat → Nat} {O : Nat → Nat} {x : Int32} {xz : Int} {y : Int32} {yz : Int} {T : Nat → Nat} {ns : Nat} {g : Nat → Nat} (hxz : x.toInt = xz) (hyz : y.toInt = yz) (hPb : ∀ j, P j < 4096) (hpc : pc ≤ 40) (hix : ∀ j, ix j < 4096) (hSb : ∀ j, S j < 4096) (hLb : ∀ j, Lv j < 7) (hOb : ∀ j, O j < 4096) (hm6 : m ≤ 6) (hV : VT T ns) (hN : NumOK T m g ix) (hpg : ∀ j, j < pc → P j % 64 < 2 ^ m ∧ P j / 64 < 2 ^ m) (hbk : bk ≤ 8) : MU l yX10_removePoint wsX10_removePoint 2 46 (dC, dI) (tyK cI cZ cS) [(h, .inr (10, [.int (nI m), v1, v2, v3, v4, v5, v6, v7, .ref aP, .int (nI pc), .int (nI bk), .ref aS, .ref aL, .int (nI c), v14, v15, v16, v17, v18, v19, v20, .ref aI, v22, v23, v24, v25, .ref aO, v27, v28])), (aP, .inl (cI, 40, .inl (nA P))), (aI, .inl (cI, 4096, .inl (nA ix))), (aS, .inl (cI, 4096, .inl (nA S))), (aL, .inl (cI, 4096, .inl (nA Lv))), (aO, .inl (cI, 4096, .inl (nA O)))] [] [.ref h, .int x, .int y] (fun rv_ (u_ : Nat × (Nat → Nat) × Nat × (Nat → Nat) × (Nat → Nat) × (Nat → Nat)) => rI (fun r => (∃ st' : Nat → Nat, ∃ lv' : Nat → Nat, ∃ k : Nat, r = nI (pc - 1) ∧ (0 ≤ xz ∧ xz < ((2 ^ m : Nat) : Int) ∧ 0 ≤ yz ∧ yz < ((2 ^ m : Nat) : Int)) ∧ k < pc ∧ P k = 64 * yz.toNat + xz.toNat ∧ (∀ j, j < k → P j ≠ 64 * yz.toNat + xz.toNat) ∧ pc - 1 = u_.1 ∧ upN P k (P (pc - 1)) = u_.2.1 ∧ (∀ j, j < u_.1 → u_.2.1 j % 64 < 2 ^ m ∧ u_.2.1 j / 64 < 2 ^ m) ∧ (∀ j, u_.2.1 j < 4096) ∧ DivC m u_.1 bk (ptv T m u_.2.1) u_.2.2.1 st' lv' ∧ AG u_.2.2.1 st' lv' u_.2.2.2.1 u_.2.2.2.2.1 ∧ LfOK u_.2.2.1 st' u_.2.2.2.2.2 ∧ (∀ j, u_.2.2.2.1 j < 4096) ∧ (∀ j, u_.2.2.2.2.1 j < 7) ∧ (∀ j, u_.2.2.2.2.2 j < 4096)) ∨ (r = zI (-1) ∧ (¬ (0 ≤ xz ∧ xz < ((2 ^ m : Nat) : Int) ∧ 0 ≤ yz ∧ yz < ((2 ^ m : Nat) : Int))) ∧ pc = u_.1 ∧ P = u_.2.1 ∧ c = u_.2.2.1 ∧ S = u_.2.2.2.1 ∧ Lv = u_.2.2.2.2.1 ∧ O = u_.2.2.2.2.2) ∨ (r = zI (-3) ∧ (0 ≤ xz ∧ xz < ((2 ^ m : Nat) : Int) ∧ 0 ≤ yz ∧ yz < ((2 ^ m : Nat) : Int)) ∧ (∀ j, j < pc → P j ≠ 64 * yz.toNat + xz.toNat) ∧ pc = u_.1 ∧ P = u_.2.1 ∧ c = u_.2.2.1 ∧ S = u_.2.2.2.1 ∧ Lv = u_.2.2.2.2.1 ∧ O = u_.2.2.2.2.2)) rv_) (fun (u_ : Nat × (Nat → Nat) × Nat × (Nat → Nat) × (Nat → Nat) × (Nat → Nat)) => [(h, .inr (10, [.int (nI m), v1, v2, v3, v4, v5, v6, v7, .ref aP, .int (nI u_.1), .int (nI bk), .ref aS, .ref aL, .int (nI u_.2.2.1), v14, v15, v16, v17, v18, v19, v20, .ref aI, v22, v23, v24, v25, .ref aO, v27, v28])), (aP, .inl (cI, 40, .inl (nA u_.2.1))), (aI, .inl (cI, 4096, .inl (nA ix))), (aS, .inl (cI, 4096, .inl (nA u_.2.2.2.1))), (aL, .inl (cI, 4096, .inl (nA u_.2.2.2.2.1))), (aO, .inl (cI, 4096, .inl (nA u_.2.2.2.2.2)))]) := by
  refine mu_of (by decide) rfl (Nat.le_of_ble_eq_true rfl) ?_
  intro pp ee ss mm bb mt cd Q A CFx hP hK hD hS hA hTr hret ls hl
  obtain ⟨hex, hby, hml, hown, hts⟩ := id CFx
  have hl : lv_has ls 4 [(0, .ref h), (1, .int x), (2, .int y)] := hl
  have h26 := p2_6 hm6
  have h46 := p4_6 hm6
  have h4p := p4_pos m
  refine lv_aload_n hex hby dX10_removePoint_0 rfl (lv_at hl 0 rfl) ?_
  refine lv_iload_n hex hby dX10_removePoint_1 rfl (lv_at hl 1 rfl) ?_
  refine lv_iload_n hex hby dX10_removePoint_2 rfl (lv_at hl 2 rfl) ?_
  refine ro_Vi (As := [.int x, .int y]) (rest := []) CFx (c_X10_isCell (h := h) (fs := [.int (nI m), v1, v2, v3, v4, v5, v6, v7, .ref aP, .int (nI pc), .int (nI bk), .ref aS, .ref aL, .int (nI c), v14, v15, v16, v17, v18, v19, v20, .ref aI, v22, v23, v24, v25, .ref aO, v27, v28]) (m := m) (x := x) (xz := x.toInt) (y := y) (yz := y.toInt) rfl rfl rfl hm6) 2 gX10_removePoint_X10_isCell rfl nd_X10_isCell ⟨Nat.le_of_ble_eq_true rfl, Nat.le_of_ble_eq_true rfl⟩ hK hP [0] rfl rfl rfl rfl hl.1 rfl (Nat.le_of_ble_eq_true rfl) dX10_removePoint_3 ⟨Nat.le_refl _, Nat.le_refl _⟩ (fun r_1 hr_1 => ?_)
  rcases hr_1 with ⟨rfl, h_2⟩ | ⟨rfl, h_3⟩
  · refine nv_if_ne (tgt := 11) hex hby dX10_removePoint_6 (by decide) (by omega) (fun _ => ?_) (fun c => absurd c (by omega))
    obtain ⟨jx_, hjx__, rfl, hjx_e⟩ := ni_of (x := x) (by omega)
    obtain rfl : jx_ = xz.toNat := by omega
    obtain ⟨jy_, hjy__, rfl, hjy_e⟩ := ni_of (x := y) (by omega)
    obtain rfl : jy_ = yz.toNat := by omega
    refine lv_aload_n hex hby dX10_removePoint_11 rfl (lv_at hl 0 rfl) ?_
    refine lv_iload_n hex hby dX10_removePoint_12 rfl (lv_at hl 1 rfl) ?_
    refine lv_iload_n hex hby dX10_removePoint_13 rfl (lv_at hl 2 rfl) ?_
    refine ro_Vi (As := [.int (nI xz.toNat), .int (nI yz.toNat)]) (rest := []) CFx (c_X10_pointAt (h := h) (aP := aP) (fs := [.int (nI m), v1, v2, v3, v4, v5, v6, v7, .ref aP, .int (nI pc), .int (nI bk), .ref aS, .ref aL, .int (nI c), v14, v15, v16, v17, v18, v19, v20, .ref aI, v22, v23, v24, v25, .ref aO, v27, v28]) (pc := pc) (P := P) (x := xz.toNat) (y := yz.toNat) rfl rfl hPb hpc (by omega) (by omega)) 2 gX10_removePoint_X10_pointAt rfl nd_X10_pointAt ⟨Nat.le_of_ble_eq_true rfl, Nat.le_of_ble_eq_true rfl⟩ hK hP [0, 1] rfl rfl rfl rfl hl.1 rfl (Nat.le_of_ble_eq_true rfl) dX10_removePoint_14 ⟨Nat.le_refl _, Nat.le_refl _⟩ (fun r_4 hr_4 => ?_)
    rcases hr_4 with ⟨k, rfl, hk1, hk2, hk3⟩ | ⟨rfl, hno⟩
    · refine lv_istore_n (lv' := [(3, .int (nI k)), (0, .ref h), (1, .int (nI xz.toNat)), (2, .int (nI yz.toNat))]) hex hby dX10_removePoint_17 rfl hl (by decide) rfl (fun ls hl => ?_)
      refine lv_iload_n hex hby dX10_removePoint_18 rfl (lv_at hl 0 rfl) ?_
      refine nv_if_ge (tgt := 25) hex hby dX10_removePoint_19 (by decide) (by omega) ?_
      refine lv_aload_n hex hby dX10_removePoint_25 rfl (lv_at hl 1 rfl) ?_
      refine lv_dup hex hby dX10_removePoint_26 rfl ?_
      refine nv_get (v := .int (nI pc)) CFx in_X10_removePoint_X10 hK hP 0 rfl rfl 9 (by decide) (List.mem_of_getElem? (i := 1) rfl) rfl dX10_removePoint_27 ?_
      refine lv_iconst (v := nI 1) hex hby dX10_removePoint_30 rfl ?_
      refine nv_isub hex hby dX10_removePoint_31 (by omega) ?_
      refine nv_put CFx in_X10_removePoint_X10 tyX10 tyX10_ok nmX10 hK hP hD hS 0 rfl rfl 9 (by decide) (List.mem_of_getElem? (i := 1) rfl) rfl (by decide +kernel) (Nat.le_of_ble_eq_true rfl) dX10_removePoint_32 (fun H locs hP hD hS => ?_)
      have hP : va_P (dC, dI) vwCl [(h, .inr (10, [.int (nI m), v1, v2, v3, v4, v5, v6, v7, .ref aP, .int (nI (pc - 1)), .int (nI bk), .ref aS, .ref aL, .int (nI c), v14, v15, v16, v17, v18, v19, v20, .ref aI, v22, v23, v24, v25, .ref aO, v27, v28])), (aP, .inl (cI, 40, .inl (nA P))), (aI, .inl (cI, 4096, .inl (nA ix))), (aS, .inl (cI, 4096, .inl (nA S))), (aL, .inl (cI, 4096, .inl (nA Lv))), (aO, .inl (cI, 4096, .inl (nA O)))] H := hP
      have hD : va_D A [(h, .inr (10, [.int (nI m), v1, v2, v3, v4, v5, v6, v7, .ref aP, .int (nI (pc - 1)), .int (nI bk), .ref aS, .ref aL, .int (nI c), v14, v15, v16, v17, v18, v19, v20, .ref aI, v22, v23, v24, v25, .ref aO, v27, v28])), (aP, .inl (cI, 40, .inl (nA P))), (aI, .inl (cI, 4096, .inl (nA ix))), (aS, .inl (cI, 4096, .inl (nA S))), (aL, .inl (cI, 4096, .inl (nA Lv))), (aO, .inl (cI, 4096, .inl (nA O)))] := hD
      refine lv_aload_n hex hby dX10_removePoint_35 rfl (lv_at hl 1 rfl) ?_
      refine nv_get (v := .ref aP) CFx in_X10_removePoint_X10 hK hP 0 rfl rfl 8 (by decide) (List.mem_of_getElem? (i := 2) rfl) rfl dX10_removePoint_36 ?_
      refine lv_iload_n hex hby dX10_removePoint_39 rfl (lv_at hl 0 rfl) ?_
      refine lv_aload_n hex hby dX10_removePoint_40 rfl (lv_at hl 1 rfl) ?_
      refine nv_get (v := .ref aP) CFx in_X10_removePoint_X10 hK hP 0 rfl rfl 8 (by decide) (List.mem_of_getElem? (i := 2) rfl) rfl dX10_removePoint_41 ?_
      refine lv_aload_n hex hby dX10_removePoint_44 rfl (lv_at hl 1 rfl) ?_
      refine nv_get (v := .int (nI (pc - 1))) CFx in_X10_removePoint_X10 hK hP 0 rfl rfl 9 (by decide) (List.mem_of_getElem? (i := 1) rfl) rfl dX10_removePoint_45 ?_
      refine nv_iald hex hby hK hP 1 0 rfl rfl (by omega) (by omega) dX10_removePoint_48 ?_
      have hb_5 := hPb (pc - 1)
      refine nv_iast hex hby hK hP hD hS 1 0 rfl rfl (by omega) (by omega) dX10_removePoint_49 (fun H locs hP hD hS => ?_)
      have hP : va_P (dC, dI) vwCl [(h, .inr (10, [.int (nI m), v1, v2, v3, v4, v5, v6, v7, .ref aP, .int (nI (pc - 1)), .int (nI bk), .ref aS, .ref aL, .int (nI c), v14, v15, v16, v17, v18, v19, v20, .ref aI, v22, v23, v24, v25, .ref aO, v27, v28])), (aP, .inl (cI, 40, .inl (nA (upN P k (P (pc - 1)))))), (aI, .inl (cI, 4096, .inl (nA ix))), (aS, .inl (cI, 4096, .inl (nA S))), (aL, .inl (cI, 4096, .inl (nA Lv))), (aO, .inl (cI, 4096, .inl (nA O)))] H := hP
      have hD : va_D A [(h, .inr (10, [.int (nI m), v1, v2, v3, v4, v5, v6, v7, .ref aP, .int (nI (pc - 1)), .int (nI bk), .ref aS, .ref aL, .int (nI c), v14, v15, v16, v17, v18, v19, v20, .ref aI, v22, v23, v24, v25, .ref aO, v27, v28])), (aP, .inl (cI, 40, .inl (nA (upN P k (P (pc - 1)))))), (aI, .inl (cI, 4096, .inl (nA ix))), (aS, .inl (cI, 4096, .inl (nA S))), (aL, .inl (cI, 4096, .inl (nA Lv))), (aO, .inl (cI, 4096, .inl (nA O)))] := hD
      have hB_6 := upN_lt (k := k) (x := P (pc - 1)) hPb (by omega)
      have hpg1 := pg_rm (k := k) hpg (by omega)
      refine lv_aload_n hex hby dX10_removePoint_50 rfl (lv_at hl 1 rfl) ?_
      have hpb1 := upN_lt (k := k) (x := P (pc - 1)) hPb (hPb _)
      refine mu_Vv (As := []) (rest := []) (wr := []) CFx (c_X10_divides (h := h) (aP := aP) (aI := aI) (aS := aS) (aL := aL) (aO := aO) (m := m) (v1 := v1) (v2 := v2) (v3 := v3) (v4 := v4) (v5 := v5) (v6 := v6) (v7 := v7) (pc := pc - 1) (bk := bk) (v13 := .int (nI c)) (v14 := v14) (v15 := v15) (v16 := v16) (v17 := v17) (v18 := v18) (v19 := v19) (v20 := v20) (v22 := v22) (v23 := v23) (v24 := v24) (v25 := v25) (v27 := v27) (v28 := v28) (P := upN P k (P (pc - 1))) (ix := ix) (S0 := S) (L0 := Lv) (O0 := O) hpb1 (by omega) hix hSb hLb hOb hm6 hbk) 0 gX10_removePoint_X10_divides rfl nd_X10_divides ⟨Nat.le_of_ble_eq_true rfl, Nat.le_of_ble_eq_true rfl⟩ hK hP hD hS hA [0, 1, 2, 3, 4, 5] [] rfl rfl (by decide) (by decide) (by decide) TR.nil rfl rfl rfl hl.1 rfl (Nat.le_of_ble_eq_true rfl) dX10_removePoint_51 ⟨Nat.le_refl _, Nat.le_refl _⟩ (fun u H locs hr_7 hP hD hS => ?_)
      obtain ⟨c1, S1, L1, O1⟩ := u
      dsimp only at hr_7 hP hD
      have hP : va_P (dC, dI) vwCl [(h, .inr (10, [.int (nI m), v1, v2, v3, v4, v5, v6, v7, .ref aP, .int (nI (pc - 1)), .int (nI bk), .ref aS, .ref aL, .int (nI c1), v14, v15, v16, v17, v18, v19, v20, .ref aI, v22, v23, v24, v25, .ref aO, v27, v28])), (aP, .inl (cI, 40, .inl (nA (upN P k (P (pc - 1)))))), (aI, .inl (cI, 4096, .inl (nA ix))), (aS, .inl (cI, 4096, .inl (nA S1))), (aL, .inl (cI, 4096, .inl (nA L1))), (aO, .inl (cI, 4096, .inl (nA O1)))] H := hP
      have hD : va_D A [(h, .inr (10, [.int (nI m), v1, v2, v3, v4, v5, v6, v7, .ref aP, .int (nI (pc - 1)), .int (nI bk), .ref aS, .ref aL, .int (nI c1), v14, v15, v16, v17, v18, v19, v20, .ref aI, v22, v23, v24, v25, .ref aO, v27, v28])), (aP, .inl (cI, 40, .inl (nA (upN P k (P (pc - 1)))))), (aI, .inl (cI, 4096, .inl (nA ix))), (aS, .inl (cI, 4096, .inl (nA S1))), (aL, .inl (cI, 4096, .inl (nA L1))), (aO, .inl (cI, 4096, .inl (nA O1)))] := hD
      obtain ⟨sn, ln, hd1, hd2, hd3, hd4, hd5, hd6⟩ := hr_7
      refine lv_aload_n hex hby dX10_removePoint_54 rfl (lv_at hl 1 rfl) ?_
      refine nv_get (v := .int (nI (pc - 1))) CFx in_X10_removePoint_X10 hK hP 0 rfl rfl 9 (by decide) (List.mem_of_getElem? (i := 1) rfl) rfl dX10_removePoint_55 ?_
      exact hret _ ((pc - 1), (upN P k (P (pc - 1))), c1, S1, L1, O1) _ _ _ _ _ (Or.inl ⟨rfl, _, rfl, rfl, dX10_removePoint_58⟩) ⟨_, rfl, Or.inl ⟨sn, ln, k, rfl, (by omega), hk1, hk2, hk3, rfl, rfl, hpg1, hpb1, (hd1.congr (pg_iv hV hN hpg1)), hd2, hd3, hd4, hd5, hd6⟩⟩ hP hD hS
    · refine lv_istore_n (lv' := [(3, .int (zI (-1))), (0, .ref h), (1, .int (nI xz.toNat)), (2, .int (nI yz.toNat))]) hex hby dX10_removePoint_17 rfl hl (by decide) rfl (fun ls hl => ?_)
      refine lv_iload_n hex hby dX10_removePoint_18 rfl (lv_at hl 0 rfl) ?_
      refine ni_if_ge (tgt := 25) (a := -1) hex hby dX10_removePoint_19 (by decide) (zI_toInt (by omega) (by omega)) (fun c_12 => absurd c_12 (by omega)) (fun c_12 => ?_)
      refine lv_bipush (v := zI (-3)) hex hby dX10_removePoint_22 rfl ?_
      exact hret _ (pc, P, c, S, Lv, O) _ _ _ _ _ (Or.inl ⟨rfl, _, rfl, rfl, dX10_removePoint_24⟩) ⟨_, rfl, Or.inr (Or.inr (⟨rfl, (by omega), hno, rfl, rfl, rfl, rfl, rfl, rfl⟩))⟩ hP hD hS
  · refine nv_if_ne (tgt := 11) hex hby dX10_removePoint_6 (by decide) (by omega) (fun c => absurd c (by omega)) (fun _ => ?_)
    refine lv_iconst (v := zI (-1)) hex hby dX10_removePoint_9 rfl ?_
    exact hret _ (pc, P, c, S, Lv, O) _ _ _ _ _ (Or.inl ⟨rfl, _, rfl, rfl, dX10_removePoint_10⟩) ⟨_, rfl, Or.inr (Or.inl ⟨rfl, (by omega), rfl, rfl, rfl, rfl, rfl, rfl⟩)⟩ hP hD hS
theorem nd_X10_setBucket : ndV yX10_setBucket RX10 1 := by decide +kernel
theorem in_X10_setBucket_X10 : ∀ w ∈ wsX100, w ∈ wsX10_setBucket := fun _ h => List.mem_cons_of_mem _ (List.mem_append_right _ (h))
set_option maxHeartbeats 4000000 in
set_option maxRecDepth 100000 in
theorem c_X10_setBucket {h : Nat} {aP : Nat} {aI : Nat} {aS : Nat} {aL : Nat} {aO : Nat} {m : Nat} {v1 : Value} {v2 : Value} {v3 : Value} {v4 : Value} {v5 : Value} {v6 : Value} {v7 : Value} {pc : Nat} {bk : Nat} {c : Nat} {v14 : Value} {v15 : Value} {v16 : Value} {v17 : Value} {v18 : Value} {v19 : Value} {v20 : Value} {v22 : Value} {v23 : Value} {v24 : Value} {v25 : Value} {v27 : Value} {v28 : Value} {P : Nat → Nat} {ix : Nat → Nat} {S : Nat → Nat} {Lv : Nat → Nat} {O : Nat → Nat} {w : Int32} {wz : Int} {T : Nat → Nat} {ns : Nat} {g : Nat → Nat} (hwz : w.toInt = wz) (hPb : ∀ j, P j < 4096) (hpc : pc ≤ 40) (hix : ∀ j, ix j < 4096) (hSb : ∀ j, S j < 4096) (hLb : ∀ j, Lv j < 7) (hOb : ∀ j, O j < 4096) (hm6 : m ≤ 6) (hV : VT T ns) (hN : NumOK T m g ix) (hpg : ∀ j, j < pc → P j % 64 < 2 ^ m ∧ P j / 64 < 2 ^ m) (hbk : bk ≤ 8) : MU l yX10_setBucket wsX10_setBucket 2 46 (dC, dI) (tyK cI cZ cS) [(h, .inr (10, [.int (nI m), v1, v2, v3, v4, v5, v6, v7, .ref aP, .int (nI pc), .int (nI bk), .ref aS, .ref aL, .int (nI c), v14, v15, v16, v17, v18, v19, v20, .ref aI, v22, v23, v24, v25, .ref aO, v27, v28])), (aP, .inl (cI, 40, .inl (nA P))), (aI, .inl (cI, 4096, .inl (nA ix))), (aS, .inl (cI, 4096, .inl (nA S))), (aL, .inl (cI, 4096, .inl (nA Lv))), (aO, .inl (cI, 4096, .inl (nA O)))] [] [.ref h, .int w] (fun rv_ (u_ : Nat × Nat × (Nat → Nat) × (Nat → Nat) × (Nat → Nat)) => rI (fun r => (∃ st' : Nat → Nat, ∃ lv' : Nat → Nat, r = nI bk ∧ (1 ≤ wz ∧ wz ≤ 8) ∧ wz.toNat = u_.1 ∧ DivC m pc u_.1 (ptv T m P) u_.2.1 st' lv' ∧ AG u_.2.1 st' lv' u_.2.2.1 u_.2.2.2.1 ∧ LfOK u_.2.1 st' u_.2.2.2.2 ∧ (∀ j, u_.2.2.1 j < 4096) ∧ (∀ j, u_.2.2.2.1 j < 7) ∧ (∀ j, u_.2.2.2.2 j < 4096)) ∨ (r = zI (-2) ∧ (¬ (1 ≤ wz ∧ wz ≤ 8)) ∧ bk = u_.1 ∧ c = u_.2.1 ∧ S = u_.2.2.1 ∧ Lv = u_.2.2.2.1 ∧ O = u_.2.2.2.2)) rv_) (fun (u_ : Nat × Nat × (Nat → Nat) × (Nat → Nat) × (Nat → Nat)) => [(h, .inr (10, [.int (nI m), v1, v2, v3, v4, v5, v6, v7, .ref aP, .int (nI pc), .int (nI u_.1), .ref aS, .ref aL, .int (nI u_.2.1), v14, v15, v16, v17, v18, v19, v20, .ref aI, v22, v23, v24, v25, .ref aO, v27, v28])), (aP, .inl (cI, 40, .inl (nA P))), (aI, .inl (cI, 4096, .inl (nA ix))), (aS, .inl (cI, 4096, .inl (nA u_.2.2.1))), (aL, .inl (cI, 4096, .inl (nA u_.2.2.2.1))), (aO, .inl (cI, 4096, .inl (nA u_.2.2.2.2)))]) := by
  refine mu_of (by decide) rfl (Nat.le_of_ble_eq_true rfl) ?_
  intro pp ee ss mm bb mt cd Q A CFx hP hK hD hS hA hTr hret ls hl
  obtain ⟨hex, hby, hml, hown, hts⟩ := id CFx
  have hl : lv_has ls 3 [(0, .ref h), (1, .int w)] := hl
  have h26 := p2_6 hm6
  have h46 := p4_6 hm6
  have h4p := p4_pos m
  refine lv_iload_n hex hby dX10_setBucket_0 rfl (lv_at hl 1 rfl) ?_
  refine lv_iconst (v := nI 1) hex hby dX10_setBucket_1 rfl ?_
  refine lv_bipush (v := nI 8) hex hby dX10_setBucket_2 rfl ?_
  refine ro_Si (As := [.int w, .int (nI 1), .int (nI 8)]) (rest := []) (C := RX10) CFx (c_X10_in (x := w) (xz := w.toInt) (lo := nI 1) (loz := (1 : Int)) (hi := nI 8) (hiz := (8 : Int)) rfl (by rfl) (by rfl)) 3 gX10_setBucket_X10_in rfl nd_X10_in ⟨Nat.le_of_ble_eq_true rfl, Nat.le_of_ble_eq_true rfl⟩ hK hP [] rfl rfl hl.1 rfl (Nat.le_of_ble_eq_true rfl) dX10_setBucket_4 ⟨Nat.le_refl _, Nat.le_refl _⟩ (fun r_1 hr_1 => ?_)
  rcases hr_1 with ⟨rfl, h_2⟩ | ⟨rfl, h_3⟩
  · refine nv_if_ne (tgt := 13) hex hby dX10_setBucket_7 (by decide) (by omega) (fun _ => ?_) (fun c => absurd c (by omega))
    obtain ⟨jw_, hjw__, rfl, hjw_e⟩ := ni_of (x := w) (by omega)
    obtain rfl : jw_ = wz.toNat := by omega
    refine lv_aload_n hex hby dX10_setBucket_13 rfl (lv_at hl 0 rfl) ?_
    refine nv_get (v := .int (nI bk)) CFx in_X10_setBucket_X10 hK hP 0 rfl rfl 10 (by decide) (List.mem_of_getElem? (i := 1) rfl) rfl dX10_setBucket_14 ?_
    refine lv_istore_n (lv' := [(2, .int (nI bk)), (0, .ref h), (1, .int (nI wz.toNat))]) hex hby dX10_setBucket_17 rfl hl (by decide) rfl (fun ls hl => ?_)
    refine lv_aload_n hex hby dX10_setBucket_18 rfl (lv_at hl 1 rfl) ?_
    refine lv_iload_n hex hby dX10_setBucket_19 rfl (lv_at hl 2 rfl) ?_
    refine nv_put CFx in_X10_setBucket_X10 tyX10 tyX10_ok nmX10 hK hP hD hS 0 rfl rfl 10 (by decide) (List.mem_of_getElem? (i := 1) rfl) rfl (by decide +kernel) (Nat.le_of_ble_eq_true rfl) dX10_setBucket_20 (fun H locs hP hD hS => ?_)
    have hP : va_P (dC, dI) vwCl [(h, .inr (10, [.int (nI m), v1, v2, v3, v4, v5, v6, v7, .ref aP, .int (nI pc), .int (nI wz.toNat), .ref aS, .ref aL, .int (nI c), v14, v15, v16, v17, v18, v19, v20, .ref aI, v22, v23, v24, v25, .ref aO, v27, v28])), (aP, .inl (cI, 40, .inl (nA P))), (aI, .inl (cI, 4096, .inl (nA ix))), (aS, .inl (cI, 4096, .inl (nA S))), (aL, .inl (cI, 4096, .inl (nA Lv))), (aO, .inl (cI, 4096, .inl (nA O)))] H := hP
    have hD : va_D A [(h, .inr (10, [.int (nI m), v1, v2, v3, v4, v5, v6, v7, .ref aP, .int (nI pc), .int (nI wz.toNat), .ref aS, .ref aL, .int (nI c), v14, v15, v16, v17, v18, v19, v20, .ref aI, v22, v23, v24, v25, .ref aO, v27, v28])), (aP, .inl (cI, 40, .inl (nA P))), (aI, .inl (cI, 4096, .inl (nA ix))), (aS, .inl (cI, 4096, .inl (nA S))), (aL, .inl (cI, 4096, .inl (nA Lv))), (aO, .inl (cI, 4096, .inl (nA O)))] := hD
    refine lv_aload_n hex hby dX10_setBucket_23 rfl (lv_at hl 1 rfl) ?_
    refine mu_Vv (As := []) (rest := []) (wr := []) CFx (c_X10_divides (h := h) (aP := aP) (aI := aI) (aS := aS) (aL := aL) (aO := aO) (m := m) (v1 := v1) (v2 := v2) (v3 := v3) (v4 := v4) (v5 := v5) (v6 := v6) (v7 := v7) (pc := pc) (bk := wz.toNat) (v13 := .int (nI c)) (v14 := v14) (v15 := v15) (v16 := v16) (v17 := v17) (v18 := v18) (v19 := v19) (v20 := v20) (v22 := v22) (v23 := v23) (v24 := v24) (v25 := v25) (v27 := v27) (v28 := v28) (P := P) (ix := ix) (S0 := S) (L0 := Lv) (O0 := O) hPb hpc hix hSb hLb hOb hm6 (by omega)) 0 gX10_setBucket_X10_divides rfl nd_X10_divides ⟨Nat.le_of_ble_eq_true rfl, Nat.le_of_ble_eq_true rfl⟩ hK hP hD hS hA [0, 1, 2, 3, 4, 5] [] rfl rfl (by decide) (by decide) (by decide) TR.nil rfl rfl rfl hl.1 rfl (Nat.le_of_ble_eq_true rfl) dX10_setBucket_24 ⟨Nat.le_refl _, Nat.le_refl _⟩ (fun u H locs hr_4 hP hD hS => ?_)
    obtain ⟨c1, S1, L1, O1⟩ := u
    dsimp only at hr_4 hP hD
    have hP : va_P (dC, dI) vwCl [(h, .inr (10, [.int (nI m), v1, v2, v3, v4, v5, v6, v7, .ref aP, .int (nI pc), .int (nI wz.toNat), .ref aS, .ref aL, .int (nI c1), v14, v15, v16, v17, v18, v19, v20, .ref aI, v22, v23, v24, v25, .ref aO, v27, v28])), (aP, .inl (cI, 40, .inl (nA P))), (aI, .inl (cI, 4096, .inl (nA ix))), (aS, .inl (cI, 4096, .inl (nA S1))), (aL, .inl (cI, 4096, .inl (nA L1))), (aO, .inl (cI, 4096, .inl (nA O1)))] H := hP
    have hD : va_D A [(h, .inr (10, [.int (nI m), v1, v2, v3, v4, v5, v6, v7, .ref aP, .int (nI pc), .int (nI wz.toNat), .ref aS, .ref aL, .int (nI c1), v14, v15, v16, v17, v18, v19, v20, .ref aI, v22, v23, v24, v25, .ref aO, v27, v28])), (aP, .inl (cI, 40, .inl (nA P))), (aI, .inl (cI, 4096, .inl (nA ix))), (aS, .inl (cI, 4096, .inl (nA S1))), (aL, .inl (cI, 4096, .inl (nA L1))), (aO, .inl (cI, 4096, .inl (nA O1)))] := hD
    obtain ⟨sn, ln, hd1, hd2, hd3, hd4, hd5, hd6⟩ := hr_4
    refine lv_iload_n hex hby dX10_setBucket_27 rfl (lv_at hl 0 rfl) ?_
    exact hret _ (wz.toNat, c1, S1, L1, O1) _ _ _ _ _ (Or.inl ⟨rfl, _, rfl, rfl, dX10_setBucket_28⟩) ⟨_, rfl, Or.inl ⟨sn, ln, rfl, (by omega), rfl, (hd1.congr (pg_iv hV hN hpg)), hd2, hd3, hd4, hd5, hd6⟩⟩ hP hD hS
  · refine nv_if_ne (tgt := 13) hex hby dX10_setBucket_7 (by decide) (by omega) (fun c => absurd c (by omega)) (fun _ => ?_)
    refine lv_bipush (v := zI (-2)) hex hby dX10_setBucket_10 rfl ?_
    exact hret _ (bk, c, S, Lv, O) _ _ _ _ _ (Or.inl ⟨rfl, _, rfl, rfl, dX10_setBucket_12⟩) ⟨_, rfl, Or.inr ⟨rfl, (by omega), rfl, rfl, rfl, rfl, rfl⟩⟩ hP hD hS
end MST
