section PTS
variable {l : Launch} {dC : Nat → ClassId} {dI : Nat → Nat → Nat} {cI cZ cS : ClassId}
/-- the nearest point so far along the curve, -1 if there is none -/
def nrs (q : Nat → Nat) (own : Nat) : Nat → Int
  | 0 => -1
  | i + 1 => if nrs q own i = -1 ∨ ((q i : Int) - own).natAbs < (nrs q own i - own).natAbs ∨ (((q i : Int) - own).natAbs = (nrs q own i - own).natAbs ∧ (q i : Int) < nrs q own i) then (q i : Int) else nrs q own i
theorem nrs_rng {q : Nat → Nat} {B : Nat} (h : ∀ j, q j < B) (own : Nat) : ∀ i, -1 ≤ nrs q own i ∧ nrs q own i < (B : Int)
  | 0 => by unfold nrs; have := h 0; omega
  | i + 1 => by
    have ih := nrs_rng h own i
    have := h i
    unfold nrs
    split <;> omega
theorem nd_X3_find : ndV yX3_find RX3 2 := by decide +kernel
theorem in_X3_find_X3 : ∀ w ∈ wsX30, w ∈ wsX3_find := fun _ h => List.mem_cons_of_mem _ (List.mem_append_right _ (h))
set_option maxHeartbeats 4000000 in
set_option maxRecDepth 100000 in
theorem c_X3_find {hq : Nat} {aP : Nat} {fq : List Value} {pc : Nat} {P : Nat → Nat} {x : Nat} {y : Nat} (fpc : fq[0]? = some (.int (nI pc))) (faP : fq[1]? = some (.ref aP)) (hPb : ∀ j, P j < 4096) (hpc : pc ≤ 40) (hx0 : x < 64) (hy0 : y < 64) : RO l yX3_find wsX3_find 0 0 (dC, dI) (tyK cI cZ cS) [(hq, .inr (3, fq)), (aP, .inl (cI, 40, .inl (nA P)))] [.ref hq, .int (nI x), .int (nI y)] (rI (fun r => (∃ k : Nat, r = nI k ∧ k < pc ∧ P k = y * 64 + x ∧ (∀ j, j < k → P j ≠ y * 64 + x)) ∨ (r = zI (-1) ∧ (∀ j, j < pc → P j ≠ y * 64 + x)))) := by
  refine ro_of (by decide) rfl (Nat.le_of_ble_eq_true rfl) ?_
  intro pp ee ss mm bb mt cd Q CFx hP hK hret ls hl
  obtain ⟨hex, hby, hml, hown, hts⟩ := id CFx
  have hl : lv_has ls 4 [(0, .ref hq), (1, .int (nI x)), (2, .int (nI y))] := hl
  refine lv_iconst (v := nI 0) hex hby dX3_find_0 rfl ?_
  refine lv_istore_n (lv' := [(3, .int (nI 0)), (0, .ref hq), (1, .int (nI x)), (2, .int (nI y))]) hex hby dX3_find_1 rfl hl (by decide) rfl (fun ls hl => ?_)
  have loop2 : ∀ (nn : Nat) (i : Nat), (pc - i) < nn → (i ≤ pc) → (∀ j, j < i → P j ≠ y * 64 + x) → ∀ ls : Array Slot, lv_has ls 4 [(3, .int (nI i)), (0, .ref hq), (1, .int (nI x)), (2, .int (nI y))] → W pp l ee (rmO 0 0) ss mm ([.ref hq, .int (nI x), .int (nI y)] : List Value).toArray bb mt cd ss.heap [] 0 0 Q (F0 mm 2 ls []) := by
    intro nn
    induction nn with
    | zero => intro i hms2; exact absurd hms2 (Nat.not_lt_zero _)
    | succ nn ih2 =>
      intro i hms2 hi hno ls hl
      refine lv_iload_n hex hby dX3_find_2 rfl (lv_at hl 0 rfl) ?_
      refine lv_aload_n hex hby dX3_find_3 rfl (lv_at hl 1 rfl) ?_
      refine nv_get (v := .int (nI pc)) CFx in_X3_find_X3 hK hP 0 rfl rfl 0 (by decide) (List.mem_of_getElem? (i := 1) rfl) fpc dX3_find_4 ?_
      refine nv_icmp_ge (tgt := 33) hex hby dX3_find_7 (by decide) (by omega) (by omega) (fun c_1 => ?_) (fun c_1 => ?_)
      · refine lv_iconst (v := zI (-1)) hex hby dX3_find_33 rfl ?_
        exact hret _ _ _ _ (Or.inl ⟨rfl, _, rfl, rfl, dX3_find_34⟩) ⟨_, rfl, Or.inr ⟨rfl, (fun j hj => hno j (by omega))⟩⟩
      · refine lv_aload_n hex hby dX3_find_10 rfl (lv_at hl 1 rfl) ?_
        refine nv_get (v := .ref aP) CFx in_X3_find_X3 hK hP 0 rfl rfl 1 (by decide) (List.mem_of_getElem? (i := 2) rfl) faP dX3_find_11 ?_
        refine lv_iload_n hex hby dX3_find_14 rfl (lv_at hl 0 rfl) ?_
        refine nv_iald hex hby hK hP 1 0 rfl rfl (by omega) (by omega) dX3_find_15 ?_
        have hb_2 := hPb i
        refine lv_iload_n hex hby dX3_find_16 rfl (lv_at hl 3 rfl) ?_
        refine lv_bipush (v := nI 64) hex hby dX3_find_17 rfl ?_
        refine nv_imul hex hby dX3_find_19 ?_
        refine lv_iload_n hex hby dX3_find_20 rfl (lv_at hl 2 rfl) ?_
        refine nv_iadd hex hby dX3_find_21 ?_
        refine nv_icmp_ne (tgt := 27) hex hby dX3_find_22 (by decide) (by omega) (by omega) (fun c_3 => ?_) (fun c_3 => ?_)
        · refine lv_iinc (v := nI (i + 1)) (lv' := [(3, .int (nI (i + 1))), (0, .ref hq), (1, .int (nI x)), (2, .int (nI y))]) hex hby dX3_find_27 hl (k := 0) rfl (ni_inc _) (by decide) rfl (fun ls hl => ?_)
          refine lv_goto (tgt := 2) hex hby dX3_find_30 (by decide) ?_
          have pf_4 : ∀ j, j < (i + 1) → P j ≠ y * 64 + x := by
            intro j hj
            rcases Nat.lt_or_ge j i with q | q
            · exact hno j q
            · rw [show j = i by omega]; omega
          exact ih2 (i + 1) (by omega) (by omega) pf_4 _ (lv_sub hl [0, 1, 2, 3] rfl)
        · refine lv_iload_n hex hby dX3_find_25 rfl (lv_at hl 0 rfl) ?_
          exact hret _ _ _ _ (Or.inl ⟨rfl, _, rfl, rfl, dX3_find_26⟩) ⟨_, rfl, Or.inl ⟨i, rfl, (by omega), (by omega), hno⟩⟩
  exact loop2 _ 0 (Nat.lt_succ_self _) (by omega) (fun j hj => absurd hj (by omega)) _ (lv_sub hl [0, 1, 2, 3] rfl)
theorem nd_X3_add : ndV yX3_add RX3 2 := by decide +kernel
theorem in_X3_add_X3 : ∀ w ∈ wsX30, w ∈ wsX3_add := fun _ h => List.mem_cons_of_mem _ (List.mem_append_right _ (h))
set_option maxHeartbeats 4000000 in
set_option maxRecDepth 100000 in
theorem c_X3_add {hq : Nat} {aP : Nat} {pc : Nat} {P : Nat → Nat} {x : Nat} {y : Nat} (hPb : ∀ j, P j < 4096) (hpc : pc ≤ 40) (hx0 : x < 64) (hy0 : y < 64) : MU l yX3_add wsX3_add 0 0 (dC, dI) (tyK cI cZ cS) [(hq, .inr (3, [.int (nI pc), .ref aP])), (aP, .inl (cI, 40, .inl (nA P)))] [] [.ref hq, .int (nI x), .int (nI y)] (fun rv_ (u_ : Nat × (Nat → Nat)) => rI (fun r => (r = nI 1 ∧ pc < 40 ∧ pc + 1 = u_.1 ∧ upN P pc (y * 64 + x) = u_.2) ∨ (r = nI 0 ∧ 40 ≤ pc ∧ pc = u_.1 ∧ P = u_.2)) rv_) (fun (u_ : Nat × (Nat → Nat)) => [(hq, .inr (3, [.int (nI u_.1), .ref aP])), (aP, .inl (cI, 40, .inl (nA u_.2)))]) := by
  refine mu_of (by decide) rfl (Nat.le_of_ble_eq_true rfl) ?_
  intro pp ee ss mm bb mt cd Q A CFx hP hK hD hS hA hTr hret ls hl
  obtain ⟨hex, hby, hml, hown, hts⟩ := id CFx
  have hl : lv_has ls 3 [(0, .ref hq), (1, .int (nI x)), (2, .int (nI y))] := hl
  refine lv_aload_n hex hby dX3_add_0 rfl (lv_at hl 0 rfl) ?_
  refine nv_get (v := .int (nI pc)) CFx in_X3_add_X3 hK hP 0 rfl rfl 0 (by decide) (List.mem_of_getElem? (i := 1) rfl) rfl dX3_add_1 ?_
  refine lv_bipush (v := nI 40) hex hby dX3_add_4 rfl ?_
  refine nv_icmp_lt (tgt := 11) hex hby dX3_add_6 (by decide) (by omega) (by omega) (fun c_1 => ?_) (fun c_1 => ?_)
  · refine lv_aload_n hex hby dX3_add_11 rfl (lv_at hl 0 rfl) ?_
    refine nv_get (v := .ref aP) CFx in_X3_add_X3 hK hP 0 rfl rfl 1 (by decide) (List.mem_of_getElem? (i := 2) rfl) rfl dX3_add_12 ?_
    refine lv_aload_n hex hby dX3_add_15 rfl (lv_at hl 0 rfl) ?_
    refine nv_get (v := .int (nI pc)) CFx in_X3_add_X3 hK hP 0 rfl rfl 0 (by decide) (List.mem_of_getElem? (i := 1) rfl) rfl dX3_add_16 ?_
    refine lv_iload_n hex hby dX3_add_19 rfl (lv_at hl 2 rfl) ?_
    refine lv_bipush (v := nI 64) hex hby dX3_add_20 rfl ?_
    refine nv_imul hex hby dX3_add_22 ?_
    refine lv_iload_n hex hby dX3_add_23 rfl (lv_at hl 1 rfl) ?_
    refine nv_iadd hex hby dX3_add_24 ?_
    refine nv_iast hex hby hK hP hD hS 1 0 rfl rfl (by omega) (by omega) dX3_add_25 (fun H locs hP hD hS => ?_)
    have hP : va_P (dC, dI) vwCl [(hq, .inr (3, [.int (nI pc), .ref aP])), (aP, .inl (cI, 40, .inl (nA (upN P pc (y * 64 + x)))))] H := hP
    have hD : va_D A [(hq, .inr (3, [.int (nI pc), .ref aP])), (aP, .inl (cI, 40, .inl (nA (upN P pc (y * 64 + x)))))] := hD
    have hB_2 := upN_lt (k := pc) (x := y * 64 + x) hPb (by omega)
    refine lv_aload_n hex hby dX3_add_26 rfl (lv_at hl 0 rfl) ?_
    refine lv_dup hex hby dX3_add_27 rfl ?_
    refine nv_get (v := .int (nI pc)) CFx in_X3_add_X3 hK hP 0 rfl rfl 0 (by decide) (List.mem_of_getElem? (i := 1) rfl) rfl dX3_add_28 ?_
    refine lv_iconst (v := nI 1) hex hby dX3_add_31 rfl ?_
    refine nv_iadd hex hby dX3_add_32 ?_
    refine nv_put CFx in_X3_add_X3 tyX3 tyX3_ok nmX3 hK hP hD hS 0 rfl rfl 0 (by decide) (List.mem_of_getElem? (i := 1) rfl) rfl (by decide +kernel) (Nat.le_of_ble_eq_true rfl) dX3_add_33 (fun H locs hP hD hS => ?_)
    have hP : va_P (dC, dI) vwCl [(hq, .inr (3, [.int (nI (pc + 1)), .ref aP])), (aP, .inl (cI, 40, .inl (nA (upN P pc (y * 64 + x)))))] H := hP
    have hD : va_D A [(hq, .inr (3, [.int (nI (pc + 1)), .ref aP])), (aP, .inl (cI, 40, .inl (nA (upN P pc (y * 64 + x)))))] := hD
    refine lv_iconst (v := nI 1) hex hby dX3_add_36 rfl ?_
    exact hret _ (pc + 1, upN P pc (y * 64 + x)) _ _ _ _ _ (Or.inr (Or.inl ⟨rfl, _, (Or.inl rfl), rfl, rfl, dX3_add_37⟩)) ⟨_, rfl, Or.inl ⟨rfl, (by omega), rfl, rfl⟩⟩ hP hD hS
  · refine lv_iconst (v := nI 0) hex hby dX3_add_9 rfl ?_
    exact hret _ (pc, P) _ _ _ _ _ (Or.inr (Or.inl ⟨rfl, _, (Or.inr rfl), rfl, rfl, dX3_add_10⟩)) ⟨_, rfl, Or.inr ⟨rfl, (by omega), rfl, rfl⟩⟩ hP hD hS
theorem nd_X3_remove : ndV yX3_remove RX3 2 := by decide +kernel
theorem in_X3_remove_X3 : ∀ w ∈ wsX30, w ∈ wsX3_remove := fun _ h => List.mem_cons_of_mem _ (List.mem_append_right _ (h))
set_option maxHeartbeats 4000000 in
set_option maxRecDepth 100000 in
theorem c_X3_remove {hq : Nat} {aP : Nat} {pc : Nat} {P : Nat → Nat} {x : Nat} {y : Nat} (hPb : ∀ j, P j < 4096) (hpc : pc ≤ 40) (hx0 : x < 64) (hy0 : y < 64) : MU l yX3_remove wsX3_remove 1 23 (dC, dI) (tyK cI cZ cS) [(hq, .inr (3, [.int (nI pc), .ref aP])), (aP, .inl (cI, 40, .inl (nA P)))] [] [.ref hq, .int (nI x), .int (nI y)] (fun rv_ (u_ : Nat × (Nat → Nat)) => rI (fun r => (∃ k : Nat, r = nI 1 ∧ k < pc ∧ P k = y * 64 + x ∧ (∀ j, j < k → P j ≠ y * 64 + x) ∧ pc - 1 = u_.1 ∧ upN P k (P (pc - 1)) = u_.2) ∨ (r = nI 0 ∧ (∀ j, j < pc → P j ≠ y * 64 + x) ∧ pc = u_.1 ∧ P = u_.2)) rv_) (fun (u_ : Nat × (Nat → Nat)) => [(hq, .inr (3, [.int (nI u_.1), .ref aP])), (aP, .inl (cI, 40, .inl (nA u_.2)))]) := by
  refine mu_of (by decide) rfl (Nat.le_of_ble_eq_true rfl) ?_
  intro pp ee ss mm bb mt cd Q A CFx hP hK hD hS hA hTr hret ls hl
  obtain ⟨hex, hby, hml, hown, hts⟩ := id CFx
  have hl : lv_has ls 4 [(0, .ref hq), (1, .int (nI x)), (2, .int (nI y))] := hl
  refine lv_aload_n hex hby dX3_remove_0 rfl (lv_at hl 0 rfl) ?_
  refine lv_iload_n hex hby dX3_remove_1 rfl (lv_at hl 1 rfl) ?_
  refine lv_iload_n hex hby dX3_remove_2 rfl (lv_at hl 2 rfl) ?_
  refine ro_Vi (As := [.int (nI x), .int (nI y)]) (rest := []) CFx (c_X3_find (hq := hq) (aP := aP) (fq := [.int (nI pc), .ref aP]) (pc := pc) (P := P) (x := x) (y := y) rfl rfl hPb hpc hx0 hy0) 2 gX3_remove_X3_find rfl nd_X3_find ⟨Nat.le_of_ble_eq_true rfl, Nat.le_of_ble_eq_true rfl⟩ hK hP [0, 1] rfl rfl rfl rfl hl.1 rfl (Nat.le_of_ble_eq_true rfl) dX3_remove_3 ⟨Nat.le_refl _, Nat.le_refl _⟩ (fun r_1 hr_1 => ?_)
  rcases hr_1 with ⟨k, rfl, hk1, hk2, hk3⟩ | ⟨rfl, hno⟩
  · refine lv_istore_n (lv' := [(3, .int (nI k)), (0, .ref hq), (1, .int (nI x)), (2, .int (nI y))]) hex hby dX3_remove_6 rfl hl (by decide) rfl (fun ls hl => ?_)
    refine lv_iload_n hex hby dX3_remove_7 rfl (lv_at hl 0 rfl) ?_
    refine lv_iconst (v := zI (-1)) hex hby dX3_remove_8 rfl ?_
    refine ni_icmp_ne (tgt := 14) (a := (k : Int)) (b := -1) hex hby dX3_remove_9 (by decide) (ni_toInt (by omega)) (zI_toInt (by omega) (by omega)) (fun c_2 => ?_) (fun c_2 => absurd c_2 (by omega))
    refine lv_aload_n hex hby dX3_remove_14 rfl (lv_at hl 1 rfl) ?_
    refine lv_dup hex hby dX3_remove_15 rfl ?_
    refine nv_get (v := .int (nI pc)) CFx in_X3_remove_X3 hK hP 0 rfl rfl 0 (by decide) (List.mem_of_getElem? (i := 1) rfl) rfl dX3_remove_16 ?_
    refine lv_iconst (v := nI 1) hex hby dX3_remove_19 rfl ?_
    refine nv_isub hex hby dX3_remove_20 (by omega) ?_
    refine nv_put CFx in_X3_remove_X3 tyX3 tyX3_ok nmX3 hK hP hD hS 0 rfl rfl 0 (by decide) (List.mem_of_getElem? (i := 1) rfl) rfl (by decide +kernel) (Nat.le_of_ble_eq_true rfl) dX3_remove_21 (fun H locs hP hD hS => ?_)
    have hP : va_P (dC, dI) vwCl [(hq, .inr (3, [.int (nI (pc - 1)), .ref aP])), (aP, .inl (cI, 40, .inl (nA P)))] H := hP
    have hD : va_D A [(hq, .inr (3, [.int (nI (pc - 1)), .ref aP])), (aP, .inl (cI, 40, .inl (nA P)))] := hD
    refine lv_aload_n hex hby dX3_remove_24 rfl (lv_at hl 1 rfl) ?_
    refine nv_get (v := .ref aP) CFx in_X3_remove_X3 hK hP 0 rfl rfl 1 (by decide) (List.mem_of_getElem? (i := 2) rfl) rfl dX3_remove_25 ?_
    refine lv_iload_n hex hby dX3_remove_28 rfl (lv_at hl 0 rfl) ?_
    refine lv_aload_n hex hby dX3_remove_29 rfl (lv_at hl 1 rfl) ?_
    refine nv_get (v := .ref aP) CFx in_X3_remove_X3 hK hP 0 rfl rfl 1 (by decide) (List.mem_of_getElem? (i := 2) rfl) rfl dX3_remove_30 ?_
    refine lv_aload_n hex hby dX3_remove_33 rfl (lv_at hl 1 rfl) ?_
    refine nv_get (v := .int (nI (pc - 1))) CFx in_X3_remove_X3 hK hP 0 rfl rfl 0 (by decide) (List.mem_of_getElem? (i := 1) rfl) rfl dX3_remove_34 ?_
    refine nv_iald hex hby hK hP 1 0 rfl rfl (by omega) (by omega) dX3_remove_37 ?_
    have hb_3 := hPb (pc - 1)
    refine nv_iast hex hby hK hP hD hS 1 0 rfl rfl (by omega) (by omega) dX3_remove_38 (fun H locs hP hD hS => ?_)
    have hP : va_P (dC, dI) vwCl [(hq, .inr (3, [.int (nI (pc - 1)), .ref aP])), (aP, .inl (cI, 40, .inl (nA (upN P k (P (pc - 1))))))] H := hP
    have hD : va_D A [(hq, .inr (3, [.int (nI (pc - 1)), .ref aP])), (aP, .inl (cI, 40, .inl (nA (upN P k (P (pc - 1))))))] := hD
    have hB_4 := upN_lt (k := k) (x := P (pc - 1)) hPb (by omega)
    refine lv_iconst (v := nI 1) hex hby dX3_remove_39 rfl ?_
    exact hret _ (pc - 1, upN P k (P (pc - 1))) _ _ _ _ _ (Or.inr (Or.inl ⟨rfl, _, (Or.inl rfl), rfl, rfl, dX3_remove_40⟩)) ⟨_, rfl, Or.inl ⟨k, rfl, hk1, hk2, hk3, rfl, rfl⟩⟩ hP hD hS
  · refine lv_istore_n (lv' := [(3, .int (zI (-1))), (0, .ref hq), (1, .int (nI x)), (2, .int (nI y))]) hex hby dX3_remove_6 rfl hl (by decide) rfl (fun ls hl => ?_)
    refine lv_iload_n hex hby dX3_remove_7 rfl (lv_at hl 0 rfl) ?_
    refine lv_iconst (v := zI (-1)) hex hby dX3_remove_8 rfl ?_
    refine ni_icmp_ne (tgt := 14) (a := -1) (b := -1) hex hby dX3_remove_9 (by decide) (zI_toInt (by omega) (by omega)) (zI_toInt (by omega) (by omega)) (fun c_5 => absurd c_5 (by omega)) (fun c_5 => ?_)
    refine lv_iconst (v := nI 0) hex hby dX3_remove_12 rfl ?_
    exact hret _ (pc, P) _ _ _ _ _ (Or.inr (Or.inl ⟨rfl, _, (Or.inr rfl), rfl, rfl, dX3_remove_13⟩)) ⟨_, rfl, Or.inr ⟨rfl, hno, rfl, rfl⟩⟩ hP hD hS
theorem nd_X3_removeAll : ndV yX3_removeAll RX3 0 := by decide +kernel
theorem in_X3_removeAll_X3 : ∀ w ∈ wsX30, w ∈ wsX3_removeAll := fun _ h => List.mem_cons_of_mem _ (List.mem_append_right _ (h))
set_option maxHeartbeats 4000000 in
set_option maxRecDepth 100000 in
theorem c_X3_removeAll {hq : Nat} {v0 : Value} {aP : Nat}  : MU l yX3_removeAll wsX3_removeAll 0 0 (dC, dI) (tyK cI cZ cS) [(hq, .inr (3, [v0, .ref aP]))] [] [.ref hq] (fun rv_ (u_ : Unit) => rV (True) rv_) (fun (u_ : Unit) => [(hq, .inr (3, [.int (nI 0), .ref aP]))]) := by
  refine mu_of (by decide) rfl (Nat.le_of_ble_eq_true rfl) ?_
  intro pp ee ss mm bb mt cd Q A CFx hP hK hD hS hA hTr hret ls hl
  obtain ⟨hex, hby, hml, hown, hts⟩ := id CFx
  have hl : lv_has ls 1 [(0, .ref hq)] := hl
  refine lv_aload_n hex hby dX3_removeAll_0 rfl (lv_at hl 0 rfl) ?_
  refine lv_iconst (v := nI 0) hex hby dX3_removeAll_1 rfl ?_
  refine nv_put CFx in_X3_removeAll_X3 tyX3 tyX3_ok nmX3 hK hP hD hS 0 rfl rfl 0 (by decide) (List.mem_of_getElem? (i := 1) rfl) rfl (by decide +kernel) (Nat.le_of_ble_eq_true rfl) dX3_removeAll_2 (fun H locs hP hD hS => ?_)
  have hP : va_P (dC, dI) vwCl [(hq, .inr (3, [.int (nI 0), .ref aP]))] H := hP
  have hD : va_D A [(hq, .inr (3, [.int (nI 0), .ref aP]))] := hD
  exact hret _ () _ _ _ _ _ (Or.inr (Or.inr (Or.inl ⟨rfl, rfl, rfl, dX3_removeAll_5⟩))) ⟨rfl, trivial⟩ hP hD hS
theorem nd_X3_indexOfPoint : ndV yX3_indexOfPoint RX3 2 := by decide +kernel
theorem in_X3_indexOfPoint_X3 : ∀ w ∈ wsX30, w ∈ wsX3_indexOfPoint := fun _ h => List.mem_cons_of_mem _ (List.mem_append_left _ (List.mem_append_right _ (h)))
set_option maxHeartbeats 4000000 in
set_option maxRecDepth 100000 in
theorem c_X3_indexOfPoint {hq : Nat} {aP : Nat} {hn : Nat} {aI : Nat} {fq : List Value} {P : Nat → Nat} {fn : List Value} {ix : Nat → Nat} {i : Nat} (faP : fq[1]? = some (.ref aP)) (faI : fn[3]? = some (.ref aI)) (hPb : ∀ j, P j < 4096) (hix : ∀ j, ix j < 4096) (hi0 : i < 40) : RO l yX3_indexOfPoint wsX3_indexOfPoint 1 22 (dC, dI) (tyK cI cZ cS) [(hq, .inr (3, fq)), (aP, .inl (cI, 40, .inl (nA P))), (hn, .inr (2, fn)), (aI, .inl (cI, 4096, .inl (nA ix)))] [.ref hq, .int (nI i), .ref hn] (rI (fun r => r = nI (ix (P i)))) := by
  refine ro_of (by decide) rfl (Nat.le_of_ble_eq_true rfl) ?_
  intro pp ee ss mm bb mt cd Q CFx hP hK hret ls hl
  obtain ⟨hex, hby, hml, hown, hts⟩ := id CFx
  have hl : lv_has ls 3 [(0, .ref hq), (1, .int (nI i)), (2, .ref hn)] := hl
  refine lv_aload_n hex hby dX3_indexOfPoint_0 rfl (lv_at hl 2 rfl) ?_
  refine lv_aload_n hex hby dX3_indexOfPoint_1 rfl (lv_at hl 0 rfl) ?_
  refine nv_get (v := .ref aP) CFx in_X3_indexOfPoint_X3 hK hP 0 rfl rfl 1 (by decide) (List.mem_of_getElem? (i := 1) rfl) faP dX3_indexOfPoint_2 ?_
  refine lv_iload_n hex hby dX3_indexOfPoint_5 rfl (lv_at hl 1 rfl) ?_
  refine nv_iald hex hby hK hP 1 0 rfl rfl (by omega) (by omega) dX3_indexOfPoint_6 ?_
  have hb_1 := hPb i
  refine lv_bipush (v := nI 64) hex hby dX3_indexOfPoint_7 rfl ?_
  refine nv_irem hex hby dX3_indexOfPoint_9 (by omega) (by omega) (by omega) ?_
  refine lv_aload_n hex hby dX3_indexOfPoint_10 rfl (lv_at hl 0 rfl) ?_
  refine nv_get (v := .ref aP) CFx in_X3_indexOfPoint_X3 hK hP 0 rfl rfl 1 (by decide) (List.mem_of_getElem? (i := 1) rfl) faP dX3_indexOfPoint_11 ?_
  refine lv_iload_n hex hby dX3_indexOfPoint_14 rfl (lv_at hl 1 rfl) ?_
  refine nv_iald hex hby hK hP 1 0 rfl rfl (by omega) (by omega) dX3_indexOfPoint_15 ?_
  have hb_2 := hPb i
  refine lv_bipush (v := nI 64) hex hby dX3_indexOfPoint_16 rfl ?_
  refine nv_idiv hex hby dX3_indexOfPoint_18 (by omega) (by omega) (by omega) ?_
  refine ro_Vi (As := [.int (nI (P i % 64)), .int (nI (P i / 64))]) (rest := []) CFx (c_X2_indexOf (h := hn) (aI := aI) (fs := fn) (ix := ix) (x := P i % 64) (y := P i / 64) faI hix (by omega) (by omega)) 2 gX3_indexOfPoint_X2_indexOf rfl nd_X2_indexOf ⟨Nat.le_of_ble_eq_true rfl, Nat.le_of_ble_eq_true rfl⟩ hK hP [2, 3] rfl rfl rfl rfl hl.1 rfl (Nat.le_of_ble_eq_true rfl) dX3_indexOfPoint_19 ⟨Nat.le_refl _, Nat.le_refl _⟩ (fun r_3 hr_3 => ?_)
  obtain rfl := hr_3
  refine nv_top (y := nI (ix (P i))) (congrArg nI (congrArg ix (by omega))) ?_
  exact hret _ _ _ _ (Or.inl ⟨rfl, _, rfl, rfl, dX3_indexOfPoint_22⟩) ⟨_, rfl, rfl⟩
theorem nd_X3_countBetween : ndV yX3_countBetween RX3 3 := by decide +kernel
theorem in_X3_countBetween_X3 : ∀ w ∈ wsX30, w ∈ wsX3_countBetween := fun _ h => List.mem_cons_of_mem _ (List.mem_append_left _ (List.mem_append_right _ (h)))
set_option maxHeartbeats 4000000 in
set_option maxRecDepth 100000 in
theorem c_X3_countBetween {hq : Nat} {aP : Nat} {hn : Nat} {aI : Nat} {fq : List Value} {pc : Nat} {P : Nat → Nat} {fn : List Value} {ix : Nat → Nat} {a : Nat} {b : Nat} (fpc : fq[0]? = some (.int (nI pc))) (faP : fq[1]? = some (.ref aP)) (faI : fn[3]? = some (.ref aI)) (hPb : ∀ j, P j < 4096) (hpc : pc ≤ 40) (hix : ∀ j, ix j < 4096) (ha : a ≤ 4096) (hb0 : b ≤ 4096) : RO l yX3_countBetween wsX3_countBetween 2 44 (dC, dI) (tyK cI cZ cS) [(hq, .inr (3, fq)), (aP, .inl (cI, 40, .inl (nA P))), (hn, .inr (2, fn)), (aI, .inl (cI, 4096, .inl (nA ix)))] [.ref hq, .int (nI a), .int (nI b), .ref hn] (rI (fun r => r = nI (ctP (fun j => a ≤ ix (P j) ∧ ix (P j) < b) pc))) := by
  refine ro_of (by decide) rfl (Nat.le_of_ble_eq_true rfl) ?_
  intro pp ee ss mm bb mt cd Q CFx hP hK hret ls hl
  obtain ⟨hex, hby, hml, hown, hts⟩ := id CFx
  have hl : lv_has ls 7 [(0, .ref hq), (1, .int (nI a)), (2, .int (nI b)), (3, .ref hn)] := hl
  refine lv_iconst (v := nI 0) hex hby dX3_countBetween_0 rfl ?_
  refine lv_istore (lv' := [(4, .int (nI 0)), (0, .ref hq), (1, .int (nI a)), (2, .int (nI b)), (3, .ref hn)]) hex hby dX3_countBetween_1 hl (by decide) rfl (fun ls hl => ?_)
  refine lv_iconst (v := nI 0) hex hby dX3_countBetween_3 rfl ?_
  refine lv_istore (lv' := [(5, .int (nI 0)), (4, .int (nI 0)), (0, .ref hq), (1, .int (nI a)), (2, .int (nI b)), (3, .ref hn)]) hex hby dX3_countBetween_4 hl (by decide) rfl (fun ls hl => ?_)
  have loop6 : ∀ (nn : Nat) (i : Nat) (f : Nat), (pc - i) < nn → (i ≤ pc) → (f = ctP (fun j => a ≤ ix (P j) ∧ ix (P j) < b) i) → (f ≤ i) → ∀ ls : Array Slot, lv_has ls 7 [(5, .int (nI i)), (4, .int (nI f)), (0, .ref hq), (1, .int (nI a)), (2, .int (nI b)), (3, .ref hn)] → W pp l ee (rmO 2 44) ss mm ([.ref hq, .int (nI a), .int (nI b), .ref hn] : List Value).toArray bb mt cd ss.heap [] 0 0 Q (F0 mm 6 ls []) := by
    intro nn
    induction nn with
    | zero => intro i f hms6; exact absurd hms6 (Nat.not_lt_zero _)
    | succ nn ih6 =>
      intro i f hms6 hi hf hfi ls hl
      refine lv_iload hex hby dX3_countBetween_6 (lv_at hl 0 rfl) ?_
      refine lv_aload_n hex hby dX3_countBetween_8 rfl (lv_at hl 2 rfl) ?_
      refine nv_get (v := .int (nI pc)) CFx in_X3_countBetween_X3 hK hP 0 rfl rfl 0 (by decide) (List.mem_of_getElem? (i := 1) rfl) fpc dX3_countBetween_9 ?_
      refine nv_icmp_ge (tgt := 45) hex hby dX3_countBetween_12 (by decide) (by omega) (by omega) (fun c_1 => ?_) (fun c_1 => ?_)
      · have hei : i = pc := by omega
        refine lv_iload hex hby dX3_countBetween_45 (lv_at hl 1 rfl) ?_
        exact hret _ _ _ _ (Or.inl ⟨rfl, _, rfl, rfl, dX3_countBetween_47⟩) ⟨_, rfl, (by rw [hf, hei])⟩
      · refine lv_aload_n hex hby dX3_countBetween_15 rfl (lv_at hl 2 rfl) ?_
        refine lv_iload hex hby dX3_countBetween_16 (lv_at hl 0 rfl) ?_
        refine lv_aload_n hex hby dX3_countBetween_18 rfl (lv_at hl 5 rfl) ?_
        refine ro_Vi (As := [.int (nI i), .ref hn]) (rest := []) CFx (c_X3_indexOfPoint (hq := hq) (aP := aP) (hn := hn) (aI := aI) (fq := fq) (P := P) (fn := fn) (ix := ix) (i := i) faP faI hPb hix (by omega)) 2 gX3_countBetween_X3_indexOfPoint rfl nd_X3_indexOfPoint ⟨Nat.le_of_ble_eq_true rfl, Nat.le_of_ble_eq_true rfl⟩ hK hP [0, 1, 2, 3] rfl rfl rfl rfl hl.1 rfl (Nat.le_of_ble_eq_true rfl) dX3_countBetween_19 ⟨Nat.le_refl _, Nat.le_refl _⟩ (fun r_2 hr_2 => ?_)
        obtain rfl := hr_2
        refine lv_istore (lv' := [(6, .int (nI (ix (P i)))), (5, .int (nI i)), (4, .int (nI f)), (0, .ref hq), (1, .int (nI a)), (2, .int (nI b)), (3, .ref hn)]) hex hby dX3_countBetween_22 hl (by decide) rfl (fun ls hl => ?_)
        have hbi := hix (P i)
        refine lv_iload hex hby dX3_countBetween_24 (lv_at hl 0 rfl) ?_
        refine lv_iload_n hex hby dX3_countBetween_26 rfl (lv_at hl 4 rfl) ?_
        refine nv_icmp_lt (tgt := 39) hex hby dX3_countBetween_27 (by decide) (by omega) (by omega) (fun c_3 => ?_) (fun c_3 => ?_)
        · refine lv_iinc (v := nI (i + 1)) (lv' := [(5, .int (nI (i + 1))), (6, .int (nI (ix (P i)))), (4, .int (nI f)), (0, .ref hq), (1, .int (nI a)), (2, .int (nI b)), (3, .ref hn)]) hex hby dX3_countBetween_39 hl (k := 1) rfl (ni_inc _) (by decide) rfl (fun ls hl => ?_)
          refine lv_goto (tgt := 6) hex hby dX3_countBetween_42 (by decide) ?_
          exact ih6 (i + 1) f (by omega) (by omega) (by rw [ctP_no (p := fun j => a ≤ ix (P j) ∧ ix (P j) < b) (by omega)]; exact hf) (by omega) _ (lv_sub hl [0, 2, 3, 4, 5, 6] rfl)
        · refine lv_iload hex hby dX3_countBetween_30 (lv_at hl 0 rfl) ?_
          refine lv_iload_n hex hby dX3_countBetween_32 rfl (lv_at hl 5 rfl) ?_
          refine nv_icmp_ge (tgt := 39) hex hby dX3_countBetween_33 (by decide) (by omega) (by omega) (fun c_4 => ?_) (fun c_4 => ?_)
          · refine lv_iinc (v := nI (i + 1)) (lv' := [(5, .int (nI (i + 1))), (6, .int (nI (ix (P i)))), (4, .int (nI f)), (0, .ref hq), (1, .int (nI a)), (2, .int (nI b)), (3, .ref hn)]) hex hby dX3_countBetween_39 hl (k := 1) rfl (ni_inc _) (by decide) rfl (fun ls hl => ?_)
            refine lv_goto (tgt := 6) hex hby dX3_countBetween_42 (by decide) ?_
            exact ih6 (i + 1) f (by omega) (by omega) (by rw [ctP_no (p := fun j => a ≤ ix (P j) ∧ ix (P j) < b) (by omega)]; exact hf) (by omega) _ (lv_sub hl [0, 2, 3, 4, 5, 6] rfl)
          · refine lv_iinc (v := nI (f + 1)) (lv' := [(4, .int (nI (f + 1))), (6, .int (nI (ix (P i)))), (5, .int (nI i)), (0, .ref hq), (1, .int (nI a)), (2, .int (nI b)), (3, .ref hn)]) hex hby dX3_countBetween_36 hl (k := 2) rfl (ni_inc _) (by decide) rfl (fun ls hl => ?_)
            refine lv_iinc (v := nI (i + 1)) (lv' := [(5, .int (nI (i + 1))), (4, .int (nI (f + 1))), (6, .int (nI (ix (P i)))), (0, .ref hq), (1, .int (nI a)), (2, .int (nI b)), (3, .ref hn)]) hex hby dX3_countBetween_39 hl (k := 2) rfl (ni_inc _) (by decide) rfl (fun ls hl => ?_)
            refine lv_goto (tgt := 6) hex hby dX3_countBetween_42 (by decide) ?_
            exact ih6 (i + 1) (f + 1) (by omega) (by omega) (by rw [ctP_yes (p := fun j => a ≤ ix (P j) ∧ ix (P j) < b) (by omega), hf]) (by omega) _ (lv_sub hl [0, 1, 3, 4, 5, 6] rfl)
  exact loop6 _ 0 0 (Nat.lt_succ_self _) (by omega) rfl (by omega) _ (lv_sub hl [0, 1, 2, 3, 4, 5] rfl)
theorem nd_X3_findNearest : ndV yX3_findNearest RX3 2 := by decide +kernel
theorem in_X3_findNearest_X3 : ∀ w ∈ wsX30, w ∈ wsX3_findNearest := fun _ h => List.mem_cons_of_mem _ (List.mem_append_left _ (List.mem_append_right _ (h)))
set_option maxHeartbeats 4000000 in
set_option maxRecDepth 100000 in
theorem c_X3_findNearest {hq : Nat} {aP : Nat} {hn : Nat} {aI : Nat} {fq : List Value} {pc : Nat} {P : Nat → Nat} {fn : List Value} {ix : Nat → Nat} {own : Nat} (fpc : fq[0]? = some (.int (nI pc))) (faP : fq[1]? = some (.ref aP)) (faI : fn[3]? = some (.ref aI)) (hPb : ∀ j, P j < 4096) (hpc : pc ≤ 40) (hix : ∀ j, ix j < 4096) (hown : own < 4096) : RO l yX3_findNearest wsX3_findNearest 2 44 (dC, dI) (tyK cI cZ cS) [(hq, .inr (3, fq)), (aP, .inl (cI, 40, .inl (nA P))), (hn, .inr (2, fn)), (aI, .inl (cI, 4096, .inl (nA ix)))] [.ref hq, .ref hn, .int (nI own)] (rI (fun r => r = zI (nrs (fun j => ix (P j)) own pc))) := by
  refine ro_of (by decide) rfl (Nat.le_of_ble_eq_true rfl) ?_
  intro pp ee ss mm bb mt cd Q CFx hP hK hret ls hl
  obtain ⟨hex, hby, hml, hown, hts⟩ := id CFx
  have hl : lv_has ls 7 [(0, .ref hq), (1, .ref hn), (2, .int (nI own))] := hl
  refine lv_iconst (v := zI (-1)) hex hby dX3_findNearest_0 rfl ?_
  refine lv_istore_n (lv' := [(3, .int (zI (-1))), (0, .ref hq), (1, .ref hn), (2, .int (nI own))]) hex hby dX3_findNearest_1 rfl hl (by decide) rfl (fun ls hl => ?_)
  refine lv_iconst (v := nI 0) hex hby dX3_findNearest_2 rfl ?_
  refine lv_istore (lv' := [(4, .int (nI 0)), (3, .int (zI (-1))), (0, .ref hq), (1, .ref hn), (2, .int (nI own))]) hex hby dX3_findNearest_3 hl (by decide) rfl (fun ls hl => ?_)
  have loop5 : ∀ (nn : Nat) (i : Nat) (z : Int), (pc - i) < nn → (i ≤ pc) → (z = nrs (fun j => ix (P j)) own i) → ∀ ls : Array Slot, lv_has ls 7 [(4, .int (nI i)), (3, .int (zI z)), (0, .ref hq), (1, .ref hn), (2, .int (nI own))] → W pp l ee (rmO 2 44) ss mm ([.ref hq, .ref hn, .int (nI own)] : List Value).toArray bb mt cd ss.heap [] 0 0 Q (F0 mm 5 ls []) := by
    intro nn
    induction nn with
    | zero => intro i z hms5; exact absurd hms5 (Nat.not_lt_zero _)
    | succ nn ih5 =>
      intro i z hms5 hi hz ls hl
      have hzr := nrs_rng (q := fun j => ix (P j)) (B := 4096) (fun j => hix (P j)) own i
      rw [← hz] at hzr
      refine lv_iload hex hby dX3_findNearest_5 (lv_at hl 0 rfl) ?_
      refine lv_aload_n hex hby dX3_findNearest_7 rfl (lv_at hl 2 rfl) ?_
      refine nv_get (v := .int (nI pc)) CFx in_X3_findNearest_X3 hK hP 0 rfl rfl 0 (by decide) (List.mem_of_getElem? (i := 1) rfl) fpc dX3_findNearest_8 ?_
      refine nv_icmp_ge (tgt := 69) hex hby dX3_findNearest_11 (by decide) (by omega) (by omega) (fun c_1 => ?_) (fun c_1 => ?_)
      · have hei : i = pc := by omega
        refine lv_iload_n hex hby dX3_findNearest_69 rfl (lv_at hl 1 rfl) ?_
        exact hret _ _ _ _ (Or.inl ⟨rfl, _, rfl, rfl, dX3_findNearest_70⟩) ⟨_, rfl, (by rw [hz, hei])⟩
      · refine lv_aload_n hex hby dX3_findNearest_14 rfl (lv_at hl 2 rfl) ?_
        refine lv_iload hex hby dX3_findNearest_15 (lv_at hl 0 rfl) ?_
        refine lv_aload_n hex hby dX3_findNearest_17 rfl (lv_at hl 3 rfl) ?_
        refine ro_Vi (As := [.int (nI i), .ref hn]) (rest := []) CFx (c_X3_indexOfPoint (hq := hq) (aP := aP) (hn := hn) (aI := aI) (fq := fq) (P := P) (fn := fn) (ix := ix) (i := i) faP faI hPb hix (by omega)) 2 gX3_findNearest_X3_indexOfPoint rfl nd_X3_indexOfPoint ⟨Nat.le_of_ble_eq_true rfl, Nat.le_of_ble_eq_true rfl⟩ hK hP [0, 1, 2, 3] rfl rfl rfl rfl hl.1 rfl (Nat.le_of_ble_eq_true rfl) dX3_findNearest_18 ⟨Nat.le_refl _, Nat.le_refl _⟩ (fun r_2 hr_2 => ?_)
        obtain rfl := hr_2
        refine lv_istore (lv' := [(5, .int (nI (ix (P i)))), (4, .int (nI i)), (3, .int (zI z)), (0, .ref hq), (1, .ref hn), (2, .int (nI own))]) hex hby dX3_findNearest_21 hl (by decide) rfl (fun ls hl => ?_)
        have hbi := hix (P i)
        refine lv_iload hex hby dX3_findNearest_23 (lv_at hl 0 rfl) ?_
        refine lv_iload_n hex hby dX3_findNearest_25 rfl (lv_at hl 5 rfl) ?_
        refine nz_isub (a := ((ix (P i) : Nat) : Int)) (b := (own : Int)) hex hby dX3_findNearest_26 (ni_nz _) (ni_nz _) ?_
        refine va_mabs hex hby (hml.trans hl.1.symm) hown (hts _ (List.mem_of_getElem? (i := 2) rfl)) (hts _ (List.mem_of_getElem? (i := 3) rfl)) (hts _ (List.mem_of_getElem? (i := 4) rfl)) (hts _ (List.mem_of_getElem? (i := 5) rfl)) (Nat.le_of_ble_eq_true rfl) (Nat.le_of_ble_eq_true rfl) (Nat.le_refl _) (Nat.le_refl _) dX3_findNearest_27 ?_
        refine nv_top (zI_abs (a := ((ix (P i) : Nat) : Int) - (own : Int)) (zI_toInt (by omega) (by omega)) (by omega)) ?_
        refine lv_iload_n hex hby dX3_findNearest_30 rfl (lv_at hl 2 rfl) ?_
        refine lv_iload_n hex hby dX3_findNearest_31 rfl (lv_at hl 5 rfl) ?_
        refine nz_isub (a := z) (b := (own : Int)) hex hby dX3_findNearest_32 rfl (ni_nz _) ?_
        refine va_mabs hex hby (hml.trans hl.1.symm) hown (hts _ (List.mem_of_getElem? (i := 2) rfl)) (hts _ (List.mem_of_getElem? (i := 3) rfl)) (hts _ (List.mem_of_getElem? (i := 4) rfl)) (hts _ (List.mem_of_getElem? (i := 5) rfl)) (Nat.le_of_ble_eq_true rfl) (Nat.le_of_ble_eq_true rfl) (Nat.le_refl _) (Nat.le_refl _) dX3_findNearest_33 ?_
        refine nv_top (zI_abs (a := z - (own : Int)) (zI_toInt (by omega) (by omega)) (by omega)) ?_
        refine nz_isub (a := (((((ix (P i) : Nat) : Int) - (own : Int)).natAbs : Nat) : Int)) (b := (((z - (own : Int)).natAbs : Nat) : Int)) hex hby dX3_findNearest_36 (ni_nz _) (ni_nz _) ?_
        refine lv_istore (lv' := [(6, .int (zI ((((((ix (P i) : Nat) : Int) - (own : Int)).natAbs : Nat) : Int) - (((z - (own : Int)).natAbs : Nat) : Int)))), (5, .int (nI (ix (P i)))), (4, .int (nI i)), (3, .int (zI z)), (0, .ref hq), (1, .ref hn), (2, .int (nI own))]) hex hby dX3_findNearest_37 hl (by decide) rfl (fun ls hl => ?_)
        refine lv_iload_n hex hby dX3_findNearest_39 rfl (lv_at hl 3 rfl) ?_
        refine lv_iconst (v := zI (-1)) hex hby dX3_findNearest_40 rfl ?_
        refine ni_icmp_eq (tgt := 60) (a := z) (b := -1) hex hby dX3_findNearest_41 (by decide) (zI_toInt (by omega) (by omega)) (zI_toInt (by omega) (by omega)) (fun c_3 => ?_) (fun c_3 => ?_)
        · refine lv_iload hex hby dX3_findNearest_60 (lv_at hl 1 rfl) ?_
          refine lv_istore_n (lv' := [(3, .int (nI (ix (P i)))), (6, .int (zI ((((((ix (P i) : Nat) : Int) - (own : Int)).natAbs : Nat) : Int) - (((z - (own : Int)).natAbs : Nat) : Int)))), (5, .int (nI (ix (P i)))), (4, .int (nI i)), (0, .ref hq), (1, .ref hn), (2, .int (nI own))]) hex hby dX3_findNearest_62 rfl hl (by decide) rfl (fun ls hl => ?_)
          refine lv_iinc (v := nI (i + 1)) (lv' := [(4, .int (nI (i + 1))), (3, .int (nI (ix (P i)))), (6, .int (zI ((((((ix (P i) : Nat) : Int) - (own : Int)).natAbs : Nat) : Int) - (((z - (own : Int)).natAbs : Nat) : Int)))), (5, .int (nI (ix (P i)))), (0, .ref hq), (1, .ref hn), (2, .int (nI own))]) hex hby dX3_findNearest_63 hl (k := 3) rfl (ni_inc _) (by decide) rfl (fun ls hl => ?_)
          refine lv_goto (tgt := 5) hex hby dX3_findNearest_66 (by decide) ?_
          rw [ni_nz (ix (P i))] at hl
          exact ih5 (i + 1) ((ix (P i) : Nat) : Int) (by omega) (by omega) (by rw [nrs, ← hz, if_pos (by omega)]) _ (lv_sub hl [0, 1, 4, 5, 6] rfl)
        · refine lv_iload hex hby dX3_findNearest_44 (lv_at hl 0 rfl) ?_
          refine ni_if_lt (tgt := 60) (a := (((((ix (P i) : Nat) : Int) - (own : Int)).natAbs : Nat) : Int) - (((z - (own : Int)).natAbs : Nat) : Int)) hex hby dX3_findNearest_46 (by decide) (zI_toInt (by omega) (by omega)) (fun c_4 => ?_) (fun c_4 => ?_)
          · refine lv_iload hex hby dX3_findNearest_60 (lv_at hl 1 rfl) ?_
            refine lv_istore_n (lv' := [(3, .int (nI (ix (P i)))), (6, .int (zI ((((((ix (P i) : Nat) : Int) - (own : Int)).natAbs : Nat) : Int) - (((z - (own : Int)).natAbs : Nat) : Int)))), (5, .int (nI (ix (P i)))), (4, .int (nI i)), (0, .ref hq), (1, .ref hn), (2, .int (nI own))]) hex hby dX3_findNearest_62 rfl hl (by decide) rfl (fun ls hl => ?_)
            refine lv_iinc (v := nI (i + 1)) (lv' := [(4, .int (nI (i + 1))), (3, .int (nI (ix (P i)))), (6, .int (zI ((((((ix (P i) : Nat) : Int) - (own : Int)).natAbs : Nat) : Int) - (((z - (own : Int)).natAbs : Nat) : Int)))), (5, .int (nI (ix (P i)))), (0, .ref hq), (1, .ref hn), (2, .int (nI own))]) hex hby dX3_findNearest_63 hl (k := 3) rfl (ni_inc _) (by decide) rfl (fun ls hl => ?_)
            refine lv_goto (tgt := 5) hex hby dX3_findNearest_66 (by decide) ?_
            rw [ni_nz (ix (P i))] at hl
            exact ih5 (i + 1) ((ix (P i) : Nat) : Int) (by omega) (by omega) (by rw [nrs, ← hz, if_pos (by omega)]) _ (lv_sub hl [0, 1, 4, 5, 6] rfl)
          · refine lv_iload hex hby dX3_findNearest_49 (lv_at hl 0 rfl) ?_
            refine ni_if_ne (tgt := 63) (a := (((((ix (P i) : Nat) : Int) - (own : Int)).natAbs : Nat) : Int) - (((z - (own : Int)).natAbs : Nat) : Int)) hex hby dX3_findNearest_51 (by decide) (zI_toInt (by omega) (by omega)) (fun c_5 => ?_) (fun c_5 => ?_)
            · refine lv_iinc (v := nI (i + 1)) (lv' := [(4, .int (nI (i + 1))), (6, .int (zI ((((((ix (P i) : Nat) : Int) - (own : Int)).natAbs : Nat) : Int) - (((z - (own : Int)).natAbs : Nat) : Int)))), (5, .int (nI (ix (P i)))), (3, .int (zI z)), (0, .ref hq), (1, .ref hn), (2, .int (nI own))]) hex hby dX3_findNearest_63 hl (k := 2) rfl (ni_inc _) (by decide) rfl (fun ls hl => ?_)
              refine lv_goto (tgt := 5) hex hby dX3_findNearest_66 (by decide) ?_
              exact ih5 (i + 1) z (by omega) (by omega) (by rw [nrs, ← hz, if_neg (by omega)]) _ (lv_sub hl [0, 3, 4, 5, 6] rfl)
            · refine lv_iload hex hby dX3_findNearest_54 (lv_at hl 1 rfl) ?_
              refine lv_iload_n hex hby dX3_findNearest_56 rfl (lv_at hl 3 rfl) ?_
              refine ni_icmp_ge (tgt := 63) (a := ((ix (P i) : Nat) : Int)) (b := z) hex hby dX3_findNearest_57 (by decide) (ni_toInt (by omega)) (zI_toInt (by omega) (by omega)) (fun c_6 => ?_) (fun c_6 => ?_)
              · refine lv_iinc (v := nI (i + 1)) (lv' := [(4, .int (nI (i + 1))), (6, .int (zI ((((((ix (P i) : Nat) : Int) - (own : Int)).natAbs : Nat) : Int) - (((z - (own : Int)).natAbs : Nat) : Int)))), (5, .int (nI (ix (P i)))), (3, .int (zI z)), (0, .ref hq), (1, .ref hn), (2, .int (nI own))]) hex hby dX3_findNearest_63 hl (k := 2) rfl (ni_inc _) (by decide) rfl (fun ls hl => ?_)
                refine lv_goto (tgt := 5) hex hby dX3_findNearest_66 (by decide) ?_
                exact ih5 (i + 1) z (by omega) (by omega) (by rw [nrs, ← hz, if_neg (by omega)]) _ (lv_sub hl [0, 3, 4, 5, 6] rfl)
              · refine lv_iload hex hby dX3_findNearest_60 (lv_at hl 1 rfl) ?_
                refine lv_istore_n (lv' := [(3, .int (nI (ix (P i)))), (6, .int (zI ((((((ix (P i) : Nat) : Int) - (own : Int)).natAbs : Nat) : Int) - (((z - (own : Int)).natAbs : Nat) : Int)))), (5, .int (nI (ix (P i)))), (4, .int (nI i)), (0, .ref hq), (1, .ref hn), (2, .int (nI own))]) hex hby dX3_findNearest_62 rfl hl (by decide) rfl (fun ls hl => ?_)
                refine lv_iinc (v := nI (i + 1)) (lv' := [(4, .int (nI (i + 1))), (3, .int (nI (ix (P i)))), (6, .int (zI ((((((ix (P i) : Nat) : Int) - (own : Int)).natAbs : Nat) : Int) - (((z - (own : Int)).natAbs : Nat) : Int)))), (5, .int (nI (ix (P i)))), (0, .ref hq), (1, .ref hn), (2, .int (nI own))]) hex hby dX3_findNearest_63 hl (k := 3) rfl (ni_inc _) (by decide) rfl (fun ls hl => ?_)
                refine lv_goto (tgt := 5) hex hby dX3_findNearest_66 (by decide) ?_
                rw [ni_nz (ix (P i))] at hl
                exact ih5 (i + 1) ((ix (P i) : Nat) : Int) (by omega) (by omega) (by rw [nrs, ← hz, if_pos (by omega)]) _ (lv_sub hl [0, 1, 4, 5, 6] rfl)
  exact loop5 _ 0 (-1) (Nat.lt_succ_self _) (by omega) rfl _ (lv_sub hl [0, 1, 2, 3, 4] rfl)
end PTS
