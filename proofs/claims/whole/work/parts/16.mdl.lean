section MDL
variable {l : Launch} {dC : Nat → ClassId} {dI : Nat → Nat → Nat} {cI cZ cS : ClassId}
theorem ni_mask {a k : Nat} (hk : k < 31) (ha : a < 2147483648) : nI a &&& nI (2 ^ k - 1) = nI (a % 2 ^ k) := by
  have h : 2 ^ k ≤ 2 ^ 30 := p2_le (by omega)
  have h2 : (2 : Nat) ^ 30 = 1073741824 := rfl
  exact pk_andN (by omega) k (pk_tn (by omega))
theorem ni_mask4 {a t : Nat} (ht : t ≤ 6) (ha : a < 2147483648) : nI a &&& nI (2 ^ (2 * t) - 1) = nI (a % 4 ^ t) := by
  rw [ni_mask (by omega) ha, p24]
theorem zI_abs1 {z : Int} (h : 0 ≤ z) : zI z = nI z.natAbs := by
  rw [← zI_nat]; congr 1; omega
theorem zI_abs2 {z : Int} (h : z < 0) : - zI z = nI z.natAbs := by
  rw [zI_neg, ← zI_nat]; congr 1; omega
def LfOK (c : Nat) (st O : Nat → Nat) : Prop := ∀ k, k < c → ∀ i, st k ≤ i → i < st (k + 1) → O i = k
def AG (c : Nat) (st lv S Lv : Nat → Nat) : Prop := ∀ j, j < c → S j = st j ∧ Lv j = lv j
theorem nd_X10_in : ndV yX10_in RX10 3 := by decide +kernel
set_option maxHeartbeats 4000000 in
set_option maxRecDepth 100000 in
theorem c_X10_in {x : Int32} {xz : Int} {lo : Int32} {loz : Int} {hi : Int32} {hiz : Int} (hxz : x.toInt = xz) (hloz : lo.toInt = loz) (hhiz : hi.toInt = hiz) : RO l yX10_in wsX10_in 0 0 (dC, dI) (tyK cI cZ cS) [] [.int x, .int lo, .int hi] (rI (fun r => (r = nI 1 ∧ (loz ≤ xz ∧ xz ≤ hiz)) ∨ (r = nI 0 ∧ (¬ (loz ≤ xz ∧ xz ≤ hiz))))) := by
  refine ro_of (by decide) rfl (Nat.le_of_ble_eq_true rfl) ?_
  intro pp ee ss mm bb mt cd Q CFx hP hK hret ls hl
  obtain ⟨hex, hby, hml, hown, hts⟩ := id CFx
  have hl : lv_has ls 3 [(0, .int x), (1, .int lo), (2, .int hi)] := hl
  refine lv_iload_n hex hby dX10_in_0 rfl (lv_at hl 0 rfl) ?_
  refine lv_iload_n hex hby dX10_in_1 rfl (lv_at hl 1 rfl) ?_
  refine ni_icmp_lt (tgt := 14) (a := x.toInt) (b := lo.toInt) hex hby dX10_in_2 (by decide) rfl rfl (fun c_1 => ?_) (fun c_1 => ?_)
  · refine lv_iconst (v := nI 0) hex hby dX10_in_14 rfl ?_
    exact hret _ _ _ _ (Or.inr (Or.inl ⟨rfl, _, (Or.inr rfl), rfl, rfl, dX10_in_15⟩)) ⟨_, rfl, Or.inr ⟨rfl, (by omega)⟩⟩
  · refine lv_iload_n hex hby dX10_in_5 rfl (lv_at hl 0 rfl) ?_
    refine lv_iload_n hex hby dX10_in_6 rfl (lv_at hl 2 rfl) ?_
    refine ni_icmp_gt (tgt := 14) (a := x.toInt) (b := hi.toInt) hex hby dX10_in_7 (by decide) rfl rfl (fun c_2 => ?_) (fun c_2 => ?_)
    · refine lv_iconst (v := nI 0) hex hby dX10_in_14 rfl ?_
      exact hret _ _ _ _ (Or.inr (Or.inl ⟨rfl, _, (Or.inr rfl), rfl, rfl, dX10_in_15⟩)) ⟨_, rfl, Or.inr ⟨rfl, (by omega)⟩⟩
    · refine lv_iconst (v := nI 1) hex hby dX10_in_10 rfl ?_
      refine lv_goto (tgt := 15) hex hby dX10_in_11 (by decide) ?_
      exact hret _ _ _ _ (Or.inr (Or.inl ⟨rfl, _, (Or.inl rfl), rfl, rfl, dX10_in_15⟩)) ⟨_, rfl, Or.inl ⟨rfl, (by omega)⟩⟩
theorem nd_X10_side : ndV yX10_side RX10 0 := by decide +kernel
theorem in_X10_side_X10 : ∀ w ∈ wsX100, w ∈ wsX10_side := fun _ h => List.mem_cons_of_mem _ (List.mem_append_right _ (h))
set_option maxHeartbeats 4000000 in
set_option maxRecDepth 100000 in
theorem c_X10_side {h : Nat} {fs : List Value} {m : Nat} (f_m : fs[0]? = some (.int (nI m))) (hm6 : m ≤ 6) : RO l yX10_side wsX10_side 0 0 (dC, dI) (tyK cI cZ cS) [(h, .inr (10, fs))] [.ref h] (rI (fun r => r = nI (2 ^ m))) := by
  refine ro_of (by decide) rfl (Nat.le_of_ble_eq_true rfl) ?_
  intro pp ee ss mm bb mt cd Q CFx hP hK hret ls hl
  obtain ⟨hex, hby, hml, hown, hts⟩ := id CFx
  have hl : lv_has ls 1 [(0, .ref h)] := hl
  have hp2 := p2_6 hm6
  refine lv_iconst (v := nI 1) hex hby dX10_side_0 rfl ?_
  refine lv_aload_n hex hby dX10_side_1 rfl (lv_at hl 0 rfl) ?_
  refine nv_get (v := .int (nI m)) CFx in_X10_side_X10 hK hP 0 rfl rfl 0 (by decide) (List.mem_of_getElem? (i := 1) rfl) f_m dX10_side_2 ?_
  refine nv_ishl hex hby dX10_side_5 (by omega) (by omega) ?_
  refine nv_top (y := nI (2 ^ m)) (congrArg nI (Nat.one_mul _)) ?_
  exact hret _ _ _ _ (Or.inl ⟨rfl, _, rfl, rfl, dX10_side_6⟩) ⟨_, rfl, rfl⟩
theorem nd_X10_all : ndV yX10_all RX10 0 := by decide +kernel
theorem in_X10_all_X10 : ∀ w ∈ wsX100, w ∈ wsX10_all := fun _ h => List.mem_cons_of_mem _ (List.mem_append_right _ (h))
set_option maxHeartbeats 4000000 in
set_option maxRecDepth 100000 in
theorem c_X10_all {h : Nat} {fs : List Value} {m : Nat} (f_m : fs[0]? = some (.int (nI m))) (hm6 : m ≤ 6) : RO l yX10_all wsX10_all 0 0 (dC, dI) (tyK cI cZ cS) [(h, .inr (10, fs))] [.ref h] (rI (fun r => r = nI (4 ^ m))) := by
  refine ro_of (by decide) rfl (Nat.le_of_ble_eq_true rfl) ?_
  intro pp ee ss mm bb mt cd Q CFx hP hK hret ls hl
  obtain ⟨hex, hby, hml, hown, hts⟩ := id CFx
  have hl : lv_has ls 1 [(0, .ref h)] := hl
  have hp2 : 2 ^ (2 * m) ≤ 4096 := by rw [p24]; exact p4_6 hm6
  refine lv_iconst (v := nI 1) hex hby dX10_all_0 rfl ?_
  refine lv_iconst (v := nI 2) hex hby dX10_all_1 rfl ?_
  refine lv_aload_n hex hby dX10_all_2 rfl (lv_at hl 0 rfl) ?_
  refine nv_get (v := .int (nI m)) CFx in_X10_all_X10 hK hP 0 rfl rfl 0 (by decide) (List.mem_of_getElem? (i := 1) rfl) f_m dX10_all_3 ?_
  refine nv_imul hex hby dX10_all_6 ?_
  refine nv_ishl hex hby dX10_all_7 (by omega) (by omega) ?_
  refine nv_top (y := nI (2 ^ (2 * m))) (congrArg nI (Nat.one_mul _)) ?_
  refine nv_top (y := nI (4 ^ m)) (congrArg nI (p24 m)) ?_
  exact hret _ _ _ _ (Or.inl ⟨rfl, _, rfl, rfl, dX10_all_8⟩) ⟨_, rfl, rfl⟩
theorem nd_X10_quarter : ndV yX10_quarter RX10 2 := by decide +kernel
theorem in_X10_quarter_X10 : ∀ w ∈ wsX100, w ∈ wsX10_quarter := fun _ h => List.mem_cons_of_mem _ (List.mem_append_right _ (h))
set_option maxHeartbeats 4000000 in
set_option maxRecDepth 100000 in
theorem c_X10_quarter {h : Nat} {aT : Nat} {fs : List Value} {cu : Nat} {tb : Nat → Nat} {s : Nat} {p : Nat} (f_curve : fs[1]? = some (.int (nI cu))) (f_tables : fs[3]? = some (.ref aT)) (htb : ∀ j, tb j < 10) (hcu : cu ≤ 2) (hs0 : s < 8) (hp0 : p < 4) : RO l yX10_quarter wsX10_quarter 0 0 (dC, dI) (tyK cI cZ cS) [(h, .inr (10, fs)), (aT, .inl (cI, 192, .inl (nA tb)))] [.ref h, .int (nI s), .int (nI p)] (rI (fun r => r = nI (tb (64 * cu + 8 * s + p)))) := by
  refine ro_of (by decide) rfl (Nat.le_of_ble_eq_true rfl) ?_
  intro pp ee ss mm bb mt cd Q CFx hP hK hret ls hl
  obtain ⟨hex, hby, hml, hown, hts⟩ := id CFx
  have hl : lv_has ls 3 [(0, .ref h), (1, .int (nI s)), (2, .int (nI p))] := hl
  refine lv_aload_n hex hby dX10_quarter_0 rfl (lv_at hl 0 rfl) ?_
  refine nv_get (v := .ref aT) CFx in_X10_quarter_X10 hK hP 0 rfl rfl 3 (by decide) (List.mem_of_getElem? (i := 1) rfl) f_tables dX10_quarter_1 ?_
  refine lv_bipush (v := nI 64) hex hby dX10_quarter_4 rfl ?_
  refine lv_aload_n hex hby dX10_quarter_6 rfl (lv_at hl 0 rfl) ?_
  refine nv_get (v := .int (nI cu)) CFx in_X10_quarter_X10 hK hP 0 rfl rfl 1 (by decide) (List.mem_of_getElem? (i := 2) rfl) f_curve dX10_quarter_7 ?_
  refine nv_imul hex hby dX10_quarter_10 ?_
  refine lv_bipush (v := nI 8) hex hby dX10_quarter_11 rfl ?_
  refine lv_iload_n hex hby dX10_quarter_13 rfl (lv_at hl 1 rfl) ?_
  refine nv_imul hex hby dX10_quarter_14 ?_
  refine nv_iadd hex hby dX10_quarter_15 ?_
  refine lv_iload_n hex hby dX10_quarter_16 rfl (lv_at hl 2 rfl) ?_
  refine nv_iadd hex hby dX10_quarter_17 ?_
  refine nv_iald hex hby hK hP 1 0 rfl rfl (by omega) (by omega) dX10_quarter_18 ?_
  have hb_1 := htb (64 * cu + 8 * s + p)
  exact hret _ _ _ _ (Or.inl ⟨rfl, _, rfl, rfl, dX10_quarter_19⟩) ⟨_, rfl, rfl⟩
theorem nd_X10_stateFor : ndV yX10_stateFor RX10 2 := by decide +kernel
theorem in_X10_stateFor_X10 : ∀ w ∈ wsX100, w ∈ wsX10_stateFor := fun _ h => List.mem_cons_of_mem _ (List.mem_append_right _ (h))
set_option maxHeartbeats 4000000 in
set_option maxRecDepth 100000 in
theorem c_X10_stateFor {h : Nat} {aT : Nat} {fs : List Value} {cu : Nat} {tb : Nat → Nat} {s : Nat} {p : Nat} (f_curve : fs[1]? = some (.int (nI cu))) (f_tables : fs[3]? = some (.ref aT)) (htb : ∀ j, tb j < 10) (hcu : cu ≤ 2) (hs0 : s < 8) (hp0 : p < 4) : RO l yX10_stateFor wsX10_stateFor 0 0 (dC, dI) (tyK cI cZ cS) [(h, .inr (10, fs)), (aT, .inl (cI, 192, .inl (nA tb)))] [.ref h, .int (nI s), .int (nI p)] (rI (fun r => r = nI (tb (64 * cu + 8 * s + 4 + p)))) := by
  refine ro_of (by decide) rfl (Nat.le_of_ble_eq_true rfl) ?_
  intro pp ee ss mm bb mt cd Q CFx hP hK hret ls hl
  obtain ⟨hex, hby, hml, hown, hts⟩ := id CFx
  have hl : lv_has ls 3 [(0, .ref h), (1, .int (nI s)), (2, .int (nI p))] := hl
  refine lv_aload_n hex hby dX10_stateFor_0 rfl (lv_at hl 0 rfl) ?_
  refine nv_get (v := .ref aT) CFx in_X10_stateFor_X10 hK hP 0 rfl rfl 3 (by decide) (List.mem_of_getElem? (i := 1) rfl) f_tables dX10_stateFor_1 ?_
  refine lv_bipush (v := nI 64) hex hby dX10_stateFor_4 rfl ?_
  refine lv_aload_n hex hby dX10_stateFor_6 rfl (lv_at hl 0 rfl) ?_
  refine nv_get (v := .int (nI cu)) CFx in_X10_stateFor_X10 hK hP 0 rfl rfl 1 (by decide) (List.mem_of_getElem? (i := 2) rfl) f_curve dX10_stateFor_7 ?_
  refine nv_imul hex hby dX10_stateFor_10 ?_
  refine lv_bipush (v := nI 8) hex hby dX10_stateFor_11 rfl ?_
  refine lv_iload_n hex hby dX10_stateFor_13 rfl (lv_at hl 1 rfl) ?_
  refine nv_imul hex hby dX10_stateFor_14 ?_
  refine nv_iadd hex hby dX10_stateFor_15 ?_
  refine lv_iconst (v := nI 4) hex hby dX10_stateFor_16 rfl ?_
  refine nv_iadd hex hby dX10_stateFor_17 ?_
  refine lv_iload_n hex hby dX10_stateFor_18 rfl (lv_at hl 2 rfl) ?_
  refine nv_iadd hex hby dX10_stateFor_19 ?_
  refine nv_iald hex hby hK hP 1 0 rfl rfl (by omega) (by omega) dX10_stateFor_20 ?_
  have hb_1 := htb (64 * cu + 8 * s + 4 + p)
  exact hret _ _ _ _ (Or.inl ⟨rfl, _, rfl, rfl, dX10_stateFor_21⟩) ⟨_, rfl, rfl⟩
theorem nd_X10_isCell : ndV yX10_isCell RX10 2 := by decide +kernel
set_option maxHeartbeats 4000000 in
set_option maxRecDepth 100000 in
theorem c_X10_isCell {h : Nat} {fs : List Value} {m : Nat} {x : Int32} {xz : Int} {y : Int32} {yz : Int} (f_m : fs[0]? = some (.int (nI m))) (hxz : x.toInt = xz) (hyz : y.toInt = yz) (hm6 : m ≤ 6) : RO l yX10_isCell wsX10_isCell 1 22 (dC, dI) (tyK cI cZ cS) [(h, .inr (10, fs))] [.ref h, .int x, .int y] (rI (fun r => (r = nI 1 ∧ (0 ≤ xz ∧ xz < ((2 ^ m : Nat) : Int) ∧ 0 ≤ yz ∧ yz < ((2 ^ m : Nat) : Int))) ∨ (r = nI 0 ∧ (¬ (0 ≤ xz ∧ xz < ((2 ^ m : Nat) : Int) ∧ 0 ≤ yz ∧ yz < ((2 ^ m : Nat) : Int)))))) := by
  refine ro_of (by decide) rfl (Nat.le_of_ble_eq_true rfl) ?_
  intro pp ee ss mm bb mt cd Q CFx hP hK hret ls hl
  obtain ⟨hex, hby, hml, hown, hts⟩ := id CFx
  have hl : lv_has ls 3 [(0, .ref h), (1, .int x), (2, .int y)] := hl
  have hp2 := p2_6 hm6
  have hp2p := p2_pos m
  refine lv_iload_n hex hby dX10_isCell_0 rfl (lv_at hl 1 rfl) ?_
  refine lv_iconst (v := nI 0) hex hby dX10_isCell_1 rfl ?_
  refine lv_aload_n hex hby dX10_isCell_2 rfl (lv_at hl 0 rfl) ?_
  refine ro_Vi (As := []) (rest := [.int (nI 0), .int x]) CFx (c_X10_side (h := h) (fs := fs) (m := m) f_m hm6) 0 gX10_isCell_X10_side rfl nd_X10_side ⟨Nat.le_of_ble_eq_true rfl, Nat.le_of_ble_eq_true rfl⟩ hK hP [0] rfl rfl rfl rfl hl.1 rfl (Nat.le_of_ble_eq_true rfl) dX10_isCell_3 ⟨Nat.le_refl _, Nat.le_refl _⟩ (fun r_1 hr_1 => ?_)
  obtain rfl := hr_1
  refine lv_iconst (v := nI 1) hex hby dX10_isCell_6 rfl ?_
  refine nv_isub hex hby dX10_isCell_7 (by omega) ?_
  refine ro_Si (As := [.int x, .int (nI 0), .int (nI (2 ^ m - 1))]) (rest := []) (C := RX10) CFx (c_X10_in (x := x) (xz := x.toInt) (lo := nI 0) (loz := (0 : Int)) (hi := nI (2 ^ m - 1)) (hiz := ((2 ^ m - 1 : Nat) : Int)) rfl (by rfl) (ni_toInt (by omega))) 3 gX10_isCell_X10_in rfl nd_X10_in ⟨Nat.le_of_ble_eq_true rfl, Nat.le_of_ble_eq_true rfl⟩ hK hP [] rfl rfl hl.1 rfl (Nat.le_of_ble_eq_true rfl) dX10_isCell_8 ⟨Nat.le_refl _, Nat.le_refl _⟩ (fun r_2 hr_2 => ?_)
  rcases hr_2 with ⟨rfl, h_3⟩ | ⟨rfl, h_4⟩
  · refine nv_if_eq (tgt := 32) hex hby dX10_isCell_11 (by decide) (by omega) (fun c => absurd c (by omega)) (fun _ => ?_)
    refine lv_iload_n hex hby dX10_isCell_14 rfl (lv_at hl 2 rfl) ?_
    refine lv_iconst (v := nI 0) hex hby dX10_isCell_15 rfl ?_
    refine lv_aload_n hex hby dX10_isCell_16 rfl (lv_at hl 0 rfl) ?_
    refine ro_Vi (As := []) (rest := [.int (nI 0), .int y]) CFx (c_X10_side (h := h) (fs := fs) (m := m) f_m hm6) 0 gX10_isCell_X10_side rfl nd_X10_side ⟨Nat.le_of_ble_eq_true rfl, Nat.le_of_ble_eq_true rfl⟩ hK hP [0] rfl rfl rfl rfl hl.1 rfl (Nat.le_of_ble_eq_true rfl) dX10_isCell_17 ⟨Nat.le_refl _, Nat.le_refl _⟩ (fun r_5 hr_5 => ?_)
    obtain rfl := hr_5
    refine lv_iconst (v := nI 1) hex hby dX10_isCell_20 rfl ?_
    refine nv_isub hex hby dX10_isCell_21 (by omega) ?_
    refine ro_Si (As := [.int y, .int (nI 0), .int (nI (2 ^ m - 1))]) (rest := []) (C := RX10) CFx (c_X10_in (x := y) (xz := y.toInt) (lo := nI 0) (loz := (0 : Int)) (hi := nI (2 ^ m - 1)) (hiz := ((2 ^ m - 1 : Nat) : Int)) rfl (by rfl) (ni_toInt (by omega))) 3 gX10_isCell_X10_in rfl nd_X10_in ⟨Nat.le_of_ble_eq_true rfl, Nat.le_of_ble_eq_true rfl⟩ hK hP [] rfl rfl hl.1 rfl (Nat.le_of_ble_eq_true rfl) dX10_isCell_22 ⟨Nat.le_refl _, Nat.le_refl _⟩ (fun r_6 hr_6 => ?_)
    rcases hr_6 with ⟨rfl, h_7⟩ | ⟨rfl, h_8⟩
    · refine nv_if_eq (tgt := 32) hex hby dX10_isCell_25 (by decide) (by omega) (fun c => absurd c (by omega)) (fun _ => ?_)
      refine lv_iconst (v := nI 1) hex hby dX10_isCell_28 rfl ?_
      refine lv_goto (tgt := 33) hex hby dX10_isCell_29 (by decide) ?_
      exact hret _ _ _ _ (Or.inr (Or.inl ⟨rfl, _, (Or.inl rfl), rfl, rfl, dX10_isCell_33⟩)) ⟨_, rfl, Or.inl ⟨rfl, (by omega)⟩⟩
    · refine nv_if_eq (tgt := 32) hex hby dX10_isCell_25 (by decide) (by omega) (fun _ => ?_) (fun c => absurd c (by omega))
      refine lv_iconst (v := nI 0) hex hby dX10_isCell_32 rfl ?_
      exact hret _ _ _ _ (Or.inr (Or.inl ⟨rfl, _, (Or.inr rfl), rfl, rfl, dX10_isCell_33⟩)) ⟨_, rfl, Or.inr ⟨rfl, (by omega)⟩⟩
  · refine nv_if_eq (tgt := 32) hex hby dX10_isCell_11 (by decide) (by omega) (fun _ => ?_) (fun c => absurd c (by omega))
    refine lv_iconst (v := nI 0) hex hby dX10_isCell_32 rfl ?_
    exact hret _ _ _ _ (Or.inr (Or.inl ⟨rfl, _, (Or.inr rfl), rfl, rfl, dX10_isCell_33⟩)) ⟨_, rfl, Or.inr ⟨rfl, (by omega)⟩⟩
theorem nd_X10_size : ndV yX10_size RX10 1 := by decide +kernel
set_option maxHeartbeats 4000000 in
set_option maxRecDepth 100000 in
theorem c_X10_size {z : Int} (hz1 : -2147483648 < z) (hz2 : z < 2147483648) : RO l yX10_size wsX10_size 0 0 (dC, dI) (tyK cI cZ cS) [] [.int (zI z)] (rI (fun r => r = nI z.natAbs)) := by
  refine ro_of (by decide) rfl (Nat.le_of_ble_eq_true rfl) ?_
  intro pp ee ss mm bb mt cd Q CFx hP hK hret ls hl
  obtain ⟨hex, hby, hml, hown, hts⟩ := id CFx
  have hl : lv_has ls 1 [(0, .int (zI z))] := hl
  refine lv_iload_n hex hby dX10_size_0 rfl (lv_at hl 0 rfl) ?_
  refine ni_if_ge (tgt := 9) (a := z) hex hby dX10_size_1 (by decide) (zI_toInt (by omega) (by omega)) (fun c_1 => ?_) (fun c_1 => ?_)
  · refine lv_iload_n hex hby dX10_size_9 rfl (lv_at hl 0 rfl) ?_
    refine nv_top (y := nI z.natAbs) (zI_abs1 (by omega)) ?_
    exact hret _ _ _ _ (Or.inl ⟨rfl, _, rfl, rfl, dX10_size_10⟩) ⟨_, rfl, rfl⟩
  · refine lv_iload_n hex hby dX10_size_4 rfl (lv_at hl 0 rfl) ?_
    refine lv_ineg hex hby dX10_size_5 ?_
    refine nv_top (y := nI z.natAbs) (zI_abs2 (by omega)) ?_
    refine lv_goto (tgt := 10) hex hby dX10_size_6 (by decide) ?_
    exact hret _ _ _ _ (Or.inl ⟨rfl, _, rfl, rfl, dX10_size_10⟩) ⟨_, rfl, rfl⟩
theorem nd_X10_far : ndV yX10_far RX10 2 := by decide +kernel
set_option maxHeartbeats 4000000 in
set_option maxRecDepth 100000 in
theorem c_X10_far {a : Nat} {b : Nat} (ha : a < 4096) (hb0 : b < 4096) : RO l yX10_far wsX10_far 1 20 (dC, dI) (tyK cI cZ cS) [] [.int (nI a), .int (nI b)] (rI (fun r => r = nI ((((a / 64 : Nat) : Int) - ((b / 64 : Nat) : Int)).natAbs + (((a % 64 : Nat) : Int) - ((b % 64 : Nat) : Int)).natAbs))) := by
  refine ro_of (by decide) rfl (Nat.le_of_ble_eq_true rfl) ?_
  intro pp ee ss mm bb mt cd Q CFx hP hK hret ls hl
  obtain ⟨hex, hby, hml, hown, hts⟩ := id CFx
  have hl : lv_has ls 2 [(0, .int (nI a)), (1, .int (nI b))] := hl
  refine lv_iload_n hex hby dX10_far_0 rfl (lv_at hl 0 rfl) ?_
  refine lv_bipush (v := nI 64) hex hby dX10_far_1 rfl ?_
  refine nv_idiv hex hby dX10_far_3 (by omega) (by omega) (by omega) ?_
  refine lv_iload_n hex hby dX10_far_4 rfl (lv_at hl 1 rfl) ?_
  refine lv_bipush (v := nI 64) hex hby dX10_far_5 rfl ?_
  refine nv_idiv hex hby dX10_far_7 (by omega) (by omega) (by omega) ?_
  refine nz_isub (a := ((a / 64 : Nat) : Int)) (b := ((b / 64 : Nat) : Int)) hex hby dX10_far_8 (ni_nz _) (ni_nz _) ?_
  refine ro_Si (As := [.int (zI (((a / 64 : Nat) : Int) - ((b / 64 : Nat) : Int)))]) (rest := []) (C := RX10) CFx (c_X10_size (z := ((a / 64 : Nat) : Int) - ((b / 64 : Nat) : Int)) (by omega) (by omega)) 1 gX10_far_X10_size rfl nd_X10_size ⟨Nat.le_of_ble_eq_true rfl, Nat.le_of_ble_eq_true rfl⟩ hK hP [] rfl rfl hl.1 rfl (Nat.le_of_ble_eq_true rfl) dX10_far_9 ⟨Nat.le_refl _, Nat.le_refl _⟩ (fun r_1 hr_1 => ?_)
  obtain rfl := hr_1
  refine lv_iload_n hex hby dX10_far_12 rfl (lv_at hl 0 rfl) ?_
  refine lv_bipush (v := nI 64) hex hby dX10_far_13 rfl ?_
  refine nv_irem hex hby dX10_far_15 (by omega) (by omega) (by omega) ?_
  refine lv_iload_n hex hby dX10_far_16 rfl (lv_at hl 1 rfl) ?_
  refine lv_bipush (v := nI 64) hex hby dX10_far_17 rfl ?_
  refine nv_irem hex hby dX10_far_19 (by omega) (by omega) (by omega) ?_
  refine nz_isub (a := ((a % 64 : Nat) : Int)) (b := ((b % 64 : Nat) : Int)) hex hby dX10_far_20 (ni_nz _) (ni_nz _) ?_
  refine ro_Si (As := [.int (zI (((a % 64 : Nat) : Int) - ((b % 64 : Nat) : Int)))]) (rest := [.int (nI ((((a / 64 : Nat) : Int) - ((b / 64 : Nat) : Int)).natAbs))]) (C := RX10) CFx (c_X10_size (z := ((a % 64 : Nat) : Int) - ((b % 64 : Nat) : Int)) (by omega) (by omega)) 1 gX10_far_X10_size rfl nd_X10_size ⟨Nat.le_of_ble_eq_true rfl, Nat.le_of_ble_eq_true rfl⟩ hK hP [] rfl rfl hl.1 rfl (Nat.le_of_ble_eq_true rfl) dX10_far_21 ⟨Nat.le_refl _, Nat.le_refl _⟩ (fun r_2 hr_2 => ?_)
  obtain rfl := hr_2
  refine nv_iadd hex hby dX10_far_24 ?_
  exact hret _ _ _ _ (Or.inl ⟨rfl, _, rfl, rfl, dX10_far_25⟩) ⟨_, rfl, rfl⟩
theorem nd_X10_pointsIn : ndV yX10_pointsIn RX10 2 := by decide +kernel
theorem in_X10_pointsIn_X10 : ∀ w ∈ wsX100, w ∈ wsX10_pointsIn := fun _ h => List.mem_cons_of_mem _ (List.mem_append_right _ (h))
set_option maxHeartbeats 4000000 in
set_option maxRecDepth 100000 in
theorem c_X10_pointsIn {h : Nat} {aP : Nat} {aI : Nat} {fs : List Value} {pc : Nat} {P : Nat → Nat} {ix : Nat → Nat} {s : Nat} {L : Nat} (f_points : fs[8]? = some (.ref aP)) (f_pointMany : fs[9]? = some (.int (nI pc))) (f_indexOf : fs[21]? = some (.ref aI)) (hPb : ∀ j, P j < 4096) (hpc : pc ≤ 40) (hix : ∀ j, ix j < 4096) (hs0 : s < 4096) (hL0 : L ≤ 6) : RO l yX10_pointsIn wsX10_pointsIn 0 0 (dC, dI) (tyK cI cZ cS) [(h, .inr (10, fs)), (aP, .inl (cI, 40, .inl (nA P))), (aI, .inl (cI, 4096, .inl (nA ix)))] [.ref h, .int (nI s), .int (nI L)] (rI (fun r => r = nI (pcb (fun j => ix (P j)) pc L (s / 4 ^ L)))) := by
  refine ro_of (by decide) rfl (Nat.le_of_ble_eq_true rfl) ?_
  intro pp ee ss mm bb mt cd Q CFx hP hK hret ls hl
  obtain ⟨hex, hby, hml, hown, hts⟩ := id CFx
  have hl : lv_has ls 5 [(0, .ref h), (1, .int (nI s)), (2, .int (nI L))] := hl
  have h24 := p24 L
  refine lv_iconst (v := nI 0) hex hby dX10_pointsIn_0 rfl ?_
  refine lv_istore_n (lv' := [(3, .int (nI 0)), (0, .ref h), (1, .int (nI s)), (2, .int (nI L))]) hex hby dX10_pointsIn_1 rfl hl (by decide) rfl (fun ls hl => ?_)
  refine lv_iconst (v := nI 0) hex hby dX10_pointsIn_2 rfl ?_
  refine lv_istore (lv' := [(4, .int (nI 0)), (3, .int (nI 0)), (0, .ref h), (1, .int (nI s)), (2, .int (nI L))]) hex hby dX10_pointsIn_3 hl (by decide) rfl (fun ls hl => ?_)
  have loop5 : ∀ (nn : Nat) (i : Nat) (f : Nat), (pc - i) < nn → (i ≤ pc) → (f = pcb (fun j => ix (P j)) i L (s / 4 ^ L)) → (f ≤ i) → ∀ ls : Array Slot, lv_has ls 5 [(4, .int (nI i)), (3, .int (nI f)), (0, .ref h), (1, .int (nI s)), (2, .int (nI L))] → W pp l ee (rmO 0 0) ss mm ([.ref h, .int (nI s), .int (nI L)] : List Value).toArray bb mt cd ss.heap [] 0 0 Q (F0 mm 5 ls []) := by
    intro nn
    induction nn with
    | zero => intro i f hms5; exact absurd hms5 (Nat.not_lt_zero _)
    | succ nn ih5 =>
      intro i f hms5 hi hf hfi ls hl
      refine lv_iload hex hby dX10_pointsIn_5 (lv_at hl 0 rfl) ?_
      refine lv_aload_n hex hby dX10_pointsIn_7 rfl (lv_at hl 2 rfl) ?_
      refine nv_get (v := .int (nI pc)) CFx in_X10_pointsIn_X10 hK hP 0 rfl rfl 9 (by decide) (List.mem_of_getElem? (i := 1) rfl) f_pointMany dX10_pointsIn_8 ?_
      refine nv_icmp_ge (tgt := 52) hex hby dX10_pointsIn_11 (by decide) (by omega) (by omega) (fun c_1 => ?_) (fun c_1 => ?_)
      · have hei : i = pc := by omega
        refine lv_iload_n hex hby dX10_pointsIn_52 rfl (lv_at hl 1 rfl) ?_
        exact hret _ _ _ _ (Or.inl ⟨rfl, _, rfl, rfl, dX10_pointsIn_53⟩) ⟨_, rfl, (by rw [hf, hei])⟩
      · refine lv_iload_n hex hby dX10_pointsIn_14 rfl (lv_at hl 1 rfl) ?_
        refine lv_aload_n hex hby dX10_pointsIn_15 rfl (lv_at hl 2 rfl) ?_
        refine nv_get (v := .ref aI) CFx in_X10_pointsIn_X10 hK hP 0 rfl rfl 21 (by decide) (List.mem_of_getElem? (i := 2) rfl) f_indexOf dX10_pointsIn_16 ?_
        refine lv_aload_n hex hby dX10_pointsIn_19 rfl (lv_at hl 2 rfl) ?_
        refine nv_get (v := .ref aP) CFx in_X10_pointsIn_X10 hK hP 0 rfl rfl 8 (by decide) (List.mem_of_getElem? (i := 3) rfl) f_points dX10_pointsIn_20 ?_
        refine lv_iload hex hby dX10_pointsIn_23 (lv_at hl 0 rfl) ?_
        refine nv_iald hex hby hK hP 1 0 rfl rfl (by omega) (by omega) dX10_pointsIn_25 ?_
        have hb_2 := hPb i
        refine nv_iald hex hby hK hP 2 0 rfl rfl (by omega) (by omega) dX10_pointsIn_26 ?_
        have hb_3 := hix (P i)
        have hbi := hix (P i)
        refine lv_iconst (v := nI 2) hex hby dX10_pointsIn_27 rfl ?_
        refine lv_iload_n hex hby dX10_pointsIn_28 rfl (lv_at hl 4 rfl) ?_
        refine nv_imul hex hby dX10_pointsIn_29 ?_
        refine nv_ishr hex hby dX10_pointsIn_30 (by omega) (by omega) ?_
        refine lv_iload_n hex hby dX10_pointsIn_31 rfl (lv_at hl 3 rfl) ?_
        refine lv_iconst (v := nI 2) hex hby dX10_pointsIn_32 rfl ?_
        refine lv_iload_n hex hby dX10_pointsIn_33 rfl (lv_at hl 4 rfl) ?_
        refine nv_imul hex hby dX10_pointsIn_34 ?_
        refine nv_ishr hex hby dX10_pointsIn_35 (by omega) (by omega) ?_
        have hd1 := Nat.div_le_self (ix (P i)) (2 ^ (2 * L))
        have hd2 := Nat.div_le_self s (2 ^ (2 * L))
        refine nv_icmp_ne (tgt := 43) hex hby dX10_pointsIn_36 (by decide) (by omega) (by omega) (fun c_4 => ?_) (fun c_4 => ?_)
        · have hcnd := c_4
          refine lv_iconst (v := nI 0) hex hby dX10_pointsIn_43 rfl ?_
          refine nv_iadd hex hby dX10_pointsIn_44 ?_
          refine lv_istore_n (lv' := [(3, .int (nI (f + 0))), (4, .int (nI i)), (0, .ref h), (1, .int (nI s)), (2, .int (nI L))]) hex hby dX10_pointsIn_45 rfl hl (by decide) rfl (fun ls hl => ?_)
          refine lv_iinc (v := nI (i + 1)) (lv' := [(4, .int (nI (i + 1))), (3, .int (nI (f + 0))), (0, .ref h), (1, .int (nI s)), (2, .int (nI L))]) hex hby dX10_pointsIn_46 hl (k := 1) rfl (ni_inc _) (by decide) rfl (fun ls hl => ?_)
          refine lv_goto (tgt := 5) hex hby dX10_pointsIn_49 (by decide) ?_
          have pf_5 : (f + 0) = pcb (fun j => ix (P j)) (i + 1) L (s / 4 ^ L) := by
            unfold pcb
            rw [ctP_no (p := fun j => ix (P j) / 4 ^ L = s / 4 ^ L) (by rw [← h24]; exact hcnd)]; exact hf
          exact ih5 (i + 1) (f + 0) (by omega) (by omega) pf_5 (by omega) _ (lv_sub hl [0, 1, 2, 3, 4] rfl)
        · have hcnd := c_4
          refine lv_iconst (v := nI 1) hex hby dX10_pointsIn_39 rfl ?_
          refine lv_goto (tgt := 44) hex hby dX10_pointsIn_40 (by decide) ?_
          refine nv_iadd hex hby dX10_pointsIn_44 ?_
          refine lv_istore_n (lv' := [(3, .int (nI (f + 1))), (4, .int (nI i)), (0, .ref h), (1, .int (nI s)), (2, .int (nI L))]) hex hby dX10_pointsIn_45 rfl hl (by decide) rfl (fun ls hl => ?_)
          refine lv_iinc (v := nI (i + 1)) (lv' := [(4, .int (nI (i + 1))), (3, .int (nI (f + 1))), (0, .ref h), (1, .int (nI s)), (2, .int (nI L))]) hex hby dX10_pointsIn_46 hl (k := 1) rfl (ni_inc _) (by decide) rfl (fun ls hl => ?_)
          refine lv_goto (tgt := 5) hex hby dX10_pointsIn_49 (by decide) ?_
          have pf_6 : (f + 1) = pcb (fun j => ix (P j)) (i + 1) L (s / 4 ^ L) := by
            unfold pcb
            rw [ctP_yes (p := fun j => ix (P j) / 4 ^ L = s / 4 ^ L) (by rw [← h24]; exact hcnd), hf]; rfl
          exact ih5 (i + 1) (f + 1) (by omega) (by omega) pf_6 (by omega) _ (lv_sub hl [0, 1, 2, 3, 4] rfl)
  exact loop5 _ 0 0 (Nat.lt_succ_self _) (by omega) rfl (by omega) _ (lv_sub hl [0, 1, 2, 3, 4] rfl)
theorem nd_X10_maps : ndV yX10_maps RX10 0 := by decide +kernel
theorem in_X10_maps_X10 : ∀ w ∈ wsX100, w ∈ wsX10_maps := fun _ h => List.mem_cons_of_mem _ (List.mem_append_right _ (h))
set_option maxHeartbeats 4000000 in
set_option maxRecDepth 100000 in
theorem c_X10_maps {h : Nat} {aS : Nat} {aL : Nat} {aO : Nat} {fs : List Value} {c : Nat} {S : Nat → Nat} {Lv : Nat → Nat} {O : Nat → Nat} {m : Nat} {st : Nat → Nat} {lv : Nat → Nat} (f_starts : fs[11]? = some (.ref aS)) (f_levels : fs[12]? = some (.ref aL)) (f_leafMany : fs[13]? = some (.int (nI c))) (f_leafOf : fs[26]? = some (.ref aO)) (hSb : ∀ j, S j < 4096) (hLb : ∀ j, Lv j < 7) (hOb : ∀ j, O j < 4096) (hm6 : m ≤ 6) (hL : LvL m c st lv) (hag : AG c st lv S Lv) : MU l yX10_maps wsX10_maps 0 0 (dC, dI) (tyK cI cZ cS) [(h, .inr (10, fs)), (aS, .inl (cI, 4096, .inl (nA S))), (aL, .inl (cI, 4096, .inl (nA Lv))), (aO, .inl (cI, 4096, .inl (nA O)))] [] [.ref h] (fun rv_ (u_ : (Nat → Nat)) => rV (LfOK c st u_ ∧ (∀ j, u_ j < 4096)) rv_) (fun (u_ : (Nat → Nat)) => [(h, .inr (10, fs)), (aS, .inl (cI, 4096, .inl (nA S))), (aL, .inl (cI, 4096, .inl (nA Lv))), (aO, .inl (cI, 4096, .inl (nA u_)))]) := by
  refine mu_of (by decide) rfl (Nat.le_of_ble_eq_true rfl) ?_
  intro pp ee ss mm bb mt cd Q A CFx hP hK hD hS hA hTr hret ls hl
  obtain ⟨hex, hby, hml, hown, hts⟩ := id CFx
  have hl : lv_has ls 3 [(0, .ref h)] := hl
  have h46 := p4_6 hm6
  have hcle := hL.le (Nat.le_refl c)
  have hstc := hL.2.2.1
  refine lv_iconst (v := nI 0) hex hby dX10_maps_0 rfl ?_
  refine lv_istore_n (lv' := [(1, .int (nI 0)), (0, .ref h)]) hex hby dX10_maps_1 rfl hl (by decide) rfl (fun ls hl => ?_)
  have loop2 : ∀ (nn : Nat) (k : Nat) (Oo : Nat → Nat), (c - k) < nn → (k ≤ c) → (∀ j, Oo j < 4096) → (∀ q, q < k → ∀ i, st q ≤ i → i < st (q + 1) → Oo i = q) → ∀ (H : Heap) (locs : List Loc), va_P (dC, dI) vwCl [(h, .inr (10, fs)), (aS, .inl (cI, 4096, .inl (nA S))), (aL, .inl (cI, 4096, .inl (nA Lv))), (aO, .inl (cI, 4096, .inl (nA Oo)))] H → va_D A [(h, .inr (10, fs)), (aS, .inl (cI, 4096, .inl (nA S))), (aL, .inl (cI, 4096, .inl (nA Lv))), (aO, .inl (cI, 4096, .inl (nA Oo)))] → va_S A ss.heap H locs → ∀ ls : Array Slot, lv_has ls 3 [(1, .int (nI k)), (0, .ref h)] → W pp l ee (rmO 0 0) ss mm ([.ref h] : List Value).toArray bb mt cd H locs 0 0 Q (F0 mm 2 ls []) := by
    intro nn
    induction nn with
    | zero => intro k Oo hms2; exact absurd hms2 (Nat.not_lt_zero _)
    | succ nn ih2 =>
      intro k Oo hms2 hk hob hdone H locs hP hD hS ls hl
      refine lv_iload_n hex hby dX10_maps_2 rfl (lv_at hl 0 rfl) ?_
      refine lv_aload_n hex hby dX10_maps_3 rfl (lv_at hl 1 rfl) ?_
      refine nv_get (v := .int (nI c)) CFx in_X10_maps_X10 hK hP 0 rfl rfl 13 (by decide) (List.mem_of_getElem? (i := 1) rfl) f_leafMany dX10_maps_4 ?_
      refine nv_icmp_ge (tgt := 57) hex hby dX10_maps_7 (by decide) (by omega) (by omega) (fun c_1 => ?_) (fun c_1 => ?_)
      · exact hret _ Oo _ _ _ _ _ (Or.inr (Or.inr (Or.inl ⟨rfl, rfl, rfl, dX10_maps_57⟩))) ⟨rfl, ⟨(fun k hk => hdone k (by omega)), hob⟩⟩ hP hD hS
      · have hk3 := hL.2.2.2 k (by omega)
        have hgk := hag k (by omega)
        have htop := hL.top (k := k) (by omega)
        have h24 := p24 (Lv k)
        have h461 := p4_6 (show Lv k ≤ 6 from by have := hLb k; omega)
        have hpk := p4_pos (lv k)
        have e4 : (4 : Nat) ^ Lv k = 4 ^ lv k := by rw [hgk.2]
        refine lv_aload_n hex hby dX10_maps_10 rfl (lv_at hl 1 rfl) ?_
        refine nv_get (v := .ref aS) CFx in_X10_maps_X10 hK hP 0 rfl rfl 11 (by decide) (List.mem_of_getElem? (i := 2) rfl) f_starts dX10_maps_11 ?_
        refine lv_iload_n hex hby dX10_maps_14 rfl (lv_at hl 0 rfl) ?_
        refine nv_iald hex hby hK hP 1 0 rfl rfl (by omega) (by omega) dX10_maps_15 ?_
        have hb_2 := hSb k
        refine nv_top (y := nI (st k)) (congrArg nI hgk.1) ?_
        refine lv_istore_n (lv' := [(2, .int (nI (st k))), (1, .int (nI k)), (0, .ref h)]) hex hby dX10_maps_16 rfl hl (by decide) rfl (fun ls hl => ?_)
        have loop17 : ∀ (nn : Nat) (i : Nat) (Oi : Nat → Nat), (st (k + 1) - i) < nn → (st k ≤ i) → (i ≤ st (k + 1)) → (∀ j, Oi j < 4096) → (∀ q, q < k → ∀ j, st q ≤ j → j < st (q + 1) → Oi j = q) → (∀ j, st k ≤ j → j < i → Oi j = k) → ∀ (H : Heap) (locs : List Loc), va_P (dC, dI) vwCl [(h, .inr (10, fs)), (aS, .inl (cI, 4096, .inl (nA S))), (aL, .inl (cI, 4096, .inl (nA Lv))), (aO, .inl (cI, 4096, .inl (nA Oi)))] H → va_D A [(h, .inr (10, fs)), (aS, .inl (cI, 4096, .inl (nA S))), (aL, .inl (cI, 4096, .inl (nA Lv))), (aO, .inl (cI, 4096, .inl (nA Oi)))] → va_S A ss.heap H locs → ∀ ls : Array Slot, lv_has ls 3 [(2, .int (nI i)), (1, .int (nI k)), (0, .ref h)] → W pp l ee (rmO 0 0) ss mm ([.ref h] : List Value).toArray bb mt cd H locs 0 0 Q (F0 mm 17 ls []) := by
          intro nn
          induction nn with
          | zero => intro i Oi hms17; exact absurd hms17 (Nat.not_lt_zero _)
          | succ nn ih17 =>
            intro i Oi hms17 hi1 hi2 hob2 hdone2 hrow H locs hP hD hS ls hl
            refine lv_iload_n hex hby dX10_maps_17 rfl (lv_at hl 0 rfl) ?_
            refine lv_aload_n hex hby dX10_maps_18 rfl (lv_at hl 2 rfl) ?_
            refine nv_get (v := .ref aS) CFx in_X10_maps_X10 hK hP 0 rfl rfl 11 (by decide) (List.mem_of_getElem? (i := 2) rfl) f_starts dX10_maps_19 ?_
            refine lv_iload_n hex hby dX10_maps_22 rfl (lv_at hl 1 rfl) ?_
            refine nv_iald hex hby hK hP 1 0 rfl rfl (by omega) (by omega) dX10_maps_23 ?_
            have hb_3 := hSb k
            refine lv_iconst (v := nI 1) hex hby dX10_maps_24 rfl ?_
            refine lv_iconst (v := nI 2) hex hby dX10_maps_25 rfl ?_
            refine lv_aload_n hex hby dX10_maps_26 rfl (lv_at hl 2 rfl) ?_
            refine nv_get (v := .ref aL) CFx in_X10_maps_X10 hK hP 0 rfl rfl 12 (by decide) (List.mem_of_getElem? (i := 3) rfl) f_levels dX10_maps_27 ?_
            refine lv_iload_n hex hby dX10_maps_30 rfl (lv_at hl 1 rfl) ?_
            refine nv_iald hex hby hK hP 2 0 rfl rfl (by omega) (by omega) dX10_maps_31 ?_
            have hb_4 := hLb k
            refine nv_imul hex hby dX10_maps_32 ?_
            refine nv_ishl hex hby dX10_maps_33 (by omega) (by omega) ?_
            refine nv_top (y := nI (2 ^ (2 * Lv k))) (congrArg nI (Nat.one_mul _)) ?_
            refine nv_top (y := nI (4 ^ Lv k)) (congrArg nI h24) ?_
            refine nv_iadd hex hby dX10_maps_34 ?_
            refine nv_icmp_ge (tgt := 51) hex hby dX10_maps_35 (by decide) (by omega) (by omega) (fun c_5 => ?_) (fun c_5 => ?_)
            · refine lv_iinc (v := nI (k + 1)) (lv' := [(1, .int (nI (k + 1))), (2, .int (nI i)), (0, .ref h)]) hex hby dX10_maps_51 hl (k := 1) rfl (ni_inc _) (by decide) rfl (fun ls hl => ?_)
              refine lv_goto (tgt := 2) hex hby dX10_maps_54 (by decide) ?_
              have pf_6 : ∀ q, q < (k + 1) → ∀ i, st q ≤ i → i < st (q + 1) → Oi i = q := by
                intro q hq i h1 h2
                rcases Nat.lt_or_ge q k with r | r
                · exact hdone2 q r i h1 h2
                · have e : q = k := by omega
                  subst e
                  exact hrow i h1 (by omega)
              exact ih2 (k + 1) Oi (by omega) (by omega) hob2 pf_6 _ _ hP hD hS _ (lv_sub hl [0, 2] rfl)
            · refine lv_aload_n hex hby dX10_maps_38 rfl (lv_at hl 2 rfl) ?_
              refine nv_get (v := .ref aO) CFx in_X10_maps_X10 hK hP 0 rfl rfl 26 (by decide) (List.mem_of_getElem? (i := 4) rfl) f_leafOf dX10_maps_39 ?_
              refine lv_iload_n hex hby dX10_maps_42 rfl (lv_at hl 0 rfl) ?_
              refine lv_iload_n hex hby dX10_maps_43 rfl (lv_at hl 1 rfl) ?_
              refine nv_iast hex hby hK hP hD hS 3 0 rfl rfl (by omega) (by omega) dX10_maps_44 (fun H locs hP hD hS => ?_)
              have hP : va_P (dC, dI) vwCl [(h, .inr (10, fs)), (aS, .inl (cI, 4096, .inl (nA S))), (aL, .inl (cI, 4096, .inl (nA Lv))), (aO, .inl (cI, 4096, .inl (nA (upN Oi i k))))] H := hP
              have hD : va_D A [(h, .inr (10, fs)), (aS, .inl (cI, 4096, .inl (nA S))), (aL, .inl (cI, 4096, .inl (nA Lv))), (aO, .inl (cI, 4096, .inl (nA (upN Oi i k))))] := hD
              have hB_7 := upN_lt (k := i) (x := k) hob2 (by omega)
              refine lv_iinc (v := nI (i + 1)) (lv' := [(2, .int (nI (i + 1))), (1, .int (nI k)), (0, .ref h)]) hex hby dX10_maps_45 hl (k := 0) rfl (ni_inc _) (by decide) rfl (fun ls hl => ?_)
              refine lv_goto (tgt := 17) hex hby dX10_maps_48 (by decide) ?_
              have pf_8 : ∀ q, q < k → ∀ j, st q ≤ j → j < st (q + 1) → (upN Oi i k) j = q := by
                intro q hq j h1 h2
                have hle : st (q + 1) ≤ st k := by
                  rcases Nat.lt_or_ge (q + 1) k with r | r
                  · exact Nat.le_of_lt (hL.mono r (by omega))
                  · rw [show q + 1 = k by omega]; exact Nat.le_refl _
                rw [upN_n (by omega)]; exact hdone2 q hq j h1 h2
              have pf_9 : ∀ j, st k ≤ j → j < (i + 1) → (upN Oi i k) j = k := by
                intro j h1 h2
                rcases Nat.lt_or_ge j i with r | r
                · rw [upN_n (by omega)]; exact hrow j h1 r
                · rw [show j = i by omega, upN_s]
              exact ih17 (i + 1) (upN Oi i k) (by omega) (by omega) (by omega) hB_7 pf_8 pf_9 _ _ hP hD hS _ (lv_sub hl [0, 1, 2] rfl)
        exact loop17 _ (st k) Oo (Nat.lt_succ_self _) (by omega) (by omega) hob hdone (fun j h1 h2 => absurd h1 (by omega)) _ _ hP hD hS _ (lv_sub hl [0, 1, 2] rfl)
  exact loop2 _ 0 O (Nat.lt_succ_self _) (by omega) hOb (fun q hq => absurd hq (by omega)) _ _ hP hD hS _ (lv_sub hl [0, 1] rfl)
end MDL
