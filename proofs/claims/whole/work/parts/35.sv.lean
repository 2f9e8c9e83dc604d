section MSV
variable {l : Launch} {dC : Nat → ClassId} {dI : Nat → Nat → Nat} {cI cZ cS : ClassId}
-- slots of the model
def SlH (K : Nat → Nat) (s m cu tc rl rb rr ra pc bk c : Nat) : Prop := K (100 * s) = m ∧ K (100 * s + 1) = cu ∧ K (100 * s + 2) = tc ∧ K (100 * s + 3) = rl ∧ K (100 * s + 4) = rb ∧ K (100 * s + 5) = rr ∧ K (100 * s + 6) = ra ∧ K (100 * s + 7) = pc ∧ K (100 * s + 8) = bk ∧ K (100 * s + 9) = c
def SlA (F G : Nat → Nat) (b n : Nat) : Prop := ∀ j, j < n → F (b + j) = G j
def Frm (F G : Nat → Nat) (lo hi : Nat) : Prop := ∀ j, j < lo ∨ hi ≤ j → F j = G j
theorem SlH.up {K : Nat → Nat} {s m cu tc rl rb rr ra pc bk c k x : Nat} (h : SlH K s m cu tc rl rb rr ra pc bk c) (hk : 100 * s + 10 ≤ k) : SlH (upN K k x) s m cu tc rl rb rr ra pc bk c := by
  obtain ⟨h0, h1, h2, h3, h4, h5, h6, h7, h8, h9⟩ := h
  refine ⟨?_, ?_, ?_, ?_, ?_, ?_, ?_, ?_, ?_, ?_⟩ <;> (rw [upN_n (by omega)]; assumption)
theorem SlA.zero {F G : Nat → Nat} {b : Nat} : SlA F G b 0 := fun j hj => absurd hj (by omega)
theorem SlA.up {F G : Nat → Nat} {b i : Nat} (h : SlA F G b i) : SlA (upN F (b + i) (G i)) G b (i + 1) := by
  intro j hj
  rcases Nat.lt_or_ge j i with q | q
  · rw [upN_n (by omega)]; exact h j q
  · rw [show j = i by omega, upN_s]
theorem Frm.refl {F : Nat → Nat} {lo hi : Nat} : Frm F F lo hi := fun _ _ => rfl
theorem Frm.up {F G : Nat → Nat} {lo hi k x : Nat} (h : Frm F G lo hi) (hk : lo ≤ k ∧ k < hi) : Frm (upN F k x) G lo hi := by
  intro j hj
  rw [upN_n (by omega)]
  exact h j hj
theorem SlH.frm {K K' : Nat → Nat} {s t m cu tc rl rb rr ra pc bk c : Nat} (h : SlH K s m cu tc rl rb rr ra pc bk c) (hf : Frm K' K (100 * t) (100 * t + 100)) (hst : s ≠ t) : SlH K' s m cu tc rl rb rr ra pc bk c := by
  obtain ⟨h0, h1, h2, h3, h4, h5, h6, h7, h8, h9⟩ := h
  refine ⟨?_, ?_, ?_, ?_, ?_, ?_, ?_, ?_, ?_, ?_⟩ <;> (rw [hf _ (by omega)]; assumption)
theorem SlA.frm {F F' G : Nat → Nat} {b n lo hi : Nat} (h : SlA F G b n) (hf : Frm F' F lo hi) (hb : b + n ≤ lo ∨ hi ≤ b) : SlA F' G b n := by
  intro j hj
  rw [hf _ (by omega)]
  exact h j hj
theorem SlA.le {F G : Nat → Nat} {b n k : Nat} (h : SlA F G b n) (hk : k ≤ n) : SlA F G b k := fun j hj => h j (by omega)
def mr (v : Int64) (w : Nat) : Int64 := 31 * v + (nI w).toInt64
def mrs (f : Nat → Nat) (v : Int64) : Nat → Int64
  | 0 => v
  | n + 1 => mr (mrs f v n) (f n)
theorem nd_X10_more : ndV yX10_more RX10 2 := by decide +kernel
set_option maxHeartbeats 4000000 in
set_option maxRecDepth 100000 in
theorem c_X10_more {v : Int64} {w : Nat}  : RO l yX10_more wsX10_more 0 0 (dC, dI) (tyK cI cZ cS) [] [.long v, .int (nI w)] (rL (fun r => r = mr v w)) := by
  refine ro_of (by decide) rfl (Nat.le_of_ble_eq_true rfl) ?_
  intro pp ee ss mm bb mt cd Q CFx hP hK hret ls hl
  obtain ⟨hex, hby, hml, hown, hts⟩ := id CFx
  have hl : lv_has ls 3 [(0, .long v), (2, .int (nI w))] := hl
  refine lv_ldc2 (v := 31) hex hby hown (hts _ (List.mem_of_getElem? (i := 1) rfl)) dX10_more_0 ?_
  refine lv_lload_n hex hby dX10_more_3 rfl (lv_at hl 0 rfl) ?_
  refine lv_lmul hex hby dX10_more_4 ?_
  refine lv_iload_n hex hby dX10_more_5 rfl (lv_at hl 1 rfl) ?_
  refine lv_i2l hex hby dX10_more_6 rfl ?_
  refine lv_ladd hex hby dX10_more_7 ?_
  exact hret _ _ _ _ (Or.inr (Or.inr (Or.inr (Or.inl ⟨rfl, _, rfl, rfl, dX10_more_8⟩)))) ⟨_, rfl, rfl⟩
theorem nd_X10_save : ndV yX10_save RX10 1 := by decide +kernel
theorem in_X10_save_X10 : ∀ w ∈ wsX100, w ∈ wsX10_save := fun _ h => List.mem_cons_of_mem _ (List.mem_append_right _ (h))
set_option maxHeartbeats 4000000 in
set_option maxRecDepth 100000 in
theorem c_X10_save {h : Nat} {aM : Nat} {aT : Nat} {aP : Nat} {aS : Nat} {aL : Nat} {aK : Nat} {aKT : Nat} {aKS : Nat} {aKL : Nat} {aIK : Nat} {fs : List Value} {m : Nat} {cu : Nat} {rl : Nat} {rb : Nat} {rr : Nat} {ra : Nat} {pc : Nat} {bk : Nat} {c : Nat} {sm : Nat → Nat} {tb : Nat → Nat} {P : Nat → Nat} {S : Nat → Nat} {Lv : Nat → Nat} {K : Nat → Nat} {KT : Nat → Nat} {KS : Nat → Nat} {KL : Nat → Nat} {ik : Nat → Nat} {w : Int32} {wz : Int} (f_m : fs[0]? = some (.int (nI m))) (f_curve : fs[1]? = some (.int (nI cu))) (f_stateMany : fs[2]? = some (.ref aM)) (f_tables : fs[3]? = some (.ref aT)) (f_left : fs[4]? = some (.int (nI rl))) (f_below : fs[5]? = some (.int (nI rb))) (f_right : fs[6]? = some (.int (nI rr))) (f_above : fs[7]? = some (.int (nI ra))) (f_points : fs[8]? = some (.ref aP)) (f_pointMany : fs[9]? = some (.int (nI pc))) (f_bucket : fs[10]? = some (.int (nI bk))) (f_starts : fs[11]? = some (.ref aS)) (f_levels : fs[12]? = some (.ref aL)) (f_leafMany : fs[13]? = some (.int (nI c))) (f_kept : fs[16]? = some (.ref aK)) (f_keptTables : fs[17]? = some (.ref aKT)) (f_keptStarts : fs[18]? = some (.ref aKS)) (f_keptLevels : fs[19]? = some (.ref aKL)) (f_isKept : fs[20]? = some (.ref aIK)) (hwz : w.toInt = wz) (hsm : ∀ j, sm j < 9) (htb : ∀ j, tb j < 10) (hPb : ∀ j, P j < 4096) (hpc : pc ≤ 40) (hSb : ∀ j, S j < 4096) (hLb : ∀ j, Lv j < 7) (hm6 : m ≤ 6) (hcu : cu ≤ 2) (hbk : bk ≤ 8) (hc0 : c < 4096) (hrl : rl < 64) (hrb : rb < 64) (hrr : rr < 64) (hra : ra < 64) (hKb : ∀ j, K j < 4096) (hKTb : ∀ j, KT j < 10) (hKSb : ∀ j, KS j < 4096) (hKLb : ∀ j, KL j < 7) (hik : ∀ j, ik j < 2) : MU l yX10_save wsX10_save 1 22 (dC, dI) (tyK cI cZ cS) [(h, .inr (10, fs)), (aM, .inl (cI, 3, .inl (nA sm))), (aT, .inl (cI, 192, .inl (nA tb))), (aP, .inl (cI, 40, .inl (nA P))), (aS, .inl (cI, 4096, .inl (nA S))), (aL, .inl (cI, 4096, .inl (nA Lv))), (aK, .inl (cI, 200, .inl (nA K))), (aKT, .inl (cI, 128, .inl (nA KT))), (aKS, .inl (cI, 8192, .inl (nA KS))), (aKL, .inl (cI, 8192, .inl (nA KL))), (aIK, .inl (cZ, 2, .inl (nA ik)))] [] [.ref h, .int w] (fun rv_ (u_ : (Nat → Nat) × (Nat → Nat) × (Nat → Nat) × (Nat → Nat) × (Nat → Nat)) => rI (fun r => (r = nI c ∧ (0 ≤ wz ∧ wz ≤ 1) ∧ SlH u_.1 wz.toNat m cu (sm 2) rl rb rr ra pc bk c ∧ SlA u_.1 P (100 * wz.toNat + 10) 40 ∧ Frm u_.1 K (100 * wz.toNat) (100 * wz.toNat + 100) ∧ SlA u_.2.1 (fun j => tb (128 + j)) (64 * wz.toNat) 64 ∧ Frm u_.2.1 KT (64 * wz.toNat) (64 * wz.toNat + 64) ∧ SlA u_.2.2.1 S (4096 * wz.toNat) 4096 ∧ Frm u_.2.2.1 KS (4096 * wz.toNat) (4096 * wz.toNat + 4096) ∧ SlA u_.2.2.2.1 Lv (4096 * wz.toNat) 4096 ∧ Frm u_.2.2.2.1 KL (4096 * wz.toNat) (4096 * wz.toNat + 4096) ∧ upN ik wz.toNat 1 = u_.2.2.2.2 ∧ (∀ j, u_.1 j < 4096) ∧ (∀ j, u_.2.1 j < 10) ∧ (∀ j, u_.2.2.1 j < 4096) ∧ (∀ j, u_.2.2.2.1 j < 7)) ∨ (r = zI (-1) ∧ (¬ (0 ≤ wz ∧ wz ≤ 1)) ∧ K = u_.1 ∧ KT = u_.2.1 ∧ KS = u_.2.2.1 ∧ KL = u_.2.2.2.1 ∧ ik = u_.2.2.2.2)) rv_) (fun (u_ : (Nat → Nat) × (Nat → Nat) × (Nat → Nat) × (Nat → Nat) × (Nat → Nat)) => [(h, .inr (10, fs)), (aM, .inl (cI, 3, .inl (nA sm))), (aT, .inl (cI, 192, .inl (nA tb))), (aP, .inl (cI, 40, .inl (nA P))), (aS, .inl (cI, 4096, .inl (nA S))), (aL, .inl (cI, 4096, .inl (nA Lv))), (aK, .inl (cI, 200, .inl (nA u_.1))), (aKT, .inl (cI, 128, .inl (nA u_.2.1))), (aKS, .inl (cI, 8192, .inl (nA u_.2.2.1))), (aKL, .inl (cI, 8192, .inl (nA u_.2.2.2.1))), (aIK, .inl (cZ, 2, .inl (nA u_.2.2.2.2)))]) := by
  refine mu_of (by decide) rfl (Nat.le_of_ble_eq_true rfl) ?_
  intro pp ee ss mm bb mt cd Q A CFx hP hK hD hS hA hTr hret ls hl
  obtain ⟨hex, hby, hml, hown, hts⟩ := id CFx
  have hl : lv_has ls 4 [(0, .ref h), (1, .int w)] := hl
  refine lv_iload_n hex hby dX10_save_0 rfl (lv_at hl 1 rfl) ?_
  refine lv_iconst (v := nI 0) hex hby dX10_save_1 rfl ?_
  refine lv_iconst (v := nI 1) hex hby dX10_save_2 rfl ?_
  refine ro_Si (As := [.int w, .int (nI 0), .int (nI 1)]) (rest := []) (C := RX10) CFx (c_X10_in (x := w) (xz := w.toInt) (lo := nI 0) (loz := (0 : Int)) (hi := nI 1) (hiz := (1 : Int)) rfl (by rfl) (by rfl)) 3 gX10_save_X10_in rfl nd_X10_in ⟨Nat.le_of_ble_eq_true rfl, Nat.le_of_ble_eq_true rfl⟩ hK hP [] rfl rfl hl.1 rfl (Nat.le_of_ble_eq_true rfl) dX10_save_3 ⟨Nat.le_refl _, Nat.le_refl _⟩ (fun r_1 hr_1 => ?_)
  rcases hr_1 with ⟨rfl, h_2⟩ | ⟨rfl, h_3⟩
  · refine nv_if_ne (tgt := 11) hex hby dX10_save_6 (by decide) (by omega) (fun _ => ?_) (fun c => absurd c (by omega))
    obtain ⟨jw_, hjw__, rfl, hjw_e⟩ := ni_of (x := w) (by omega)
    obtain rfl : jw_ = wz.toNat := by omega
    refine lv_bipush (v := nI 100) hex hby dX10_save_11 rfl ?_
    refine lv_iload_n hex hby dX10_save_13 rfl (lv_at hl 1 rfl) ?_
    refine nv_imul hex hby dX10_save_14 ?_
    refine lv_istore_n (lv' := [(2, .int (nI (100 * wz.toNat))), (0, .ref h), (1, .int (nI wz.toNat))]) hex hby dX10_save_15 rfl hl (by decide) rfl (fun ls hl => ?_)
    refine lv_aload_n hex hby dX10_save_16 rfl (lv_at hl 1 rfl) ?_
    refine nv_get (v := .ref aK) CFx in_X10_save_X10 hK hP 0 rfl rfl 16 (by decide) (List.mem_of_getElem? (i := 1) rfl) f_kept dX10_save_17 ?_
    refine lv_iload_n hex hby dX10_save_20 rfl (lv_at hl 0 rfl) ?_
    refine lv_aload_n hex hby dX10_save_21 rfl (lv_at hl 1 rfl) ?_
    refine nv_get (v := .int (nI m)) CFx in_X10_save_X10 hK hP 0 rfl rfl 0 (by decide) (List.mem_of_getElem? (i := 2) rfl) f_m dX10_save_22 ?_
    refine nv_iast hex hby hK hP hD hS 6 0 rfl rfl (by omega) (by omega) dX10_save_25 (fun H locs hP hD hS => ?_)
    have hP : va_P (dC, dI) vwCl [(h, .inr (10, fs)), (aM, .inl (cI, 3, .inl (nA sm))), (aT, .inl (cI, 192, .inl (nA tb))), (aP, .inl (cI, 40, .inl (nA P))), (aS, .inl (cI, 4096, .inl (nA S))), (aL, .inl (cI, 4096, .inl (nA Lv))), (aK, .inl (cI, 200, .inl (nA (upN K (100 * wz.toNat) m)))), (aKT, .inl (cI, 128, .inl (nA KT))), (aKS, .inl (cI, 8192, .inl (nA KS))), (aKL, .inl (cI, 8192, .inl (nA KL))), (aIK, .inl (cZ, 2, .inl (nA ik)))] H := hP
    have hD : va_D A [(h, .inr (10, fs)), (aM, .inl (cI, 3, .inl (nA sm))), (aT, .inl (cI, 192, .inl (nA tb))), (aP, .inl (cI, 40, .inl (nA P))), (aS, .inl (cI, 4096, .inl (nA S))), (aL, .inl (cI, 4096, .inl (nA Lv))), (aK, .inl (cI, 200, .inl (nA (upN K (100 * wz.toNat) m)))), (aKT, .inl (cI, 128, .inl (nA KT))), (aKS, .inl (cI, 8192, .inl (nA KS))), (aKL, .inl (cI, 8192, .inl (nA KL))), (aIK, .inl (cZ, 2, .inl (nA ik)))] := hD
    have hB_4 := upN_lt (k := 100 * wz.toNat) (x := m) hKb (by omega)
    refine lv_aload_n hex hby dX10_save_26 rfl (lv_at hl 1 rfl) ?_
    refine nv_get (v := .ref aK) CFx in_X10_save_X10 hK hP 0 rfl rfl 16 (by decide) (List.mem_of_getElem? (i := 1) rfl) f_kept dX10_save_27 ?_
    refine lv_iload_n hex hby dX10_save_30 rfl (lv_at hl 0 rfl) ?_
    refine lv_iconst (v := nI 1) hex hby dX10_save_31 rfl ?_
    refine nv_iadd hex hby dX10_save_32 ?_
    refine lv_aload_n hex hby dX10_save_33 rfl (lv_at hl 1 rfl) ?_
    refine nv_get (v := .int (nI cu)) CFx in_X10_save_X10 hK hP 0 rfl rfl 1 (by decide) (List.mem_of_getElem? (i := 3) rfl) f_curve dX10_save_34 ?_
    refine nv_iast hex hby hK hP hD hS 6 0 rfl rfl (by omega) (by omega) dX10_save_37 (fun H locs hP hD hS => ?_)
    have hP : va_P (dC, dI) vwCl [(h, .inr (10, fs)), (aM, .inl (cI, 3, .inl (nA sm))), (aT, .inl (cI, 192, .inl (nA tb))), (aP, .inl (cI, 40, .inl (nA P))), (aS, .inl (cI, 4096, .inl (nA S))), (aL, .inl (cI, 4096, .inl (nA Lv))), (aK, .inl (cI, 200, .inl (nA (upN (upN K (100 * wz.toNat) m) (100 * wz.toNat + 1) cu)))), (aKT, .inl (cI, 128, .inl (nA KT))), (aKS, .inl (cI, 8192, .inl (nA KS))), (aKL, .inl (cI, 8192, .inl (nA KL))), (aIK, .inl (cZ, 2, .inl (nA ik)))] H := hP
    have hD : va_D A [(h, .inr (10, fs)), (aM, .inl (cI, 3, .inl (nA sm))), (aT, .inl (cI, 192, .inl (nA tb))), (aP, .inl (cI, 40, .inl (nA P))), (aS, .inl (cI, 4096, .inl (nA S))), (aL, .inl (cI, 4096, .inl (nA Lv))), (aK, .inl (cI, 200, .inl (nA (upN (upN K (100 * wz.toNat) m) (100 * wz.toNat + 1) cu)))), (aKT, .inl (cI, 128, .inl (nA KT))), (aKS, .inl (cI, 8192, .inl (nA KS))), (aKL, .inl (cI, 8192, .inl (nA KL))), (aIK, .inl (cZ, 2, .inl (nA ik)))] := hD
    have hB_5 := upN_lt (k := 100 * wz.toNat + 1) (x := cu) hB_4 (by omega)
    refine lv_aload_n hex hby dX10_save_38 rfl (lv_at hl 1 rfl) ?_
    refine nv_get (v := .ref aK) CFx in_X10_save_X10 hK hP 0 rfl rfl 16 (by decide) (List.mem_of_getElem? (i := 1) rfl) f_kept dX10_save_39 ?_
    refine lv_iload_n hex hby dX10_save_42 rfl (lv_at hl 0 rfl) ?_
    refine lv_iconst (v := nI 2) hex hby dX10_save_43 rfl ?_
    refine nv_iadd hex hby dX10_save_44 ?_
    refine lv_aload_n hex hby dX10_save_45 rfl (lv_at hl 1 rfl) ?_
    refine nv_get (v := .ref aM) CFx in_X10_save_X10 hK hP 0 rfl rfl 2 (by decide) (List.mem_of_getElem? (i := 4) rfl) f_stateMany dX10_save_46 ?_
    refine lv_iconst (v := nI 2) hex hby dX10_save_49 rfl ?_
    refine nv_iald hex hby hK hP 1 0 rfl rfl (by omega) (by omega) dX10_save_50 ?_
    have hb_6 := hsm 2
    refine nv_iast hex hby hK hP hD hS 6 0 rfl rfl (by omega) (by omega) dX10_save_51 (fun H locs hP hD hS => ?_)
    have hP : va_P (dC, dI) vwCl [(h, .inr (10, fs)), (aM, .inl (cI, 3, .inl (nA sm))), (aT, .inl (cI, 192, .inl (nA tb))), (aP, .inl (cI, 40, .inl (nA P))), (aS, .inl (cI, 4096, .inl (nA S))), (aL, .inl (cI, 4096, .inl (nA Lv))), (aK, .inl (cI, 200, .inl (nA (upN (upN (upN K (100 * wz.toNat) m) (100 * wz.toNat + 1) cu) (100 * wz.toNat + 2) (sm 2))))), (aKT, .inl (cI, 128, .inl (nA KT))), (aKS, .inl (cI, 8192, .inl (nA KS))), (aKL, .inl (cI, 8192, .inl (nA KL))), (aIK, .inl (cZ, 2, .inl (nA ik)))] H := hP
    have hD : va_D A [(h, .inr (10, fs)), (aM, .inl (cI, 3, .inl (nA sm))), (aT, .inl (cI, 192, .inl (nA tb))), (aP, .inl (cI, 40, .inl (nA P))), (aS, .inl (cI, 4096, .inl (nA S))), (aL, .inl (cI, 4096, .inl (nA Lv))), (aK, .inl (cI, 200, .inl (nA (upN (upN (upN K (100 * wz.toNat) m) (100 * wz.toNat + 1) cu) (100 * wz.toNat + 2) (sm 2))))), (aKT, .inl (cI, 128, .inl (nA KT))), (aKS, .inl (cI, 8192, .inl (nA KS))), (aKL, .inl (cI, 8192, .inl (nA KL))), (aIK, .inl (cZ, 2, .inl (nA ik)))] := hD
    have hB_7 := upN_lt (k := 100 * wz.toNat + 2) (x := sm 2) hB_5 (by omega)
    refine lv_aload_n hex hby dX10_save_52 rfl (lv_at hl 1 rfl) ?_
    refine nv_get (v := .ref aK) CFx in_X10_save_X10 hK hP 0 rfl rfl 16 (by decide) (List.mem_of_getElem? (i := 1) rfl) f_kept dX10_save_53 ?_
    refine lv_iload_n hex hby dX10_save_56 rfl (lv_at hl 0 rfl) ?_
    refine lv_iconst (v := nI 3) hex hby dX10_save_57 rfl ?_
    refine nv_iadd hex hby dX10_save_58 ?_
    refine lv_aload_n hex hby dX10_save_59 rfl (lv_at hl 1 rfl) ?_
    refine nv_get (v := .int (nI rl)) CFx in_X10_save_X10 hK hP 0 rfl rfl 4 (by decide) (List.mem_of_getElem? (i := 5) rfl) f_left dX10_save_60 ?_
    refine nv_iast hex hby hK hP hD hS 6 0 rfl rfl (by omega) (by omega) dX10_save_63 (fun H locs hP hD hS => ?_)
    have hP : va_P (dC, dI) vwCl [(h, .inr (10, fs)), (aM, .inl (cI, 3, .inl (nA sm))), (aT, .inl (cI, 192, .inl (nA tb))), (aP, .inl (cI, 40, .inl (nA P))), (aS, .inl (cI, 4096, .inl (nA S))), (aL, .inl (cI, 4096, .inl (nA Lv))), (aK, .inl (cI, 200, .inl (nA (upN (upN (upN (upN K (100 * wz.toNat) m) (100 * wz.toNat + 1) cu) (100 * wz.toNat + 2) (sm 2)) (100 * wz.toNat + 3) rl)))), (aKT, .inl (cI, 128, .inl (nA KT))), (aKS, .inl (cI, 8192, .inl (nA KS))), (aKL, .inl (cI, 8192, .inl (nA KL))), (aIK, .inl (cZ, 2, .inl (nA ik)))] H := hP
    have hD : va_D A [(h, .inr (10, fs)), (aM, .inl (cI, 3, .inl (nA sm))), (aT, .inl (cI, 192, .inl (nA tb))), (aP, .inl (cI, 40, .inl (nA P))), (aS, .inl (cI, 4096, .inl (nA S))), (aL, .inl (cI, 4096, .inl (nA Lv))), (aK, .inl (cI, 200, .inl (nA (upN (upN (upN (upN K (100 * wz.toNat) m) (100 * wz.toNat + 1) cu) (100 * wz.toNat + 2) (sm 2)) (100 * wz.toNat + 3) rl)))), (aKT, .inl (cI, 128, .inl (nA KT))), (aKS, .inl (cI, 8192, .inl (nA KS))), (aKL, .inl (cI, 8192, .inl (nA KL))), (aIK, .inl (cZ, 2, .inl (nA ik)))] := hD
    have hB_8 := upN_lt (k := 100 * wz.toNat + 3) (x := rl) hB_7 (by omega)
    refine lv_aload_n hex hby dX10_save_64 rfl (lv_at hl 1 rfl) ?_
    refine nv_get (v := .ref aK) CFx in_X10_save_X10 hK hP 0 rfl rfl 16 (by decide) (List.mem_of_getElem? (i := 1) rfl) f_kept dX10_save_65 ?_
    refine lv_iload_n hex hby dX10_save_68 rfl (lv_at hl 0 rfl) ?_
    refine lv_iconst (v := nI 4) hex hby dX10_save_69 rfl ?_
    refine nv_iadd hex hby dX10_save_70 ?_
    refine lv_aload_n hex hby dX10_save_71 rfl (lv_at hl 1 rfl) ?_
    refine nv_get (v := .int (nI rb)) CFx in_X10_save_X10 hK hP 0 rfl rfl 5 (by decide) (List.mem_of_getElem? (i := 6) rfl) f_below dX10_save_72 ?_
    refine nv_iast hex hby hK hP hD hS 6 0 rfl rfl (by omega) (by omega) dX10_save_75 (fun H locs hP hD hS => ?_)
    have hP : va_P (dC, dI) vwCl [(h, .inr (10, fs)), (aM, .inl (cI, 3, .inl (nA sm))), (aT, .inl (cI, 192, .inl (nA tb))), (aP, .inl (cI, 40, .inl (nA P))), (aS, .inl (cI, 4096, .inl (nA S))), (aL, .inl (cI, 4096, .inl (nA Lv))), (aK, .inl (cI, 200, .inl (nA (upN (upN (upN (upN (upN K (100 * wz.toNat) m) (100 * wz.toNat + 1) cu) (100 * wz.toNat + 2) (sm 2)) (100 * wz.toNat + 3) rl) (100 * wz.toNat + 4) rb)))), (aKT, .inl (cI, 128, .inl (nA KT))), (aKS, .inl (cI, 8192, .inl (nA KS))), (aKL, .inl (cI, 8192, .inl (nA KL))), (aIK, .inl (cZ, 2, .inl (nA ik)))] H := hP
    have hD : va_D A [(h, .inr (10, fs)), (aM, .inl (cI, 3, .inl (nA sm))), (aT, .inl (cI, 192, .inl (nA tb))), (aP, .inl (cI, 40, .inl (nA P))), (aS, .inl (cI, 4096, .inl (nA S))), (aL, .inl (cI, 4096, .inl (nA Lv))), (aK, .inl (cI, 200, .inl (nA (upN (upN (upN (upN (upN K (100 * wz.toNat) m) (100 * wz.toNat + 1) cu) (100 * wz.toNat + 2) (sm 2)) (100 * wz.toNat + 3) rl) (100 * wz.toNat + 4) rb)))), (aKT, .inl (cI, 128, .inl (nA KT))), (aKS, .inl (cI, 8192, .inl (nA KS))), (aKL, .inl (cI, 8192, .inl (nA KL))), (aIK, .inl (cZ, 2, .inl (nA ik)))] := hD
    have hB_9 := upN_lt (k := 100 * wz.toNat + 4) (x := rb) hB_8 (by omega)
    refine lv_aload_n hex hby dX10_save_76 rfl (lv_at hl 1 rfl) ?_
    refine nv_get (v := .ref aK) CFx in_X10_save_X10 hK hP 0 rfl rfl 16 (by decide) (List.mem_of_getElem? (i := 1) rfl) f_kept dX10_save_77 ?_
    refine lv_iload_n hex hby dX10_save_80 rfl (lv_at hl 0 rfl) ?_
    refine lv_iconst (v := nI 5) hex hby dX10_save_81 rfl ?_
    refine nv_iadd hex hby dX10_save_82 ?_
    refine lv_aload_n hex hby dX10_save_83 rfl (lv_at hl 1 rfl) ?_
    refine nv_get (v := .int (nI rr)) CFx in_X10_save_X10 hK hP 0 rfl rfl 6 (by decide) (List.mem_of_getElem? (i := 7) rfl) f_right dX10_save_84 ?_
    refine nv_iast hex hby hK hP hD hS 6 0 rfl rfl (by omega) (by omega) dX10_save_87 (fun H locs hP hD hS => ?_)
    have hP : va_P (dC, dI) vwCl [(h, .inr (10, fs)), (aM, .inl (cI, 3, .inl (nA sm))), (aT, .inl (cI, 192, .inl (nA tb))), (aP, .inl (cI, 40, .inl (nA P))), (aS, .inl (cI, 4096, .inl (nA S))), (aL, .inl (cI, 4096, .inl (nA Lv))), (aK, .inl (cI, 200, .inl (nA (upN (upN (upN (upN (upN (upN K (100 * wz.toNat) m) (100 * wz.toNat + 1) cu) (100 * wz.toNat + 2) (sm 2)) (100 * wz.toNat + 3) rl) (100 * wz.toNat + 4) rb) (100 * wz.toNat + 5) rr)))), (aKT, .inl (cI, 128, .inl (nA KT))), (aKS, .inl (cI, 8192, .inl (nA KS))), (aKL, .inl (cI, 8192, .inl (nA KL))), (aIK, .inl (cZ, 2, .inl (nA ik)))] H := hP
    have hD : va_D A [(h, .inr (10, fs)), (aM, .inl (cI, 3, .inl (nA sm))), (aT, .inl (cI, 192, .inl (nA tb))), (aP, .inl (cI, 40, .inl (nA P))), (aS, .inl (cI, 4096, .inl (nA S))), (aL, .inl (cI, 4096, .inl (nA Lv))), (aK, .inl (cI, 200, .inl (nA (upN (upN (upN (upN (upN (upN K (100 * wz.toNat) m) (100 * wz.toNat + 1) cu) (100 * wz.toNat + 2) (sm 2)) (100 * wz.toNat + 3) rl) (100 * wz.toNat + 4) rb) (100 * wz.toNat + 5) rr)))), (aKT, .inl (cI, 128, .inl (nA KT))), (aKS, .inl (cI, 8192, .inl (nA KS))), (aKL, .inl (cI, 8192, .inl (nA KL))), (aIK, .inl (cZ, 2, .inl (nA ik)))] := hD
    have hB_10 := upN_lt (k := 100 * wz.toNat + 5) (x := rr) hB_9 (by omega)
    refine lv_aload_n hex hby dX10_save_88 rfl (lv_at hl 1 rfl) ?_
    refine nv_get (v := .ref aK) CFx in_X10_save_X10 hK hP 0 rfl rfl 16 (by decide) (List.mem_of_getElem? (i := 1) rfl) f_kept dX10_save_89 ?_
    refine lv_iload_n hex hby dX10_save_92 rfl (lv_at hl 0 rfl) ?_
    refine lv_bipush (v := nI 6) hex hby dX10_save_93 rfl ?_
    refine nv_iadd hex hby dX10_save_95 ?_
    refine lv_aload_n hex hby dX10_save_96 rfl (lv_at hl 1 rfl) ?_
    refine nv_get (v := .int (nI ra)) CFx in_X10_save_X10 hK hP 0 rfl rfl 7 (by decide) (List.mem_of_getElem? (i := 8) rfl) f_above dX10_save_97 ?_
    refine nv_iast hex hby hK hP hD hS 6 0 rfl rfl (by omega) (by omega) dX10_save_100 (fun H locs hP hD hS => ?_)
    have hP : va_P (dC, dI) vwCl [(h, .inr (10, fs)), (aM, .inl (cI, 3, .inl (nA sm))), (aT, .inl (cI, 192, .inl (nA tb))), (aP, .inl (cI, 40, .inl (nA P))), (aS, .inl (cI, 4096, .inl (nA S))), (aL, .inl (cI, 4096, .inl (nA Lv))), (aK, .inl (cI, 200, .inl (nA (upN (upN (upN (upN (upN (upN (upN K (100 * wz.toNat) m) (100 * wz.toNat + 1) cu) (100 * wz.toNat + 2) (sm 2)) (100 * wz.toNat + 3) rl) (100 * wz.toNat + 4) rb) (100 * wz.toNat + 5) rr) (100 * wz.toNat + 6) ra)))), (aKT, .inl (cI, 128, .inl (nA KT))), (aKS, .inl (cI, 8192, .inl (nA KS))), (aKL, .inl (cI, 8192, .inl (nA KL))), (aIK, .inl (cZ, 2, .inl (nA ik)))] H := hP
    have hD : va_D A [(h, .inr (10, fs)), (aM, .inl (cI, 3, .inl (nA sm))), (aT, .inl (cI, 192, .inl (nA tb))), (aP, .inl (cI, 40, .inl (nA P))), (aS, .inl (cI, 4096, .inl (nA S))), (aL, .inl (cI, 4096, .inl (nA Lv))), (aK, .inl (cI, 200, .inl (nA (upN (upN (upN (upN (upN (upN (upN K (100 * wz.toNat) m) (100 * wz.toNat + 1) cu) (100 * wz.toNat + 2) (sm 2)) (100 * wz.toNat + 3) rl) (100 * wz.toNat + 4) rb) (100 * wz.toNat + 5) rr) (100 * wz.toNat + 6) ra)))), (aKT, .inl (cI, 128, .inl (nA KT))), (aKS, .inl (cI, 8192, .inl (nA KS))), (aKL, .inl (cI, 8192, .inl (nA KL))), (aIK, .inl (cZ, 2, .inl (nA ik)))] := hD
    have hB_11 := upN_lt (k := 100 * wz.toNat + 6) (x := ra) hB_10 (by omega)
    refine lv_aload_n hex hby dX10_save_101 rfl (lv_at hl 1 rfl) ?_
    refine nv_get (v := .ref aK) CFx in_X10_save_X10 hK hP 0 rfl rfl 16 (by decide) (List.mem_of_getElem? (i := 1) rfl) f_kept dX10_save_102 ?_
    refine lv_iload_n hex hby dX10_save_105 rfl (lv_at hl 0 rfl) ?_
    refine lv_bipush (v := nI 7) hex hby dX10_save_106 rfl ?_
    refine nv_iadd hex hby dX10_save_108 ?_
    refine lv_aload_n hex hby dX10_save_109 rfl (lv_at hl 1 rfl) ?_
    refine nv_get (v := .int (nI pc)) CFx in_X10_save_X10 hK hP 0 rfl rfl 9 (by decide) (List.mem_of_getElem? (i := 9) rfl) f_pointMany dX10_save_110 ?_
    refine nv_iast hex hby hK hP hD hS 6 0 rfl rfl (by omega) (by omega) dX10_save_113 (fun H locs hP hD hS => ?_)
    have hP : va_P (dC, dI) vwCl [(h, .inr (10, fs)), (aM, .inl (cI, 3, .inl (nA sm))), (aT, .inl (cI, 192, .inl (nA tb))), (aP, .inl (cI, 40, .inl (nA P))), (aS, .inl (cI, 4096, .inl (nA S))), (aL, .inl (cI, 4096, .inl (nA Lv))), (aK, .inl (cI, 200, .inl (nA (upN (upN (upN (upN (upN (upN (upN (upN K (100 * wz.toNat) m) (100 * wz.toNat + 1) cu) (100 * wz.toNat + 2) (sm 2)) (100 * wz.toNat + 3) rl) (100 * wz.toNat + 4) rb) (100 * wz.toNat + 5) rr) (100 * wz.toNat + 6) ra) (100 * wz.toNat + 7) pc)))), (aKT, .inl (cI, 128, .inl (nA KT))), (aKS, .inl (cI, 8192, .inl (nA KS))), (aKL, .inl (cI, 8192, .inl (nA KL))), (aIK, .inl (cZ, 2, .inl (nA ik)))] H := hP
    have hD : va_D A [(h, .inr (10, fs)), (aM, .inl (cI, 3, .inl (nA sm))), (aT, .inl (cI, 192, .inl (nA tb))), (aP, .inl (cI, 40, .inl (nA P))), (aS, .inl (cI, 4096, .inl (nA S))), (aL, .inl (cI, 4096, .inl (nA Lv))), (aK, .inl (cI, 200, .inl (nA (upN (upN (upN (upN (upN (upN (upN (upN K (100 * wz.toNat) m) (100 * wz.toNat + 1) cu) (100 * wz.toNat + 2) (sm 2)) (100 * wz.toNat + 3) rl) (100 * wz.toNat + 4) rb) (100 * wz.toNat + 5) rr) (100 * wz.toNat + 6) ra) (100 * wz.toNat + 7) pc)))), (aKT, .inl (cI, 128, .inl (nA KT))), (aKS, .inl (cI, 8192, .inl (nA KS))), (aKL, .inl (cI, 8192, .inl (nA KL))), (aIK, .inl (cZ, 2, .inl (nA ik)))] := hD
    have hB_12 := upN_lt (k := 100 * wz.toNat + 7) (x := pc) hB_11 (by omega)
    refine lv_aload_n hex hby dX10_save_114 rfl (lv_at hl 1 rfl) ?_
    refine nv_get (v := .ref aK) CFx in_X10_save_X10 hK hP 0 rfl rfl 16 (by decide) (List.mem_of_getElem? (i := 1) rfl) f_kept dX10_save_115 ?_
    refine lv_iload_n hex hby dX10_save_118 rfl (lv_at hl 0 rfl) ?_
    refine lv_bipush (v := nI 8) hex hby dX10_save_119 rfl ?_
    refine nv_iadd hex hby dX10_save_121 ?_
    refine lv_aload_n hex hby dX10_save_122 rfl (lv_at hl 1 rfl) ?_
    refine nv_get (v := .int (nI bk)) CFx in_X10_save_X10 hK hP 0 rfl rfl 10 (by decide) (List.mem_of_getElem? (i := 10) rfl) f_bucket dX10_save_123 ?_
    refine nv_iast hex hby hK hP hD hS 6 0 rfl rfl (by omega) (by omega) dX10_save_126 (fun H locs hP hD hS => ?_)
    have hP : va_P (dC, dI) vwCl [(h, .inr (10, fs)), (aM, .inl (cI, 3, .inl (nA sm))), (aT, .inl (cI, 192, .inl (nA tb))), (aP, .inl (cI, 40, .inl (nA P))), (aS, .inl (cI, 4096, .inl (nA S))), (aL, .inl (cI, 4096, .inl (nA Lv))), (aK, .inl (cI, 200, .inl (nA (upN (upN (upN (upN (upN (upN (upN (upN (upN K (100 * wz.toNat) m) (100 * wz.toNat + 1) cu) (100 * wz.toNat + 2) (sm 2)) (100 * wz.toNat + 3) rl) (100 * wz.toNat + 4) rb) (100 * wz.toNat + 5) rr) (100 * wz.toNat + 6) ra) (100 * wz.toNat + 7) pc) (100 * wz.toNat + 8) bk)))), (aKT, .inl (cI, 128, .inl (nA KT))), (aKS, .inl (cI, 8192, .inl (nA KS))), (aKL, .inl (cI, 8192, .inl (nA KL))), (aIK, .inl (cZ, 2, .inl (nA ik)))] H := hP
    have hD : va_D A [(h, .inr (10, fs)), (aM, .inl (cI, 3, .inl (nA sm))), (aT, .inl (cI, 192, .inl (nA tb))), (aP, .inl (cI, 40, .inl (nA P))), (aS, .inl (cI, 4096, .inl (nA S))), (aL, .inl (cI, 4096, .inl (nA Lv))), (aK, .inl (cI, 200, .inl (nA (upN (upN (upN (upN (upN (upN (upN (upN (upN K (100 * wz.toNat) m) (100 * wz.toNat + 1) cu) (100 * wz.toNat + 2) (sm 2)) (100 * wz.toNat + 3) rl) (100 * wz.toNat + 4) rb) (100 * wz.toNat + 5) rr) (100 * wz.toNat + 6) ra) (100 * wz.toNat + 7) pc) (100 * wz.toNat + 8) bk)))), (aKT, .inl (cI, 128, .inl (nA KT))), (aKS, .inl (cI, 8192, .inl (nA KS))), (aKL, .inl (cI, 8192, .inl (nA KL))), (aIK, .inl (cZ, 2, .inl (nA ik)))] := hD
    have hB_13 := upN_lt (k := 100 * wz.toNat + 8) (x := bk) hB_12 (by omega)
    refine lv_aload_n hex hby dX10_save_127 rfl (lv_at hl 1 rfl) ?_
    refine nv_get (v := .ref aK) CFx in_X10_save_X10 hK hP 0 rfl rfl 16 (by decide) (List.mem_of_getElem? (i := 1) rfl) f_kept dX10_save_128 ?_
    refine lv_iload_n hex hby dX10_save_131 rfl (lv_at hl 0 rfl) ?_
    refine lv_bipush (v := nI 9) hex hby dX10_save_132 rfl ?_
    refine nv_iadd hex hby dX10_save_134 ?_
    refine lv_aload_n hex hby dX10_save_135 rfl (lv_at hl 1 rfl) ?_
    refine nv_get (v := .int (nI c)) CFx in_X10_save_X10 hK hP 0 rfl rfl 13 (by decide) (List.mem_of_getElem? (i := 11) rfl) f_leafMany dX10_save_136 ?_
    refine nv_iast hex hby hK hP hD hS 6 0 rfl rfl (by omega) (by omega) dX10_save_139 (fun H locs hP hD hS => ?_)
    have hP : va_P (dC, dI) vwCl [(h, .inr (10, fs)), (aM, .inl (cI, 3, .inl (nA sm))), (aT, .inl (cI, 192, .inl (nA tb))), (aP, .inl (cI, 40, .inl (nA P))), (aS, .inl (cI, 4096, .inl (nA S))), (aL, .inl (cI, 4096, .inl (nA Lv))), (aK, .inl (cI, 200, .inl (nA (upN (upN (upN (upN (upN (upN (upN (upN (upN (upN K (100 * wz.toNat) m) (100 * wz.toNat + 1) cu) (100 * wz.toNat + 2) (sm 2)) (100 * wz.toNat + 3) rl) (100 * wz.toNat + 4) rb) (100 * wz.toNat + 5) rr) (100 * wz.toNat + 6) ra) (100 * wz.toNat + 7) pc) (100 * wz.toNat + 8) bk) (100 * wz.toNat + 9) c)))), (aKT, .inl (cI, 128, .inl (nA KT))), (aKS, .inl (cI, 8192, .inl (nA KS))), (aKL, .inl (cI, 8192, .inl (nA KL))), (aIK, .inl (cZ, 2, .inl (nA ik)))] H := hP
    have hD : va_D A [(h, .inr (10, fs)), (aM, .inl (cI, 3, .inl (nA sm))), (aT, .inl (cI, 192, .inl (nA tb))), (aP, .inl (cI, 40, .inl (nA P))), (aS, .inl (cI, 4096, .inl (nA S))), (aL, .inl (cI, 4096, .inl (nA Lv))), (aK, .inl (cI, 200, .inl (nA (upN (upN (upN (upN (upN (upN (upN (upN (upN (upN K (100 * wz.toNat) m) (100 * wz.toNat + 1) cu) (100 * wz.toNat + 2) (sm 2)) (100 * wz.toNat + 3) rl) (100 * wz.toNat + 4) rb) (100 * wz.toNat + 5) rr) (100 * wz.toNat + 6) ra) (100 * wz.toNat + 7) pc) (100 * wz.toNat + 8) bk) (100 * wz.toNat + 9) c)))), (aKT, .inl (cI, 128, .inl (nA KT))), (aKS, .inl (cI, 8192, .inl (nA KS))), (aKL, .inl (cI, 8192, .inl (nA KL))), (aIK, .inl (cZ, 2, .inl (nA ik)))] := hD
    have hB_14 := upN_lt (k := 100 * wz.toNat + 9) (x := c) hB_13 (by omega)
    refine lv_iconst (v := nI 0) hex hby dX10_save_140 rfl ?_
    refine lv_istore_n (lv' := [(3, .int (nI 0)), (2, .int (nI (100 * wz.toNat))), (0, .ref h), (1, .int (nI wz.toNat))]) hex hby dX10_save_141 rfl hl (by decide) rfl (fun ls hl => ?_)
    have loop142 : ∀ (nn : Nat) (i : Nat) (K2 : Nat → Nat), (40 - i) < nn → (i ≤ 40) → (∀ j, K2 j < 4096) → (SlH K2 wz.toNat m cu (sm 2) rl rb rr ra pc bk c) → (SlA K2 P (100 * wz.toNat + 10) i) → (Frm K2 K (100 * wz.toNat) (100 * wz.toNat + 100)) → ∀ (H : Heap) (locs : List Loc), va_P (dC, dI) vwCl [(h, .inr (10, fs)), (aM, .inl (cI, 3, .inl (nA sm))), (aT, .inl (cI, 192, .inl (nA tb))), (aP, .inl (cI, 40, .inl (nA P))), (aS, .inl (cI, 4096, .inl (nA S))), (aL, .inl (cI, 4096, .inl (nA Lv))), (aK, .inl (cI, 200, .inl (nA K2))), (aKT, .inl (cI, 128, .inl (nA KT))), (aKS, .inl (cI, 8192, .inl (nA KS))), (aKL, .inl (cI, 8192, .inl (nA KL))), (aIK, .inl (cZ, 2, .inl (nA ik)))] H → va_D A [(h, .inr (10, fs)), (aM, .inl (cI, 3, .inl (nA sm))), (aT, .inl (cI, 192, .inl (nA tb))), (aP, .inl (cI, 40, .inl (nA P))), (aS, .inl (cI, 4096, .inl (nA S))), (aL, .inl (cI, 4096, .inl (nA Lv))), (aK, .inl (cI, 200, .inl (nA K2))), (aKT, .inl (cI, 128, .inl (nA KT))), (aKS, .inl (cI, 8192, .inl (nA KS))), (aKL, .inl (cI, 8192, .inl (nA KL))), (aIK, .inl (cZ, 2, .inl (nA ik)))] → va_S A ss.heap H locs → ∀ ls : Array Slot, lv_has ls 4 [(3, .int (nI i)), (2, .int (nI (100 * wz.toNat))), (0, .ref h), (1, .int (nI wz.toNat))] → W pp l ee (rmO 1 22) ss mm ([.ref h, .int (nI wz.toNat)] : List Value).toArray bb mt cd H locs 0 0 Q (F0 mm 142 ls []) := by
      intro nn
      induction nn with
      | zero => intro i K2 hms142; exact absurd hms142 (Nat.not_lt_zero _)
      | succ nn ih142 =>
        intro i K2 hms142 hi hKb2 hH hPp hF H locs hP hD hS ls hl
        refine lv_iload_n hex hby dX10_save_142 rfl (lv_at hl 0 rfl) ?_
        refine lv_bipush (v := nI 40) hex hby dX10_save_143 rfl ?_
        refine nv_icmp_ge (tgt := 171) hex hby dX10_save_145 (by decide) (by omega) (by omega) (fun c_15 => ?_) (fun c_15 => ?_)
        · refine lv_iconst (v := nI 0) hex hby dX10_save_171 rfl ?_
          refine lv_istore_n (lv' := [(3, .int (nI 0)), (2, .int (nI (100 * wz.toNat))), (0, .ref h), (1, .int (nI wz.toNat))]) hex hby dX10_save_172 rfl hl (by decide) rfl (fun ls hl => ?_)
          have loop173 : ∀ (nn : Nat) (i2 : Nat) (KT2 : Nat → Nat), (64 - i2) < nn → (i2 ≤ 64) → (∀ j, KT2 j < 10) → (SlA KT2 (fun j => tb (128 + j)) (64 * wz.toNat) i2) → (Frm KT2 KT (64 * wz.toNat) (64 * wz.toNat + 64)) → ∀ (H : Heap) (locs : List Loc), va_P (dC, dI) vwCl [(h, .inr (10, fs)), (aM, .inl (cI, 3, .inl (nA sm))), (aT, .inl (cI, 192, .inl (nA tb))), (aP, .inl (cI, 40, .inl (nA P))), (aS, .inl (cI, 4096, .inl (nA S))), (aL, .inl (cI, 4096, .inl (nA Lv))), (aK, .inl (cI, 200, .inl (nA K2))), (aKT, .inl (cI, 128, .inl (nA KT2))), (aKS, .inl (cI, 8192, .inl (nA KS))), (aKL, .inl (cI, 8192, .inl (nA KL))), (aIK, .inl (cZ, 2, .inl (nA ik)))] H → va_D A [(h, .inr (10, fs)), (aM, .inl (cI, 3, .inl (nA sm))), (aT, .inl (cI, 192, .inl (nA tb))), (aP, .inl (cI, 40, .inl (nA P))), (aS, .inl (cI, 4096, .inl (nA S))), (aL, .inl (cI, 4096, .inl (nA Lv))), (aK, .inl (cI, 200, .inl (nA K2))), (aKT, .inl (cI, 128, .inl (nA KT2))), (aKS, .inl (cI, 8192, .inl (nA KS))), (aKL, .inl (cI, 8192, .inl (nA KL))), (aIK, .inl (cZ, 2, .inl (nA ik)))] → va_S A ss.heap H locs → ∀ ls : Array Slot, lv_has ls 4 [(3, .int (nI i2)), (2, .int (nI (100 * wz.toNat))), (0, .ref h), (1, .int (nI wz.toNat))] → W pp l ee (rmO 1 22) ss mm ([.ref h, .int (nI wz.toNat)] : List Value).toArray bb mt cd H locs 0 0 Q (F0 mm 173 ls []) := by
            intro nn
            induction nn with
            | zero => intro i2 KT2 hms173; exact absurd hms173 (Nat.not_lt_zero _)
            | succ nn ih173 =>
              intro i2 KT2 hms173 hi2 hKTb2 hTt hTF H locs hP hD hS ls hl
              refine lv_iload_n hex hby dX10_save_173 rfl (lv_at hl 0 rfl) ?_
              refine lv_bipush (v := nI 64) hex hby dX10_save_174 rfl ?_
              refine nv_icmp_ge (tgt := 206) hex hby dX10_save_176 (by decide) (by omega) (by omega) (fun c_16 => ?_) (fun c_16 => ?_)
              · refine lv_iconst (v := nI 0) hex hby dX10_save_206 rfl ?_
                refine lv_istore_n (lv' := [(3, .int (nI 0)), (2, .int (nI (100 * wz.toNat))), (0, .ref h), (1, .int (nI wz.toNat))]) hex hby dX10_save_207 rfl hl (by decide) rfl (fun ls hl => ?_)
                have loop208 : ∀ (nn : Nat) (i3 : Nat) (KS2 : Nat → Nat) (KL2 : Nat → Nat), (4096 - i3) < nn → (i3 ≤ 4096) → (∀ j, KS2 j < 4096) → (∀ j, KL2 j < 7) → (SlA KS2 S (4096 * wz.toNat) i3) → (Frm KS2 KS (4096 * wz.toNat) (4096 * wz.toNat + 4096)) → (SlA KL2 Lv (4096 * wz.toNat) i3) → (Frm KL2 KL (4096 * wz.toNat) (4096 * wz.toNat + 4096)) → ∀ (H : Heap) (locs : List Loc), va_P (dC, dI) vwCl [(h, .inr (10, fs)), (aM, .inl (cI, 3, .inl (nA sm))), (aT, .inl (cI, 192, .inl (nA tb))), (aP, .inl (cI, 40, .inl (nA P))), (aS, .inl (cI, 4096, .inl (nA S))), (aL, .inl (cI, 4096, .inl (nA Lv))), (aK, .inl (cI, 200, .inl (nA K2))), (aKT, .inl (cI, 128, .inl (nA KT2))), (aKS, .inl (cI, 8192, .inl (nA KS2))), (aKL, .inl (cI, 8192, .inl (nA KL2))), (aIK, .inl (cZ, 2, .inl (nA ik)))] H → va_D A [(h, .inr (10, fs)), (aM, .inl (cI, 3, .inl (nA sm))), (aT, .inl (cI, 192, .inl (nA tb))), (aP, .inl (cI, 40, .inl (nA P))), (aS, .inl (cI, 4096, .inl (nA S))), (aL, .inl (cI, 4096, .inl (nA Lv))), (aK, .inl (cI, 200, .inl (nA K2))), (aKT, .inl (cI, 128, .inl (nA KT2))), (aKS, .inl (cI, 8192, .inl (nA KS2))), (aKL, .inl (cI, 8192, .inl (nA KL2))), (aIK, .inl (cZ, 2, .inl (nA ik)))] → va_S A ss.heap H locs → ∀ ls : Array Slot, lv_has ls 4 [(3, .int (nI i3)), (2, .int (nI (100 * wz.toNat))), (0, .ref h), (1, .int (nI wz.toNat))] → W pp l ee (rmO 1 22) ss mm ([.ref h, .int (nI wz.toNat)] : List Value).toArray bb mt cd H locs 0 0 Q (F0 mm 208 ls []) := by
                  intro nn
                  induction nn with
                  | zero => intro i3 KS2 KL2 hms208; exact absurd hms208 (Nat.not_lt_zero _)
                  | succ nn ih208 =>
                    intro i3 KS2 KL2 hms208 hi3 hKSb2 hKLb2 hSs hSF hLl hLF H locs hP hD hS ls hl
                    refine lv_iload_n hex hby dX10_save_208 rfl (lv_at hl 0 rfl) ?_
                    refine lv_sipush (v := nI 4096) hex hby dX10_save_209 rfl ?_
                    refine nv_icmp_ge (tgt := 257) hex hby dX10_save_212 (by decide) (by omega) (by omega) (fun c_17 => ?_) (fun c_17 => ?_)
                    · refine lv_aload_n hex hby dX10_save_257 rfl (lv_at hl 2 rfl) ?_
                      refine nv_get (v := .ref aIK) CFx in_X10_save_X10 hK hP 0 rfl rfl 20 (by decide) (List.mem_of_getElem? (i := 19) rfl) f_isKept dX10_save_258 ?_
                      refine lv_iload_n hex hby dX10_save_261 rfl (lv_at hl 3 rfl) ?_
                      refine lv_iconst (v := nI 1) hex hby dX10_save_262 rfl ?_
                      refine nv_zast hex hby hK hP hD hS 10 1 rfl rfl (by omega) (by omega) (by omega) dX10_save_263 (fun H locs hP hD hS => ?_)
                      have hP : va_P (dC, dI) vwCl [(h, .inr (10, fs)), (aM, .inl (cI, 3, .inl (nA sm))), (aT, .inl (cI, 192, .inl (nA tb))), (aP, .inl (cI, 40, .inl (nA P))), (aS, .inl (cI, 4096, .inl (nA S))), (aL, .inl (cI, 4096, .inl (nA Lv))), (aK, .inl (cI, 200, .inl (nA K2))), (aKT, .inl (cI, 128, .inl (nA KT2))), (aKS, .inl (cI, 8192, .inl (nA KS2))), (aKL, .inl (cI, 8192, .inl (nA KL2))), (aIK, .inl (cZ, 2, .inl (nA (upN ik wz.toNat 1))))] H := hP
                      have hD : va_D A [(h, .inr (10, fs)), (aM, .inl (cI, 3, .inl (nA sm))), (aT, .inl (cI, 192, .inl (nA tb))), (aP, .inl (cI, 40, .inl (nA P))), (aS, .inl (cI, 4096, .inl (nA S))), (aL, .inl (cI, 4096, .inl (nA Lv))), (aK, .inl (cI, 200, .inl (nA K2))), (aKT, .inl (cI, 128, .inl (nA KT2))), (aKS, .inl (cI, 8192, .inl (nA KS2))), (aKL, .inl (cI, 8192, .inl (nA KL2))), (aIK, .inl (cZ, 2, .inl (nA (upN ik wz.toNat 1))))] := hD
                      refine lv_aload_n hex hby dX10_save_264 rfl (lv_at hl 2 rfl) ?_
                      refine nv_get (v := .int (nI c)) CFx in_X10_save_X10 hK hP 0 rfl rfl 13 (by decide) (List.mem_of_getElem? (i := 11) rfl) f_leafMany dX10_save_265 ?_
                      have pf_18 : SlA K2 P (100 * wz.toNat + 10) 40 := by
                        have e : i = 40 := by omega
                        rw [e] at hPp
                        exact hPp
                      have pf_19 : SlA KT2 (fun j => tb (128 + j)) (64 * wz.toNat) 64 := by
                        have e : i2 = 64 := by omega
                        rw [e] at hTt
                        exact hTt
                      have pf_20 : SlA KS2 S (4096 * wz.toNat) 4096 := by
                        have e : i3 = 4096 := by omega
                        rw [e] at hSs
                        exact hSs
                      have pf_21 : SlA KL2 Lv (4096 * wz.toNat) 4096 := by
                        have e : i3 = 4096 := by omega
                        rw [e] at hLl
                        exact hLl
                      exact hret _ (K2, KT2, KS2, KL2, upN ik wz.toNat 1) _ _ _ _ _ (Or.inl ⟨rfl, _, rfl, rfl, dX10_save_268⟩) ⟨_, rfl, Or.inl ⟨rfl, (by omega), hH, pf_18, hF, pf_19, hTF, pf_20, hSF, pf_21, hLF, rfl, hKb2, hKTb2, hKSb2, hKLb2⟩⟩ hP hD hS
                    · refine lv_aload_n hex hby dX10_save_215 rfl (lv_at hl 2 rfl) ?_
                      refine nv_get (v := .ref aKS) CFx in_X10_save_X10 hK hP 0 rfl rfl 18 (by decide) (List.mem_of_getElem? (i := 15) rfl) f_keptStarts dX10_save_216 ?_
                      refine lv_sipush (v := nI 4096) hex hby dX10_save_219 rfl ?_
                      refine lv_iload_n hex hby dX10_save_222 rfl (lv_at hl 3 rfl) ?_
                      refine nv_imul hex hby dX10_save_223 ?_
                      refine lv_iload_n hex hby dX10_save_224 rfl (lv_at hl 0 rfl) ?_
                      refine nv_iadd hex hby dX10_save_225 ?_
                      refine lv_aload_n hex hby dX10_save_226 rfl (lv_at hl 2 rfl) ?_
                      refine nv_get (v := .ref aS) CFx in_X10_save_X10 hK hP 0 rfl rfl 11 (by decide) (List.mem_of_getElem? (i := 16) rfl) f_starts dX10_save_227 ?_
                      refine lv_iload_n hex hby dX10_save_230 rfl (lv_at hl 0 rfl) ?_
                      refine nv_iald hex hby hK hP 4 0 rfl rfl (by omega) (by omega) dX10_save_231 ?_
                      have hb_22 := hSb i3
                      refine nv_iast hex hby hK hP hD hS 8 0 rfl rfl (by omega) (by omega) dX10_save_232 (fun H locs hP hD hS => ?_)
                      have hP : va_P (dC, dI) vwCl [(h, .inr (10, fs)), (aM, .inl (cI, 3, .inl (nA sm))), (aT, .inl (cI, 192, .inl (nA tb))), (aP, .inl (cI, 40, .inl (nA P))), (aS, .inl (cI, 4096, .inl (nA S))), (aL, .inl (cI, 4096, .inl (nA Lv))), (aK, .inl (cI, 200, .inl (nA K2))), (aKT, .inl (cI, 128, .inl (nA KT2))), (aKS, .inl (cI, 8192, .inl (nA (upN KS2 (4096 * wz.toNat + i3) (S i3))))), (aKL, .inl (cI, 8192, .inl (nA KL2))), (aIK, .inl (cZ, 2, .inl (nA ik)))] H := hP
                      have hD : va_D A [(h, .inr (10, fs)), (aM, .inl (cI, 3, .inl (nA sm))), (aT, .inl (cI, 192, .inl (nA tb))), (aP, .inl (cI, 40, .inl (nA P))), (aS, .inl (cI, 4096, .inl (nA S))), (aL, .inl (cI, 4096, .inl (nA Lv))), (aK, .inl (cI, 200, .inl (nA K2))), (aKT, .inl (cI, 128, .inl (nA KT2))), (aKS, .inl (cI, 8192, .inl (nA (upN KS2 (4096 * wz.toNat + i3) (S i3))))), (aKL, .inl (cI, 8192, .inl (nA KL2))), (aIK, .inl (cZ, 2, .inl (nA ik)))] := hD
                      have hB_23 := upN_lt (k := 4096 * wz.toNat + i3) (x := S i3) hKSb2 (by omega)
                      refine lv_aload_n hex hby dX10_save_233 rfl (lv_at hl 2 rfl) ?_
                      refine nv_get (v := .ref aKL) CFx in_X10_save_X10 hK hP 0 rfl rfl 19 (by decide) (List.mem_of_getElem? (i := 17) rfl) f_keptLevels dX10_save_234 ?_
                      refine lv_sipush (v := nI 4096) hex hby dX10_save_237 rfl ?_
                      refine lv_iload_n hex hby dX10_save_240 rfl (lv_at hl 3 rfl) ?_
                      refine nv_imul hex hby dX10_save_241 ?_
                      refine lv_iload_n hex hby dX10_save_242 rfl (lv_at hl 0 rfl) ?_
                      refine nv_iadd hex hby dX10_save_243 ?_
                      refine lv_aload_n hex hby dX10_save_244 rfl (lv_at hl 2 rfl) ?_
                      refine nv_get (v := .ref aL) CFx in_X10_save_X10 hK hP 0 rfl rfl 12 (by decide) (List.mem_of_getElem? (i := 18) rfl) f_levels dX10_save_245 ?_
                      refine lv_iload_n hex hby dX10_save_248 rfl (lv_at hl 0 rfl) ?_
                      refine nv_iald hex hby hK hP 5 0 rfl rfl (by omega) (by omega) dX10_save_249 ?_
                      have hb_24 := hLb i3
                      refine nv_iast hex hby hK hP hD hS 9 0 rfl rfl (by omega) (by omega) dX10_save_250 (fun H locs hP hD hS => ?_)
                      have hP : va_P (dC, dI) vwCl [(h, .inr (10, fs)), (aM, .inl (cI, 3, .inl (nA sm))), (aT, .inl (cI, 192, .inl (nA tb))), (aP, .inl (cI, 40, .inl (nA P))), (aS, .inl (cI, 4096, .inl (nA S))), (aL, .inl (cI, 4096, .inl (nA Lv))), (aK, .inl (cI, 200, .inl (nA K2))), (aKT, .inl (cI, 128, .inl (nA KT2))), (aKS, .inl (cI, 8192, .inl (nA (upN KS2 (4096 * wz.toNat + i3) (S i3))))), (aKL, .inl (cI, 8192, .inl (nA (upN KL2 (4096 * wz.toNat + i3) (Lv i3))))), (aIK, .inl (cZ, 2, .inl (nA ik)))] H := hP
                      have hD : va_D A [(h, .inr (10, fs)), (aM, .inl (cI, 3, .inl (nA sm))), (aT, .inl (cI, 192, .inl (nA tb))), (aP, .inl (cI, 40, .inl (nA P))), (aS, .inl (cI, 4096, .inl (nA S))), (aL, .inl (cI, 4096, .inl (nA Lv))), (aK, .inl (cI, 200, .inl (nA K2))), (aKT, .inl (cI, 128, .inl (nA KT2))), (aKS, .inl (cI, 8192, .inl (nA (upN KS2 (4096 * wz.toNat + i3) (S i3))))), (aKL, .inl (cI, 8192, .inl (nA (upN KL2 (4096 * wz.toNat + i3) (Lv i3))))), (aIK, .inl (cZ, 2, .inl (nA ik)))] := hD
                      have hB_25 := upN_lt (k := 4096 * wz.toNat + i3) (x := Lv i3) hKLb2 (by omega)
                      refine lv_iinc (v := nI (i3 + 1)) (lv' := [(3, .int (nI (i3 + 1))), (2, .int (nI (100 * wz.toNat))), (0, .ref h), (1, .int (nI wz.toNat))]) hex hby dX10_save_251 hl (k := 0) rfl (ni_inc _) (by decide) rfl (fun ls hl => ?_)
                      refine lv_goto (tgt := 208) hex hby dX10_save_254 (by decide) ?_
                      exact ih208 (i3 + 1) (upN KS2 (4096 * wz.toNat + i3) (S i3)) (upN KL2 (4096 * wz.toNat + i3) (Lv i3)) (by omega) (by omega) hB_23 hB_25 hSs.up (hSF.up (by omega)) hLl.up (hLF.up (by omega)) _ _ hP hD hS _ (lv_sub hl [0, 1, 2, 3] rfl)
                exact loop208 _ 0 KS KL (Nat.lt_succ_self _) (by omega) hKSb hKLb SlA.zero Frm.refl SlA.zero Frm.refl _ _ hP hD hS _ (lv_sub hl [0, 1, 2, 3] rfl)
              · refine lv_aload_n hex hby dX10_save_179 rfl (lv_at hl 2 rfl) ?_
                refine nv_get (v := .ref aKT) CFx in_X10_save_X10 hK hP 0 rfl rfl 17 (by decide) (List.mem_of_getElem? (i := 13) rfl) f_keptTables dX10_save_180 ?_
                refine lv_bipush (v := nI 64) hex hby dX10_save_183 rfl ?_
                refine lv_iload_n hex hby dX10_save_185 rfl (lv_at hl 3 rfl) ?_
                refine nv_imul hex hby dX10_save_186 ?_
                refine lv_iload_n hex hby dX10_save_187 rfl (lv_at hl 0 rfl) ?_
                refine nv_iadd hex hby dX10_save_188 ?_
                refine lv_aload_n hex hby dX10_save_189 rfl (lv_at hl 2 rfl) ?_
                refine nv_get (v := .ref aT) CFx in_X10_save_X10 hK hP 0 rfl rfl 3 (by decide) (List.mem_of_getElem? (i := 14) rfl) f_tables dX10_save_190 ?_
                refine lv_sipush (v := nI 128) hex hby dX10_save_193 rfl ?_
                refine lv_iload_n hex hby dX10_save_196 rfl (lv_at hl 0 rfl) ?_
                refine nv_iadd hex hby dX10_save_197 ?_
                refine nv_iald hex hby hK hP 2 0 rfl rfl (by omega) (by omega) dX10_save_198 ?_
                have hb_26 := htb (128 + i2)
                refine nv_iast hex hby hK hP hD hS 7 0 rfl rfl (by omega) (by omega) dX10_save_199 (fun H locs hP hD hS => ?_)
                have hP : va_P (dC, dI) vwCl [(h, .inr (10, fs)), (aM, .inl (cI, 3, .inl (nA sm))), (aT, .inl (cI, 192, .inl (nA tb))), (aP, .inl (cI, 40, .inl (nA P))), (aS, .inl (cI, 4096, .inl (nA S))), (aL, .inl (cI, 4096, .inl (nA Lv))), (aK, .inl (cI, 200, .inl (nA K2))), (aKT, .inl (cI, 128, .inl (nA (upN KT2 (64 * wz.toNat + i2) (tb (128 + i2)))))), (aKS, .inl (cI, 8192, .inl (nA KS))), (aKL, .inl (cI, 8192, .inl (nA KL))), (aIK, .inl (cZ, 2, .inl (nA ik)))] H := hP
                have hD : va_D A [(h, .inr (10, fs)), (aM, .inl (cI, 3, .inl (nA sm))), (aT, .inl (cI, 192, .inl (nA tb))), (aP, .inl (cI, 40, .inl (nA P))), (aS, .inl (cI, 4096, .inl (nA S))), (aL, .inl (cI, 4096, .inl (nA Lv))), (aK, .inl (cI, 200, .inl (nA K2))), (aKT, .inl (cI, 128, .inl (nA (upN KT2 (64 * wz.toNat + i2) (tb (128 + i2)))))), (aKS, .inl (cI, 8192, .inl (nA KS))), (aKL, .inl (cI, 8192, .inl (nA KL))), (aIK, .inl (cZ, 2, .inl (nA ik)))] := hD
                have hB_27 := upN_lt (k := 64 * wz.toNat + i2) (x := tb (128 + i2)) hKTb2 (by omega)
                refine lv_iinc (v := nI (i2 + 1)) (lv' := [(3, .int (nI (i2 + 1))), (2, .int (nI (100 * wz.toNat))), (0, .ref h), (1, .int (nI wz.toNat))]) hex hby dX10_save_200 hl (k := 0) rfl (ni_inc _) (by decide) rfl (fun ls hl => ?_)
                refine lv_goto (tgt := 173) hex hby dX10_save_203 (by decide) ?_
                exact ih173 (i2 + 1) (upN KT2 (64 * wz.toNat + i2) (tb (128 + i2))) (by omega) (by omega) hB_27 hTt.up (hTF.up (by omega)) _ _ hP hD hS _ (lv_sub hl [0, 1, 2, 3] rfl)
          exact loop173 _ 0 KT (Nat.lt_succ_self _) (by omega) hKTb SlA.zero Frm.refl _ _ hP hD hS _ (lv_sub hl [0, 1, 2, 3] rfl)
        · refine lv_aload_n hex hby dX10_save_148 rfl (lv_at hl 2 rfl) ?_
          refine nv_get (v := .ref aK) CFx in_X10_save_X10 hK hP 0 rfl rfl 16 (by decide) (List.mem_of_getElem? (i := 1) rfl) f_kept dX10_save_149 ?_
          refine lv_iload_n hex hby dX10_save_152 rfl (lv_at hl 1 rfl) ?_
          refine lv_bipush (v := nI 10) hex hby dX10_save_153 rfl ?_
          refine nv_iadd hex hby dX10_save_155 ?_
          refine lv_iload_n hex hby dX10_save_156 rfl (lv_at hl 0 rfl) ?_
          refine nv_iadd hex hby dX10_save_157 ?_
          refine lv_aload_n hex hby dX10_save_158 rfl (lv_at hl 2 rfl) ?_
          refine nv_get (v := .ref aP) CFx in_X10_save_X10 hK hP 0 rfl rfl 8 (by decide) (List.mem_of_getElem? (i := 12) rfl) f_points dX10_save_159 ?_
          refine lv_iload_n hex hby dX10_save_162 rfl (lv_at hl 0 rfl) ?_
          refine nv_iald hex hby hK hP 3 0 rfl rfl (by omega) (by omega) dX10_save_163 ?_
          have hb_28 := hPb i
          refine nv_iast hex hby hK hP hD hS 6 0 rfl rfl (by omega) (by omega) dX10_save_164 (fun H locs hP hD hS => ?_)
          have hP : va_P (dC, dI) vwCl [(h, .inr (10, fs)), (aM, .inl (cI, 3, .inl (nA sm))), (aT, .inl (cI, 192, .inl (nA tb))), (aP, .inl (cI, 40, .inl (nA P))), (aS, .inl (cI, 4096, .inl (nA S))), (aL, .inl (cI, 4096, .inl (nA Lv))), (aK, .inl (cI, 200, .inl (nA (upN K2 (100 * wz.toNat + 10 + i) (P i))))), (aKT, .inl (cI, 128, .inl (nA KT))), (aKS, .inl (cI, 8192, .inl (nA KS))), (aKL, .inl (cI, 8192, .inl (nA KL))), (aIK, .inl (cZ, 2, .inl (nA ik)))] H := hP
          have hD : va_D A [(h, .inr (10, fs)), (aM, .inl (cI, 3, .inl (nA sm))), (aT, .inl (cI, 192, .inl (nA tb))), (aP, .inl (cI, 40, .inl (nA P))), (aS, .inl (cI, 4096, .inl (nA S))), (aL, .inl (cI, 4096, .inl (nA Lv))), (aK, .inl (cI, 200, .inl (nA (upN K2 (100 * wz.toNat + 10 + i) (P i))))), (aKT, .inl (cI, 128, .inl (nA KT))), (aKS, .inl (cI, 8192, .inl (nA KS))), (aKL, .inl (cI, 8192, .inl (nA KL))), (aIK, .inl (cZ, 2, .inl (nA ik)))] := hD
          have hB_29 := upN_lt (k := 100 * wz.toNat + 10 + i) (x := P i) hKb2 (by omega)
          refine lv_iinc (v := nI (i + 1)) (lv' := [(3, .int (nI (i + 1))), (2, .int (nI (100 * wz.toNat))), (0, .ref h), (1, .int (nI wz.toNat))]) hex hby dX10_save_165 hl (k := 0) rfl (ni_inc _) (by decide) rfl (fun ls hl => ?_)
          refine lv_goto (tgt := 142) hex hby dX10_save_168 (by decide) ?_
          exact ih142 (i + 1) (upN K2 (100 * wz.toNat + 10 + i) (P i)) (by omega) (by omega) hB_29 (hH.up (by omega)) hPp.up (hF.up (by omega)) _ _ hP hD hS _ (lv_sub hl [0, 1, 2, 3] rfl)
    have pf_30 : SlH (upN (upN (upN (upN (upN (upN (upN (upN (upN (upN K (100 * wz.toNat) m) (100 * wz.toNat + 1) cu) (100 * wz.toNat + 2) (sm 2)) (100 * wz.toNat + 3) rl) (100 * wz.toNat + 4) rb) (100 * wz.toNat + 5) rr) (100 * wz.toNat + 6) ra) (100 * wz.toNat + 7) pc) (100 * wz.toNat + 8) bk) (100 * wz.toNat + 9) c) wz.toNat m cu (sm 2) rl rb rr ra pc bk c := by
      unfold SlH upN
      simp
    have pf_31 : Frm (upN (upN (upN (upN (upN (upN (upN (upN (upN (upN K (100 * wz.toNat) m) (100 * wz.toNat + 1) cu) (100 * wz.toNat + 2) (sm 2)) (100 * wz.toNat + 3) rl) (100 * wz.toNat + 4) rb) (100 * wz.toNat + 5) rr) (100 * wz.toNat + 6) ra) (100 * wz.toNat + 7) pc) (100 * wz.toNat + 8) bk) (100 * wz.toNat + 9) c) K (100 * wz.toNat) (100 * wz.toNat + 100) := by
      intro j hj
      iterate 10 rw [upN_n (by omega)]
    exact loop142 _ 0 (upN (upN (upN (upN (upN (upN (upN (upN (upN (upN K (100 * wz.toNat) m) (100 * wz.toNat + 1) cu) (100 * wz.toNat + 2) (sm 2)) (100 * wz.toNat + 3) rl) (100 * wz.toNat + 4) rb) (100 * wz.toNat + 5) rr) (100 * wz.toNat + 6) ra) (100 * wz.toNat + 7) pc) (100 * wz.toNat + 8) bk) (100 * wz.toNat + 9) c) (Nat.lt_succ_self _) (by omega) hB_14 pf_30 SlA.zero pf_31 _ _ hP hD hS _ (lv_sub hl [0, 1, 2, 3] rfl)
  · refine nv_if_ne (tgt := 11) hex hby dX10_save_6 (by decide) (by omega) (fun c => absurd c (by omega)) (fun _ => ?_)
    refine lv_iconst (v := zI (-1)) hex hby dX10_save_9 rfl ?_
    exact hret _ (K, KT, KS, KL, ik) _ _ _ _ _ (Or.inl ⟨rfl, _, rfl, rfl, dX10_save_10⟩) ⟨_, rfl, Or.inr ⟨rfl, (by omega), rfl, rfl, rfl, rfl, rfl⟩⟩ hP hD hS
theorem cpy_up {F G : Nat → Nat} {i : Nat} (h : ∀ q, q < i → F q = G q) : ∀ q, q < i + 1 → upN F i (G i) q = G q := by
  intro q hq
  rcases Nat.lt_or_ge q i with z | z
  · rw [upN_n (by omega)]; exact h q z
  · rw [show q = i by omega, upN_s]
theorem Tb_frm {T tb tb2 : Nat → Nat} {cu n lo : Nat} (h : TbOK T tb cu n) (hf : Frm tb2 tb lo 192) (hc : 64 * cu + 64 ≤ lo) (hn : n ≤ 8) : TbOK T tb2 cu n := by
  intro s hs p hp
  rw [hf _ (by omega), hf _ (by omega)]
  exact h s hs p hp
theorem Tb_slot {T tb KT : Nat → Nat} {w n : Nat} (h : TbOK T (fun j => KT (64 * w + (j - 128))) 2 n) (hs : SlA tb (fun q => KT (64 * w + q)) 128 64) (hn : n ≤ 8) : TbOK T tb 2 n := by
  intro s hs1 p hp
  have h1 := h s hs1 p hp
  have e1 := hs (8 * s + p) (by omega)
  have e2 := hs (8 * s + 4 + p) (by omega)
  rw [show 64 * 2 + 8 * s + p = 128 + (8 * s + p) by omega, show 64 * 2 + 8 * s + 4 + p = 128 + (8 * s + 4 + p) by omega, e1, e2]
  rw [h1]
  show 10 * KT (64 * w + (64 * 2 + 8 * s + p - 128)) + KT (64 * w + (64 * 2 + 8 * s + 4 + p - 128)) = 10 * KT (64 * w + (8 * s + p)) + KT (64 * w + (8 * s + 4 + p))
  rw [show 64 * 2 + 8 * s + p - 128 = 8 * s + p by omega, show 64 * 2 + 8 * s + 4 + p - 128 = 8 * s + 4 + p by omega]
theorem nd_X10_restore : ndV yX10_restore RX10 1 := by decide +kernel
theorem in_X10_restore_X10 : ∀ w ∈ wsX100, w ∈ wsX10_restore := fun _ h => List.mem_cons_of_mem _ (List.mem_append_right _ (h))
set_option maxHeartbeats 4000000 in
set_option maxRecDepth 100000 in
theorem c_X10_restore {h : Nat} {aM : Nat} {aT : Nat} {aP : Nat} {aI : Nat} {aC : Nat} {aS : Nat} {aL : Nat} {aO : Nat} {aK : Nat} {aKT : Nat} {aKS : Nat} {aKL : Nat} {aIK : Nat} {m : Nat} {cu : Nat} {rl : Nat} {rb : Nat} {rr : Nat} {ra : Nat} {pc : Nat} {bk : Nat} {c : Nat} {v14 : Value} {v15 : Value} {v23 : Value} {v24 : Value} {v25 : Value} {v27 : Value} {v28 : Value} {sm : Nat → Nat} {tb : Nat → Nat} {P : Nat → Nat} {ix : Nat → Nat} {g : Nat → Nat} {S : Nat → Nat} {Lv : Nat → Nat} {O : Nat → Nat} {K : Nat → Nat} {KT : Nat → Nat} {KS : Nat → Nat} {KL : Nat → Nat} {ik : Nat → Nat} {w : Int32} {wz : Int} {km : Nat → Nat} {kcu : Nat → Nat} {ktc : Nat → Nat} {krl : Nat → Nat} {krb : Nat → Nat} {krr : Nat → Nat} {kra : Nat → Nat} {kpc : Nat → Nat} {kbk : Nat → Nat} {kc : Nat → Nat} {kP : Nat → Nat → Nat} {kV : Nat → Nat → Nat} {kst : Nat → Nat → Nat} {klv : Nat → Nat → Nat} (hwz : w.toInt = wz) (hsm : ∀ j, sm j < 9) (htb : ∀ j, tb j < 10) (hPb : ∀ j, P j < 4096) (hpc : pc ≤ 40) (hix : ∀ j, ix j < 4096) (hg : ∀ j, g j < 4096) (hSb : ∀ j, S j < 4096) (hLb : ∀ j, Lv j < 7) (hOb : ∀ j, O j < 4096) (hKb : ∀ j, K j < 4096) (hKTb : ∀ j, KT j < 10) (hKSb : ∀ j, KS j < 4096) (hKLb : ∀ j, KL j < 7) (hik : ∀ j, ik j < 2) (hsl : ∀ s, s < 2 → ik s = 1 → SlH K s (km s) (kcu s) (ktc s) (krl s) (krb s) (krr s) (kra s) (kpc s) (kbk s) (kc s)) (hsp : ∀ s, s < 2 → ik s = 1 → ∀ j, j < kpc s → K (100 * s + 10 + j) = kP s j) (hsr : ∀ s, s < 2 → ik s = 1 → 1 ≤ km s ∧ km s ≤ 6 ∧ kcu s ≤ 2 ∧ kpc s ≤ 40 ∧ kbk s ≤ 8) (hsv : ∀ s, s < 2 → ik s = 1 → VT (kV s) (ktc s)) (hst : ∀ s, s < 2 → ik s = 1 → TbOK (kV s) (fun j => KT (64 * s + (j - 128))) 2 (ktc s)) (hsd : ∀ s, s < 2 → ik s = 1 → LvL (km s) (kc s) (kst s) (klv s)) (hsg : ∀ s, s < 2 → ik s = 1 → AG (kc s) (kst s) (klv s) (fun j => KS (4096 * s + j)) (fun j => KL (4096 * s + j))) (hT0 : TbOK mortT tb 0 1) (hT1 : TbOK hilT tb 1 4) : MU l yX10_restore wsX10_restore 3 73 (dC, dI) (tyK cI cZ cS) [(h, .inr (10, [.int (nI m), .int (nI cu), .ref aM, .ref aT, .int (nI rl), .int (nI rb), .int (nI rr), .int (nI ra), .ref aP, .int (nI pc), .int (nI bk), .ref aS, .ref aL, .int (nI c), v14, v15, .ref aK, .ref aKT, .ref aKS, .ref aKL, .ref aIK, .ref aI, .ref aC, v23, v24, v25, .ref aO, v27, v28])), (aM, .inl (cI, 3, .inl (nA sm))), (aT, .inl (cI, 192, .inl (nA tb))), (aP, .inl (cI, 40, .inl (nA P))), (aI, .inl (cI, 4096, .inl (nA ix))), (aC, .inl (cI, 4096, .inl (nA g))), (aS, .inl (cI, 4096, .inl (nA S))), (aL, .inl (cI, 4096, .inl (nA Lv))), (aO, .inl (cI, 4096, .inl (nA O))), (aK, .inl (cI, 200, .inl (nA K))), (aKT, .inl (cI, 128, .inl (nA KT))), (aKS, .inl (cI, 8192, .inl (nA KS))), (aKL, .inl (cI, 8192, .inl (nA KL))), (aIK, .inl (cZ, 2, .inl (nA ik)))] [] [.ref h, .int w] (fun rv_ (u_ : Nat × Nat × Nat × Nat × Nat × Nat × Nat × Nat × (Nat → Nat) × (Nat → Nat) × (Nat → Nat) × (Nat → Nat) × (Nat → Nat) × Nat × (Nat → Nat) × (Nat → Nat) × (Nat → Nat)) => rI (fun r => (r = nI (kc wz.toNat) ∧ (0 ≤ wz ∧ wz ≤ 1) ∧ ik wz.toNat = 1 ∧ km wz.toNat = u_.1 ∧ kcu wz.toNat = u_.2.1 ∧ krl wz.toNat = u_.2.2.1 ∧ krb wz.toNat = u_.2.2.2.1 ∧ krr wz.toNat = u_.2.2.2.2.1 ∧ kra wz.toNat = u_.2.2.2.2.2.1 ∧ kpc wz.toNat = u_.2.2.2.2.2.2.1 ∧ kbk wz.toNat = u_.2.2.2.2.2.2.2.1 ∧ kc wz.toNat = u_.2.2.2.2.2.2.2.2.2.2.2.2.2.1 ∧ upN sm 2 (ktc wz.toNat) = u_.2.2.2.2.2.2.2.2.1 ∧ (∀ j, u_.2.2.2.2.2.2.2.2.1 j < 9) ∧ (∀ j, u_.2.2.2.2.2.2.2.2.2.1 j < 10) ∧ TbOK mortT u_.2.2.2.2.2.2.2.2.2.1 0 1 ∧ TbOK hilT u_.2.2.2.2.2.2.2.2.2.1 1 4 ∧ TbOK (kV wz.toNat) u_.2.2.2.2.2.2.2.2.2.1 2 (ktc wz.toNat) ∧ (∀ j, u_.2.2.2.2.2.2.2.2.2.2.1 j < 4096) ∧ (∀ j, j < u_.2.2.2.2.2.2.1 → u_.2.2.2.2.2.2.2.2.2.2.1 j = kP wz.toNat j) ∧ NumOK (cuT u_.2.1 (kV wz.toNat)) u_.1 u_.2.2.2.2.2.2.2.2.2.2.2.2.1 u_.2.2.2.2.2.2.2.2.2.2.2.1 ∧ (∀ j, u_.2.2.2.2.2.2.2.2.2.2.2.2.1 j < 4096) ∧ (∀ j, u_.2.2.2.2.2.2.2.2.2.2.2.1 j < 4096) ∧ AG u_.2.2.2.2.2.2.2.2.2.2.2.2.2.1 (kst wz.toNat) (klv wz.toNat) u_.2.2.2.2.2.2.2.2.2.2.2.2.2.2.1 u_.2.2.2.2.2.2.2.2.2.2.2.2.2.2.2.1 ∧ LfOK u_.2.2.2.2.2.2.2.2.2.2.2.2.2.1 (kst wz.toNat) u_.2.2.2.2.2.2.2.2.2.2.2.2.2.2.2.2 ∧ (∀ j, u_.2.2.2.2.2.2.2.2.2.2.2.2.2.2.1 j < 4096) ∧ (∀ j, u_.2.2.2.2.2.2.2.2.2.2.2.2.2.2.2.1 j < 7) ∧ (∀ j, u_.2.2.2.2.2.2.2.2.2.2.2.2.2.2.2.2 j < 4096)) ∨ (r = zI (-1) ∧ (¬ (0 ≤ wz ∧ wz ≤ 1)) ∧ m = u_.1 ∧ cu = u_.2.1 ∧ rl = u_.2.2.1 ∧ rb = u_.2.2.2.1 ∧ rr = u_.2.2.2.2.1 ∧ ra = u_.2.2.2.2.2.1 ∧ pc = u_.2.2.2.2.2.2.1 ∧ bk = u_.2.2.2.2.2.2.2.1 ∧ sm = u_.2.2.2.2.2.2.2.2.1 ∧ tb = u_.2.2.2.2.2.2.2.2.2.1 ∧ P = u_.2.2.2.2.2.2.2.2.2.2.1 ∧ ix = u_.2.2.2.2.2.2.2.2.2.2.2.1 ∧ g = u_.2.2.2.2.2.2.2.2.2.2.2.2.1 ∧ c = u_.2.2.2.2.2.2.2.2.2.2.2.2.2.1 ∧ S = u_.2.2.2.2.2.2.2.2.2.2.2.2.2.2.1 ∧ Lv = u_.2.2.2.2.2.2.2.2.2.2.2.2.2.2.2.1 ∧ O = u_.2.2.2.2.2.2.2.2.2.2.2.2.2.2.2.2) ∨ (r = zI (-3) ∧ (0 ≤ wz ∧ wz ≤ 1) ∧ ik wz.toNat = 0 ∧ m = u_.1 ∧ cu = u_.2.1 ∧ rl = u_.2.2.1 ∧ rb = u_.2.2.2.1 ∧ rr = u_.2.2.2.2.1 ∧ ra = u_.2.2.2.2.2.1 ∧ pc = u_.2.2.2.2.2.2.1 ∧ bk = u_.2.2.2.2.2.2.2.1 ∧ sm = u_.2.2.2.2.2.2.2.2.1 ∧ tb = u_.2.2.2.2.2.2.2.2.2.1 ∧ P = u_.2.2.2.2.2.2.2.2.2.2.1 ∧ ix = u_.2.2.2.2.2.2.2.2.2.2.2.1 ∧ g = u_.2.2.2.2.2.2.2.2.2.2.2.2.1 ∧ c = u_.2.2.2.2.2.2.2.2.2.2.2.2.2.1 ∧ S = u_.2.2.2.2.2.2.2.2.2.2.2.2.2.2.1 ∧ Lv = u_.2.2.2.2.2.2.2.2.2.2.2.2.2.2.2.1 ∧ O = u_.2.2.2.2.2.2.2.2.2.2.2.2.2.2.2.2)) rv_) (fun (u_ : Nat × Nat × Nat × Nat × Nat × Nat × Nat × Nat × (Nat → Nat) × (Nat → Nat) × (Nat → Nat) × (Nat → Nat) × (Nat → Nat) × Nat × (Nat → Nat) × (Nat → Nat) × (Nat → Nat)) => [(h, .inr (10, [.int (nI u_.1), .int (nI u_.2.1), .ref aM, .ref aT, .int (nI u_.2.2.1), .int (nI u_.2.2.2.1), .int (nI u_.2.2.2.2.1), .int (nI u_.2.2.2.2.2.1), .ref aP, .int (nI u_.2.2.2.2.2.2.1), .int (nI u_.2.2.2.2.2.2.2.1), .ref aS, .ref aL, .int (nI u_.2.2.2.2.2.2.2.2.2.2.2.2.2.1), v14, v15, .ref aK, .ref aKT, .ref aKS, .ref aKL, .ref aIK, .ref aI, .ref aC, v23, v24, v25, .ref aO, v27, v28])), (aM, .inl (cI, 3, .inl (nA u_.2.2.2.2.2.2.2.2.1))), (aT, .inl (cI, 192, .inl (nA u_.2.2.2.2.2.2.2.2.2.1))), (aP, .inl (cI, 40, .inl (nA u_.2.2.2.2.2.2.2.2.2.2.1))), (aI, .inl (cI, 4096, .inl (nA u_.2.2.2.2.2.2.2.2.2.2.2.1))), (aC, .inl (cI, 4096, .inl (nA u_.2.2.2.2.2.2.2.2.2.2.2.2.1))), (aS, .inl (cI, 4096, .inl (nA u_.2.2.2.2.2.2.2.2.2.2.2.2.2.2.1))), (aL, .inl (cI, 4096, .inl (nA u_.2.2.2.2.2.2.2.2.2.2.2.2.2.2.2.1))), (aO, .inl (cI, 4096, .inl (nA u_.2.2.2.2.2.2.2.2.2.2.2.2.2.2.2.2))), (aK, .inl (cI, 200, .inl (nA K))), (aKT, .inl (cI, 128, .inl (nA KT))), (aKS, .inl (cI, 8192, .inl (nA KS))), (aKL, .inl (cI, 8192, .inl (nA KL))), (aIK, .inl (cZ, 2, .inl (nA ik)))]) := by
  refine mu_of (by decide) rfl (Nat.le_of_ble_eq_true rfl) ?_
  intro pp ee ss mm bb mt cd Q A CFx hP hK hD hS hA hTr hret ls hl
  obtain ⟨hex, hby, hml, hown, hts⟩ := id CFx
  have hl : lv_has ls 4 [(0, .ref h), (1, .int w)] := hl
  refine lv_iload_n hex hby dX10_restore_0 rfl (lv_at hl 1 rfl) ?_
  refine lv_iconst (v := nI 0) hex hby dX10_restore_1 rfl ?_
  refine lv_iconst (v := nI 1) hex hby dX10_restore_2 rfl ?_
  refine ro_Si (As := [.int w, .int (nI 0), .int (nI 1)]) (rest := []) (C := RX10) CFx (c_X10_in (x := w) (xz := w.toInt) (lo := nI 0) (loz := (0 : Int)) (hi := nI 1) (hiz := (1 : Int)) rfl (by rfl) (by rfl)) 3 gX10_restore_X10_in rfl nd_X10_in ⟨Nat.le_of_ble_eq_true rfl, Nat.le_of_ble_eq_true rfl⟩ hK hP [] rfl rfl hl.1 rfl (Nat.le_of_ble_eq_true rfl) dX10_restore_3 ⟨Nat.le_refl _, Nat.le_refl _⟩ (fun r_1 hr_1 => ?_)
  rcases hr_1 with ⟨rfl, h_2⟩ | ⟨rfl, h_3⟩
  · refine nv_if_ne (tgt := 11) hex hby dX10_restore_6 (by decide) (by omega) (fun _ => ?_) (fun c => absurd c (by omega))
    obtain ⟨jw_, hjw__, rfl, hjw_e⟩ := ni_of (x := w) (by omega)
    obtain rfl : jw_ = wz.toNat := by omega
    refine lv_aload_n hex hby dX10_restore_11 rfl (lv_at hl 0 rfl) ?_
    refine nv_get (v := .ref aIK) CFx in_X10_restore_X10 hK hP 0 rfl rfl 20 (by decide) (List.mem_of_getElem? (i := 1) rfl) rfl dX10_restore_12 ?_
    refine lv_iload_n hex hby dX10_restore_15 rfl (lv_at hl 1 rfl) ?_
    refine nv_zald hex hby hK hP 13 1 rfl rfl (by omega) (by omega) dX10_restore_16 ?_
    have hb_4 := hik wz.toNat
    refine nv_if_ne (tgt := 23) hex hby dX10_restore_17 (by decide) (by omega) (fun c_5 => ?_) (fun c_5 => ?_)
    · have hu : ik wz.toNat = 1 := by omega
      obtain ⟨h0, h1, h2, h3, h4, h5, h6, h7, h8, h9⟩ := hsl wz.toNat (by omega) hu
      obtain ⟨r1, r2, r3, r4, r5⟩ := hsr wz.toNat (by omega) hu
      have hVw := hsv wz.toNat (by omega) hu
      have hns := hVw.2.1
      have hLw := hsd wz.toNat (by omega) hu
      have hcle := hLw.le (Nat.le_refl _)
      have hstc := hLw.2.2.1
      have h46 := p4_6 r2
      refine lv_bipush (v := nI 100) hex hby dX10_restore_23 rfl ?_
      refine lv_iload_n hex hby dX10_restore_25 rfl (lv_at hl 1 rfl) ?_
      refine nv_imul hex hby dX10_restore_26 ?_
      refine lv_istore_n (lv' := [(2, .int (nI (100 * wz.toNat))), (0, .ref h), (1, .int (nI wz.toNat))]) hex hby dX10_restore_27 rfl hl (by decide) rfl (fun ls hl => ?_)
      refine lv_aload_n hex hby dX10_restore_28 rfl (lv_at hl 1 rfl) ?_
      refine lv_aload_n hex hby dX10_restore_29 rfl (lv_at hl 1 rfl) ?_
      refine nv_get (v := .ref aK) CFx in_X10_restore_X10 hK hP 0 rfl rfl 16 (by decide) (List.mem_of_getElem? (i := 2) rfl) rfl dX10_restore_30 ?_
      refine lv_iload_n hex hby dX10_restore_33 rfl (lv_at hl 0 rfl) ?_
      refine nv_iald hex hby hK hP 9 0 rfl rfl (by omega) (by omega) dX10_restore_34 ?_
      have hb_6 := hKb (100 * wz.toNat)
      refine nv_top (y := nI (km wz.toNat)) (congrArg nI h0) ?_
      refine nv_put CFx in_X10_restore_X10 tyX10 tyX10_ok nmX10 hK hP hD hS 0 rfl rfl 0 (by decide) (List.mem_of_getElem? (i := 3) rfl) rfl (by decide +kernel) (Nat.le_of_ble_eq_true rfl) dX10_restore_35 (fun H locs hP hD hS => ?_)
      have hP : va_P (dC, dI) vwCl [(h, .inr (10, [.int (nI (km wz.toNat)), .int (nI cu), .ref aM, .ref aT, .int (nI rl), .int (nI rb), .int (nI rr), .int (nI ra), .ref aP, .int (nI pc), .int (nI bk), .ref aS, .ref aL, .int (nI c), v14, v15, .ref aK, .ref aKT, .ref aKS, .ref aKL, .ref aIK, .ref aI, .ref aC, v23, v24, v25, .ref aO, v27, v28])), (aM, .inl (cI, 3, .inl (nA sm))), (aT, .inl (cI, 192, .inl (nA tb))), (aP, .inl (cI, 40, .inl (nA P))), (aI, .inl (cI, 4096, .inl (nA ix))), (aC, .inl (cI, 4096, .inl (nA g))), (aS, .inl (cI, 4096, .inl (nA S))), (aL, .inl (cI, 4096, .inl (nA Lv))), (aO, .inl (cI, 4096, .inl (nA O))), (aK, .inl (cI, 200, .inl (nA K))), (aKT, .inl (cI, 128, .inl (nA KT))), (aKS, .inl (cI, 8192, .inl (nA KS))), (aKL, .inl (cI, 8192, .inl (nA KL))), (aIK, .inl (cZ, 2, .inl (nA ik)))] H := hP
      have hD : va_D A [(h, .inr (10, [.int (nI (km wz.toNat)), .int (nI cu), .ref aM, .ref aT, .int (nI rl), .int (nI rb), .int (nI rr), .int (nI ra), .ref aP, .int (nI pc), .int (nI bk), .ref aS, .ref aL, .int (nI c), v14, v15, .ref aK, .ref aKT, .ref aKS, .ref aKL, .ref aIK, .ref aI, .ref aC, v23, v24, v25, .ref aO, v27, v28])), (aM, .inl (cI, 3, .inl (nA sm))), (aT, .inl (cI, 192, .inl (nA tb))), (aP, .inl (cI, 40, .inl (nA P))), (aI, .inl (cI, 4096, .inl (nA ix))), (aC, .inl (cI, 4096, .inl (nA g))), (aS, .inl (cI, 4096, .inl (nA S))), (aL, .inl (cI, 4096, .inl (nA Lv))), (aO, .inl (cI, 4096, .inl (nA O))), (aK, .inl (cI, 200, .inl (nA K))), (aKT, .inl (cI, 128, .inl (nA KT))), (aKS, .inl (cI, 8192, .inl (nA KS))), (aKL, .inl (cI, 8192, .inl (nA KL))), (aIK, .inl (cZ, 2, .inl (nA ik)))] := hD
      refine lv_aload_n hex hby dX10_restore_38 rfl (lv_at hl 1 rfl) ?_
      refine lv_aload_n hex hby dX10_restore_39 rfl (lv_at hl 1 rfl) ?_
      refine nv_get (v := .ref aK) CFx in_X10_restore_X10 hK hP 0 rfl rfl 16 (by decide) (List.mem_of_getElem? (i := 2) rfl) rfl dX10_restore_40 ?_
      refine lv_iload_n hex hby dX10_restore_43 rfl (lv_at hl 0 rfl) ?_
      refine lv_iconst (v := nI 1) hex hby dX10_restore_44 rfl ?_
      refine nv_iadd hex hby dX10_restore_45 ?_
      refine nv_iald hex hby hK hP 9 0 rfl rfl (by omega) (by omega) dX10_restore_46 ?_
      have hb_7 := hKb (100 * wz.toNat + 1)
      refine nv_top (y := nI (kcu wz.toNat)) (congrArg nI h1) ?_
      refine nv_put CFx in_X10_restore_X10 tyX10 tyX10_ok nmX10 hK hP hD hS 0 rfl rfl 1 (by decide) (List.mem_of_getElem? (i := 4) rfl) rfl (by decide +kernel) (Nat.le_of_ble_eq_true rfl) dX10_restore_47 (fun H locs hP hD hS => ?_)
      have hP : va_P (dC, dI) vwCl [(h, .inr (10, [.int (nI (km wz.toNat)), .int (nI (kcu wz.toNat)), .ref aM, .ref aT, .int (nI rl), .int (nI rb), .int (nI rr), .int (nI ra), .ref aP, .int (nI pc), .int (nI bk), .ref aS, .ref aL, .int (nI c), v14, v15, .ref aK, .ref aKT, .ref aKS, .ref aKL, .ref aIK, .ref aI, .ref aC, v23, v24, v25, .ref aO, v27, v28])), (aM, .inl (cI, 3, .inl (nA sm))), (aT, .inl (cI, 192, .inl (nA tb))), (aP, .inl (cI, 40, .inl (nA P))), (aI, .inl (cI, 4096, .inl (nA ix))), (aC, .inl (cI, 4096, .inl (nA g))), (aS, .inl (cI, 4096, .inl (nA S))), (aL, .inl (cI, 4096, .inl (nA Lv))), (aO, .inl (cI, 4096, .inl (nA O))), (aK, .inl (cI, 200, .inl (nA K))), (aKT, .inl (cI, 128, .inl (nA KT))), (aKS, .inl (cI, 8192, .inl (nA KS))), (aKL, .inl (cI, 8192, .inl (nA KL))), (aIK, .inl (cZ, 2, .inl (nA ik)))] H := hP
      have hD : va_D A [(h, .inr (10, [.int (nI (km wz.toNat)), .int (nI (kcu wz.toNat)), .ref aM, .ref aT, .int (nI rl), .int (nI rb), .int (nI rr), .int (nI ra), .ref aP, .int (nI pc), .int (nI bk), .ref aS, .ref aL, .int (nI c), v14, v15, .ref aK, .ref aKT, .ref aKS, .ref aKL, .ref aIK, .ref aI, .ref aC, v23, v24, v25, .ref aO, v27, v28])), (aM, .inl (cI, 3, .inl (nA sm))), (aT, .inl (cI, 192, .inl (nA tb))), (aP, .inl (cI, 40, .inl (nA P))), (aI, .inl (cI, 4096, .inl (nA ix))), (aC, .inl (cI, 4096, .inl (nA g))), (aS, .inl (cI, 4096, .inl (nA S))), (aL, .inl (cI, 4096, .inl (nA Lv))), (aO, .inl (cI, 4096, .inl (nA O))), (aK, .inl (cI, 200, .inl (nA K))), (aKT, .inl (cI, 128, .inl (nA KT))), (aKS, .inl (cI, 8192, .inl (nA KS))), (aKL, .inl (cI, 8192, .inl (nA KL))), (aIK, .inl (cZ, 2, .inl (nA ik)))] := hD
      refine lv_aload_n hex hby dX10_restore_50 rfl (lv_at hl 1 rfl) ?_
      refine nv_get (v := .ref aM) CFx in_X10_restore_X10 hK hP 0 rfl rfl 2 (by decide) (List.mem_of_getElem? (i := 5) rfl) rfl dX10_restore_51 ?_
      refine lv_iconst (v := nI 2) hex hby dX10_restore_54 rfl ?_
      refine lv_aload_n hex hby dX10_restore_55 rfl (lv_at hl 1 rfl) ?_
      refine nv_get (v := .ref aK) CFx in_X10_restore_X10 hK hP 0 rfl rfl 16 (by decide) (List.mem_of_getElem? (i := 2) rfl) rfl dX10_restore_56 ?_
      refine lv_iload_n hex hby dX10_restore_59 rfl (lv_at hl 0 rfl) ?_
      refine lv_iconst (v := nI 2) hex hby dX10_restore_60 rfl ?_
      refine nv_iadd hex hby dX10_restore_61 ?_
      refine nv_iald hex hby hK hP 9 0 rfl rfl (by omega) (by omega) dX10_restore_62 ?_
      have hb_8 := hKb (100 * wz.toNat + 2)
      refine nv_top (y := nI (ktc wz.toNat)) (congrArg nI h2) ?_
      refine nv_iast hex hby hK hP hD hS 1 0 rfl rfl (by omega) (by omega) dX10_restore_63 (fun H locs hP hD hS => ?_)
      have hP : va_P (dC, dI) vwCl [(h, .inr (10, [.int (nI (km wz.toNat)), .int (nI (kcu wz.toNat)), .ref aM, .ref aT, .int (nI rl), .int (nI rb), .int (nI rr), .int (nI ra), .ref aP, .int (nI pc), .int (nI bk), .ref aS, .ref aL, .int (nI c), v14, v15, .ref aK, .ref aKT, .ref aKS, .ref aKL, .ref aIK, .ref aI, .ref aC, v23, v24, v25, .ref aO, v27, v28])), (aM, .inl (cI, 3, .inl (nA (upN sm 2 (ktc wz.toNat))))), (aT, .inl (cI, 192, .inl (nA tb))), (aP, .inl (cI, 40, .inl (nA P))), (aI, .inl (cI, 4096, .inl (nA ix))), (aC, .inl (cI, 4096, .inl (nA g))), (aS, .inl (cI, 4096, .inl (nA S))), (aL, .inl (cI, 4096, .inl (nA Lv))), (aO, .inl (cI, 4096, .inl (nA O))), (aK, .inl (cI, 200, .inl (nA K))), (aKT, .inl (cI, 128, .inl (nA KT))), (aKS, .inl (cI, 8192, .inl (nA KS))), (aKL, .inl (cI, 8192, .inl (nA KL))), (aIK, .inl (cZ, 2, .inl (nA ik)))] H := hP
      have hD : va_D A [(h, .inr (10, [.int (nI (km wz.toNat)), .int (nI (kcu wz.toNat)), .ref aM, .ref aT, .int (nI rl), .int (nI rb), .int (nI rr), .int (nI ra), .ref aP, .int (nI pc), .int (nI bk), .ref aS, .ref aL, .int (nI c), v14, v15, .ref aK, .ref aKT, .ref aKS, .ref aKL, .ref aIK, .ref aI, .ref aC, v23, v24, v25, .ref aO, v27, v28])), (aM, .inl (cI, 3, .inl (nA (upN sm 2 (ktc wz.toNat))))), (aT, .inl (cI, 192, .inl (nA tb))), (aP, .inl (cI, 40, .inl (nA P))), (aI, .inl (cI, 4096, .inl (nA ix))), (aC, .inl (cI, 4096, .inl (nA g))), (aS, .inl (cI, 4096, .inl (nA S))), (aL, .inl (cI, 4096, .inl (nA Lv))), (aO, .inl (cI, 4096, .inl (nA O))), (aK, .inl (cI, 200, .inl (nA K))), (aKT, .inl (cI, 128, .inl (nA KT))), (aKS, .inl (cI, 8192, .inl (nA KS))), (aKL, .inl (cI, 8192, .inl (nA KL))), (aIK, .inl (cZ, 2, .inl (nA ik)))] := hD
      have hB_9 := upN_lt (k := 2) (x := ktc wz.toNat) hsm (by omega)
      refine lv_aload_n hex hby dX10_restore_64 rfl (lv_at hl 1 rfl) ?_
      refine lv_aload_n hex hby dX10_restore_65 rfl (lv_at hl 1 rfl) ?_
      refine nv_get (v := .ref aK) CFx in_X10_restore_X10 hK hP 0 rfl rfl 16 (by decide) (List.mem_of_getElem? (i := 2) rfl) rfl dX10_restore_66 ?_
      refine lv_iload_n hex hby dX10_restore_69 rfl (lv_at hl 0 rfl) ?_
      refine lv_iconst (v := nI 3) hex hby dX10_restore_70 rfl ?_
      refine nv_iadd hex hby dX10_restore_71 ?_
      refine nv_iald hex hby hK hP 9 0 rfl rfl (by omega) (by omega) dX10_restore_72 ?_
      have hb_10 := hKb (100 * wz.toNat + 3)
      refine nv_top (y := nI (krl wz.toNat)) (congrArg nI h3) ?_
      refine nv_put CFx in_X10_restore_X10 tyX10 tyX10_ok nmX10 hK hP hD hS 0 rfl rfl 4 (by decide) (List.mem_of_getElem? (i := 6) rfl) rfl (by decide +kernel) (Nat.le_of_ble_eq_true rfl) dX10_restore_73 (fun H locs hP hD hS => ?_)
      have hP : va_P (dC, dI) vwCl [(h, .inr (10, [.int (nI (km wz.toNat)), .int (nI (kcu wz.toNat)), .ref aM, .ref aT, .int (nI (krl wz.toNat)), .int (nI rb), .int (nI rr), .int (nI ra), .ref aP, .int (nI pc), .int (nI bk), .ref aS, .ref aL, .int (nI c), v14, v15, .ref aK, .ref aKT, .ref aKS, .ref aKL, .ref aIK, .ref aI, .ref aC, v23, v24, v25, .ref aO, v27, v28])), (aM, .inl (cI, 3, .inl (nA (upN sm 2 (ktc wz.toNat))))), (aT, .inl (cI, 192, .inl (nA tb))), (aP, .inl (cI, 40, .inl (nA P))), (aI, .inl (cI, 4096, .inl (nA ix))), (aC, .inl (cI, 4096, .inl (nA g))), (aS, .inl (cI, 4096, .inl (nA S))), (aL, .inl (cI, 4096, .inl (nA Lv))), (aO, .inl (cI, 4096, .inl (nA O))), (aK, .inl (cI, 200, .inl (nA K))), (aKT, .inl (cI, 128, .inl (nA KT))), (aKS, .inl (cI, 8192, .inl (nA KS))), (aKL, .inl (cI, 8192, .inl (nA KL))), (aIK, .inl (cZ, 2, .inl (nA ik)))] H := hP
      have hD : va_D A [(h, .inr (10, [.int (nI (km wz.toNat)), .int (nI (kcu wz.toNat)), .ref aM, .ref aT, .int (nI (krl wz.toNat)), .int (nI rb), .int (nI rr), .int (nI ra), .ref aP, .int (nI pc), .int (nI bk), .ref aS, .ref aL, .int (nI c), v14, v15, .ref aK, .ref aKT, .ref aKS, .ref aKL, .ref aIK, .ref aI, .ref aC, v23, v24, v25, .ref aO, v27, v28])), (aM, .inl (cI, 3, .inl (nA (upN sm 2 (ktc wz.toNat))))), (aT, .inl (cI, 192, .inl (nA tb))), (aP, .inl (cI, 40, .inl (nA P))), (aI, .inl (cI, 4096, .inl (nA ix))), (aC, .inl (cI, 4096, .inl (nA g))), (aS, .inl (cI, 4096, .inl (nA S))), (aL, .inl (cI, 4096, .inl (nA Lv))), (aO, .inl (cI, 4096, .inl (nA O))), (aK, .inl (cI, 200, .inl (nA K))), (aKT, .inl (cI, 128, .inl (nA KT))), (aKS, .inl (cI, 8192, .inl (nA KS))), (aKL, .inl (cI, 8192, .inl (nA KL))), (aIK, .inl (cZ, 2, .inl (nA ik)))] := hD
      refine lv_aload_n hex hby dX10_restore_76 rfl (lv_at hl 1 rfl) ?_
      refine lv_aload_n hex hby dX10_restore_77 rfl (lv_at hl 1 rfl) ?_
      refine nv_get (v := .ref aK) CFx in_X10_restore_X10 hK hP 0 rfl rfl 16 (by decide) (List.mem_of_getElem? (i := 2) rfl) rfl dX10_restore_78 ?_
      refine lv_iload_n hex hby dX10_restore_81 rfl (lv_at hl 0 rfl) ?_
      refine lv_iconst (v := nI 4) hex hby dX10_restore_82 rfl ?_
      refine nv_iadd hex hby dX10_restore_83 ?_
      refine nv_iald hex hby hK hP 9 0 rfl rfl (by omega) (by omega) dX10_restore_84 ?_
      have hb_11 := hKb (100 * wz.toNat + 4)
      refine nv_top (y := nI (krb wz.toNat)) (congrArg nI h4) ?_
      refine nv_put CFx in_X10_restore_X10 tyX10 tyX10_ok nmX10 hK hP hD hS 0 rfl rfl 5 (by decide) (List.mem_of_getElem? (i := 7) rfl) rfl (by decide +kernel) (Nat.le_of_ble_eq_true rfl) dX10_restore_85 (fun H locs hP hD hS => ?_)
      have hP : va_P (dC, dI) vwCl [(h, .inr (10, [.int (nI (km wz.toNat)), .int (nI (kcu wz.toNat)), .ref aM, .ref aT, .int (nI (krl wz.toNat)), .int (nI (krb wz.toNat)), .int (nI rr), .int (nI ra), .ref aP, .int (nI pc), .int (nI bk), .ref aS, .ref aL, .int (nI c), v14, v15, .ref aK, .ref aKT, .ref aKS, .ref aKL, .ref aIK, .ref aI, .ref aC, v23, v24, v25, .ref aO, v27, v28])), (aM, .inl (cI, 3, .inl (nA (upN sm 2 (ktc wz.toNat))))), (aT, .inl (cI, 192, .inl (nA tb))), (aP, .inl (cI, 40, .inl (nA P))), (aI, .inl (cI, 4096, .inl (nA ix))), (aC, .inl (cI, 4096, .inl (nA g))), (aS, .inl (cI, 4096, .inl (nA S))), (aL, .inl (cI, 4096, .inl (nA Lv))), (aO, .inl (cI, 4096, .inl (nA O))), (aK, .inl (cI, 200, .inl (nA K))), (aKT, .inl (cI, 128, .inl (nA KT))), (aKS, .inl (cI, 8192, .inl (nA KS))), (aKL, .inl (cI, 8192, .inl (nA KL))), (aIK, .inl (cZ, 2, .inl (nA ik)))] H := hP
      have hD : va_D A [(h, .inr (10, [.int (nI (km wz.toNat)), .int (nI (kcu wz.toNat)), .ref aM, .ref aT, .int (nI (krl wz.toNat)), .int (nI (krb wz.toNat)), .int (nI rr), .int (nI ra), .ref aP, .int (nI pc), .int (nI bk), .ref aS, .ref aL, .int (nI c), v14, v15, .ref aK, .ref aKT, .ref aKS, .ref aKL, .ref aIK, .ref aI, .ref aC, v23, v24, v25, .ref aO, v27, v28])), (aM, .inl (cI, 3, .inl (nA (upN sm 2 (ktc wz.toNat))))), (aT, .inl (cI, 192, .inl (nA tb))), (aP, .inl (cI, 40, .inl (nA P))), (aI, .inl (cI, 4096, .inl (nA ix))), (aC, .inl (cI, 4096, .inl (nA g))), (aS, .inl (cI, 4096, .inl (nA S))), (aL, .inl (cI, 4096, .inl (nA Lv))), (aO, .inl (cI, 4096, .inl (nA O))), (aK, .inl (cI, 200, .inl (nA K))), (aKT, .inl (cI, 128, .inl (nA KT))), (aKS, .inl (cI, 8192, .inl (nA KS))), (aKL, .inl (cI, 8192, .inl (nA KL))), (aIK, .inl (cZ, 2, .inl (nA ik)))] := hD
      refine lv_aload_n hex hby dX10_restore_88 rfl (lv_at hl 1 rfl) ?_
      refine lv_aload_n hex hby dX10_restore_89 rfl (lv_at hl 1 rfl) ?_
      refine nv_get (v := .ref aK) CFx in_X10_restore_X10 hK hP 0 rfl rfl 16 (by decide) (List.mem_of_getElem? (i := 2) rfl) rfl dX10_restore_90 ?_
      refine lv_iload_n hex hby dX10_restore_93 rfl (lv_at hl 0 rfl) ?_
      refine lv_iconst (v := nI 5) hex hby dX10_restore_94 rfl ?_
      refine nv_iadd hex hby dX10_restore_95 ?_
      refine nv_iald hex hby hK hP 9 0 rfl rfl (by omega) (by omega) dX10_restore_96 ?_
      have hb_12 := hKb (100 * wz.toNat + 5)
      refine nv_top (y := nI (krr wz.toNat)) (congrArg nI h5) ?_
      refine nv_put CFx in_X10_restore_X10 tyX10 tyX10_ok nmX10 hK hP hD hS 0 rfl rfl 6 (by decide) (List.mem_of_getElem? (i := 8) rfl) rfl (by decide +kernel) (Nat.le_of_ble_eq_true rfl) dX10_restore_97 (fun H locs hP hD hS => ?_)
      have hP : va_P (dC, dI) vwCl [(h, .inr (10, [.int (nI (km wz.toNat)), .int (nI (kcu wz.toNat)), .ref aM, .ref aT, .int (nI (krl wz.toNat)), .int (nI (krb wz.toNat)), .int (nI (krr wz.toNat)), .int (nI ra), .ref aP, .int (nI pc), .int (nI bk), .ref aS, .ref aL, .int (nI c), v14, v15, .ref aK, .ref aKT, .ref aKS, .ref aKL, .ref aIK, .ref aI, .ref aC, v23, v24, v25, .ref aO, v27, v28])), (aM, .inl (cI, 3, .inl (nA (upN sm 2 (ktc wz.toNat))))), (aT, .inl (cI, 192, .inl (nA tb))), (aP, .inl (cI, 40, .inl (nA P))), (aI, .inl (cI, 4096, .inl (nA ix))), (aC, .inl (cI, 4096, .inl (nA g))), (aS, .inl (cI, 4096, .inl (nA S))), (aL, .inl (cI, 4096, .inl (nA Lv))), (aO, .inl (cI, 4096, .inl (nA O))), (aK, .inl (cI, 200, .inl (nA K))), (aKT, .inl (cI, 128, .inl (nA KT))), (aKS, .inl (cI, 8192, .inl (nA KS))), (aKL, .inl (cI, 8192, .inl (nA KL))), (aIK, .inl (cZ, 2, .inl (nA ik)))] H := hP
      have hD : va_D A [(h, .inr (10, [.int (nI (km wz.toNat)), .int (nI (kcu wz.toNat)), .ref aM, .ref aT, .int (nI (krl wz.toNat)), .int (nI (krb wz.toNat)), .int (nI (krr wz.toNat)), .int (nI ra), .ref aP, .int (nI pc), .int (nI bk), .ref aS, .ref aL, .int (nI c), v14, v15, .ref aK, .ref aKT, .ref aKS, .ref aKL, .ref aIK, .ref aI, .ref aC, v23, v24, v25, .ref aO, v27, v28])), (aM, .inl (cI, 3, .inl (nA (upN sm 2 (ktc wz.toNat))))), (aT, .inl (cI, 192, .inl (nA tb))), (aP, .inl (cI, 40, .inl (nA P))), (aI, .inl (cI, 4096, .inl (nA ix))), (aC, .inl (cI, 4096, .inl (nA g))), (aS, .inl (cI, 4096, .inl (nA S))), (aL, .inl (cI, 4096, .inl (nA Lv))), (aO, .inl (cI, 4096, .inl (nA O))), (aK, .inl (cI, 200, .inl (nA K))), (aKT, .inl (cI, 128, .inl (nA KT))), (aKS, .inl (cI, 8192, .inl (nA KS))), (aKL, .inl (cI, 8192, .inl (nA KL))), (aIK, .inl (cZ, 2, .inl (nA ik)))] := hD
      refine lv_aload_n hex hby dX10_restore_100 rfl (lv_at hl 1 rfl) ?_
      refine lv_aload_n hex hby dX10_restore_101 rfl (lv_at hl 1 rfl) ?_
      refine nv_get (v := .ref aK) CFx in_X10_restore_X10 hK hP 0 rfl rfl 16 (by decide) (List.mem_of_getElem? (i := 2) rfl) rfl dX10_restore_102 ?_
      refine lv_iload_n hex hby dX10_restore_105 rfl (lv_at hl 0 rfl) ?_
      refine lv_bipush (v := nI 6) hex hby dX10_restore_106 rfl ?_
      refine nv_iadd hex hby dX10_restore_108 ?_
      refine nv_iald hex hby hK hP 9 0 rfl rfl (by omega) (by omega) dX10_restore_109 ?_
      have hb_13 := hKb (100 * wz.toNat + 6)
      refine nv_top (y := nI (kra wz.toNat)) (congrArg nI h6) ?_
      refine nv_put CFx in_X10_restore_X10 tyX10 tyX10_ok nmX10 hK hP hD hS 0 rfl rfl 7 (by decide) (List.mem_of_getElem? (i := 9) rfl) rfl (by decide +kernel) (Nat.le_of_ble_eq_true rfl) dX10_restore_110 (fun H locs hP hD hS => ?_)
      have hP : va_P (dC, dI) vwCl [(h, .inr (10, [.int (nI (km wz.toNat)), .int (nI (kcu wz.toNat)), .ref aM, .ref aT, .int (nI (krl wz.toNat)), .int (nI (krb wz.toNat)), .int (nI (krr wz.toNat)), .int (nI (kra wz.toNat)), .ref aP, .int (nI pc), .int (nI bk), .ref aS, .ref aL, .int (nI c), v14, v15, .ref aK, .ref aKT, .ref aKS, .ref aKL, .ref aIK, .ref aI, .ref aC, v23, v24, v25, .ref aO, v27, v28])), (aM, .inl (cI, 3, .inl (nA (upN sm 2 (ktc wz.toNat))))), (aT, .inl (cI, 192, .inl (nA tb))), (aP, .inl (cI, 40, .inl (nA P))), (aI, .inl (cI, 4096, .inl (nA ix))), (aC, .inl (cI, 4096, .inl (nA g))), (aS, .inl (cI, 4096, .inl (nA S))), (aL, .inl (cI, 4096, .inl (nA Lv))), (aO, .inl (cI, 4096, .inl (nA O))), (aK, .inl (cI, 200, .inl (nA K))), (aKT, .inl (cI, 128, .inl (nA KT))), (aKS, .inl (cI, 8192, .inl (nA KS))), (aKL, .inl (cI, 8192, .inl (nA KL))), (aIK, .inl (cZ, 2, .inl (nA ik)))] H := hP
      have hD : va_D A [(h, .inr (10, [.int (nI (km wz.toNat)), .int (nI (kcu wz.toNat)), .ref aM, .ref aT, .int (nI (krl wz.toNat)), .int (nI (krb wz.toNat)), .int (nI (krr wz.toNat)), .int (nI (kra wz.toNat)), .ref aP, .int (nI pc), .int (nI bk), .ref aS, .ref aL, .int (nI c), v14, v15, .ref aK, .ref aKT, .ref aKS, .ref aKL, .ref aIK, .ref aI, .ref aC, v23, v24, v25, .ref aO, v27, v28])), (aM, .inl (cI, 3, .inl (nA (upN sm 2 (ktc wz.toNat))))), (aT, .inl (cI, 192, .inl (nA tb))), (aP, .inl (cI, 40, .inl (nA P))), (aI, .inl (cI, 4096, .inl (nA ix))), (aC, .inl (cI, 4096, .inl (nA g))), (aS, .inl (cI, 4096, .inl (nA S))), (aL, .inl (cI, 4096, .inl (nA Lv))), (aO, .inl (cI, 4096, .inl (nA O))), (aK, .inl (cI, 200, .inl (nA K))), (aKT, .inl (cI, 128, .inl (nA KT))), (aKS, .inl (cI, 8192, .inl (nA KS))), (aKL, .inl (cI, 8192, .inl (nA KL))), (aIK, .inl (cZ, 2, .inl (nA ik)))] := hD
      refine lv_aload_n hex hby dX10_restore_113 rfl (lv_at hl 1 rfl) ?_
      refine lv_aload_n hex hby dX10_restore_114 rfl (lv_at hl 1 rfl) ?_
      refine nv_get (v := .ref aK) CFx in_X10_restore_X10 hK hP 0 rfl rfl 16 (by decide) (List.mem_of_getElem? (i := 2) rfl) rfl dX10_restore_115 ?_
      refine lv_iload_n hex hby dX10_restore_118 rfl (lv_at hl 0 rfl) ?_
      refine lv_bipush (v := nI 7) hex hby dX10_restore_119 rfl ?_
      refine nv_iadd hex hby dX10_restore_121 ?_
      refine nv_iald hex hby hK hP 9 0 rfl rfl (by omega) (by omega) dX10_restore_122 ?_
      have hb_14 := hKb (100 * wz.toNat + 7)
      refine nv_top (y := nI (kpc wz.toNat)) (congrArg nI h7) ?_
      refine nv_put CFx in_X10_restore_X10 tyX10 tyX10_ok nmX10 hK hP hD hS 0 rfl rfl 9 (by decide) (List.mem_of_getElem? (i := 10) rfl) rfl (by decide +kernel) (Nat.le_of_ble_eq_true rfl) dX10_restore_123 (fun H locs hP hD hS => ?_)
      have hP : va_P (dC, dI) vwCl [(h, .inr (10, [.int (nI (km wz.toNat)), .int (nI (kcu wz.toNat)), .ref aM, .ref aT, .int (nI (krl wz.toNat)), .int (nI (krb wz.toNat)), .int (nI (krr wz.toNat)), .int (nI (kra wz.toNat)), .ref aP, .int (nI (kpc wz.toNat)), .int (nI bk), .ref aS, .ref aL, .int (nI c), v14, v15, .ref aK, .ref aKT, .ref aKS, .ref aKL, .ref aIK, .ref aI, .ref aC, v23, v24, v25, .ref aO, v27, v28])), (aM, .inl (cI, 3, .inl (nA (upN sm 2 (ktc wz.toNat))))), (aT, .inl (cI, 192, .inl (nA tb))), (aP, .inl (cI, 40, .inl (nA P))), (aI, .inl (cI, 4096, .inl (nA ix))), (aC, .inl (cI, 4096, .inl (nA g))), (aS, .inl (cI, 4096, .inl (nA S))), (aL, .inl (cI, 4096, .inl (nA Lv))), (aO, .inl (cI, 4096, .inl (nA O))), (aK, .inl (cI, 200, .inl (nA K))), (aKT, .inl (cI, 128, .inl (nA KT))), (aKS, .inl (cI, 8192, .inl (nA KS))), (aKL, .inl (cI, 8192, .inl (nA KL))), (aIK, .inl (cZ, 2, .inl (nA ik)))] H := hP
      have hD : va_D A [(h, .inr (10, [.int (nI (km wz.toNat)), .int (nI (kcu wz.toNat)), .ref aM, .ref aT, .int (nI (krl wz.toNat)), .int (nI (krb wz.toNat)), .int (nI (krr wz.toNat)), .int (nI (kra wz.toNat)), .ref aP, .int (nI (kpc wz.toNat)), .int (nI bk), .ref aS, .ref aL, .int (nI c), v14, v15, .ref aK, .ref aKT, .ref aKS, .ref aKL, .ref aIK, .ref aI, .ref aC, v23, v24, v25, .ref aO, v27, v28])), (aM, .inl (cI, 3, .inl (nA (upN sm 2 (ktc wz.toNat))))), (aT, .inl (cI, 192, .inl (nA tb))), (aP, .inl (cI, 40, .inl (nA P))), (aI, .inl (cI, 4096, .inl (nA ix))), (aC, .inl (cI, 4096, .inl (nA g))), (aS, .inl (cI, 4096, .inl (nA S))), (aL, .inl (cI, 4096, .inl (nA Lv))), (aO, .inl (cI, 4096, .inl (nA O))), (aK, .inl (cI, 200, .inl (nA K))), (aKT, .inl (cI, 128, .inl (nA KT))), (aKS, .inl (cI, 8192, .inl (nA KS))), (aKL, .inl (cI, 8192, .inl (nA KL))), (aIK, .inl (cZ, 2, .inl (nA ik)))] := hD
      refine lv_aload_n hex hby dX10_restore_126 rfl (lv_at hl 1 rfl) ?_
      refine lv_aload_n hex hby dX10_restore_127 rfl (lv_at hl 1 rfl) ?_
      refine nv_get (v := .ref aK) CFx in_X10_restore_X10 hK hP 0 rfl rfl 16 (by decide) (List.mem_of_getElem? (i := 2) rfl) rfl dX10_restore_128 ?_
      refine lv_iload_n hex hby dX10_restore_131 rfl (lv_at hl 0 rfl) ?_
      refine lv_bipush (v := nI 8) hex hby dX10_restore_132 rfl ?_
      refine nv_iadd hex hby dX10_restore_134 ?_
      refine nv_iald hex hby hK hP 9 0 rfl rfl (by omega) (by omega) dX10_restore_135 ?_
      have hb_15 := hKb (100 * wz.toNat + 8)
      refine nv_top (y := nI (kbk wz.toNat)) (congrArg nI h8) ?_
      refine nv_put CFx in_X10_restore_X10 tyX10 tyX10_ok nmX10 hK hP hD hS 0 rfl rfl 10 (by decide) (List.mem_of_getElem? (i := 11) rfl) rfl (by decide +kernel) (Nat.le_of_ble_eq_true rfl) dX10_restore_136 (fun H locs hP hD hS => ?_)
      have hP : va_P (dC, dI) vwCl [(h, .inr (10, [.int (nI (km wz.toNat)), .int (nI (kcu wz.toNat)), .ref aM, .ref aT, .int (nI (krl wz.toNat)), .int (nI (krb wz.toNat)), .int (nI (krr wz.toNat)), .int (nI (kra wz.toNat)), .ref aP, .int (nI (kpc wz.toNat)), .int (nI (kbk wz.toNat)), .ref aS, .ref aL, .int (nI c), v14, v15, .ref aK, .ref aKT, .ref aKS, .ref aKL, .ref aIK, .ref aI, .ref aC, v23, v24, v25, .ref aO, v27, v28])), (aM, .inl (cI, 3, .inl (nA (upN sm 2 (ktc wz.toNat))))), (aT, .inl (cI, 192, .inl (nA tb))), (aP, .inl (cI, 40, .inl (nA P))), (aI, .inl (cI, 4096, .inl (nA ix))), (aC, .inl (cI, 4096, .inl (nA g))), (aS, .inl (cI, 4096, .inl (nA S))), (aL, .inl (cI, 4096, .inl (nA Lv))), (aO, .inl (cI, 4096, .inl (nA O))), (aK, .inl (cI, 200, .inl (nA K))), (aKT, .inl (cI, 128, .inl (nA KT))), (aKS, .inl (cI, 8192, .inl (nA KS))), (aKL, .inl (cI, 8192, .inl (nA KL))), (aIK, .inl (cZ, 2, .inl (nA ik)))] H := hP
      have hD : va_D A [(h, .inr (10, [.int (nI (km wz.toNat)), .int (nI (kcu wz.toNat)), .ref aM, .ref aT, .int (nI (krl wz.toNat)), .int (nI (krb wz.toNat)), .int (nI (krr wz.toNat)), .int (nI (kra wz.toNat)), .ref aP, .int (nI (kpc wz.toNat)), .int (nI (kbk wz.toNat)), .ref aS, .ref aL, .int (nI c), v14, v15, .ref aK, .ref aKT, .ref aKS, .ref aKL, .ref aIK, .ref aI, .ref aC, v23, v24, v25, .ref aO, v27, v28])), (aM, .inl (cI, 3, .inl (nA (upN sm 2 (ktc wz.toNat))))), (aT, .inl (cI, 192, .inl (nA tb))), (aP, .inl (cI, 40, .inl (nA P))), (aI, .inl (cI, 4096, .inl (nA ix))), (aC, .inl (cI, 4096, .inl (nA g))), (aS, .inl (cI, 4096, .inl (nA S))), (aL, .inl (cI, 4096, .inl (nA Lv))), (aO, .inl (cI, 4096, .inl (nA O))), (aK, .inl (cI, 200, .inl (nA K))), (aKT, .inl (cI, 128, .inl (nA KT))), (aKS, .inl (cI, 8192, .inl (nA KS))), (aKL, .inl (cI, 8192, .inl (nA KL))), (aIK, .inl (cZ, 2, .inl (nA ik)))] := hD
      refine lv_iconst (v := nI 0) hex hby dX10_restore_139 rfl ?_
      refine lv_istore_n (lv' := [(3, .int (nI 0)), (2, .int (nI (100 * wz.toNat))), (0, .ref h), (1, .int (nI wz.toNat))]) hex hby dX10_restore_140 rfl hl (by decide) rfl (fun ls hl => ?_)
      have loop141 : ∀ (nn : Nat) (i : Nat) (P2 : Nat → Nat), (40 - i) < nn → (i ≤ 40) → (∀ j, P2 j < 4096) → (∀ q, q < i → P2 q = K (100 * wz.toNat + 10 + q)) → ∀ (H : Heap) (locs : List Loc), va_P (dC, dI) vwCl [(h, .inr (10, [.int (nI (km wz.toNat)), .int (nI (kcu wz.toNat)), .ref aM, .ref aT, .int (nI (krl wz.toNat)), .int (nI (krb wz.toNat)), .int (nI (krr wz.toNat)), .int (nI (kra wz.toNat)), .ref aP, .int (nI (kpc wz.toNat)), .int (nI (kbk wz.toNat)), .ref aS, .ref aL, .int (nI c), v14, v15, .ref aK, .ref aKT, .ref aKS, .ref aKL, .ref aIK, .ref aI, .ref aC, v23, v24, v25, .ref aO, v27, v28])), (aM, .inl (cI, 3, .inl (nA (upN sm 2 (ktc wz.toNat))))), (aT, .inl (cI, 192, .inl (nA tb))), (aP, .inl (cI, 40, .inl (nA P2))), (aI, .inl (cI, 4096, .inl (nA ix))), (aC, .inl (cI, 4096, .inl (nA g))), (aS, .inl (cI, 4096, .inl (nA S))), (aL, .inl (cI, 4096, .inl (nA Lv))), (aO, .inl (cI, 4096, .inl (nA O))), (aK, .inl (cI, 200, .inl (nA K))), (aKT, .inl (cI, 128, .inl (nA KT))), (aKS, .inl (cI, 8192, .inl (nA KS))), (aKL, .inl (cI, 8192, .inl (nA KL))), (aIK, .inl (cZ, 2, .inl (nA ik)))] H → va_D A [(h, .inr (10, [.int (nI (km wz.toNat)), .int (nI (kcu wz.toNat)), .ref aM, .ref aT, .int (nI (krl wz.toNat)), .int (nI (krb wz.toNat)), .int (nI (krr wz.toNat)), .int (nI (kra wz.toNat)), .ref aP, .int (nI (kpc wz.toNat)), .int (nI (kbk wz.toNat)), .ref aS, .ref aL, .int (nI c), v14, v15, .ref aK, .ref aKT, .ref aKS, .ref aKL, .ref aIK, .ref aI, .ref aC, v23, v24, v25, .ref aO, v27, v28])), (aM, .inl (cI, 3, .inl (nA (upN sm 2 (ktc wz.toNat))))), (aT, .inl (cI, 192, .inl (nA tb))), (aP, .inl (cI, 40, .inl (nA P2))), (aI, .inl (cI, 4096, .inl (nA ix))), (aC, .inl (cI, 4096, .inl (nA g))), (aS, .inl (cI, 4096, .inl (nA S))), (aL, .inl (cI, 4096, .inl (nA Lv))), (aO, .inl (cI, 4096, .inl (nA O))), (aK, .inl (cI, 200, .inl (nA K))), (aKT, .inl (cI, 128, .inl (nA KT))), (aKS, .inl (cI, 8192, .inl (nA KS))), (aKL, .inl (cI, 8192, .inl (nA KL))), (aIK, .inl (cZ, 2, .inl (nA ik)))] → va_S A ss.heap H locs → ∀ ls : Array Slot, lv_has ls 4 [(3, .int (nI i)), (2, .int (nI (100 * wz.toNat))), (0, .ref h), (1, .int (nI wz.toNat))] → W pp l ee (rmO 3 73) ss mm ([.ref h, .int (nI wz.toNat)] : List Value).toArray bb mt cd H locs 0 0 Q (F0 mm 141 ls []) := by
        intro nn
        induction nn with
        | zero => intro i P2 hms141; exact absurd hms141 (Nat.not_lt_zero _)
        | succ nn ih141 =>
          intro i P2 hms141 hi hPb2 hPp H locs hP hD hS ls hl
          refine lv_iload_n hex hby dX10_restore_141 rfl (lv_at hl 0 rfl) ?_
          refine lv_bipush (v := nI 40) hex hby dX10_restore_142 rfl ?_
          refine nv_icmp_ge (tgt := 170) hex hby dX10_restore_144 (by decide) (by omega) (by omega) (fun c_16 => ?_) (fun c_16 => ?_)
          · refine lv_iconst (v := nI 0) hex hby dX10_restore_170 rfl ?_
            refine lv_istore_n (lv' := [(3, .int (nI 0)), (2, .int (nI (100 * wz.toNat))), (0, .ref h), (1, .int (nI wz.toNat))]) hex hby dX10_restore_171 rfl hl (by decide) rfl (fun ls hl => ?_)
            have loop172 : ∀ (nn : Nat) (i2 : Nat) (tb2 : Nat → Nat), (64 - i2) < nn → (i2 ≤ 64) → (∀ j, tb2 j < 10) → (SlA tb2 (fun q => KT (64 * wz.toNat + q)) 128 i2) → (Frm tb2 tb 128 192) → ∀ (H : Heap) (locs : List Loc), va_P (dC, dI) vwCl [(h, .inr (10, [.int (nI (km wz.toNat)), .int (nI (kcu wz.toNat)), .ref aM, .ref aT, .int (nI (krl wz.toNat)), .int (nI (krb wz.toNat)), .int (nI (krr wz.toNat)), .int (nI (kra wz.toNat)), .ref aP, .int (nI (kpc wz.toNat)), .int (nI (kbk wz.toNat)), .ref aS, .ref aL, .int (nI c), v14, v15, .ref aK, .ref aKT, .ref aKS, .ref aKL, .ref aIK, .ref aI, .ref aC, v23, v24, v25, .ref aO, v27, v28])), (aM, .inl (cI, 3, .inl (nA (upN sm 2 (ktc wz.toNat))))), (aT, .inl (cI, 192, .inl (nA tb2))), (aP, .inl (cI, 40, .inl (nA P2))), (aI, .inl (cI, 4096, .inl (nA ix))), (aC, .inl (cI, 4096, .inl (nA g))), (aS, .inl (cI, 4096, .inl (nA S))), (aL, .inl (cI, 4096, .inl (nA Lv))), (aO, .inl (cI, 4096, .inl (nA O))), (aK, .inl (cI, 200, .inl (nA K))), (aKT, .inl (cI, 128, .inl (nA KT))), (aKS, .inl (cI, 8192, .inl (nA KS))), (aKL, .inl (cI, 8192, .inl (nA KL))), (aIK, .inl (cZ, 2, .inl (nA ik)))] H → va_D A [(h, .inr (10, [.int (nI (km wz.toNat)), .int (nI (kcu wz.toNat)), .ref aM, .ref aT, .int (nI (krl wz.toNat)), .int (nI (krb wz.toNat)), .int (nI (krr wz.toNat)), .int (nI (kra wz.toNat)), .ref aP, .int (nI (kpc wz.toNat)), .int (nI (kbk wz.toNat)), .ref aS, .ref aL, .int (nI c), v14, v15, .ref aK, .ref aKT, .ref aKS, .ref aKL, .ref aIK, .ref aI, .ref aC, v23, v24, v25, .ref aO, v27, v28])), (aM, .inl (cI, 3, .inl (nA (upN sm 2 (ktc wz.toNat))))), (aT, .inl (cI, 192, .inl (nA tb2))), (aP, .inl (cI, 40, .inl (nA P2))), (aI, .inl (cI, 4096, .inl (nA ix))), (aC, .inl (cI, 4096, .inl (nA g))), (aS, .inl (cI, 4096, .inl (nA S))), (aL, .inl (cI, 4096, .inl (nA Lv))), (aO, .inl (cI, 4096, .inl (nA O))), (aK, .inl (cI, 200, .inl (nA K))), (aKT, .inl (cI, 128, .inl (nA KT))), (aKS, .inl (cI, 8192, .inl (nA KS))), (aKL, .inl (cI, 8192, .inl (nA KL))), (aIK, .inl (cZ, 2, .inl (nA ik)))] → va_S A ss.heap H locs → ∀ ls : Array Slot, lv_has ls 4 [(3, .int (nI i2)), (2, .int (nI (100 * wz.toNat))), (0, .ref h), (1, .int (nI wz.toNat))] → W pp l ee (rmO 3 73) ss mm ([.ref h, .int (nI wz.toNat)] : List Value).toArray bb mt cd H locs 0 0 Q (F0 mm 172 ls []) := by
              intro nn
              induction nn with
              | zero => intro i2 tb2 hms172; exact absurd hms172 (Nat.not_lt_zero _)
              | succ nn ih172 =>
                intro i2 tb2 hms172 hi2 htb2 hTt hTF H locs hP hD hS ls hl
                refine lv_iload_n hex hby dX10_restore_172 rfl (lv_at hl 0 rfl) ?_
                refine lv_bipush (v := nI 64) hex hby dX10_restore_173 rfl ?_
                refine nv_icmp_ge (tgt := 205) hex hby dX10_restore_175 (by decide) (by omega) (by omega) (fun c_17 => ?_) (fun c_17 => ?_)
                · refine lv_aload_n hex hby dX10_restore_205 rfl (lv_at hl 2 rfl) ?_
                  have hU0 := Tb_frm hT0 hTF (by omega) (by omega)
                  have hU1 := Tb_frm hT1 hTF (by omega) (by omega)
                  have hU2 := Tb_slot (hst wz.toNat (by omega) hu) (show SlA tb2 (fun q => KT (64 * wz.toNat + q)) 128 64 from (show i2 = 64 by omega) ▸ hTt) (by omega)
                  refine mu_Vv (As := []) (rest := []) (wr := [(aM, .inl (cI, 3, .inl (nA (upN sm 2 (ktc wz.toNat))))), (aK, .inl (cI, 200, .inl (nA K))), (aKT, .inl (cI, 128, .inl (nA KT))), (aKS, .inl (cI, 8192, .inl (nA KS))), (aKL, .inl (cI, 8192, .inl (nA KL))), (aIK, .inl (cZ, 2, .inl (nA ik)))]) CFx (c_X10_numbers (h := h) (aT := aT) (aP := aP) (aI := aI) (aC := aC) (aS := aS) (aL := aL) (aO := aO) (m := km wz.toNat) (cu := kcu wz.toNat) (v2 := .ref aM) (v4 := .int (nI (krl wz.toNat))) (v5 := .int (nI (krb wz.toNat))) (v6 := .int (nI (krr wz.toNat))) (v7 := .int (nI (kra wz.toNat))) (pc := kpc wz.toNat) (bk := kbk wz.toNat) (v13 := .int (nI c)) (v14 := v14) (v15 := v15) (v16 := .ref aK) (v17 := .ref aKT) (v18 := .ref aKS) (v19 := .ref aKL) (v20 := .ref aIK) (v23 := v23) (v24 := v24) (v25 := v25) (v27 := v27) (v28 := v28) (tb := tb2) (P := P2) (ix0 := ix) (g0 := g) (S0 := S) (L0 := Lv) (O0 := O) (T := cuT (kcu wz.toNat) (kV wz.toNat)) (ns := cuN (kcu wz.toNat) (ktc wz.toNat)) htb2 hPb2 r4 hix hg hSb hLb hOb r1 r2 r5 r3 (cuT_VT hVw) (cu_Tb hU0 hU1 hU2 r3)) 0 gX10_restore_X10_numbers rfl nd_X10_numbers ⟨Nat.le_of_ble_eq_true rfl, Nat.le_of_ble_eq_true rfl⟩ hK hP hD hS hA [0, 2, 3, 4, 5, 6, 7, 8] [1, 9, 10, 11, 12, 13] rfl rfl (by decide) (by decide) (by decide) TR.nil rfl rfl rfl hl.1 rfl (Nat.le_of_ble_eq_true rfl) dX10_restore_206 ⟨Nat.le_refl _, Nat.le_refl _⟩ (fun u H locs hr_18 hP hD hS => ?_)
                  obtain ⟨ix1, g1, c1, S1, L1, O1⟩ := u
                  dsimp only at hr_18 hP hD
                  have hP : va_P (dC, dI) vwCl [(aM, .inl (cI, 3, .inl (nA (upN sm 2 (ktc wz.toNat))))), (aK, .inl (cI, 200, .inl (nA K))), (aKT, .inl (cI, 128, .inl (nA KT))), (aKS, .inl (cI, 8192, .inl (nA KS))), (aKL, .inl (cI, 8192, .inl (nA KL))), (aIK, .inl (cZ, 2, .inl (nA ik))), (h, .inr (10, [.int (nI (km wz.toNat)), .int (nI (kcu wz.toNat)), .ref aM, .ref aT, .int (nI (krl wz.toNat)), .int (nI (krb wz.toNat)), .int (nI (krr wz.toNat)), .int (nI (kra wz.toNat)), .ref aP, .int (nI (kpc wz.toNat)), .int (nI (kbk wz.toNat)), .ref aS, .ref aL, .int (nI c1), v14, v15, .ref aK, .ref aKT, .ref aKS, .ref aKL, .ref aIK, .ref aI, .ref aC, v23, v24, v25, .ref aO, v27, v28])), (aT, .inl (cI, 192, .inl (nA tb2))), (aP, .inl (cI, 40, .inl (nA P2))), (aI, .inl (cI, 4096, .inl (nA ix1))), (aC, .inl (cI, 4096, .inl (nA g1))), (aS, .inl (cI, 4096, .inl (nA S1))), (aL, .inl (cI, 4096, .inl (nA L1))), (aO, .inl (cI, 4096, .inl (nA O1)))] H := hP
                  have hD : va_D A [(aM, .inl (cI, 3, .inl (nA (upN sm 2 (ktc wz.toNat))))), (aK, .inl (cI, 200, .inl (nA K))), (aKT, .inl (cI, 128, .inl (nA KT))), (aKS, .inl (cI, 8192, .inl (nA KS))), (aKL, .inl (cI, 8192, .inl (nA KL))), (aIK, .inl (cZ, 2, .inl (nA ik))), (h, .inr (10, [.int (nI (km wz.toNat)), .int (nI (kcu wz.toNat)), .ref aM, .ref aT, .int (nI (krl wz.toNat)), .int (nI (krb wz.toNat)), .int (nI (krr wz.toNat)), .int (nI (kra wz.toNat)), .ref aP, .int (nI (kpc wz.toNat)), .int (nI (kbk wz.toNat)), .ref aS, .ref aL, .int (nI c1), v14, v15, .ref aK, .ref aKT, .ref aKS, .ref aKL, .ref aIK, .ref aI, .ref aC, v23, v24, v25, .ref aO, v27, v28])), (aT, .inl (cI, 192, .inl (nA tb2))), (aP, .inl (cI, 40, .inl (nA P2))), (aI, .inl (cI, 4096, .inl (nA ix1))), (aC, .inl (cI, 4096, .inl (nA g1))), (aS, .inl (cI, 4096, .inl (nA S1))), (aL, .inl (cI, 4096, .inl (nA L1))), (aO, .inl (cI, 4096, .inl (nA O1)))] := hD
                  obtain ⟨sn, ln, hn0, hn1, hn2, hn3, hn4, hn5, hn6, hn7, hn8⟩ := hr_18
                  refine lv_aload_n hex hby dX10_restore_209 rfl (lv_at hl 2 rfl) ?_
                  refine lv_aload_n hex hby dX10_restore_210 rfl (lv_at hl 2 rfl) ?_
                  refine nv_get (v := .ref aK) CFx in_X10_restore_X10 hK hP 6 rfl rfl 16 (by decide) (List.mem_of_getElem? (i := 2) rfl) rfl dX10_restore_211 ?_
                  refine lv_iload_n hex hby dX10_restore_214 rfl (lv_at hl 1 rfl) ?_
                  refine lv_bipush (v := nI 9) hex hby dX10_restore_215 rfl ?_
                  refine nv_iadd hex hby dX10_restore_217 ?_
                  refine nv_iald hex hby hK hP 1 0 rfl rfl (by omega) (by omega) dX10_restore_218 ?_
                  have hb_25 := hKb (100 * wz.toNat + 9)
                  refine nv_top (y := nI (kc wz.toNat)) (congrArg nI h9) ?_
                  refine nv_put CFx in_X10_restore_X10 tyX10 tyX10_ok nmX10 hK hP hD hS 6 rfl rfl 13 (by decide) (List.mem_of_getElem? (i := 15) rfl) rfl (by decide +kernel) (Nat.le_of_ble_eq_true rfl) dX10_restore_219 (fun H locs hP hD hS => ?_)
                  have hP : va_P (dC, dI) vwCl [(aM, .inl (cI, 3, .inl (nA (upN sm 2 (ktc wz.toNat))))), (aK, .inl (cI, 200, .inl (nA K))), (aKT, .inl (cI, 128, .inl (nA KT))), (aKS, .inl (cI, 8192, .inl (nA KS))), (aKL, .inl (cI, 8192, .inl (nA KL))), (aIK, .inl (cZ, 2, .inl (nA ik))), (h, .inr (10, [.int (nI (km wz.toNat)), .int (nI (kcu wz.toNat)), .ref aM, .ref aT, .int (nI (krl wz.toNat)), .int (nI (krb wz.toNat)), .int (nI (krr wz.toNat)), .int (nI (kra wz.toNat)), .ref aP, .int (nI (kpc wz.toNat)), .int (nI (kbk wz.toNat)), .ref aS, .ref aL, .int (nI (kc wz.toNat)), v14, v15, .ref aK, .ref aKT, .ref aKS, .ref aKL, .ref aIK, .ref aI, .ref aC, v23, v24, v25, .ref aO, v27, v28])), (aT, .inl (cI, 192, .inl (nA tb2))), (aP, .inl (cI, 40, .inl (nA P2))), (aI, .inl (cI, 4096, .inl (nA ix1))), (aC, .inl (cI, 4096, .inl (nA g1))), (aS, .inl (cI, 4096, .inl (nA S1))), (aL, .inl (cI, 4096, .inl (nA L1))), (aO, .inl (cI, 4096, .inl (nA O1)))] H := hP
                  have hD : va_D A [(aM, .inl (cI, 3, .inl (nA (upN sm 2 (ktc wz.toNat))))), (aK, .inl (cI, 200, .inl (nA K))), (aKT, .inl (cI, 128, .inl (nA KT))), (aKS, .inl (cI, 8192, .inl (nA KS))), (aKL, .inl (cI, 8192, .inl (nA KL))), (aIK, .inl (cZ, 2, .inl (nA ik))), (h, .inr (10, [.int (nI (km wz.toNat)), .int (nI (kcu wz.toNat)), .ref aM, .ref aT, .int (nI (krl wz.toNat)), .int (nI (krb wz.toNat)), .int (nI (krr wz.toNat)), .int (nI (kra wz.toNat)), .ref aP, .int (nI (kpc wz.toNat)), .int (nI (kbk wz.toNat)), .ref aS, .ref aL, .int (nI (kc wz.toNat)), v14, v15, .ref aK, .ref aKT, .ref aKS, .ref aKL, .ref aIK, .ref aI, .ref aC, v23, v24, v25, .ref aO, v27, v28])), (aT, .inl (cI, 192, .inl (nA tb2))), (aP, .inl (cI, 40, .inl (nA P2))), (aI, .inl (cI, 4096, .inl (nA ix1))), (aC, .inl (cI, 4096, .inl (nA g1))), (aS, .inl (cI, 4096, .inl (nA S1))), (aL, .inl (cI, 4096, .inl (nA L1))), (aO, .inl (cI, 4096, .inl (nA O1)))] := hD
                  refine lv_iconst (v := nI 0) hex hby dX10_restore_222 rfl ?_
                  refine lv_istore_n (lv' := [(3, .int (nI 0)), (2, .int (nI (100 * wz.toNat))), (0, .ref h), (1, .int (nI wz.toNat))]) hex hby dX10_restore_223 rfl hl (by decide) rfl (fun ls hl => ?_)
                  have loop224 : ∀ (nn : Nat) (i3 : Nat) (S2 : Nat → Nat) (L2 : Nat → Nat), (4096 - i3) < nn → (i3 ≤ 4096) → (∀ j, S2 j < 4096) → (∀ j, L2 j < 7) → (∀ q, q < i3 → S2 q = KS (4096 * wz.toNat + q)) → (∀ q, q < i3 → L2 q = KL (4096 * wz.toNat + q)) → ∀ (H : Heap) (locs : List Loc), va_P (dC, dI) vwCl [(aM, .inl (cI, 3, .inl (nA (upN sm 2 (ktc wz.toNat))))), (aK, .inl (cI, 200, .inl (nA K))), (aKT, .inl (cI, 128, .inl (nA KT))), (aKS, .inl (cI, 8192, .inl (nA KS))), (aKL, .inl (cI, 8192, .inl (nA KL))), (aIK, .inl (cZ, 2, .inl (nA ik))), (h, .inr (10, [.int (nI (km wz.toNat)), .int (nI (kcu wz.toNat)), .ref aM, .ref aT, .int (nI (krl wz.toNat)), .int (nI (krb wz.toNat)), .int (nI (krr wz.toNat)), .int (nI (kra wz.toNat)), .ref aP, .int (nI (kpc wz.toNat)), .int (nI (kbk wz.toNat)), .ref aS, .ref aL, .int (nI (kc wz.toNat)), v14, v15, .ref aK, .ref aKT, .ref aKS, .ref aKL, .ref aIK, .ref aI, .ref aC, v23, v24, v25, .ref aO, v27, v28])), (aT, .inl (cI, 192, .inl (nA tb2))), (aP, .inl (cI, 40, .inl (nA P2))), (aI, .inl (cI, 4096, .inl (nA ix1))), (aC, .inl (cI, 4096, .inl (nA g1))), (aS, .inl (cI, 4096, .inl (nA S2))), (aL, .inl (cI, 4096, .inl (nA L2))), (aO, .inl (cI, 4096, .inl (nA O1)))] H → va_D A [(aM, .inl (cI, 3, .inl (nA (upN sm 2 (ktc wz.toNat))))), (aK, .inl (cI, 200, .inl (nA K))), (aKT, .inl (cI, 128, .inl (nA KT))), (aKS, .inl (cI, 8192, .inl (nA KS))), (aKL, .inl (cI, 8192, .inl (nA KL))), (aIK, .inl (cZ, 2, .inl (nA ik))), (h, .inr (10, [.int (nI (km wz.toNat)), .int (nI (kcu wz.toNat)), .ref aM, .ref aT, .int (nI (krl wz.toNat)), .int (nI (krb wz.toNat)), .int (nI (krr wz.toNat)), .int (nI (kra wz.toNat)), .ref aP, .int (nI (kpc wz.toNat)), .int (nI (kbk wz.toNat)), .ref aS, .ref aL, .int (nI (kc wz.toNat)), v14, v15, .ref aK, .ref aKT, .ref aKS, .ref aKL, .ref aIK, .ref aI, .ref aC, v23, v24, v25, .ref aO, v27, v28])), (aT, .inl (cI, 192, .inl (nA tb2))), (aP, .inl (cI, 40, .inl (nA P2))), (aI, .inl (cI, 4096, .inl (nA ix1))), (aC, .inl (cI, 4096, .inl (nA g1))), (aS, .inl (cI, 4096, .inl (nA S2))), (aL, .inl (cI, 4096, .inl (nA L2))), (aO, .inl (cI, 4096, .inl (nA O1)))] → va_S A ss.heap H locs → ∀ ls : Array Slot, lv_has ls 4 [(3, .int (nI i3)), (2, .int (nI (100 * wz.toNat))), (0, .ref h), (1, .int (nI wz.toNat))] → W pp l ee (rmO 3 73) ss mm ([.ref h, .int (nI wz.toNat)] : List Value).toArray bb mt cd H locs 0 0 Q (F0 mm 224 ls []) := by
                    intro nn
                    induction nn with
                    | zero => intro i3 S2 L2 hms224; exact absurd hms224 (Nat.not_lt_zero _)
                    | succ nn ih224 =>
                      intro i3 S2 L2 hms224 hi3 hSb2 hLb2 hSs hLl H locs hP hD hS ls hl
                      refine lv_iload_n hex hby dX10_restore_224 rfl (lv_at hl 0 rfl) ?_
                      refine lv_sipush (v := nI 4096) hex hby dX10_restore_225 rfl ?_
                      refine nv_icmp_ge (tgt := 273) hex hby dX10_restore_228 (by decide) (by omega) (by omega) (fun c_26 => ?_) (fun c_26 => ?_)
                      · refine lv_aload_n hex hby dX10_restore_273 rfl (lv_at hl 2 rfl) ?_
                        have hag2 : AG (kc wz.toNat) (kst wz.toNat) (klv wz.toNat) S2 L2 := fun j hj => ⟨(hSs j (by omega)).trans (hsg wz.toNat (by omega) hu j hj).1, (hLl j (by omega)).trans (hsg wz.toNat (by omega) hu j hj).2⟩
                        refine mu_Vv (As := []) (rest := []) (wr := [(aM, .inl (cI, 3, .inl (nA (upN sm 2 (ktc wz.toNat))))), (aK, .inl (cI, 200, .inl (nA K))), (aKT, .inl (cI, 128, .inl (nA KT))), (aKS, .inl (cI, 8192, .inl (nA KS))), (aKL, .inl (cI, 8192, .inl (nA KL))), (aIK, .inl (cZ, 2, .inl (nA ik))), (aT, .inl (cI, 192, .inl (nA tb2))), (aP, .inl (cI, 40, .inl (nA P2))), (aI, .inl (cI, 4096, .inl (nA ix1))), (aC, .inl (cI, 4096, .inl (nA g1)))]) CFx (c_X10_maps (h := h) (aS := aS) (aL := aL) (aO := aO) (fs := [.int (nI (km wz.toNat)), .int (nI (kcu wz.toNat)), .ref aM, .ref aT, .int (nI (krl wz.toNat)), .int (nI (krb wz.toNat)), .int (nI (krr wz.toNat)), .int (nI (kra wz.toNat)), .ref aP, .int (nI (kpc wz.toNat)), .int (nI (kbk wz.toNat)), .ref aS, .ref aL, .int (nI (kc wz.toNat)), v14, v15, .ref aK, .ref aKT, .ref aKS, .ref aKL, .ref aIK, .ref aI, .ref aC, v23, v24, v25, .ref aO, v27, v28]) (c := kc wz.toNat) (S := S2) (Lv := L2) (O := O1) (m := km wz.toNat) (st := kst wz.toNat) (lv := klv wz.toNat) rfl rfl rfl rfl hSb2 hLb2 hn8 r2 hLw hag2) 0 gX10_restore_X10_maps rfl nd_X10_maps ⟨Nat.le_of_ble_eq_true rfl, Nat.le_of_ble_eq_true rfl⟩ hK hP hD hS hA [6, 11, 12, 13] [0, 1, 2, 3, 4, 5, 7, 8, 9, 10] rfl rfl (by decide) (by decide) (by decide) TR.nil rfl rfl rfl hl.1 rfl (Nat.le_of_ble_eq_true rfl) dX10_restore_274 ⟨Nat.le_refl _, Nat.le_refl _⟩ (fun u H locs hr_27 hP hD hS => ?_)
                        obtain ⟨O2, rfl⟩ : ∃ z, z = u := ⟨_, rfl⟩
                        have hP : va_P (dC, dI) vwCl [(aM, .inl (cI, 3, .inl (nA (upN sm 2 (ktc wz.toNat))))), (aK, .inl (cI, 200, .inl (nA K))), (aKT, .inl (cI, 128, .inl (nA KT))), (aKS, .inl (cI, 8192, .inl (nA KS))), (aKL, .inl (cI, 8192, .inl (nA KL))), (aIK, .inl (cZ, 2, .inl (nA ik))), (aT, .inl (cI, 192, .inl (nA tb2))), (aP, .inl (cI, 40, .inl (nA P2))), (aI, .inl (cI, 4096, .inl (nA ix1))), (aC, .inl (cI, 4096, .inl (nA g1))), (h, .inr (10, [.int (nI (km wz.toNat)), .int (nI (kcu wz.toNat)), .ref aM, .ref aT, .int (nI (krl wz.toNat)), .int (nI (krb wz.toNat)), .int (nI (krr wz.toNat)), .int (nI (kra wz.toNat)), .ref aP, .int (nI (kpc wz.toNat)), .int (nI (kbk wz.toNat)), .ref aS, .ref aL, .int (nI (kc wz.toNat)), v14, v15, .ref aK, .ref aKT, .ref aKS, .ref aKL, .ref aIK, .ref aI, .ref aC, v23, v24, v25, .ref aO, v27, v28])), (aS, .inl (cI, 4096, .inl (nA S2))), (aL, .inl (cI, 4096, .inl (nA L2))), (aO, .inl (cI, 4096, .inl (nA O2)))] H := hP
                        have hD : va_D A [(aM, .inl (cI, 3, .inl (nA (upN sm 2 (ktc wz.toNat))))), (aK, .inl (cI, 200, .inl (nA K))), (aKT, .inl (cI, 128, .inl (nA KT))), (aKS, .inl (cI, 8192, .inl (nA KS))), (aKL, .inl (cI, 8192, .inl (nA KL))), (aIK, .inl (cZ, 2, .inl (nA ik))), (aT, .inl (cI, 192, .inl (nA tb2))), (aP, .inl (cI, 40, .inl (nA P2))), (aI, .inl (cI, 4096, .inl (nA ix1))), (aC, .inl (cI, 4096, .inl (nA g1))), (h, .inr (10, [.int (nI (km wz.toNat)), .int (nI (kcu wz.toNat)), .ref aM, .ref aT, .int (nI (krl wz.toNat)), .int (nI (krb wz.toNat)), .int (nI (krr wz.toNat)), .int (nI (kra wz.toNat)), .ref aP, .int (nI (kpc wz.toNat)), .int (nI (kbk wz.toNat)), .ref aS, .ref aL, .int (nI (kc wz.toNat)), v14, v15, .ref aK, .ref aKT, .ref aKS, .ref aKL, .ref aIK, .ref aI, .ref aC, v23, v24, v25, .ref aO, v27, v28])), (aS, .inl (cI, 4096, .inl (nA S2))), (aL, .inl (cI, 4096, .inl (nA L2))), (aO, .inl (cI, 4096, .inl (nA O2)))] := hD
                        obtain ⟨hq0, hq1⟩ := hr_27
                        refine lv_aload_n hex hby dX10_restore_277 rfl (lv_at hl 2 rfl) ?_
                        refine nv_get (v := .int (nI (kc wz.toNat))) CFx in_X10_restore_X10 hK hP 10 rfl rfl 13 (by decide) (List.mem_of_getElem? (i := 15) rfl) rfl dX10_restore_278 ?_
                        have pf_29 : ∀ j, j < (kpc wz.toNat) → P2 j = kP wz.toNat j := by
                          skip
                          exact fun j hj => (hPp j (by omega)).trans (hsp wz.toNat (by omega) hu j hj)
                        exact hret _ ((km wz.toNat), (kcu wz.toNat), krl wz.toNat, krb wz.toNat, krr wz.toNat, kra wz.toNat, (kpc wz.toNat), (kbk wz.toNat), upN sm 2 (ktc wz.toNat), tb2, P2, ix1, g1, kc wz.toNat, S2, L2, O2) _ _ _ _ _ (Or.inl ⟨rfl, _, rfl, rfl, dX10_restore_281⟩) ⟨_, rfl, Or.inl ⟨rfl, (by omega), hu, rfl, rfl, rfl, rfl, rfl, rfl, rfl, rfl, rfl, rfl, hB_9, htb2, hU0, hU1, hU2, hPb2, pf_29, hn0, hn1, hn2, hag2, hq0, hSb2, hLb2, hq1⟩⟩ (hP.sub [10, 0, 6, 7, 8, 9, 11, 12, 13, 1, 2, 3, 4, 5] rfl) (hD.sub [10, 0, 6, 7, 8, 9, 11, 12, 13, 1, 2, 3, 4, 5] (by decide) rfl) hS
                      · refine lv_aload_n hex hby dX10_restore_231 rfl (lv_at hl 2 rfl) ?_
                        refine nv_get (v := .ref aS) CFx in_X10_restore_X10 hK hP 6 rfl rfl 11 (by decide) (List.mem_of_getElem? (i := 16) rfl) rfl dX10_restore_232 ?_
                        refine lv_iload_n hex hby dX10_restore_235 rfl (lv_at hl 0 rfl) ?_
                        refine lv_aload_n hex hby dX10_restore_236 rfl (lv_at hl 2 rfl) ?_
                        refine nv_get (v := .ref aKS) CFx in_X10_restore_X10 hK hP 6 rfl rfl 18 (by decide) (List.mem_of_getElem? (i := 17) rfl) rfl dX10_restore_237 ?_
                        refine lv_sipush (v := nI 4096) hex hby dX10_restore_240 rfl ?_
                        refine lv_iload_n hex hby dX10_restore_243 rfl (lv_at hl 3 rfl) ?_
                        refine nv_imul hex hby dX10_restore_244 ?_
                        refine lv_iload_n hex hby dX10_restore_245 rfl (lv_at hl 0 rfl) ?_
                        refine nv_iadd hex hby dX10_restore_246 ?_
                        refine nv_iald hex hby hK hP 3 0 rfl rfl (by omega) (by omega) dX10_restore_247 ?_
                        have hb_30 := hKSb (4096 * wz.toNat + i3)
                        refine nv_iast hex hby hK hP hD hS 11 0 rfl rfl (by omega) (by omega) dX10_restore_248 (fun H locs hP hD hS => ?_)
                        have hP : va_P (dC, dI) vwCl [(aM, .inl (cI, 3, .inl (nA (upN sm 2 (ktc wz.toNat))))), (aK, .inl (cI, 200, .inl (nA K))), (aKT, .inl (cI, 128, .inl (nA KT))), (aKS, .inl (cI, 8192, .inl (nA KS))), (aKL, .inl (cI, 8192, .inl (nA KL))), (aIK, .inl (cZ, 2, .inl (nA ik))), (h, .inr (10, [.int (nI (km wz.toNat)), .int (nI (kcu wz.toNat)), .ref aM, .ref aT, .int (nI (krl wz.toNat)), .int (nI (krb wz.toNat)), .int (nI (krr wz.toNat)), .int (nI (kra wz.toNat)), .ref aP, .int (nI (kpc wz.toNat)), .int (nI (kbk wz.toNat)), .ref aS, .ref aL, .int (nI (kc wz.toNat)), v14, v15, .ref aK, .ref aKT, .ref aKS, .ref aKL, .ref aIK, .ref aI, .ref aC, v23, v24, v25, .ref aO, v27, v28])), (aT, .inl (cI, 192, .inl (nA tb2))), (aP, .inl (cI, 40, .inl (nA P2))), (aI, .inl (cI, 4096, .inl (nA ix1))), (aC, .inl (cI, 4096, .inl (nA g1))), (aS, .inl (cI, 4096, .inl (nA (upN S2 i3 (KS (4096 * wz.toNat + i3)))))), (aL, .inl (cI, 4096, .inl (nA L2))), (aO, .inl (cI, 4096, .inl (nA O1)))] H := hP
                        have hD : va_D A [(aM, .inl (cI, 3, .inl (nA (upN sm 2 (ktc wz.toNat))))), (aK, .inl (cI, 200, .inl (nA K))), (aKT, .inl (cI, 128, .inl (nA KT))), (aKS, .inl (cI, 8192, .inl (nA KS))), (aKL, .inl (cI, 8192, .inl (nA KL))), (aIK, .inl (cZ, 2, .inl (nA ik))), (h, .inr (10, [.int (nI (km wz.toNat)), .int (nI (kcu wz.toNat)), .ref aM, .ref aT, .int (nI (krl wz.toNat)), .int (nI (krb wz.toNat)), .int (nI (krr wz.toNat)), .int (nI (kra wz.toNat)), .ref aP, .int (nI (kpc wz.toNat)), .int (nI (kbk wz.toNat)), .ref aS, .ref aL, .int (nI (kc wz.toNat)), v14, v15, .ref aK, .ref aKT, .ref aKS, .ref aKL, .ref aIK, .ref aI, .ref aC, v23, v24, v25, .ref aO, v27, v28])), (aT, .inl (cI, 192, .inl (nA tb2))), (aP, .inl (cI, 40, .inl (nA P2))), (aI, .inl (cI, 4096, .inl (nA ix1))), (aC, .inl (cI, 4096, .inl (nA g1))), (aS, .inl (cI, 4096, .inl (nA (upN S2 i3 (KS (4096 * wz.toNat + i3)))))), (aL, .inl (cI, 4096, .inl (nA L2))), (aO, .inl (cI, 4096, .inl (nA O1)))] := hD
                        have hB_31 := upN_lt (k := i3) (x := KS (4096 * wz.toNat + i3)) hSb2 (by omega)
                        refine lv_aload_n hex hby dX10_restore_249 rfl (lv_at hl 2 rfl) ?_
                        refine nv_get (v := .ref aL) CFx in_X10_restore_X10 hK hP 6 rfl rfl 12 (by decide) (List.mem_of_getElem? (i := 18) rfl) rfl dX10_restore_250 ?_
                        refine lv_iload_n hex hby dX10_restore_253 rfl (lv_at hl 0 rfl) ?_
                        refine lv_aload_n hex hby dX10_restore_254 rfl (lv_at hl 2 rfl) ?_
                        refine nv_get (v := .ref aKL) CFx in_X10_restore_X10 hK hP 6 rfl rfl 19 (by decide) (List.mem_of_getElem? (i := 19) rfl) rfl dX10_restore_255 ?_
                        refine lv_sipush (v := nI 4096) hex hby dX10_restore_258 rfl ?_
                        refine lv_iload_n hex hby dX10_restore_261 rfl (lv_at hl 3 rfl) ?_
                        refine nv_imul hex hby dX10_restore_262 ?_
                        refine lv_iload_n hex hby dX10_restore_263 rfl (lv_at hl 0 rfl) ?_
                        refine nv_iadd hex hby dX10_restore_264 ?_
                        refine nv_iald hex hby hK hP 4 0 rfl rfl (by omega) (by omega) dX10_restore_265 ?_
                        have hb_32 := hKLb (4096 * wz.toNat + i3)
                        refine nv_iast hex hby hK hP hD hS 12 0 rfl rfl (by omega) (by omega) dX10_restore_266 (fun H locs hP hD hS => ?_)
                        have hP : va_P (dC, dI) vwCl [(aM, .inl (cI, 3, .inl (nA (upN sm 2 (ktc wz.toNat))))), (aK, .inl (cI, 200, .inl (nA K))), (aKT, .inl (cI, 128, .inl (nA KT))), (aKS, .inl (cI, 8192, .inl (nA KS))), (aKL, .inl (cI, 8192, .inl (nA KL))), (aIK, .inl (cZ, 2, .inl (nA ik))), (h, .inr (10, [.int (nI (km wz.toNat)), .int (nI (kcu wz.toNat)), .ref aM, .ref aT, .int (nI (krl wz.toNat)), .int (nI (krb wz.toNat)), .int (nI (krr wz.toNat)), .int (nI (kra wz.toNat)), .ref aP, .int (nI (kpc wz.toNat)), .int (nI (kbk wz.toNat)), .ref aS, .ref aL, .int (nI (kc wz.toNat)), v14, v15, .ref aK, .ref aKT, .ref aKS, .ref aKL, .ref aIK, .ref aI, .ref aC, v23, v24, v25, .ref aO, v27, v28])), (aT, .inl (cI, 192, .inl (nA tb2))), (aP, .inl (cI, 40, .inl (nA P2))), (aI, .inl (cI, 4096, .inl (nA ix1))), (aC, .inl (cI, 4096, .inl (nA g1))), (aS, .inl (cI, 4096, .inl (nA (upN S2 i3 (KS (4096 * wz.toNat + i3)))))), (aL, .inl (cI, 4096, .inl (nA (upN L2 i3 (KL (4096 * wz.toNat + i3)))))), (aO, .inl (cI, 4096, .inl (nA O1)))] H := hP
                        have hD : va_D A [(aM, .inl (cI, 3, .inl (nA (upN sm 2 (ktc wz.toNat))))), (aK, .inl (cI, 200, .inl (nA K))), (aKT, .inl (cI, 128, .inl (nA KT))), (aKS, .inl (cI, 8192, .inl (nA KS))), (aKL, .inl (cI, 8192, .inl (nA KL))), (aIK, .inl (cZ, 2, .inl (nA ik))), (h, .inr (10, [.int (nI (km wz.toNat)), .int (nI (kcu wz.toNat)), .ref aM, .ref aT, .int (nI (krl wz.toNat)), .int (nI (krb wz.toNat)), .int (nI (krr wz.toNat)), .int (nI (kra wz.toNat)), .ref aP, .int (nI (kpc wz.toNat)), .int (nI (kbk wz.toNat)), .ref aS, .ref aL, .int (nI (kc wz.toNat)), v14, v15, .ref aK, .ref aKT, .ref aKS, .ref aKL, .ref aIK, .ref aI, .ref aC, v23, v24, v25, .ref aO, v27, v28])), (aT, .inl (cI, 192, .inl (nA tb2))), (aP, .inl (cI, 40, .inl (nA P2))), (aI, .inl (cI, 4096, .inl (nA ix1))), (aC, .inl (cI, 4096, .inl (nA g1))), (aS, .inl (cI, 4096, .inl (nA (upN S2 i3 (KS (4096 * wz.toNat + i3)))))), (aL, .inl (cI, 4096, .inl (nA (upN L2 i3 (KL (4096 * wz.toNat + i3)))))), (aO, .inl (cI, 4096, .inl (nA O1)))] := hD
                        have hB_33 := upN_lt (k := i3) (x := KL (4096 * wz.toNat + i3)) hLb2 (by omega)
                        refine lv_iinc (v := nI (i3 + 1)) (lv' := [(3, .int (nI (i3 + 1))), (2, .int (nI (100 * wz.toNat))), (0, .ref h), (1, .int (nI wz.toNat))]) hex hby dX10_restore_267 hl (k := 0) rfl (ni_inc _) (by decide) rfl (fun ls hl => ?_)
                        refine lv_goto (tgt := 224) hex hby dX10_restore_270 (by decide) ?_
                        have pf_34 : ∀ q, q < (i3 + 1) → (upN S2 i3 (KS (4096 * wz.toNat + i3))) q = KS (4096 * wz.toNat + q) := by
                          skip
                          exact cpy_up (G := fun q => KS (4096 * wz.toNat + q)) hSs
                        have pf_35 : ∀ q, q < (i3 + 1) → (upN L2 i3 (KL (4096 * wz.toNat + i3))) q = KL (4096 * wz.toNat + q) := by
                          skip
                          exact cpy_up (G := fun q => KL (4096 * wz.toNat + q)) hLl
                        exact ih224 (i3 + 1) (upN S2 i3 (KS (4096 * wz.toNat + i3))) (upN L2 i3 (KL (4096 * wz.toNat + i3))) (by omega) (by omega) hB_31 hB_33 pf_34 pf_35 _ _ hP hD hS _ (lv_sub hl [0, 1, 2, 3] rfl)
                  exact loop224 _ 0 S1 L1 (Nat.lt_succ_self _) (by omega) hn6 hn7 (fun q hq => absurd hq (by omega)) (fun q hq => absurd hq (by omega)) _ _ hP hD hS _ (lv_sub hl [0, 1, 2, 3] rfl)
                · refine lv_aload_n hex hby dX10_restore_178 rfl (lv_at hl 2 rfl) ?_
                  refine nv_get (v := .ref aT) CFx in_X10_restore_X10 hK hP 0 rfl rfl 3 (by decide) (List.mem_of_getElem? (i := 13) rfl) rfl dX10_restore_179 ?_
                  refine lv_sipush (v := nI 128) hex hby dX10_restore_182 rfl ?_
                  refine lv_iload_n hex hby dX10_restore_185 rfl (lv_at hl 0 rfl) ?_
                  refine nv_iadd hex hby dX10_restore_186 ?_
                  refine lv_aload_n hex hby dX10_restore_187 rfl (lv_at hl 2 rfl) ?_
                  refine nv_get (v := .ref aKT) CFx in_X10_restore_X10 hK hP 0 rfl rfl 17 (by decide) (List.mem_of_getElem? (i := 14) rfl) rfl dX10_restore_188 ?_
                  refine lv_bipush (v := nI 64) hex hby dX10_restore_191 rfl ?_
                  refine lv_iload_n hex hby dX10_restore_193 rfl (lv_at hl 3 rfl) ?_
                  refine nv_imul hex hby dX10_restore_194 ?_
                  refine lv_iload_n hex hby dX10_restore_195 rfl (lv_at hl 0 rfl) ?_
                  refine nv_iadd hex hby dX10_restore_196 ?_
                  refine nv_iald hex hby hK hP 10 0 rfl rfl (by omega) (by omega) dX10_restore_197 ?_
                  have hb_36 := hKTb (64 * wz.toNat + i2)
                  refine nv_iast hex hby hK hP hD hS 2 0 rfl rfl (by omega) (by omega) dX10_restore_198 (fun H locs hP hD hS => ?_)
                  have hP : va_P (dC, dI) vwCl [(h, .inr (10, [.int (nI (km wz.toNat)), .int (nI (kcu wz.toNat)), .ref aM, .ref aT, .int (nI (krl wz.toNat)), .int (nI (krb wz.toNat)), .int (nI (krr wz.toNat)), .int (nI (kra wz.toNat)), .ref aP, .int (nI (kpc wz.toNat)), .int (nI (kbk wz.toNat)), .ref aS, .ref aL, .int (nI c), v14, v15, .ref aK, .ref aKT, .ref aKS, .ref aKL, .ref aIK, .ref aI, .ref aC, v23, v24, v25, .ref aO, v27, v28])), (aM, .inl (cI, 3, .inl (nA (upN sm 2 (ktc wz.toNat))))), (aT, .inl (cI, 192, .inl (nA (upN tb2 (128 + i2) (KT (64 * wz.toNat + i2)))))), (aP, .inl (cI, 40, .inl (nA P2))), (aI, .inl (cI, 4096, .inl (nA ix))), (aC, .inl (cI, 4096, .inl (nA g))), (aS, .inl (cI, 4096, .inl (nA S))), (aL, .inl (cI, 4096, .inl (nA Lv))), (aO, .inl (cI, 4096, .inl (nA O))), (aK, .inl (cI, 200, .inl (nA K))), (aKT, .inl (cI, 128, .inl (nA KT))), (aKS, .inl (cI, 8192, .inl (nA KS))), (aKL, .inl (cI, 8192, .inl (nA KL))), (aIK, .inl (cZ, 2, .inl (nA ik)))] H := hP
                  have hD : va_D A [(h, .inr (10, [.int (nI (km wz.toNat)), .int (nI (kcu wz.toNat)), .ref aM, .ref aT, .int (nI (krl wz.toNat)), .int (nI (krb wz.toNat)), .int (nI (krr wz.toNat)), .int (nI (kra wz.toNat)), .ref aP, .int (nI (kpc wz.toNat)), .int (nI (kbk wz.toNat)), .ref aS, .ref aL, .int (nI c), v14, v15, .ref aK, .ref aKT, .ref aKS, .ref aKL, .ref aIK, .ref aI, .ref aC, v23, v24, v25, .ref aO, v27, v28])), (aM, .inl (cI, 3, .inl (nA (upN sm 2 (ktc wz.toNat))))), (aT, .inl (cI, 192, .inl (nA (upN tb2 (128 + i2) (KT (64 * wz.toNat + i2)))))), (aP, .inl (cI, 40, .inl (nA P2))), (aI, .inl (cI, 4096, .inl (nA ix))), (aC, .inl (cI, 4096, .inl (nA g))), (aS, .inl (cI, 4096, .inl (nA S))), (aL, .inl (cI, 4096, .inl (nA Lv))), (aO, .inl (cI, 4096, .inl (nA O))), (aK, .inl (cI, 200, .inl (nA K))), (aKT, .inl (cI, 128, .inl (nA KT))), (aKS, .inl (cI, 8192, .inl (nA KS))), (aKL, .inl (cI, 8192, .inl (nA KL))), (aIK, .inl (cZ, 2, .inl (nA ik)))] := hD
                  have hB_37 := upN_lt (k := 128 + i2) (x := KT (64 * wz.toNat + i2)) htb2 (by omega)
                  refine lv_iinc (v := nI (i2 + 1)) (lv' := [(3, .int (nI (i2 + 1))), (2, .int (nI (100 * wz.toNat))), (0, .ref h), (1, .int (nI wz.toNat))]) hex hby dX10_restore_199 hl (k := 0) rfl (ni_inc _) (by decide) rfl (fun ls hl => ?_)
                  refine lv_goto (tgt := 172) hex hby dX10_restore_202 (by decide) ?_
                  exact ih172 (i2 + 1) (upN tb2 (128 + i2) (KT (64 * wz.toNat + i2))) (by omega) (by omega) hB_37 hTt.up (hTF.up (by omega)) _ _ hP hD hS _ (lv_sub hl [0, 1, 2, 3] rfl)
            exact loop172 _ 0 tb (Nat.lt_succ_self _) (by omega) htb SlA.zero Frm.refl _ _ hP hD hS _ (lv_sub hl [0, 1, 2, 3] rfl)
          · refine lv_aload_n hex hby dX10_restore_147 rfl (lv_at hl 2 rfl) ?_
            refine nv_get (v := .ref aP) CFx in_X10_restore_X10 hK hP 0 rfl rfl 8 (by decide) (List.mem_of_getElem? (i := 12) rfl) rfl dX10_restore_148 ?_
            refine lv_iload_n hex hby dX10_restore_151 rfl (lv_at hl 0 rfl) ?_
            refine lv_aload_n hex hby dX10_restore_152 rfl (lv_at hl 2 rfl) ?_
            refine nv_get (v := .ref aK) CFx in_X10_restore_X10 hK hP 0 rfl rfl 16 (by decide) (List.mem_of_getElem? (i := 2) rfl) rfl dX10_restore_153 ?_
            refine lv_iload_n hex hby dX10_restore_156 rfl (lv_at hl 1 rfl) ?_
            refine lv_bipush (v := nI 10) hex hby dX10_restore_157 rfl ?_
            refine nv_iadd hex hby dX10_restore_159 ?_
            refine lv_iload_n hex hby dX10_restore_160 rfl (lv_at hl 0 rfl) ?_
            refine nv_iadd hex hby dX10_restore_161 ?_
            refine nv_iald hex hby hK hP 9 0 rfl rfl (by omega) (by omega) dX10_restore_162 ?_
            have hb_38 := hKb (100 * wz.toNat + 10 + i)
            refine nv_iast hex hby hK hP hD hS 3 0 rfl rfl (by omega) (by omega) dX10_restore_163 (fun H locs hP hD hS => ?_)
            have hP : va_P (dC, dI) vwCl [(h, .inr (10, [.int (nI (km wz.toNat)), .int (nI (kcu wz.toNat)), .ref aM, .ref aT, .int (nI (krl wz.toNat)), .int (nI (krb wz.toNat)), .int (nI (krr wz.toNat)), .int (nI (kra wz.toNat)), .ref aP, .int (nI (kpc wz.toNat)), .int (nI (kbk wz.toNat)), .ref aS, .ref aL, .int (nI c), v14, v15, .ref aK, .ref aKT, .ref aKS, .ref aKL, .ref aIK, .ref aI, .ref aC, v23, v24, v25, .ref aO, v27, v28])), (aM, .inl (cI, 3, .inl (nA (upN sm 2 (ktc wz.toNat))))), (aT, .inl (cI, 192, .inl (nA tb))), (aP, .inl (cI, 40, .inl (nA (upN P2 i (K (100 * wz.toNat + 10 + i)))))), (aI, .inl (cI, 4096, .inl (nA ix))), (aC, .inl (cI, 4096, .inl (nA g))), (aS, .inl (cI, 4096, .inl (nA S))), (aL, .inl (cI, 4096, .inl (nA Lv))), (aO, .inl (cI, 4096, .inl (nA O))), (aK, .inl (cI, 200, .inl (nA K))), (aKT, .inl (cI, 128, .inl (nA KT))), (aKS, .inl (cI, 8192, .inl (nA KS))), (aKL, .inl (cI, 8192, .inl (nA KL))), (aIK, .inl (cZ, 2, .inl (nA ik)))] H := hP
            have hD : va_D A [(h, .inr (10, [.int (nI (km wz.toNat)), .int (nI (kcu wz.toNat)), .ref aM, .ref aT, .int (nI (krl wz.toNat)), .int (nI (krb wz.toNat)), .int (nI (krr wz.toNat)), .int (nI (kra wz.toNat)), .ref aP, .int (nI (kpc wz.toNat)), .int (nI (kbk wz.toNat)), .ref aS, .ref aL, .int (nI c), v14, v15, .ref aK, .ref aKT, .ref aKS, .ref aKL, .ref aIK, .ref aI, .ref aC, v23, v24, v25, .ref aO, v27, v28])), (aM, .inl (cI, 3, .inl (nA (upN sm 2 (ktc wz.toNat))))), (aT, .inl (cI, 192, .inl (nA tb))), (aP, .inl (cI, 40, .inl (nA (upN P2 i (K (100 * wz.toNat + 10 + i)))))), (aI, .inl (cI, 4096, .inl (nA ix))), (aC, .inl (cI, 4096, .inl (nA g))), (aS, .inl (cI, 4096, .inl (nA S))), (aL, .inl (cI, 4096, .inl (nA Lv))), (aO, .inl (cI, 4096, .inl (nA O))), (aK, .inl (cI, 200, .inl (nA K))), (aKT, .inl (cI, 128, .inl (nA KT))), (aKS, .inl (cI, 8192, .inl (nA KS))), (aKL, .inl (cI, 8192, .inl (nA KL))), (aIK, .inl (cZ, 2, .inl (nA ik)))] := hD
            have hB_39 := upN_lt (k := i) (x := K (100 * wz.toNat + 10 + i)) hPb2 (by omega)
            refine lv_iinc (v := nI (i + 1)) (lv' := [(3, .int (nI (i + 1))), (2, .int (nI (100 * wz.toNat))), (0, .ref h), (1, .int (nI wz.toNat))]) hex hby dX10_restore_164 hl (k := 0) rfl (ni_inc _) (by decide) rfl (fun ls hl => ?_)
            refine lv_goto (tgt := 141) hex hby dX10_restore_167 (by decide) ?_
            have pf_40 : ∀ q, q < (i + 1) → (upN P2 i (K (100 * wz.toNat + 10 + i))) q = K (100 * wz.toNat + 10 + q) := by
              skip
              exact cpy_up (G := fun q => K (100 * wz.toNat + 10 + q)) hPp
            exact ih141 (i + 1) (upN P2 i (K (100 * wz.toNat + 10 + i))) (by omega) (by omega) hB_39 pf_40 _ _ hP hD hS _ (lv_sub hl [0, 1, 2, 3] rfl)
      exact loop141 _ 0 P (Nat.lt_succ_self _) (by omega) hPb (fun q hq => absurd hq (by omega)) _ _ hP hD hS _ (lv_sub hl [0, 1, 2, 3] rfl)
    · refine lv_bipush (v := zI (-3)) hex hby dX10_restore_20 rfl ?_
      exact hret _ (m, cu, rl, rb, rr, ra, pc, bk, sm, tb, P, ix, g, c, S, Lv, O) _ _ _ _ _ (Or.inl ⟨rfl, _, rfl, rfl, dX10_restore_22⟩) ⟨_, rfl, Or.inr (Or.inr (⟨rfl, (by omega), (by omega), rfl, rfl, rfl, rfl, rfl, rfl, rfl, rfl, rfl, rfl, rfl, rfl, rfl, rfl, rfl, rfl, rfl⟩))⟩ hP hD hS
  · refine nv_if_ne (tgt := 11) hex hby dX10_restore_6 (by decide) (by omega) (fun c => absurd c (by omega)) (fun _ => ?_)
    refine lv_iconst (v := zI (-1)) hex hby dX10_restore_9 rfl ?_
    exact hret _ (m, cu, rl, rb, rr, ra, pc, bk, sm, tb, P, ix, g, c, S, Lv, O) _ _ _ _ _ (Or.inl ⟨rfl, _, rfl, rfl, dX10_restore_10⟩) ⟨_, rfl, Or.inr (Or.inl ⟨rfl, (by omega), rfl, rfl, rfl, rfl, rfl, rfl, rfl, rfl, rfl, rfl, rfl, rfl, rfl, rfl, rfl, rfl, rfl⟩)⟩ hP hD hS
end MSV
