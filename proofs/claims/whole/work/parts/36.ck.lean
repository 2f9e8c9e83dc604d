section MCK
variable {l : Launch} {dC : Nat → ClassId} {dI : Nat → Nat → Nat} {cI cZ cS : ClassId}
-- the checksum
theorem mrs_congr {f f2 : Nat → Nat} {v : Int64} {n : Nat} (h : ∀ k, k < n → f k = f2 k) : mrs f v n = mrs f2 v n := by
  induction n with
  | zero => rfl
  | succ n ih => rw [mrs, mrs, ih (fun k hk => h k (by omega)), h n (by omega)]
def mri (F G : Nat → Nat) (v : Int64) : Nat → Int64
  | 0 => v
  | n + 1 => mr (mr (mri F G v n) (F n)) (G n)
theorem mri_congr {F G F2 G2 : Nat → Nat} {v : Int64} {n : Nat} (h : ∀ k, k < n → F k = F2 k ∧ G k = G2 k) : mri F G v n = mri F2 G2 v n := by
  induction n with
  | zero => rfl
  | succ n ih => rw [mri, mri, ih (fun k hk => h k (by omega)), (h n (by omega)).1, (h n (by omega)).2]
def mrl (f : Nat → Nat → Nat) (v : Int64) : Nat → Int64
  | 0 => v
  | n + 1 => mrs (f n) (mrl f v n) 5
noncomputable def ckC (T : Nat → Nat) (m ns r : Nat) : Int64 := mr (mr (mrs T (mr (mr 73 m) ns) (4 * ns)) (brN (cvc T m) (4 ^ m - 1))) r
noncomputable def ckL (T : Nat → Nat) (m pc bk c : Nat) (P st lv : Nat → Nat) (v : Int64) : Int64 := mrl (tlV T m pc (ptv T m P) st lv) (mr (mr (mr v pc) bk) c) c
def CkOK (T : Nat → Nat) (m ns rl rb rr ra pc bk c : Nat) (P st lv : Nat → Nat) (z : Int64) : Prop := ∃ (cn r : Nat) (F G : Nat → Nat), IvOK (inG (cvc T m) rl rb rr ra) (4 ^ m) cn F G ∧ StrOK (2 ^ m) (ixv T m) r ∧ z = ckL T m pc bk c P st lv (mri F G (mr (ckC T m ns r) cn) cn)
theorem CkOK.uniq {T : Nat → Nat} {m ns rl rb rr ra pc bk c : Nat} {P st lv : Nat → Nat} {z z2 : Int64} (h : CkOK T m ns rl rb rr ra pc bk c P st lv z) (h2 : CkOK T m ns rl rb rr ra pc bk c P st lv z2) : z = z2 := by
  obtain ⟨cn, r, F, G, a1, a2, a3⟩ := h
  obtain ⟨cn2, r2, F2, G2, b1, b2, b3⟩ := h2
  obtain ⟨e1, e2⟩ := a1.uniq b1
  have e3 := a2.uniq (fun _ _ _ _ => rfl) b2
  subst e1; subst e3
  rw [a3, b3, mri_congr e2]
theorem nd_X10_faultPosition : ndV yX10_faultPosition RX10 0 := by decide +kernel
set_option maxHeartbeats 4000000 in
set_option maxRecDepth 100000 in
theorem c_X10_faultPosition {h : Nat} {aX : Nat} {fs : List Value} {tl : Nat} {tx : Nat → Nat} (f_text : fs[14]? = some (.ref aX)) (f_length : fs[15]? = some (.int (nI tl))) (htx : ∀ j, tx j < 128) (htl : tl ≤ 80) : RO l yX10_faultPosition wsX10_faultPosition 3 67 (dC, dI) (tyK cI cZ cS) [(h, .inr (10, fs)), (aX, .inl (cI, 80, .inl (nA tx)))] [.ref h] (rI (fun r => (∃ k : Nat, r = nI k ∧ Flt tx tl (k : Int)) ∨ (r = zI (-5) ∧ Flt tx tl (-1)))) := by
  refine ro_of (by decide) rfl (Nat.le_of_ble_eq_true rfl) ?_
  intro pp ee ss mm bb mt cd Q CFx hP hK hret ls hl
  obtain ⟨hex, hby, hml, hown, hts⟩ := id CFx
  have hl : lv_has ls 2 [(0, .ref h)] := hl
  refine lv_aload_n hex hby dX10_faultPosition_0 rfl (lv_at hl 0 rfl) ?_
  refine ro_Vi (As := []) (rest := []) CFx (c_X10_fault (h := h) (aX := aX) (fs := fs) (tl := tl) (tx := tx) f_text f_length htx htl) 0 gX10_faultPosition_X10_fault rfl nd_X10_fault ⟨Nat.le_of_ble_eq_true rfl, Nat.le_of_ble_eq_true rfl⟩ hK hP [0, 1] rfl rfl rfl rfl hl.1 rfl (Nat.le_of_ble_eq_true rfl) dX10_faultPosition_1 ⟨Nat.le_refl _, Nat.le_refl _⟩ (fun r_1 hr_1 => ?_)
  rcases hr_1 with ⟨k, rfl, hk1, hk2⟩ | ⟨rfl, hf⟩
  · refine lv_istore_n (lv' := [(1, .int (nI k)), (0, .ref h)]) hex hby dX10_faultPosition_4 rfl hl (by decide) rfl (fun ls hl => ?_)
    refine lv_iload_n hex hby dX10_faultPosition_5 rfl (lv_at hl 0 rfl) ?_
    refine nv_if_ge (tgt := 14) hex hby dX10_faultPosition_6 (by decide) (by omega) ?_
    refine lv_iload_n hex hby dX10_faultPosition_14 rfl (lv_at hl 0 rfl) ?_
    exact hret _ _ _ _ (Or.inl ⟨rfl, _, rfl, rfl, dX10_faultPosition_15⟩) ⟨_, rfl, Or.inl ⟨k, rfl, hk2⟩⟩
  · refine lv_istore_n (lv' := [(1, .int (zI (-1))), (0, .ref h)]) hex hby dX10_faultPosition_4 rfl hl (by decide) rfl (fun ls hl => ?_)
    refine lv_iload_n hex hby dX10_faultPosition_5 rfl (lv_at hl 0 rfl) ?_
    refine ni_if_ge (tgt := 14) (a := -1) hex hby dX10_faultPosition_6 (by decide) (zI_toInt (by omega) (by omega)) (fun c_2 => absurd c_2 (by omega)) (fun c_2 => ?_)
    refine lv_bipush (v := zI (-5)) hex hby dX10_faultPosition_9 rfl ?_
    refine lv_goto (tgt := 15) hex hby dX10_faultPosition_11 (by decide) ?_
    exact hret _ _ _ _ (Or.inl ⟨rfl, _, rfl, rfl, dX10_faultPosition_15⟩) ⟨_, rfl, Or.inr ⟨rfl, hf⟩⟩
theorem nd_X10_checksum : ndV yX10_checksum RX10 0 := by decide +kernel
theorem in_X10_checksum_X10 : ∀ w ∈ wsX100, w ∈ wsX10_checksum := fun _ h => List.mem_cons_of_mem _ (List.mem_append_right _ (h))
set_option maxHeartbeats 4000000 in
set_option maxRecDepth 100000 in
theorem c_X10_checksum {h : Nat} {aM : Nat} {aT : Nat} {aP : Nat} {aS : Nat} {aL : Nat} {aI : Nat} {aC : Nat} {aF : Nat} {aG : Nat} {m : Nat} {cu : Nat} {rl : Nat} {rb : Nat} {rr : Nat} {ra : Nat} {pc : Nat} {bk : Nat} {c : Nat} {v14 : Value} {v15 : Value} {v16 : Value} {v17 : Value} {v18 : Value} {v19 : Value} {v20 : Value} {im : Nat} {v26 : Value} {v27 : Value} {v28 : Value} {sm : Nat → Nat} {tb : Nat → Nat} {P : Nat → Nat} {S : Nat → Nat} {Lv : Nat → Nat} {ix : Nat → Nat} {g : Nat → Nat} {F : Nat → Nat} {G : Nat → Nat} {T : Nat → Nat} {ns : Nat} {st : Nat → Nat} {lv : Nat → Nat} (hsm : ∀ j, sm j < 9) (htb : ∀ j, tb j < 10) (hcu : cu ≤ 2) (hsc : sm cu = ns) (hV : VT T ns) (hT : TbOK T tb cu ns) (hFb : ∀ j, F j < 4096) (hGb : ∀ j, G j < 4096) (hg : ∀ j, g j < 4096) (hm6 : m ≤ 6) (hN : NumOK T m g ix) (hrl : rl ≤ rr) (hrr_ : rr < 2 ^ m) (hrb : rb ≤ ra) (hra_ : ra < 2 ^ m) (hSb : ∀ j, S j < 4096) (hLb : ∀ j, Lv j < 7) (hPb : ∀ j, P j < 4096) (hpc : pc ≤ 40) (hix : ∀ j, ix j < 4096) (hL : LvL m c st lv) (hag : AG c st lv S Lv) (hpg : ∀ j, j < pc → P j % 64 < 2 ^ m ∧ P j / 64 < 2 ^ m) (hbk : bk ≤ 8) : MU l yX10_checksum wsX10_checksum 3 66 (dC, dI) (tyK cI cZ cS) [(h, .inr (10, [.int (nI m), .int (nI cu), .ref aM, .ref aT, .int (nI rl), .int (nI rb), .int (nI rr), .int (nI ra), .ref aP, .int (nI pc), .int (nI bk), .ref aS, .ref aL, .int (nI c), v14, v15, v16, v17, v18, v19, v20, .ref aI, .ref aC, .ref aF, .ref aG, .int (nI im), v26, v27, v28])), (aM, .inl (cI, 3, .inl (nA sm))), (aT, .inl (cI, 192, .inl (nA tb))), (aP, .inl (cI, 40, .inl (nA P))), (aS, .inl (cI, 4096, .inl (nA S))), (aL, .inl (cI, 4096, .inl (nA Lv))), (aI, .inl (cI, 4096, .inl (nA ix))), (aC, .inl (cI, 4096, .inl (nA g))), (aF, .inl (cI, 4096, .inl (nA F))), (aG, .inl (cI, 4096, .inl (nA G)))] [] [.ref h] (fun rv_ (u_ : Nat × (Nat → Nat) × (Nat → Nat)) => rL (fun r => ∃ z_ : Int64, r = z_ ∧ CkOK T m ns rl rb rr ra pc bk c P st lv z_ ∧ (∀ j, u_.2.1 j < 4096) ∧ (∀ j, u_.2.2 j < 4096)) rv_) (fun (u_ : Nat × (Nat → Nat) × (Nat → Nat)) => [(h, .inr (10, [.int (nI m), .int (nI cu), .ref aM, .ref aT, .int (nI rl), .int (nI rb), .int (nI rr), .int (nI ra), .ref aP, .int (nI pc), .int (nI bk), .ref aS, .ref aL, .int (nI c), v14, v15, v16, v17, v18, v19, v20, .ref aI, .ref aC, .ref aF, .ref aG, .int (nI u_.1), v26, v27, v28])), (aM, .inl (cI, 3, .inl (nA sm))), (aT, .inl (cI, 192, .inl (nA tb))), (aP, .inl (cI, 40, .inl (nA P))), (aS, .inl (cI, 4096, .inl (nA S))), (aL, .inl (cI, 4096, .inl (nA Lv))), (aI, .inl (cI, 4096, .inl (nA ix))), (aC, .inl (cI, 4096, .inl (nA g))), (aF, .inl (cI, 4096, .inl (nA u_.2.1))), (aG, .inl (cI, 4096, .inl (nA u_.2.2)))]) := by
  refine mu_of (by decide) rfl (Nat.le_of_ble_eq_true rfl) ?_
  intro pp ee ss mm bb mt cd Q A CFx hP hK hD hS hA hTr hret ls hl
  obtain ⟨hex, hby, hml, hown, hts⟩ := id CFx
  have hl : lv_has ls 5 [(0, .ref h)] := hl
  have h26 := p2_6 hm6
  have h46 := p4_6 hm6
  have h4p := p4_pos m
  have hcle := hL.le (Nat.le_refl c)
  have hstc := hL.2.2.1
  have hc0 := hL.1
  have hns0 := hV.1
  have hns8 := hV.2.1
  have hcle := hL.le (Nat.le_refl c)
  have hstc := hL.2.2.1
  refine lv_ldc2 (v := 73) hex hby hown (hts _ (List.mem_of_getElem? (i := 1) rfl)) dX10_checksum_0 ?_
  refine lv_aload_n hex hby dX10_checksum_3 rfl (lv_at hl 0 rfl) ?_
  refine nv_get (v := .int (nI m)) CFx in_X10_checksum_X10 hK hP 0 rfl rfl 0 (by decide) (List.mem_of_getElem? (i := 2) rfl) rfl dX10_checksum_4 ?_
  refine ro_Sl (As := [.long 73, .int (nI m)]) (rest := []) (C := RX10) CFx (c_X10_more (v := 73) (w := m) ) 2 gX10_checksum_X10_more rfl nd_X10_more ⟨Nat.le_of_ble_eq_true rfl, Nat.le_of_ble_eq_true rfl⟩ hK hP [] rfl rfl hl.1 rfl (Nat.le_of_ble_eq_true rfl) dX10_checksum_7 ⟨Nat.le_refl _, Nat.le_refl _⟩ (fun r_1 hr_1 => ?_)
  obtain rfl := hr_1
  refine lv_aload_n hex hby dX10_checksum_10 rfl (lv_at hl 0 rfl) ?_
  refine nv_get (v := .ref aM) CFx in_X10_checksum_X10 hK hP 0 rfl rfl 2 (by decide) (List.mem_of_getElem? (i := 3) rfl) rfl dX10_checksum_11 ?_
  refine lv_aload_n hex hby dX10_checksum_14 rfl (lv_at hl 0 rfl) ?_
  refine nv_get (v := .int (nI cu)) CFx in_X10_checksum_X10 hK hP 0 rfl rfl 1 (by decide) (List.mem_of_getElem? (i := 4) rfl) rfl dX10_checksum_15 ?_
  refine nv_iald hex hby hK hP 1 0 rfl rfl (by omega) (by omega) dX10_checksum_18 ?_
  have hb_2 := hsm cu
  refine nv_top (y := nI ns) (congrArg nI hsc) ?_
  refine ro_Sl (As := [.long (mr 73 m), .int (nI ns)]) (rest := []) (C := RX10) CFx (c_X10_more (v := mr 73 m) (w := ns) ) 2 gX10_checksum_X10_more rfl nd_X10_more ⟨Nat.le_of_ble_eq_true rfl, Nat.le_of_ble_eq_true rfl⟩ hK hP [] rfl rfl hl.1 rfl (Nat.le_of_ble_eq_true rfl) dX10_checksum_19 ⟨Nat.le_refl _, Nat.le_refl _⟩ (fun r_3 hr_3 => ?_)
  obtain rfl := hr_3
  refine lv_lstore_n (lv' := [(1, .long (mr (mr 73 m) ns)), (0, .ref h)]) hex hby dX10_checksum_22 rfl hl (by decide) rfl (fun ls hl => ?_)
  refine lv_iconst (v := nI 0) hex hby dX10_checksum_23 rfl ?_
  refine lv_istore_n (lv' := [(3, .int (nI 0)), (1, .long (mr (mr 73 m) ns)), (0, .ref h)]) hex hby dX10_checksum_24 rfl hl (by decide) rfl (fun ls hl => ?_)
  have loop25 : ∀ (nn : Nat) (z1 : Int64) (i : Nat), (4 * ns - i) < nn → (i ≤ 4 * ns) → (z1 = mrs T (mr (mr 73 m) ns) i) → ∀ (H : Heap) (locs : List Loc), va_P (dC, dI) vwCl [(h, .inr (10, [.int (nI m), .int (nI cu), .ref aM, .ref aT, .int (nI rl), .int (nI rb), .int (nI rr), .int (nI ra), .ref aP, .int (nI pc), .int (nI bk), .ref aS, .ref aL, .int (nI c), v14, v15, v16, v17, v18, v19, v20, .ref aI, .ref aC, .ref aF, .ref aG, .int (nI im), v26, v27, v28])), (aM, .inl (cI, 3, .inl (nA sm))), (aT, .inl (cI, 192, .inl (nA tb))), (aP, .inl (cI, 40, .inl (nA P))), (aS, .inl (cI, 4096, .inl (nA S))), (aL, .inl (cI, 4096, .inl (nA Lv))), (aI, .inl (cI, 4096, .inl (nA ix))), (aC, .inl (cI, 4096, .inl (nA g))), (aF, .inl (cI, 4096, .inl (nA F))), (aG, .inl (cI, 4096, .inl (nA G)))] H → va_D A [(h, .inr (10, [.int (nI m), .int (nI cu), .ref aM, .ref aT, .int (nI rl), .int (nI rb), .int (nI rr), .int (nI ra), .ref aP, .int (nI pc), .int (nI bk), .ref aS, .ref aL, .int (nI c), v14, v15, v16, v17, v18, v19, v20, .ref aI, .ref aC, .ref aF, .ref aG, .int (nI im), v26, v27, v28])), (aM, .inl (cI, 3, .inl (nA sm))), (aT, .inl (cI, 192, .inl (nA tb))), (aP, .inl (cI, 40, .inl (nA P))), (aS, .inl (cI, 4096, .inl (nA S))), (aL, .inl (cI, 4096, .inl (nA Lv))), (aI, .inl (cI, 4096, .inl (nA ix))), (aC, .inl (cI, 4096, .inl (nA g))), (aF, .inl (cI, 4096, .inl (nA F))), (aG, .inl (cI, 4096, .inl (nA G)))] → va_S A ss.heap H locs → ∀ ls : Array Slot, lv_has ls 5 [(3, .int (nI i)), (1, .long z1), (0, .ref h)] → W pp l ee (rmO 3 66) ss mm ([.ref h] : List Value).toArray bb mt cd H locs 0 0 Q (F0 mm 25 ls []) := by
    intro nn
    induction nn with
    | zero => intro z1 i hms25; exact absurd hms25 (Nat.not_lt_zero _)
    | succ nn ih25 =>
      intro z1 i hms25 hi hz1 H locs hP hD hS ls hl
      refine lv_iload_n hex hby dX10_checksum_25 rfl (lv_at hl 0 rfl) ?_
      refine lv_iconst (v := nI 4) hex hby dX10_checksum_26 rfl ?_
      refine lv_aload_n hex hby dX10_checksum_27 rfl (lv_at hl 2 rfl) ?_
      refine nv_get (v := .ref aM) CFx in_X10_checksum_X10 hK hP 0 rfl rfl 2 (by decide) (List.mem_of_getElem? (i := 3) rfl) rfl dX10_checksum_28 ?_
      refine lv_aload_n hex hby dX10_checksum_31 rfl (lv_at hl 2 rfl) ?_
      refine nv_get (v := .int (nI cu)) CFx in_X10_checksum_X10 hK hP 0 rfl rfl 1 (by decide) (List.mem_of_getElem? (i := 4) rfl) rfl dX10_checksum_32 ?_
      refine nv_iald hex hby hK hP 1 0 rfl rfl (by omega) (by omega) dX10_checksum_35 ?_
      have hb_4 := hsm cu
      refine nv_top (y := nI ns) (congrArg nI hsc) ?_
      refine nv_imul hex hby dX10_checksum_36 ?_
      refine nv_icmp_ge (tgt := 75) hex hby dX10_checksum_37 (by decide) (by omega) (by omega) (fun c_5 => ?_) (fun c_5 => ?_)
      · refine lv_lload_n hex hby dX10_checksum_75 rfl (lv_at hl 1 rfl) ?_
        refine lv_aload_n hex hby dX10_checksum_76 rfl (lv_at hl 2 rfl) ?_
        refine ro_Vi (As := []) (rest := [.long z1]) CFx (c_X10_breaksNow (h := h) (aC := aC) (fs := [.int (nI m), .int (nI cu), .ref aM, .ref aT, .int (nI rl), .int (nI rb), .int (nI rr), .int (nI ra), .ref aP, .int (nI pc), .int (nI bk), .ref aS, .ref aL, .int (nI c), v14, v15, v16, v17, v18, v19, v20, .ref aI, .ref aC, .ref aF, .ref aG, .int (nI im), v26, v27, v28]) (m := m) (g := g) rfl rfl hg hm6) 0 gX10_checksum_X10_breaksNow rfl nd_X10_breaksNow ⟨Nat.le_of_ble_eq_true rfl, Nat.le_of_ble_eq_true rfl⟩ hK hP [0, 7] rfl rfl rfl rfl hl.1 rfl (Nat.le_of_ble_eq_true rfl) dX10_checksum_77 ⟨Nat.le_refl _, Nat.le_refl _⟩ (fun r_6 hr_6 => ?_)
        obtain rfl := hr_6
        refine nv_top (y := nI (brN (cvc T m) (4 ^ m - 1))) (congrArg nI (brN_congr (fun i hi => hN.1 i (by omega)))) ?_
        refine ro_Sl (As := [.long z1, .int (nI (brN (cvc T m) (4 ^ m - 1)))]) (rest := []) (C := RX10) CFx (c_X10_more (v := z1) (w := brN (cvc T m) (4 ^ m - 1)) ) 2 gX10_checksum_X10_more rfl nd_X10_more ⟨Nat.le_of_ble_eq_true rfl, Nat.le_of_ble_eq_true rfl⟩ hK hP [] rfl rfl hl.1 rfl (Nat.le_of_ble_eq_true rfl) dX10_checksum_80 ⟨Nat.le_refl _, Nat.le_refl _⟩ (fun r_7 hr_7 => ?_)
        obtain rfl := hr_7
        refine lv_aload_n hex hby dX10_checksum_83 rfl (lv_at hl 2 rfl) ?_
        refine ro_Vi (As := []) (rest := [.long (mr z1 (brN (cvc T m) (4 ^ m - 1)))]) CFx (c_X10_stretchNow (h := h) (aC := aC) (aI := aI) (fs := [.int (nI m), .int (nI cu), .ref aM, .ref aT, .int (nI rl), .int (nI rb), .int (nI rr), .int (nI ra), .ref aP, .int (nI pc), .int (nI bk), .ref aS, .ref aL, .int (nI c), v14, v15, v16, v17, v18, v19, v20, .ref aI, .ref aC, .ref aF, .ref aG, .int (nI im), v26, v27, v28]) (m := m) (g := g) (ix := ix) (T := T) (ns := ns) rfl rfl rfl hg hix hm6 hV hN) 0 gX10_checksum_X10_stretchNow rfl nd_X10_stretchNow ⟨Nat.le_of_ble_eq_true rfl, Nat.le_of_ble_eq_true rfl⟩ hK hP [0, 7, 6] rfl rfl rfl rfl hl.1 rfl (Nat.le_of_ble_eq_true rfl) dX10_checksum_84 ⟨Nat.le_refl _, Nat.le_refl _⟩ (fun r_8 hr_8 => ?_)
        obtain ⟨r1, rfl, hr1⟩ := hr_8
        refine ro_Sl (As := [.long (mr z1 (brN (cvc T m) (4 ^ m - 1))), .int (nI r1)]) (rest := []) (C := RX10) CFx (c_X10_more (v := mr z1 (brN (cvc T m) (4 ^ m - 1))) (w := r1) ) 2 gX10_checksum_X10_more rfl nd_X10_more ⟨Nat.le_of_ble_eq_true rfl, Nat.le_of_ble_eq_true rfl⟩ hK hP [] rfl rfl hl.1 rfl (Nat.le_of_ble_eq_true rfl) dX10_checksum_87 ⟨Nat.le_refl _, Nat.le_refl _⟩ (fun r_9 hr_9 => ?_)
        obtain rfl := hr_9
        refine lv_lstore_n (lv' := [(1, .long (mr (mr z1 (brN (cvc T m) (4 ^ m - 1))) r1)), (3, .int (nI i)), (0, .ref h)]) hex hby dX10_checksum_90 rfl hl (by decide) rfl (fun ls hl => ?_)
        refine lv_aload_n hex hby dX10_checksum_91 rfl (lv_at hl 2 rfl) ?_
        refine mu_Vv (As := []) (rest := []) (wr := [(aM, .inl (cI, 3, .inl (nA sm))), (aT, .inl (cI, 192, .inl (nA tb))), (aP, .inl (cI, 40, .inl (nA P))), (aS, .inl (cI, 4096, .inl (nA S))), (aL, .inl (cI, 4096, .inl (nA Lv))), (aI, .inl (cI, 4096, .inl (nA ix)))]) CFx (c_X10_findIntervals (h := h) (aC := aC) (aF := aF) (aG := aG) (m := m) (v1 := .int (nI cu)) (v2 := .ref aM) (v3 := .ref aT) (rl := rl) (rb := rb) (rr := rr) (ra := ra) (v8 := .ref aP) (v9 := .int (nI pc)) (v10 := .int (nI bk)) (v11 := .ref aS) (v12 := .ref aL) (v13 := .int (nI c)) (v14 := v14) (v15 := v15) (v16 := v16) (v17 := v17) (v18 := v18) (v19 := v19) (v20 := v20) (v21 := .ref aI) (v25 := .int (nI im)) (v26 := v26) (v27 := v27) (v28 := v28) (g := g) (Fa := F) (Ga := G) hFb hGb hg hm6 (by omega) (by omega) (by omega) (by omega)) 0 gX10_checksum_X10_findIntervals rfl nd_X10_findIntervals ⟨Nat.le_of_ble_eq_true rfl, Nat.le_of_ble_eq_true rfl⟩ hK hP hD hS hA [0, 7, 8, 9] [1, 2, 3, 4, 5, 6] rfl rfl (by decide) (by decide) (by decide) TR.nil rfl rfl rfl hl.1 rfl (Nat.le_of_ble_eq_true rfl) dX10_checksum_92 ⟨Nat.le_refl _, Nat.le_refl _⟩ (fun u H locs hr_10 hP hD hS => ?_)
        obtain ⟨n1, F1, G1⟩ := u
        dsimp only at hr_10 hP hD
        have hP : va_P (dC, dI) vwCl [(aM, .inl (cI, 3, .inl (nA sm))), (aT, .inl (cI, 192, .inl (nA tb))), (aP, .inl (cI, 40, .inl (nA P))), (aS, .inl (cI, 4096, .inl (nA S))), (aL, .inl (cI, 4096, .inl (nA Lv))), (aI, .inl (cI, 4096, .inl (nA ix))), (h, .inr (10, [.int (nI m), .int (nI cu), .ref aM, .ref aT, .int (nI rl), .int (nI rb), .int (nI rr), .int (nI ra), .ref aP, .int (nI pc), .int (nI bk), .ref aS, .ref aL, .int (nI c), v14, v15, v16, v17, v18, v19, v20, .ref aI, .ref aC, .ref aF, .ref aG, .int (nI n1), v26, v27, v28])), (aC, .inl (cI, 4096, .inl (nA g))), (aF, .inl (cI, 4096, .inl (nA F1))), (aG, .inl (cI, 4096, .inl (nA G1)))] H := hP
        have hD : va_D A [(aM, .inl (cI, 3, .inl (nA sm))), (aT, .inl (cI, 192, .inl (nA tb))), (aP, .inl (cI, 40, .inl (nA P))), (aS, .inl (cI, 4096, .inl (nA S))), (aL, .inl (cI, 4096, .inl (nA Lv))), (aI, .inl (cI, 4096, .inl (nA ix))), (h, .inr (10, [.int (nI m), .int (nI cu), .ref aM, .ref aT, .int (nI rl), .int (nI rb), .int (nI rr), .int (nI ra), .ref aP, .int (nI pc), .int (nI bk), .ref aS, .ref aL, .int (nI c), v14, v15, v16, v17, v18, v19, v20, .ref aI, .ref aC, .ref aF, .ref aG, .int (nI n1), v26, v27, v28])), (aC, .inl (cI, 4096, .inl (nA g))), (aF, .inl (cI, 4096, .inl (nA F1))), (aG, .inl (cI, 4096, .inl (nA G1)))] := hD
        obtain ⟨hI1, hn1, hF1, hG1⟩ := hr_10
        have hI := hI1.congr (inG_congr (fun i hi => hN.1 i hi))
        refine lv_lload_n hex hby dX10_checksum_95 rfl (lv_at hl 0 rfl) ?_
        refine lv_aload_n hex hby dX10_checksum_96 rfl (lv_at hl 2 rfl) ?_
        refine nv_get (v := .int (nI n1)) CFx in_X10_checksum_X10 hK hP 6 rfl rfl 25 (by decide) (List.mem_of_getElem? (i := 5) rfl) rfl dX10_checksum_97 ?_
        refine ro_Sl (As := [.long (mr (mr z1 (brN (cvc T m) (4 ^ m - 1))) r1), .int (nI n1)]) (rest := []) (C := RX10) CFx (c_X10_more (v := mr (mr z1 (brN (cvc T m) (4 ^ m - 1))) r1) (w := n1) ) 2 gX10_checksum_X10_more rfl nd_X10_more ⟨Nat.le_of_ble_eq_true rfl, Nat.le_of_ble_eq_true rfl⟩ hK hP [] rfl rfl hl.1 rfl (Nat.le_of_ble_eq_true rfl) dX10_checksum_100 ⟨Nat.le_refl _, Nat.le_refl _⟩ (fun r_14 hr_14 => ?_)
        obtain rfl := hr_14
        refine lv_lstore_n (lv' := [(1, .long (mr (mr (mr z1 (brN (cvc T m) (4 ^ m - 1))) r1) n1)), (3, .int (nI i)), (0, .ref h)]) hex hby dX10_checksum_103 rfl hl (by decide) rfl (fun ls hl => ?_)
        refine lv_iconst (v := nI 0) hex hby dX10_checksum_104 rfl ?_
        refine lv_istore_n (lv' := [(3, .int (nI 0)), (1, .long (mr (mr (mr z1 (brN (cvc T m) (4 ^ m - 1))) r1) n1)), (0, .ref h)]) hex hby dX10_checksum_105 rfl hl (by decide) rfl (fun ls hl => ?_)
        have loop106 : ∀ (nn : Nat) (z2 : Int64) (i2 : Nat), (n1 - i2) < nn → (i2 ≤ n1) → (z2 = mri F1 G1 (mr (mr (mr z1 (brN (cvc T m) (4 ^ m - 1))) r1) n1) i2) → ∀ (H : Heap) (locs : List Loc), va_P (dC, dI) vwCl [(aM, .inl (cI, 3, .inl (nA sm))), (aT, .inl (cI, 192, .inl (nA tb))), (aP, .inl (cI, 40, .inl (nA P))), (aS, .inl (cI, 4096, .inl (nA S))), (aL, .inl (cI, 4096, .inl (nA Lv))), (aI, .inl (cI, 4096, .inl (nA ix))), (h, .inr (10, [.int (nI m), .int (nI cu), .ref aM, .ref aT, .int (nI rl), .int (nI rb), .int (nI rr), .int (nI ra), .ref aP, .int (nI pc), .int (nI bk), .ref aS, .ref aL, .int (nI c), v14, v15, v16, v17, v18, v19, v20, .ref aI, .ref aC, .ref aF, .ref aG, .int (nI n1), v26, v27, v28])), (aC, .inl (cI, 4096, .inl (nA g))), (aF, .inl (cI, 4096, .inl (nA F1))), (aG, .inl (cI, 4096, .inl (nA G1)))] H → va_D A [(aM, .inl (cI, 3, .inl (nA sm))), (aT, .inl (cI, 192, .inl (nA tb))), (aP, .inl (cI, 40, .inl (nA P))), (aS, .inl (cI, 4096, .inl (nA S))), (aL, .inl (cI, 4096, .inl (nA Lv))), (aI, .inl (cI, 4096, .inl (nA ix))), (h, .inr (10, [.int (nI m), .int (nI cu), .ref aM, .ref aT, .int (nI rl), .int (nI rb), .int (nI rr), .int (nI ra), .ref aP, .int (nI pc), .int (nI bk), .ref aS, .ref aL, .int (nI c), v14, v15, v16, v17, v18, v19, v20, .ref aI, .ref aC, .ref aF, .ref aG, .int (nI n1), v26, v27, v28])), (aC, .inl (cI, 4096, .inl (nA g))), (aF, .inl (cI, 4096, .inl (nA F1))), (aG, .inl (cI, 4096, .inl (nA G1)))] → va_S A ss.heap H locs → ∀ ls : Array Slot, lv_has ls 5 [(3, .int (nI i2)), (1, .long z2), (0, .ref h)] → W pp l ee (rmO 3 66) ss mm ([.ref h] : List Value).toArray bb mt cd H locs 0 0 Q (F0 mm 106 ls []) := by
          intro nn
          induction nn with
          | zero => intro z2 i2 hms106; exact absurd hms106 (Nat.not_lt_zero _)
          | succ nn ih106 =>
            intro z2 i2 hms106 hi2 hz2 H locs hP hD hS ls hl
            refine lv_iload_n hex hby dX10_checksum_106 rfl (lv_at hl 0 rfl) ?_
            refine lv_aload_n hex hby dX10_checksum_107 rfl (lv_at hl 2 rfl) ?_
            refine nv_get (v := .int (nI n1)) CFx in_X10_checksum_X10 hK hP 6 rfl rfl 25 (by decide) (List.mem_of_getElem? (i := 5) rfl) rfl dX10_checksum_108 ?_
            refine nv_icmp_ge (tgt := 140) hex hby dX10_checksum_111 (by decide) (by omega) (by omega) (fun c_15 => ?_) (fun c_15 => ?_)
            · refine lv_lload_n hex hby dX10_checksum_140 rfl (lv_at hl 1 rfl) ?_
              refine lv_aload_n hex hby dX10_checksum_141 rfl (lv_at hl 2 rfl) ?_
              refine nv_get (v := .int (nI pc)) CFx in_X10_checksum_X10 hK hP 6 rfl rfl 9 (by decide) (List.mem_of_getElem? (i := 8) rfl) rfl dX10_checksum_142 ?_
              refine ro_Sl (As := [.long z2, .int (nI pc)]) (rest := []) (C := RX10) CFx (c_X10_more (v := z2) (w := pc) ) 2 gX10_checksum_X10_more rfl nd_X10_more ⟨Nat.le_of_ble_eq_true rfl, Nat.le_of_ble_eq_true rfl⟩ hK hP [] rfl rfl hl.1 rfl (Nat.le_of_ble_eq_true rfl) dX10_checksum_145 ⟨Nat.le_refl _, Nat.le_refl _⟩ (fun r_16 hr_16 => ?_)
              obtain rfl := hr_16
              refine lv_aload_n hex hby dX10_checksum_148 rfl (lv_at hl 2 rfl) ?_
              refine nv_get (v := .int (nI bk)) CFx in_X10_checksum_X10 hK hP 6 rfl rfl 10 (by decide) (List.mem_of_getElem? (i := 9) rfl) rfl dX10_checksum_149 ?_
              refine ro_Sl (As := [.long (mr z2 pc), .int (nI bk)]) (rest := []) (C := RX10) CFx (c_X10_more (v := mr z2 pc) (w := bk) ) 2 gX10_checksum_X10_more rfl nd_X10_more ⟨Nat.le_of_ble_eq_true rfl, Nat.le_of_ble_eq_true rfl⟩ hK hP [] rfl rfl hl.1 rfl (Nat.le_of_ble_eq_true rfl) dX10_checksum_152 ⟨Nat.le_refl _, Nat.le_refl _⟩ (fun r_17 hr_17 => ?_)
              obtain rfl := hr_17
              refine lv_aload_n hex hby dX10_checksum_155 rfl (lv_at hl 2 rfl) ?_
              refine nv_get (v := .int (nI c)) CFx in_X10_checksum_X10 hK hP 6 rfl rfl 13 (by decide) (List.mem_of_getElem? (i := 10) rfl) rfl dX10_checksum_156 ?_
              refine ro_Sl (As := [.long (mr (mr z2 pc) bk), .int (nI c)]) (rest := []) (C := RX10) CFx (c_X10_more (v := mr (mr z2 pc) bk) (w := c) ) 2 gX10_checksum_X10_more rfl nd_X10_more ⟨Nat.le_of_ble_eq_true rfl, Nat.le_of_ble_eq_true rfl⟩ hK hP [] rfl rfl hl.1 rfl (Nat.le_of_ble_eq_true rfl) dX10_checksum_159 ⟨Nat.le_refl _, Nat.le_refl _⟩ (fun r_18 hr_18 => ?_)
              obtain rfl := hr_18
              refine lv_lstore_n (lv' := [(1, .long (mr (mr (mr z2 pc) bk) c)), (3, .int (nI i2)), (0, .ref h)]) hex hby dX10_checksum_162 rfl hl (by decide) rfl (fun ls hl => ?_)
              refine lv_iconst (v := nI 0) hex hby dX10_checksum_163 rfl ?_
              refine lv_istore_n (lv' := [(3, .int (nI 0)), (1, .long (mr (mr (mr z2 pc) bk) c)), (0, .ref h)]) hex hby dX10_checksum_164 rfl hl (by decide) rfl (fun ls hl => ?_)
              have loop165 : ∀ (nn : Nat) (z3 : Int64) (i3 : Nat), (c - i3) < nn → (i3 ≤ c) → (z3 = mrl (tlV T m pc (ptv T m P) st lv) (mr (mr (mr z2 pc) bk) c) i3) → ∀ (H : Heap) (locs : List Loc), va_P (dC, dI) vwCl [(aM, .inl (cI, 3, .inl (nA sm))), (aT, .inl (cI, 192, .inl (nA tb))), (aP, .inl (cI, 40, .inl (nA P))), (aS, .inl (cI, 4096, .inl (nA S))), (aL, .inl (cI, 4096, .inl (nA Lv))), (aI, .inl (cI, 4096, .inl (nA ix))), (h, .inr (10, [.int (nI m), .int (nI cu), .ref aM, .ref aT, .int (nI rl), .int (nI rb), .int (nI rr), .int (nI ra), .ref aP, .int (nI pc), .int (nI bk), .ref aS, .ref aL, .int (nI c), v14, v15, v16, v17, v18, v19, v20, .ref aI, .ref aC, .ref aF, .ref aG, .int (nI n1), v26, v27, v28])), (aC, .inl (cI, 4096, .inl (nA g))), (aF, .inl (cI, 4096, .inl (nA F1))), (aG, .inl (cI, 4096, .inl (nA G1)))] H → va_D A [(aM, .inl (cI, 3, .inl (nA sm))), (aT, .inl (cI, 192, .inl (nA tb))), (aP, .inl (cI, 40, .inl (nA P))), (aS, .inl (cI, 4096, .inl (nA S))), (aL, .inl (cI, 4096, .inl (nA Lv))), (aI, .inl (cI, 4096, .inl (nA ix))), (h, .inr (10, [.int (nI m), .int (nI cu), .ref aM, .ref aT, .int (nI rl), .int (nI rb), .int (nI rr), .int (nI ra), .ref aP, .int (nI pc), .int (nI bk), .ref aS, .ref aL, .int (nI c), v14, v15, v16, v17, v18, v19, v20, .ref aI, .ref aC, .ref aF, .ref aG, .int (nI n1), v26, v27, v28])), (aC, .inl (cI, 4096, .inl (nA g))), (aF, .inl (cI, 4096, .inl (nA F1))), (aG, .inl (cI, 4096, .inl (nA G1)))] → va_S A ss.heap H locs → ∀ ls : Array Slot, lv_has ls 5 [(3, .int (nI i3)), (1, .long z3), (0, .ref h)] → W pp l ee (rmO 3 66) ss mm ([.ref h] : List Value).toArray bb mt cd H locs 0 0 Q (F0 mm 165 ls []) := by
                intro nn
                induction nn with
                | zero => intro z3 i3 hms165; exact absurd hms165 (Nat.not_lt_zero _)
                | succ nn ih165 =>
                  intro z3 i3 hms165 hi3 hz3 H locs hP hD hS ls hl
                  refine lv_iload_n hex hby dX10_checksum_165 rfl (lv_at hl 0 rfl) ?_
                  refine lv_aload_n hex hby dX10_checksum_166 rfl (lv_at hl 2 rfl) ?_
                  refine nv_get (v := .int (nI c)) CFx in_X10_checksum_X10 hK hP 6 rfl rfl 13 (by decide) (List.mem_of_getElem? (i := 10) rfl) rfl dX10_checksum_167 ?_
                  refine nv_icmp_ge (tgt := 206) hex hby dX10_checksum_170 (by decide) (by omega) (by omega) (fun c_19 => ?_) (fun c_19 => ?_)
                  · refine lv_lload_n hex hby dX10_checksum_206 rfl (lv_at hl 1 rfl) ?_
                    have pf_20 : CkOK T m ns rl rb rr ra pc bk c P st lv z3 := by
                      skip
                      exact ⟨n1, r1, F1, G1, hI, hN.str hV hm6 hr1, by rw [hz3, hz2, hz1, show i = 4 * ns by omega, show i2 = n1 by omega, show i3 = c by omega]; rfl⟩
                    exact hret _ (n1, F1, G1) _ _ _ _ _ (Or.inr (Or.inr (Or.inr (Or.inl ⟨rfl, _, rfl, rfl, dX10_checksum_207⟩)))) ⟨_, rfl, ⟨z3, rfl, pf_20, hF1, hG1⟩⟩ (hP.sub [6, 0, 1, 2, 3, 4, 5, 7, 8, 9] rfl) (hD.sub [6, 0, 1, 2, 3, 4, 5, 7, 8, 9] (by decide) rfl) hS
                  · refine lv_iconst (v := nI 0) hex hby dX10_checksum_173 rfl ?_
                    refine lv_istore (lv' := [(4, .int (nI 0)), (3, .int (nI i3)), (1, .long z3), (0, .ref h)]) hex hby dX10_checksum_174 hl (by decide) rfl (fun ls hl => ?_)
                    have loop176 : ∀ (nn : Nat) (z4 : Int64) (w : Nat), (5 - w) < nn → (w ≤ 5) → (z4 = mrs (tlV T m pc (ptv T m P) st lv i3) z3 w) → ∀ (H : Heap) (locs : List Loc), va_P (dC, dI) vwCl [(aM, .inl (cI, 3, .inl (nA sm))), (aT, .inl (cI, 192, .inl (nA tb))), (aP, .inl (cI, 40, .inl (nA P))), (aS, .inl (cI, 4096, .inl (nA S))), (aL, .inl (cI, 4096, .inl (nA Lv))), (aI, .inl (cI, 4096, .inl (nA ix))), (h, .inr (10, [.int (nI m), .int (nI cu), .ref aM, .ref aT, .int (nI rl), .int (nI rb), .int (nI rr), .int (nI ra), .ref aP, .int (nI pc), .int (nI bk), .ref aS, .ref aL, .int (nI c), v14, v15, v16, v17, v18, v19, v20, .ref aI, .ref aC, .ref aF, .ref aG, .int (nI n1), v26, v27, v28])), (aC, .inl (cI, 4096, .inl (nA g))), (aF, .inl (cI, 4096, .inl (nA F1))), (aG, .inl (cI, 4096, .inl (nA G1)))] H → va_D A [(aM, .inl (cI, 3, .inl (nA sm))), (aT, .inl (cI, 192, .inl (nA tb))), (aP, .inl (cI, 40, .inl (nA P))), (aS, .inl (cI, 4096, .inl (nA S))), (aL, .inl (cI, 4096, .inl (nA Lv))), (aI, .inl (cI, 4096, .inl (nA ix))), (h, .inr (10, [.int (nI m), .int (nI cu), .ref aM, .ref aT, .int (nI rl), .int (nI rb), .int (nI rr), .int (nI ra), .ref aP, .int (nI pc), .int (nI bk), .ref aS, .ref aL, .int (nI c), v14, v15, v16, v17, v18, v19, v20, .ref aI, .ref aC, .ref aF, .ref aG, .int (nI n1), v26, v27, v28])), (aC, .inl (cI, 4096, .inl (nA g))), (aF, .inl (cI, 4096, .inl (nA F1))), (aG, .inl (cI, 4096, .inl (nA G1)))] → va_S A ss.heap H locs → ∀ ls : Array Slot, lv_has ls 5 [(4, .int (nI w)), (3, .int (nI i3)), (1, .long z4), (0, .ref h)] → W pp l ee (rmO 3 66) ss mm ([.ref h] : List Value).toArray bb mt cd H locs 0 0 Q (F0 mm 176 ls []) := by
                      intro nn
                      induction nn with
                      | zero => intro z4 w hms176; exact absurd hms176 (Nat.not_lt_zero _)
                      | succ nn ih176 =>
                        intro z4 w hms176 hw5 hz4 H locs hP hD hS ls hl
                        refine lv_iload hex hby dX10_checksum_176 (lv_at hl 0 rfl) ?_
                        refine lv_iconst (v := nI 5) hex hby dX10_checksum_178 rfl ?_
                        refine nv_icmp_ge (tgt := 200) hex hby dX10_checksum_179 (by decide) (by omega) (by omega) (fun c_21 => ?_) (fun c_21 => ?_)
                        · refine lv_iinc (v := nI (i3 + 1)) (lv' := [(3, .int (nI (i3 + 1))), (4, .int (nI w)), (1, .long z4), (0, .ref h)]) hex hby dX10_checksum_200 hl (k := 1) rfl (ni_inc _) (by decide) rfl (fun ls hl => ?_)
                          refine lv_goto (tgt := 165) hex hby dX10_checksum_203 (by decide) ?_
                          have pf_22 : z4 = mrl (tlV T m pc (ptv T m P) st lv) (mr (mr (mr z2 pc) bk) c) (i3 + 1) := by
                            skip
                            rw [hz4, hz3, show w = 5 by omega]; rfl
                          exact ih165 z4 (i3 + 1) (by omega) (by omega) pf_22 _ _ hP hD hS _ (lv_sub hl [0, 2, 3] rfl)
                        · refine lv_lload_n hex hby dX10_checksum_182 rfl (lv_at hl 2 rfl) ?_
                          refine lv_aload_n hex hby dX10_checksum_183 rfl (lv_at hl 3 rfl) ?_
                          refine lv_iload_n hex hby dX10_checksum_184 rfl (lv_at hl 1 rfl) ?_
                          refine lv_iload hex hby dX10_checksum_185 (lv_at hl 0 rfl) ?_
                          refine ro_Vi (As := [.int (nI i3), .int (nI w)]) (rest := [.long z4]) CFx (c_X10_tells (h := h) (aC := aC) (aS := aS) (aL := aL) (aP := aP) (aI := aI) (fs := [.int (nI m), .int (nI cu), .ref aM, .ref aT, .int (nI rl), .int (nI rb), .int (nI rr), .int (nI ra), .ref aP, .int (nI pc), .int (nI bk), .ref aS, .ref aL, .int (nI c), v14, v15, v16, v17, v18, v19, v20, .ref aI, .ref aC, .ref aF, .ref aG, .int (nI n1), v26, v27, v28]) (pc := pc) (g := g) (S := S) (Lv := Lv) (P := P) (ix := ix) (k := i3) (w := w) (m := m) (T := T) (ns := ns) (st := st) (lv := lv) (c := c) rfl rfl rfl rfl rfl rfl hg hSb hLb hPb hpc hix hm6 hV hN hL hag hpg (by omega) (by omega)) 2 gX10_checksum_X10_tells rfl nd_X10_tells ⟨Nat.le_of_ble_eq_true rfl, Nat.le_of_ble_eq_true rfl⟩ hK hP [6, 7, 3, 4, 2, 5] rfl rfl rfl rfl hl.1 rfl (Nat.le_of_ble_eq_true rfl) dX10_checksum_187 ⟨Nat.le_refl _, Nat.le_refl _⟩ (fun r_23 hr_23 => ?_)
                          obtain rfl := hr_23
                          refine ro_Sl (As := [.long z4, .int (nI (tlV T m pc (ptv T m P) st lv i3 w))]) (rest := []) (C := RX10) CFx (c_X10_more (v := z4) (w := tlV T m pc (ptv T m P) st lv i3 w) ) 2 gX10_checksum_X10_more rfl nd_X10_more ⟨Nat.le_of_ble_eq_true rfl, Nat.le_of_ble_eq_true rfl⟩ hK hP [] rfl rfl hl.1 rfl (Nat.le_of_ble_eq_true rfl) dX10_checksum_190 ⟨Nat.le_refl _, Nat.le_refl _⟩ (fun r_24 hr_24 => ?_)
                          obtain rfl := hr_24
                          refine lv_lstore_n (lv' := [(1, .long (mr z4 (tlV T m pc (ptv T m P) st lv i3 w))), (4, .int (nI w)), (3, .int (nI i3)), (0, .ref h)]) hex hby dX10_checksum_193 rfl hl (by decide) rfl (fun ls hl => ?_)
                          refine lv_iinc (v := nI (w + 1)) (lv' := [(4, .int (nI (w + 1))), (1, .long (mr z4 (tlV T m pc (ptv T m P) st lv i3 w))), (3, .int (nI i3)), (0, .ref h)]) hex hby dX10_checksum_194 hl (k := 1) rfl (ni_inc _) (by decide) rfl (fun ls hl => ?_)
                          refine lv_goto (tgt := 176) hex hby dX10_checksum_197 (by decide) ?_
                          have pf_25 : (mr z4 (tlV T m pc (ptv T m P) st lv i3 w)) = mrs (tlV T m pc (ptv T m P) st lv i3) z3 (w + 1) := by
                            skip
                            rw [hz4]; rfl
                          exact ih176 (mr z4 (tlV T m pc (ptv T m P) st lv i3 w)) (w + 1) (by omega) (by omega) pf_25 _ _ hP hD hS _ (lv_sub hl [0, 2, 1, 3] rfl)
                    exact loop176 _ z3 0 (Nat.lt_succ_self _) (by omega) rfl _ _ hP hD hS _ (lv_sub hl [0, 1, 2, 3] rfl)
              exact loop165 _ (mr (mr (mr z2 pc) bk) c) 0 (Nat.lt_succ_self _) (by omega) rfl _ _ hP hD hS _ (lv_sub hl [0, 1, 2] rfl)
            · refine lv_lload_n hex hby dX10_checksum_114 rfl (lv_at hl 1 rfl) ?_
              refine lv_aload_n hex hby dX10_checksum_115 rfl (lv_at hl 2 rfl) ?_
              refine nv_get (v := .ref aF) CFx in_X10_checksum_X10 hK hP 6 rfl rfl 23 (by decide) (List.mem_of_getElem? (i := 6) rfl) rfl dX10_checksum_116 ?_
              refine lv_iload_n hex hby dX10_checksum_119 rfl (lv_at hl 0 rfl) ?_
              refine nv_iald hex hby hK hP 8 0 rfl rfl (by omega) (by omega) dX10_checksum_120 ?_
              have hb_26 := hF1 i2
              refine ro_Sl (As := [.long z2, .int (nI (F1 i2))]) (rest := []) (C := RX10) CFx (c_X10_more (v := z2) (w := F1 i2) ) 2 gX10_checksum_X10_more rfl nd_X10_more ⟨Nat.le_of_ble_eq_true rfl, Nat.le_of_ble_eq_true rfl⟩ hK hP [] rfl rfl hl.1 rfl (Nat.le_of_ble_eq_true rfl) dX10_checksum_121 ⟨Nat.le_refl _, Nat.le_refl _⟩ (fun r_27 hr_27 => ?_)
              obtain rfl := hr_27
              refine lv_aload_n hex hby dX10_checksum_124 rfl (lv_at hl 2 rfl) ?_
              refine nv_get (v := .ref aG) CFx in_X10_checksum_X10 hK hP 6 rfl rfl 24 (by decide) (List.mem_of_getElem? (i := 7) rfl) rfl dX10_checksum_125 ?_
              refine lv_iload_n hex hby dX10_checksum_128 rfl (lv_at hl 0 rfl) ?_
              refine nv_iald hex hby hK hP 9 0 rfl rfl (by omega) (by omega) dX10_checksum_129 ?_
              have hb_28 := hG1 i2
              refine ro_Sl (As := [.long (mr z2 (F1 i2)), .int (nI (G1 i2))]) (rest := []) (C := RX10) CFx (c_X10_more (v := mr z2 (F1 i2)) (w := G1 i2) ) 2 gX10_checksum_X10_more rfl nd_X10_more ⟨Nat.le_of_ble_eq_true rfl, Nat.le_of_ble_eq_true rfl⟩ hK hP [] rfl rfl hl.1 rfl (Nat.le_of_ble_eq_true rfl) dX10_checksum_130 ⟨Nat.le_refl _, Nat.le_refl _⟩ (fun r_29 hr_29 => ?_)
              obtain rfl := hr_29
              refine lv_lstore_n (lv' := [(1, .long (mr (mr z2 (F1 i2)) (G1 i2))), (3, .int (nI i2)), (0, .ref h)]) hex hby dX10_checksum_133 rfl hl (by decide) rfl (fun ls hl => ?_)
              refine lv_iinc (v := nI (i2 + 1)) (lv' := [(3, .int (nI (i2 + 1))), (1, .long (mr (mr z2 (F1 i2)) (G1 i2))), (0, .ref h)]) hex hby dX10_checksum_134 hl (k := 1) rfl (ni_inc _) (by decide) rfl (fun ls hl => ?_)
              refine lv_goto (tgt := 106) hex hby dX10_checksum_137 (by decide) ?_
              have pf_30 : (mr (mr z2 (F1 i2)) (G1 i2)) = mri F1 G1 (mr (mr (mr z1 (brN (cvc T m) (4 ^ m - 1))) r1) n1) (i2 + 1) := by
                skip
                rw [hz2]; rfl
              exact ih106 (mr (mr z2 (F1 i2)) (G1 i2)) (i2 + 1) (by omega) (by omega) pf_30 _ _ hP hD hS _ (lv_sub hl [0, 1, 2] rfl)
        exact loop106 _ (mr (mr (mr z1 (brN (cvc T m) (4 ^ m - 1))) r1) n1) 0 (Nat.lt_succ_self _) (by omega) rfl _ _ hP hD hS _ (lv_sub hl [0, 1, 2] rfl)
      · have hTi := hT (i / 4) (by omega) (i % 4) (by omega)
        rw [show 4 * (i / 4) + i % 4 = i by omega] at hTi
        refine lv_lload_n hex hby dX10_checksum_40 rfl (lv_at hl 1 rfl) ?_
        refine lv_bipush (v := nI 10) hex hby dX10_checksum_41 rfl ?_
        refine lv_aload_n hex hby dX10_checksum_43 rfl (lv_at hl 2 rfl) ?_
        refine lv_iload_n hex hby dX10_checksum_44 rfl (lv_at hl 0 rfl) ?_
        refine lv_iconst (v := nI 4) hex hby dX10_checksum_45 rfl ?_
        refine nv_idiv hex hby dX10_checksum_46 (by omega) (by omega) (by omega) ?_
        refine lv_iload_n hex hby dX10_checksum_47 rfl (lv_at hl 0 rfl) ?_
        refine lv_iconst (v := nI 4) hex hby dX10_checksum_48 rfl ?_
        refine nv_irem hex hby dX10_checksum_49 (by omega) (by omega) (by omega) ?_
        refine ro_Vi (As := [.int (nI (i / 4)), .int (nI (i % 4))]) (rest := [.int (nI 10), .long z1]) CFx (c_X10_quarter (h := h) (aT := aT) (fs := [.int (nI m), .int (nI cu), .ref aM, .ref aT, .int (nI rl), .int (nI rb), .int (nI rr), .int (nI ra), .ref aP, .int (nI pc), .int (nI bk), .ref aS, .ref aL, .int (nI c), v14, v15, v16, v17, v18, v19, v20, .ref aI, .ref aC, .ref aF, .ref aG, .int (nI im), v26, v27, v28]) (cu := cu) (tb := tb) (s := i / 4) (p := i % 4) rfl rfl htb hcu (by omega) (by omega)) 2 gX10_checksum_X10_quarter rfl nd_X10_quarter ⟨Nat.le_of_ble_eq_true rfl, Nat.le_of_ble_eq_true rfl⟩ hK hP [0, 2] rfl rfl rfl rfl hl.1 rfl (Nat.le_of_ble_eq_true rfl) dX10_checksum_50 ⟨Nat.le_refl _, Nat.le_refl _⟩ (fun r_31 hr_31 => ?_)
        obtain rfl := hr_31
        refine nv_imul hex hby dX10_checksum_53 ?_
        refine lv_aload_n hex hby dX10_checksum_54 rfl (lv_at hl 2 rfl) ?_
        refine lv_iload_n hex hby dX10_checksum_55 rfl (lv_at hl 0 rfl) ?_
        refine lv_iconst (v := nI 4) hex hby dX10_checksum_56 rfl ?_
        refine nv_idiv hex hby dX10_checksum_57 (by omega) (by omega) (by omega) ?_
        refine lv_iload_n hex hby dX10_checksum_58 rfl (lv_at hl 0 rfl) ?_
        refine lv_iconst (v := nI 4) hex hby dX10_checksum_59 rfl ?_
        refine nv_irem hex hby dX10_checksum_60 (by omega) (by omega) (by omega) ?_
        refine ro_Vi (As := [.int (nI (i / 4)), .int (nI (i % 4))]) (rest := [.int (nI (10 * tb (64 * cu + 8 * (i / 4) + (i % 4)))), .long z1]) CFx (c_X10_stateFor (h := h) (aT := aT) (fs := [.int (nI m), .int (nI cu), .ref aM, .ref aT, .int (nI rl), .int (nI rb), .int (nI rr), .int (nI ra), .ref aP, .int (nI pc), .int (nI bk), .ref aS, .ref aL, .int (nI c), v14, v15, v16, v17, v18, v19, v20, .ref aI, .ref aC, .ref aF, .ref aG, .int (nI im), v26, v27, v28]) (cu := cu) (tb := tb) (s := i / 4) (p := i % 4) rfl rfl htb hcu (by omega) (by omega)) 2 gX10_checksum_X10_stateFor rfl nd_X10_stateFor ⟨Nat.le_of_ble_eq_true rfl, Nat.le_of_ble_eq_true rfl⟩ hK hP [0, 2] rfl rfl rfl rfl hl.1 rfl (Nat.le_of_ble_eq_true rfl) dX10_checksum_61 ⟨Nat.le_refl _, Nat.le_refl _⟩ (fun r_32 hr_32 => ?_)
        obtain rfl := hr_32
        refine nv_iadd hex hby dX10_checksum_64 ?_
        refine nv_top (y := nI (T i)) (congrArg nI hTi.symm) ?_
        refine ro_Sl (As := [.long z1, .int (nI (T i))]) (rest := []) (C := RX10) CFx (c_X10_more (v := z1) (w := T i) ) 2 gX10_checksum_X10_more rfl nd_X10_more ⟨Nat.le_of_ble_eq_true rfl, Nat.le_of_ble_eq_true rfl⟩ hK hP [] rfl rfl hl.1 rfl (Nat.le_of_ble_eq_true rfl) dX10_checksum_65 ⟨Nat.le_refl _, Nat.le_refl _⟩ (fun r_33 hr_33 => ?_)
        obtain rfl := hr_33
        refine lv_lstore_n (lv' := [(1, .long (mr z1 (T i))), (3, .int (nI i)), (0, .ref h)]) hex hby dX10_checksum_68 rfl hl (by decide) rfl (fun ls hl => ?_)
        refine lv_iinc (v := nI (i + 1)) (lv' := [(3, .int (nI (i + 1))), (1, .long (mr z1 (T i))), (0, .ref h)]) hex hby dX10_checksum_69 hl (k := 1) rfl (ni_inc _) (by decide) rfl (fun ls hl => ?_)
        refine lv_goto (tgt := 25) hex hby dX10_checksum_72 (by decide) ?_
        have pf_34 : (mr z1 (T i)) = mrs T (mr (mr 73 m) ns) (i + 1) := by
          skip
          rw [hz1]; rfl
        exact ih25 (mr z1 (T i)) (i + 1) (by omega) (by omega) pf_34 _ _ hP hD hS _ (lv_sub hl [0, 1, 2] rfl)
  exact loop25 _ (mr (mr 73 m) ns) 0 (Nat.lt_succ_self _) (by omega) rfl _ _ hP hD hS _ (lv_sub hl [0, 1, 2] rfl)
end MCK
