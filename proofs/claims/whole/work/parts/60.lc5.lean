set_option maxHeartbeats 4000000 in
set_option maxRecDepth 100000 in
theorem lc_balance {pp : Program} {l : Launch} {ee : Env} {ss : State} {mm : MethodId} {b0 : Nat} {bb : List Frame} {mt : Method} {cd : Code} {Q : State → Prop} {AA : Nat → Prop} {dC : Nat → ClassId} {dI : Nat → Nat → Nat} {cI cZ cS : ClassId} {ad : Nat → Nat} {fW : Nat → Option Nat} {tM tH L : Nat} {xs : Nat → Int32} {i0 : Nat} (C : LC pp ss mm b0 cd AA dC dI cI cZ cS tM tH L xs) (hi : i0 + 5 ≤ L) (hL : L ≤ 2560) (ih : LG pp l ee ss mm b0 bb mt cd Q AA dC dI cI cZ cS ad fW (i0 + 5)) {m : Nat} {cu : Nat} {tc : Nat} {rl : Nat} {rb : Nat} {rr : Nat} {ra : Nat} {pc : Nat} {bk : Nat} {c : Nat} {cn : Nat} {bs : Nat} {tl : Nat} {V : Nat → Nat} {P : Nat → Nat} {S : Nat → Nat} {F : Nat → Nat} {G : Nat → Nat} {g : Nat → Nat} {ix : Nat → Nat} {fb : Nat → Nat} {tx : Nat → Nat} {km : Nat → Nat} {kcu : Nat → Nat} {ktc : Nat → Nat} {krl : Nat → Nat} {krb : Nat → Nat} {krr : Nat → Nat} {kra : Nat → Nat} {kpc : Nat → Nat} {kbk : Nat → Nat} {kc : Nat → Nat} {kV : Nat → Nat → Nat} {kP : Nat → Nat → Nat} {kS : Nat → Nat → Nat} {ku : Nat → Nat} {im : Nat} {bs2 : Nat} {sm : Nat → Nat} {tb : Nat → Nat} {P2 : Nat → Nat} {S2 : Nat → Nat} {L2 : Nat → Nat} {K : Nat → Nat} {KT : Nat → Nat} {KS : Nat → Nat} {KL : Nat → Nat} {ix2 : Nat → Nat} {g2 : Nat → Nat} {F2 : Nat → Nat} {G2 : Nat → Nat} {O2 : Nat → Nat} {f2 : Nat → Nat} {st : Nat → Nat} {lv : Nat → Nat} {kst : Nat → Nat → Nat} {klv : Nat → Nat → Nat} (hA : IA m cu tc rl rb rr ra pc bk cn tl V) (hB : IB m cu rl rb rr ra pc c cn V P S F G g ix tx st lv) (hM : IM m cu tc pc c V P st lv sm tb P2 S2 L2 ix2 g2 O2) (hSl : IS fW ad km kcu ktc krl krb krr kra kpc kbk kc kV kP kS ku K KT KS KL kst klv) (hfb : ∀ j, fb j < 4096) (hF2 : ∀ j, F2 j < 4096) (hG2 : ∀ j, G2 j < 4096) (hf2 : ∀ j, f2 j < 4096) {H : Heap} {locs : List Loc} {ls : Array Slot} (hP : va_P (dC, dI) vwCl (LW cI cZ cS ad fW m cu tc rl rb rr ra pc bk c cn bs tl V P S F G g ix fb tx km kcu ktc krl krb krr kra kpc kbk kc kV kP kS ku m cu rl rb rr ra pc bk c tl im bs2 sm tb P2 S2 L2 tx K KT KS KL ku ix2 g2 F2 G2 O2 f2) H) (hD : va_D AA (LW cI cZ cS ad fW m cu tc rl rb rr ra pc bk c cn bs tl V P S F G g ix fb tx km kcu ktc krl krb krr kra kpc kbk kc kV kP kS ku m cu rl rb rr ra pc bk c tl im bs2 sm tb P2 S2 L2 tx K KT KS KL ku ix2 g2 F2 G2 O2 f2)) (hS : va_S AA ss.heap H locs) (hl : lv_has ls 4 [(0, .ref b0), (1, .ref (ad 0)), (2, .ref (ad 37)), (3, .int (nI i0))]) : W pp l ee room_1 ss mm #[Value.ref b0] bb mt cd H locs 55 56922 Q (F0 mm 966 ls []) := by
  obtain ⟨CFx, hK, hA0, hZ, hX, hbl, hbA⟩ := id C
  obtain ⟨hex, hby, hml, hown, hts⟩ := id CFx
  obtain ⟨hm1, hm6, hcu, hb1, hbk, hpc, htl, hcn, hrl, hrr, hrb, hra, hVt, hVb⟩ := id hA
  obtain ⟨hPb, hSb, hFb, hGb, hg, hix, htx, hN, hIv, hpg, hLD, hag⟩ := id hB
  obtain ⟨hs0, hs1, hs2, hsm, htb, hT0, hT1, hT2, hP2b, hPP, hS2b, hL2b, hAG, hO2b, hLf, hix2, hg2, hN2⟩ := id hM
  obtain ⟨hku, hW0, hW1, hKb, hKTb, hKSb, hKLb, hsl⟩ := id hSl
  have hV := cuT_VT (cu := cu) hVt
  have hL1 := hLD.1
  have hc := hLD.le hV hm6 hpc
  have hpg2 : ∀ j, j < pc → P2 j % 64 < 2 ^ m ∧ P2 j / 64 < 2 ^ m := fun j hj => by rw [hPP j hj]; exact hpg j hj
  have hsc := cu_sm hs0 hs1 hs2 hcu
  have hTb := cu_Tb hT0 hT1 hT2 hcu
  have h26 := p2_6 hm6
  have h46 := p4_6 hm6
  have hne := rg_ne hV hN hm6 hrl hrr hrb hra
  have htc8 := hVt.2.1
  refine lv_aload_n hex hby dL_law_966 rfl (lv_at hl 1 rfl) ?_
  refine mx_Ai (q0 := 0) (ci := 9) (As := []) (rest := []) CFx (k_X9_balance (T := cuT cu V) (ns := cuN cu tc) (st := st) (lv := lv) (pt := ptv (cuT cu V) m P) hfb hg hSb hV hag hm6 hix hN hLD hpc) 0 gL_law_X9_balance rfl nd_X9_balance ⟨Nat.le_of_ble_eq_true rfl, Nat.le_of_ble_eq_true rfl⟩ hK hP hD hS hA0 hZ rfl rfl rfl hl.1 rfl (Nat.le_of_ble_eq_true rfl) dL_law_967 ⟨Nat.le_of_ble_eq_true rfl, Nat.le_of_ble_eq_true rfl⟩ (fun r1 u1 H locs hp1 hP hD hS => ?_)
  obtain ⟨bs_1, fb_1, c_1, S_1⟩ := u1
  try dsimp only at hp1 hP hD
  refine lv_aload_n hex hby dL_law_970 rfl (lv_at hl 2 rfl) ?_
  refine mx_Ai (q0 := 37) (ci := 10) (As := []) (rest := [.int r1]) CFx (k_X10_balance (T := cuT cu V) (ns := cuN cu tc) (st := st) (lv := lv) hf2 hg2 hS2b hL2b hN2.1 hV hL1 hAG hm6 hix2 hO2b hN2 hLf) 0 gL_law_X10_balance rfl nd_X10_balance ⟨Nat.le_of_ble_eq_true rfl, Nat.le_of_ble_eq_true rfl⟩ hK hP hD hS hA0 hZ rfl rfl rfl hl.1 rfl (Nat.le_of_ble_eq_true rfl) dL_law_971 ⟨Nat.le_of_ble_eq_true rfl, Nat.le_of_ble_eq_true rfl⟩ (fun r2 u2 H locs hp2 hP hD hS => ?_)
  obtain ⟨bs_2, f_2, c_2, S_2, L_2, O_2⟩ := u2
  try dsimp only at hp2 hP hD
  obtain ⟨n1, s1, l1, e1, b1, d2, d3, d4, b2⟩ := hp1
  obtain ⟨n2, s2, l2, e2, b3, y1, q2, q3, q4, q5, q6, b4⟩ := hp2
  obtain ⟨rfl, rfl, rfl, rfl⟩ := b1.uniq b3
  have he : r1 = r2 := e1.trans e2.symm
  refine lv_icmp_eq (tgt := 1115) hex hby dL_law_974 (by decide) (fun _ => ?_) (fun h => absurd he h)
  exact lc_end C ih hA ⟨hPb, d4, hFb, hGb, hg, hix, htx, hN, hIv, hpg, d2, d3⟩ ⟨hs0, hs1, hs2, hsm, htb, hT0, hT1, hT2, hP2b, hPP, q4, q5, q2, q6, q3, hix2, hg2, hN2⟩ hSl b2 hF2 hG2 b4 hP hD hS hl
set_option maxHeartbeats 4000000 in
set_option maxRecDepth 100000 in
theorem lc_save {pp : Program} {l : Launch} {ee : Env} {ss : State} {mm : MethodId} {b0 : Nat} {bb : List Frame} {mt : Method} {cd : Code} {Q : State → Prop} {AA : Nat → Prop} {dC : Nat → ClassId} {dI : Nat → Nat → Nat} {cI cZ cS : ClassId} {ad : Nat → Nat} {fW : Nat → Option Nat} {tM tH L : Nat} {xs : Nat → Int32} {i0 : Nat} (C : LC pp ss mm b0 cd AA dC dI cI cZ cS tM tH L xs) (hi : i0 + 5 ≤ L) (hL : L ≤ 2560) (ih : LG pp l ee ss mm b0 bb mt cd Q AA dC dI cI cZ cS ad fW (i0 + 5)) {m : Nat} {cu : Nat} {tc : Nat} {rl : Nat} {rb : Nat} {rr : Nat} {ra : Nat} {pc : Nat} {bk : Nat} {c : Nat} {cn : Nat} {bs : Nat} {tl : Nat} {V : Nat → Nat} {P : Nat → Nat} {S : Nat → Nat} {F : Nat → Nat} {G : Nat → Nat} {g : Nat → Nat} {ix : Nat → Nat} {fb : Nat → Nat} {tx : Nat → Nat} {km : Nat → Nat} {kcu : Nat → Nat} {ktc : Nat → Nat} {krl : Nat → Nat} {krb : Nat → Nat} {krr : Nat → Nat} {kra : Nat → Nat} {kpc : Nat → Nat} {kbk : Nat → Nat} {kc : Nat → Nat} {kV : Nat → Nat → Nat} {kP : Nat → Nat → Nat} {kS : Nat → Nat → Nat} {ku : Nat → Nat} {im : Nat} {bs2 : Nat} {sm : Nat → Nat} {tb : Nat → Nat} {P2 : Nat → Nat} {S2 : Nat → Nat} {L2 : Nat → Nat} {K : Nat → Nat} {KT : Nat → Nat} {KS : Nat → Nat} {KL : Nat → Nat} {ix2 : Nat → Nat} {g2 : Nat → Nat} {F2 : Nat → Nat} {G2 : Nat → Nat} {O2 : Nat → Nat} {f2 : Nat → Nat} {st : Nat → Nat} {lv : Nat → Nat} {kst : Nat → Nat → Nat} {klv : Nat → Nat → Nat} (hA : IA m cu tc rl rb rr ra pc bk cn tl V) (hB : IB m cu rl rb rr ra pc c cn V P S F G g ix tx st lv) (hM : IM m cu tc pc c V P st lv sm tb P2 S2 L2 ix2 g2 O2) (hSl : IS fW ad km kcu ktc krl krb krr kra kpc kbk kc kV kP kS ku K KT KS KL kst klv) (hfb : ∀ j, fb j < 4096) (hF2 : ∀ j, F2 j < 4096) (hG2 : ∀ j, G2 j < 4096) (hf2 : ∀ j, f2 j < 4096) {H : Heap} {locs : List Loc} {ls : Array Slot} (hP : va_P (dC, dI) vwCl (LW cI cZ cS ad fW m cu tc rl rb rr ra pc bk c cn bs tl V P S F G g ix fb tx km kcu ktc krl krb krr kra kpc kbk kc kV kP kS ku m cu rl rb rr ra pc bk c tl im bs2 sm tb P2 S2 L2 tx K KT KS KL ku ix2 g2 F2 G2 O2 f2) H) (hD : va_D AA (LW cI cZ cS ad fW m cu tc rl rb rr ra pc bk c cn bs tl V P S F G g ix fb tx km kcu ktc krl krb krr kra kpc kbk kc kV kP kS ku m cu rl rb rr ra pc bk c tl im bs2 sm tb P2 S2 L2 tx K KT KS KL ku ix2 g2 F2 G2 O2 f2)) (hS : va_S AA ss.heap H locs) (hl : lv_has ls 4 [(0, .ref b0), (1, .ref (ad 0)), (2, .ref (ad 37)), (3, .int (nI i0))]) : W pp l ee room_1 ss mm #[Value.ref b0] bb mt cd H locs 55 56922 Q (F0 mm 1055 ls []) := by
  obtain ⟨CFx, hK, hA0, hZ, hX, hbl, hbA⟩ := id C
  obtain ⟨hex, hby, hml, hown, hts⟩ := id CFx
  obtain ⟨hm1, hm6, hcu, hb1, hbk, hpc, htl, hcn, hrl, hrr, hrb, hra, hVt, hVb⟩ := id hA
  obtain ⟨hPb, hSb, hFb, hGb, hg, hix, htx, hN, hIv, hpg, hLD, hag⟩ := id hB
  obtain ⟨hs0, hs1, hs2, hsm, htb, hT0, hT1, hT2, hP2b, hPP, hS2b, hL2b, hAG, hO2b, hLf, hix2, hg2, hN2⟩ := id hM
  obtain ⟨hku, hW0, hW1, hKb, hKTb, hKSb, hKLb, hsl⟩ := id hSl
  have hV := cuT_VT (cu := cu) hVt
  have hL1 := hLD.1
  have hc := hLD.le hV hm6 hpc
  have hpg2 : ∀ j, j < pc → P2 j % 64 < 2 ^ m ∧ P2 j / 64 < 2 ^ m := fun j hj => by rw [hPP j hj]; exact hpg j hj
  have hsc := cu_sm hs0 hs1 hs2 hcu
  have hTb := cu_Tb hT0 hT1 hT2 hcu
  have h26 := p2_6 hm6
  have h46 := p4_6 hm6
  have hne := rg_ne hV hN hm6 hrl hrr hrb hra
  have htc8 := hVt.2.1
  refine lv_aload_n hex hby dL_law_1055 rfl (lv_at hl 1 rfl) ?_
  refine lv_aload_n hex hby dL_law_1056 rfl (lv_at hl 0 rfl) ?_
  refine lv_iload_n hex hby dL_law_1057 rfl (lv_at hl 3 rfl) ?_
  refine lv_iconst (v := nI 1) hex hby dL_law_1058 rfl ?_
  refine nv_iadd hex hby dL_law_1059 ?_
  refine nv_sld hex hby hX hbl hbA hS (show i0 + 1 < L by omega) (by omega) dL_law_1060 ?_
  refine mx_Ai (q0 := 0) (ci := 9) (As := [.int (xs (i0 + 1))]) (rest := []) CFx (k_X9_save (w := xs (i0 + 1)) (wz := (xs (i0 + 1)).toInt) rfl hku hW0 hW1) 1 gL_law_X9_save rfl nd_X9_save ⟨Nat.le_of_ble_eq_true rfl, Nat.le_of_ble_eq_true rfl⟩ hK hP hD hS hA0 hZ rfl rfl rfl hl.1 rfl (Nat.le_of_ble_eq_true rfl) dL_law_1061 ⟨Nat.le_of_ble_eq_true rfl, Nat.le_of_ble_eq_true rfl⟩ (fun r1 u1 H locs hp1 hP hD hS => ?_)
  obtain ⟨km_1, kcu_1, ktc_1, krl_1, krb_1, krr_1, kra_1, kpc_1, kbk_1, kc_1, kV_1, kP_1, kS_1, ku_1⟩ := u1
  try dsimp only at hp1 hP hD
  refine lv_aload_n hex hby dL_law_1064 rfl (lv_at hl 2 rfl) ?_
  refine lv_aload_n hex hby dL_law_1065 rfl (lv_at hl 0 rfl) ?_
  refine lv_iload_n hex hby dL_law_1066 rfl (lv_at hl 3 rfl) ?_
  refine lv_iconst (v := nI 1) hex hby dL_law_1067 rfl ?_
  refine nv_iadd hex hby dL_law_1068 ?_
  refine nv_sld hex hby hX hbl hbA hS (show i0 + 1 < L by omega) (by omega) dL_law_1069 ?_
  refine mx_Ai (q0 := 37) (ci := 10) (As := [.int (xs (i0 + 1))]) (rest := [.int r1]) CFx (k_X10_save (w := xs (i0 + 1)) (wz := (xs (i0 + 1)).toInt) rfl hsm htb hP2b hpc hS2b hL2b hm6 hcu hbk (by omega) (by omega) (by omega) (by omega) (by omega) hKb hKTb hKSb hKLb hku) 1 gL_law_X10_save rfl nd_X10_save ⟨Nat.le_of_ble_eq_true rfl, Nat.le_of_ble_eq_true rfl⟩ hK hP hD hS hA0 hZ rfl rfl rfl hl.1 rfl (Nat.le_of_ble_eq_true rfl) dL_law_1070 ⟨Nat.le_of_ble_eq_true rfl, Nat.le_of_ble_eq_true rfl⟩ (fun r2 u2 H locs hp2 hP hD hS => ?_)
  obtain ⟨K_2, KT_2, KS_2, KL_2, ik_2⟩ := u2
  try dsimp only at hp2 hP hD
  rcases hp1 with ⟨e1, c1, rfl, rfl, rfl, rfl, rfl, rfl, rfl, rfl, rfl, rfl, rfl, rfl, rfl, rfl⟩ | ⟨e1, c1, rfl, rfl, rfl, rfl, rfl, rfl, rfl, rfl, rfl, rfl, rfl, rfl, rfl, rfl⟩ <;> rcases hp2 with ⟨e2, c2, h1, h2, h3, h4, h5, h6, h7, h8, h9, rfl, b1, b2, b3, b4⟩ | ⟨e2, c2, rfl, rfl, rfl, rfl, rfl⟩
  · have hw2 : (xs (i0 + 1)).toInt.toNat < 2 := by omega
    rw [hs2] at h1
    have hnS : IS fW ad (upN km (xs (i0 + 1)).toInt.toNat m) (upN kcu (xs (i0 + 1)).toInt.toNat cu) (upN ktc (xs (i0 + 1)).toInt.toNat tc) (upN krl (xs (i0 + 1)).toInt.toNat rl) (upN krb (xs (i0 + 1)).toInt.toNat rb) (upN krr (xs (i0 + 1)).toInt.toNat rr) (upN kra (xs (i0 + 1)).toInt.toNat ra) (upN kpc (xs (i0 + 1)).toInt.toNat pc) (upN kbk (xs (i0 + 1)).toInt.toNat bk) (upN kc (xs (i0 + 1)).toInt.toNat c) (upA kV (xs (i0 + 1)).toInt.toNat V) (upA kP (xs (i0 + 1)).toInt.toNat P) (upA kS (xs (i0 + 1)).toInt.toNat S) (upN ku (xs (i0 + 1)).toInt.toNat 1) K_2 KT_2 KS_2 KL_2 (upA kst (xs (i0 + 1)).toInt.toNat st) (upA klv (xs (i0 + 1)).toInt.toNat lv) := by
      refine ⟨upN_lt hku (by omega), hW0, hW1, b1, b2, b3, b4, fun s hs hu => ?_⟩
      by_cases hsw : s = (xs (i0 + 1)).toInt.toNat
      · rw [hsw]
        simp only [upN_s, upA_s]
        exact ⟨⟨hm1, hm6, hcu, hb1, hbk, hpc, hrl, hrr, hrb, hra, hVt, hVb, hPb, hSb, hpg, hLD, hag⟩, SlM.new (sm := sm) (by omega) hpc htc8 hPP hT2 hAG h1 h2 h4 h6 h8⟩
      · simp only [upN_n hsw, upA_n hsw]
        rw [upN_n hsw] at hu
        have z := hsl s hs hu
        obtain ⟨y1, y2, y3, y4, y5, y6, y7, y8, y9, y10, y11, y12, y13, y14, y15, y16, y17⟩ := id z.1
        have y18 := y16.le (cuT_VT y11) y2 y6
        exact ⟨z.1, z.2.frm hsw hs hw2 y6 (by omega) y11.2.1 h3 h5 h7 h9⟩
    have he : r1 = r2 := e1.trans e2.symm
    refine lv_icmp_eq (tgt := 1115) hex hby dL_law_1073 (by decide) (fun _ => ?_) (fun h => absurd he h)
    exact lc_end C ih hA hB hM hnS hfb hF2 hG2 hf2 hP hD hS hl
  · exact absurd c1 c2
  · exact absurd c2 c1
  · have he : r1 = r2 := e1.trans e2.symm
    refine lv_icmp_eq (tgt := 1115) hex hby dL_law_1073 (by decide) (fun _ => ?_) (fun h => absurd he h)
    exact lc_end C ih hA hB hM hSl hfb hF2 hG2 hf2 hP hD hS hl
set_option maxHeartbeats 4000000 in
set_option maxRecDepth 100000 in
theorem lc_restore {pp : Program} {l : Launch} {ee : Env} {ss : State} {mm : MethodId} {b0 : Nat} {bb : List Frame} {mt : Method} {cd : Code} {Q : State → Prop} {AA : Nat → Prop} {dC : Nat → ClassId} {dI : Nat → Nat → Nat} {cI cZ cS : ClassId} {ad : Nat → Nat} {fW : Nat → Option Nat} {tM tH L : Nat} {xs : Nat → Int32} {i0 : Nat} (C : LC pp ss mm b0 cd AA dC dI cI cZ cS tM tH L xs) (hi : i0 + 5 ≤ L) (hL : L ≤ 2560) (ih : LG pp l ee ss mm b0 bb mt cd Q AA dC dI cI cZ cS ad fW (i0 + 5)) {m : Nat} {cu : Nat} {tc : Nat} {rl : Nat} {rb : Nat} {rr : Nat} {ra : Nat} {pc : Nat} {bk : Nat} {c : Nat} {cn : Nat} {bs : Nat} {tl : Nat} {V : Nat → Nat} {P : Nat → Nat} {S : Nat → Nat} {F : Nat → Nat} {G : Nat → Nat} {g : Nat → Nat} {ix : Nat → Nat} {fb : Nat → Nat} {tx : Nat → Nat} {km : Nat → Nat} {kcu : Nat → Nat} {ktc : Nat → Nat} {krl : Nat → Nat} {krb : Nat → Nat} {krr : Nat → Nat} {kra : Nat → Nat} {kpc : Nat → Nat} {kbk : Nat → Nat} {kc : Nat → Nat} {kV : Nat → Nat → Nat} {kP : Nat → Nat → Nat} {kS : Nat → Nat → Nat} {ku : Nat → Nat} {im : Nat} {bs2 : Nat} {sm : Nat → Nat} {tb : Nat → Nat} {P2 : Nat → Nat} {S2 : Nat → Nat} {L2 : Nat → Nat} {K : Nat → Nat} {KT : Nat → Nat} {KS : Nat → Nat} {KL : Nat → Nat} {ix2 : Nat → Nat} {g2 : Nat → Nat} {F2 : Nat → Nat} {G2 : Nat → Nat} {O2 : Nat → Nat} {f2 : Nat → Nat} {st : Nat → Nat} {lv : Nat → Nat} {kst : Nat → Nat → Nat} {klv : Nat → Nat → Nat} (hA : IA m cu tc rl rb rr ra pc bk cn tl V) (hB : IB m cu rl rb rr ra pc c cn V P S F G g ix tx st lv) (hM : IM m cu tc pc c V P st lv sm tb P2 S2 L2 ix2 g2 O2) (hSl : IS fW ad km kcu ktc krl krb krr kra kpc kbk kc kV kP kS ku K KT KS KL kst klv) (hfb : ∀ j, fb j < 4096) (hF2 : ∀ j, F2 j < 4096) (hG2 : ∀ j, G2 j < 4096) (hf2 : ∀ j, f2 j < 4096) {H : Heap} {locs : List Loc} {ls : Array Slot} (hP : va_P (dC, dI) vwCl (LW cI cZ cS ad fW m cu tc rl rb rr ra pc bk c cn bs tl V P S F G g ix fb tx km kcu ktc krl krb krr kra kpc kbk kc kV kP kS ku m cu rl rb rr ra pc bk c tl im bs2 sm tb P2 S2 L2 tx K KT KS KL ku ix2 g2 F2 G2 O2 f2) H) (hD : va_D AA (LW cI cZ cS ad fW m cu tc rl rb rr ra pc bk c cn bs tl V P S F G g ix fb tx km kcu ktc krl krb krr kra kpc kbk kc kV kP kS ku m cu rl rb rr ra pc bk c tl im bs2 sm tb P2 S2 L2 tx K KT KS KL ku ix2 g2 F2 G2 O2 f2)) (hS : va_S AA ss.heap H locs) (hl : lv_has ls 4 [(0, .ref b0), (1, .ref (ad 0)), (2, .ref (ad 37)), (3, .int (nI i0))]) : W pp l ee room_1 ss mm #[Value.ref b0] bb mt cd H locs 55 56922 Q (F0 mm 1078 ls []) := by
  obtain ⟨CFx, hK, hA0, hZ, hX, hbl, hbA⟩ := id C
  obtain ⟨hex, hby, hml, hown, hts⟩ := id CFx
  obtain ⟨hm1, hm6, hcu, hb1, hbk, hpc, htl, hcn, hrl, hrr, hrb, hra, hVt, hVb⟩ := id hA
  obtain ⟨hPb, hSb, hFb, hGb, hg, hix, htx, hN, hIv, hpg, hLD, hag⟩ := id hB
  obtain ⟨hs0, hs1, hs2, hsm, htb, hT0, hT1, hT2, hP2b, hPP, hS2b, hL2b, hAG, hO2b, hLf, hix2, hg2, hN2⟩ := id hM
  obtain ⟨hku, hW0, hW1, hKb, hKTb, hKSb, hKLb, hsl⟩ := id hSl
  have hV := cuT_VT (cu := cu) hVt
  have hL1 := hLD.1
  have hc := hLD.le hV hm6 hpc
  have hpg2 : ∀ j, j < pc → P2 j % 64 < 2 ^ m ∧ P2 j / 64 < 2 ^ m := fun j hj => by rw [hPP j hj]; exact hpg j hj
  have hsc := cu_sm hs0 hs1 hs2 hcu
  have hTb := cu_Tb hT0 hT1 hT2 hcu
  have h26 := p2_6 hm6
  have h46 := p4_6 hm6
  have hne := rg_ne hV hN hm6 hrl hrr hrb hra
  have htc8 := hVt.2.1
  refine lv_aload_n hex hby dL_law_1078 rfl (lv_at hl 1 rfl) ?_
  refine lv_aload_n hex hby dL_law_1079 rfl (lv_at hl 0 rfl) ?_
  refine lv_iload_n hex hby dL_law_1080 rfl (lv_at hl 3 rfl) ?_
  refine lv_iconst (v := nI 1) hex hby dL_law_1081 rfl ?_
  refine nv_iadd hex hby dL_law_1082 ?_
  refine nv_sld hex hby hX hbl hbA hS (show i0 + 1 < L by omega) (by omega) dL_law_1083 ?_
  refine mx_Ai (q0 := 0) (ci := 9) (As := [.int (xs (i0 + 1))]) (rest := []) CFx (k_X9_restore (w := xs (i0 + 1)) (wz := (xs (i0 + 1)).toInt) rfl hku hW0 hW1 hg hix hFb hGb (fun s h1 h2 => by have z := hsl s h1 h2; obtain ⟨⟨y1, y2, y3, y4, y5, y6, y7, y8, y9, y10, y11, y12, y13, y14, y15, y16, y17⟩, x1, x2, x3, x4⟩ := z; have q := p2_6 y2; exact ⟨y1, y2, y3, by omega, by omega, by omega, by omega⟩) (fun s h1 h2 => by have z := hsl s h1 h2; obtain ⟨⟨y1, y2, y3, y4, y5, y6, y7, y8, y9, y10, y11, y12, y13, y14, y15, y16, y17⟩, x1, x2, x3, x4⟩ := z; have q := p2_6 y2; exact y11) (fun s h1 h2 => by have z := hsl s h1 h2; obtain ⟨⟨y1, y2, y3, y4, y5, y6, y7, y8, y9, y10, y11, y12, y13, y14, y15, y16, y17⟩, x1, x2, x3, x4⟩ := z; have q := p2_6 y2; exact y12)) 1 gL_law_X9_restore rfl nd_X9_restore ⟨Nat.le_of_ble_eq_true rfl, Nat.le_of_ble_eq_true rfl⟩ hK hP hD hS hA0 hZ rfl rfl rfl hl.1 rfl (Nat.le_of_ble_eq_true rfl) dL_law_1084 ⟨Nat.le_of_ble_eq_true rfl, Nat.le_of_ble_eq_true rfl⟩ (fun r1 u1 H locs hp1 hP hD hS => ?_)
  obtain ⟨m_1, cu_1, tc_1, rl_1, rb_1, rr_1, ra_1, pc_1, bk_1, c_1, V_1, P_1, S_1, g_1, ix_1, cn_1, F_1, G_1⟩ := u1
  try dsimp only at hp1 hP hD
  refine lv_aload_n hex hby dL_law_1087 rfl (lv_at hl 2 rfl) ?_
  refine lv_aload_n hex hby dL_law_1088 rfl (lv_at hl 0 rfl) ?_
  refine lv_iload_n hex hby dL_law_1089 rfl (lv_at hl 3 rfl) ?_
  refine lv_iconst (v := nI 1) hex hby dL_law_1090 rfl ?_
  refine nv_iadd hex hby dL_law_1091 ?_
  refine nv_sld hex hby hX hbl hbA hS (show i0 + 1 < L by omega) (by omega) dL_law_1092 ?_
  refine mx_Ai (q0 := 37) (ci := 10) (As := [.int (xs (i0 + 1))]) (rest := [.int r1]) CFx (k_X10_restore (w := xs (i0 + 1)) (wz := (xs (i0 + 1)).toInt) (kst := kst) (klv := klv) rfl hsm htb hP2b hpc hix2 hg2 hS2b hL2b hO2b hKb hKTb hKSb hKLb hku (fun s h1 h2 => by have z := hsl s h1 h2; obtain ⟨⟨y1, y2, y3, y4, y5, y6, y7, y8, y9, y10, y11, y12, y13, y14, y15, y16, y17⟩, x1, x2, x3, x4⟩ := z; have q := p2_6 y2; exact x1) (fun s h1 h2 => by have z := hsl s h1 h2; obtain ⟨⟨y1, y2, y3, y4, y5, y6, y7, y8, y9, y10, y11, y12, y13, y14, y15, y16, y17⟩, x1, x2, x3, x4⟩ := z; have q := p2_6 y2; exact x2) (fun s h1 h2 => by have z := hsl s h1 h2; obtain ⟨⟨y1, y2, y3, y4, y5, y6, y7, y8, y9, y10, y11, y12, y13, y14, y15, y16, y17⟩, x1, x2, x3, x4⟩ := z; have q := p2_6 y2; exact ⟨y1, y2, y3, y6, y5⟩) (fun s h1 h2 => by have z := hsl s h1 h2; obtain ⟨⟨y1, y2, y3, y4, y5, y6, y7, y8, y9, y10, y11, y12, y13, y14, y15, y16, y17⟩, x1, x2, x3, x4⟩ := z; have q := p2_6 y2; exact y11) (fun s h1 h2 => by have z := hsl s h1 h2; obtain ⟨⟨y1, y2, y3, y4, y5, y6, y7, y8, y9, y10, y11, y12, y13, y14, y15, y16, y17⟩, x1, x2, x3, x4⟩ := z; have q := p2_6 y2; exact x3) (fun s h1 h2 => by have z := hsl s h1 h2; obtain ⟨⟨y1, y2, y3, y4, y5, y6, y7, y8, y9, y10, y11, y12, y13, y14, y15, y16, y17⟩, x1, x2, x3, x4⟩ := z; have q := p2_6 y2; exact y16.1) (fun s h1 h2 => by have z := hsl s h1 h2; obtain ⟨⟨y1, y2, y3, y4, y5, y6, y7, y8, y9, y10, y11, y12, y13, y14, y15, y16, y17⟩, x1, x2, x3, x4⟩ := z; have q := p2_6 y2; exact x4) hT0 hT1) 1 gL_law_X10_restore rfl nd_X10_restore ⟨Nat.le_of_ble_eq_true rfl, Nat.le_of_ble_eq_true rfl⟩ hK hP hD hS hA0 hZ rfl rfl rfl hl.1 rfl (Nat.le_of_ble_eq_true rfl) dL_law_1093 ⟨Nat.le_of_ble_eq_true rfl, Nat.le_of_ble_eq_true rfl⟩ (fun r2 u2 H locs hp2 hP hD hS => ?_)
  obtain ⟨m_2, cu_2, rl_2, rb_2, rr_2, ra_2, pc_2, bk_2, sm_2, tb_2, P_2, ix_2, g_2, c_2, S_2, L_2, O_2⟩ := u2
  try dsimp only at hp2 hP hD
  rcases hp1 with ⟨e1, c1, u1_, rfl, rfl, rfl, rfl, rfl, rfl, rfl, rfl, rfl, rfl, rfl, rfl, rfl, n1, n2, n3, i1, i2, i3, i4⟩ | ⟨e1, c1, rfl, rfl, rfl, rfl, rfl, rfl, rfl, rfl, rfl, rfl, rfl, rfl, rfl, rfl, rfl, rfl, rfl, rfl⟩ | ⟨e1, c1, u1_, rfl, rfl, rfl, rfl, rfl, rfl, rfl, rfl, rfl, rfl, rfl, rfl, rfl, rfl, rfl, rfl, rfl, rfl⟩ <;> rcases hp2 with ⟨e2, c2, u2_, rfl, rfl, rfl, rfl, rfl, rfl, rfl, rfl, rfl, rfl, a1, a2, a3, a4, a5, a6, a7, a8, a9, a10, a11, a12, a13, a14, a15⟩ | ⟨e2, c2, rfl, rfl, rfl, rfl, rfl, rfl, rfl, rfl, rfl, rfl, rfl, rfl, rfl, rfl, rfl, rfl, rfl⟩ | ⟨e2, c2, u2_, rfl, rfl, rfl, rfl, rfl, rfl, rfl, rfl, rfl, rfl, rfl, rfl, rfl, rfl, rfl, rfl, rfl⟩
  · obtain ⟨⟨y1, y2, y3, y4, y5, y6, y7, y8, y9, y10, y11, y12, y13, y14, y15, y16, y17⟩, x1, x2, x3, x4⟩ := hsl _ (by omega) u1_
    have he : r1 = r2 := e1.trans e2.symm
    refine lv_icmp_eq (tgt := 1115) hex hby dL_law_1096 (by decide) (fun _ => ?_) (fun h => absurd he h)
    exact lc_end C ih ⟨y1, y2, y3, y4, y5, y6, htl, i2, y7, y8, y9, y10, y11, y12⟩ ⟨y13, y14, i3, i4, n2, n3, htx, n1, i1, y15, y16, y17⟩ ⟨(by rw [upN_n (by omega)]; exact hs0), (by rw [upN_n (by omega)]; exact hs1), upN_s _ _ _, a1, a2, a3, a4, a5, a6, a7, a13, a14, a11, a15, a12, a10, a9, a8⟩ hSl hfb hF2 hG2 hf2 hP hD hS hl
  · exact absurd c1 c2
  · exact absurd u1_ (by omega)
  · exact absurd c2 c1
  · have he : r1 = r2 := e1.trans e2.symm
    refine lv_icmp_eq (tgt := 1115) hex hby dL_law_1096 (by decide) (fun _ => ?_) (fun h => absurd he h)
    exact lc_end C ih hA hB hM hSl hfb hF2 hG2 hf2 hP hD hS hl
  · exact absurd c2 c1
  · exact absurd u2_ (by omega)
  · exact absurd c1 c2
  · have he : r1 = r2 := e1.trans e2.symm
    refine lv_icmp_eq (tgt := 1115) hex hby dL_law_1096 (by decide) (fun _ => ?_) (fun h => absurd he h)
    exact lc_end C ih hA hB hM hSl hfb hF2 hG2 hf2 hP hD hS hl
