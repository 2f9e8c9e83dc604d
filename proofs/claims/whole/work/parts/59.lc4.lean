set_option maxHeartbeats 4000000 in
set_option maxRecDepth 100000 in
theorem lc_setLevels {pp : Program} {l : Launch} {ee : Env} {ss : State} {mm : MethodId} {b0 : Nat} {bb : List Frame} {mt : Method} {cd : Code} {Q : State → Prop} {AA : Nat → Prop} {dC : Nat → ClassId} {dI : Nat → Nat → Nat} {cI cZ cS : ClassId} {ad : Nat → Nat} {fW : Nat → Option Nat} {tM tH L : Nat} {xs : Nat → Int32} {i0 : Nat} (C : LC pp ss mm b0 cd AA dC dI cI cZ cS tM tH L xs) (hi : i0 + 5 ≤ L) (hL : L ≤ 2560) (ih : LG pp l ee ss mm b0 bb mt cd Q AA dC dI cI cZ cS ad fW (i0 + 5)) {m : Nat} {cu : Nat} {tc : Nat} {rl : Nat} {rb : Nat} {rr : Nat} {ra : Nat} {pc : Nat} {bk : Nat} {c : Nat} {cn : Nat} {bs : Nat} {tl : Nat} {V : Nat → Nat} {P : Nat → Nat} {S : Nat → Nat} {F : Nat → Nat} {G : Nat → Nat} {g : Nat → Nat} {ix : Nat → Nat} {fb : Nat → Nat} {tx : Nat → Nat} {km : Nat → Nat} {kcu : Nat → Nat} {ktc : Nat → Nat} {krl : Nat → Nat} {krb : Nat → Nat} {krr : Nat → Nat} {kra : Nat → Nat} {kpc : Nat → Nat} {kbk : Nat → Nat} {kc : Nat → Nat} {kV : Nat → Nat → Nat} {kP : Nat → Nat → Nat} {kS : Nat → Nat → Nat} {ku : Nat → Nat} {im : Nat} {bs2 : Nat} {sm : Nat → Nat} {tb : Nat → Nat} {P2 : Nat → Nat} {S2 : Nat → Nat} {L2 : Nat → Nat} {K : Nat → Nat} {KT : Nat → Nat} {KS : Nat → Nat} {KL : Nat → Nat} {ix2 : Nat → Nat} {g2 : Nat → Nat} {F2 : Nat → Nat} {G2 : Nat → Nat} {O2 : Nat → Nat} {f2 : Nat → Nat} {st : Nat → Nat} {lv : Nat → Nat} {kst : Nat → Nat → Nat} {klv : Nat → Nat → Nat} (hA : IA m cu tc rl rb rr ra pc bk cn tl V) (hB : IB m cu rl rb rr ra pc c cn V P S F G g ix tx st lv) (hM : IM m cu tc pc c V P st lv sm tb P2 S2 L2 ix2 g2 O2) (hSl : IS fW ad km kcu ktc krl krb krr kra kpc kbk kc kV kP kS ku K KT KS KL kst klv) (hfb : ∀ j, fb j < 4096) (hF2 : ∀ j, F2 j < 4096) (hG2 : ∀ j, G2 j < 4096) (hf2 : ∀ j, f2 j < 4096) {H : Heap} {locs : List Loc} {ls : Array Slot} (hP : va_P (dC, dI) vwCl (LW cI cZ cS ad fW m cu tc rl rb rr ra pc bk c cn bs tl V P S F G g ix fb tx km kcu ktc krl krb krr kra kpc kbk kc kV kP kS ku m cu rl rb rr ra pc bk c tl im bs2 sm tb P2 S2 L2 tx K KT KS KL ku ix2 g2 F2 G2 O2 f2) H) (hD : va_D AA (LW cI cZ cS ad fW m cu tc rl rb rr ra pc bk c cn bs tl V P S F G g ix fb tx km kcu ktc krl krb krr kra kpc kbk kc kV kP kS ku m cu rl rb rr ra pc bk c tl im bs2 sm tb P2 S2 L2 tx K KT KS KL ku ix2 g2 F2 G2 O2 f2)) (hS : va_S AA ss.heap H locs) (hl : lv_has ls 4 [(0, .ref b0), (1, .ref (ad 0)), (2, .ref (ad 37)), (3, .int (nI i0))]) : W pp l ee room_1 ss mm #[Value.ref b0] bb mt cd H locs 55 56922 Q (F0 mm 184 ls []) := by
  obtain ⟨CFx, hK, hA0, hZ, hX, hbl, hbA⟩ := id C
  obtain ⟨hex, hby, hml, hown, hts⟩ := id CFx
  obtain ⟨hm1, hm6, hcu, hb1, hbk, hpc, htl, hcn, hrl, hrr, hrb, hra, hVt, hVb⟩ := id hA
  obtain ⟨hPb, hSb, hFb, hGb, hg, hix, htx, hN, hIv, hpg, hLD, hag⟩ := id hB
  obtain ⟨hs0, hs1, hs2, hsm, htb, hT0, hT1, hT2, hP2b, hPP, hS2b, hL2b, hAG, hO2b, hLf, hix2, hg2, hN2⟩ := id hM
  obtain ⟨hku, hW0, hW1, hKb, hKTb, hKSb, hKLb, hsl⟩ := id hSl
  have hV := cuT_VT (cu := cu) hVt
  have hL1 := hLD.1
  have hc := hLD.le hV hm6 hpc
  have hpg2 : ∀ j, j < pc → P2 j % 64 < 2 ^ m ∧ P2 j / 64 < 2 ^ m := fun j hj => by rw [hPP j hj]; exact hpg j hj
  have hsc := cu_sm hs0 hs1 hs2 hcu
  have hTb := cu_Tb hT0 hT1 hT2 hcu
  have h26 := p2_6 hm6
  have h46 := p4_6 hm6
  have hne := rg_ne hV hN hm6 hrl hrr hrb hra
  have htc8 := hVt.2.1
  refine lv_aload_n hex hby dL_law_184 rfl (lv_at hl 1 rfl) ?_
  refine lv_aload_n hex hby dL_law_185 rfl (lv_at hl 0 rfl) ?_
  refine lv_iload_n hex hby dL_law_186 rfl (lv_at hl 3 rfl) ?_
  refine lv_iconst (v := nI 1) hex hby dL_law_187 rfl ?_
  refine nv_iadd hex hby dL_law_188 ?_
  refine nv_sld hex hby hX hbl hbA hS (show i0 + 1 < L by omega) (by omega) dL_law_189 ?_
  refine mx_Ai (q0 := 0) (ci := 9) (As := [.int (xs (i0 + 1))]) (rest := []) CFx (k_X9_setLevels (w := xs (i0 + 1)) (wz := (xs (i0 + 1)).toInt) rfl hSb hPb hpc hix hg hFb hGb hcu hVt hVb hb1 hbk hm6) 1 gL_law_X9_setLevels rfl nd_X9_setLevels ⟨Nat.le_of_ble_eq_true rfl, Nat.le_of_ble_eq_true rfl⟩ hK hP hD hS hA0 hZ rfl rfl rfl hl.1 rfl (Nat.le_of_ble_eq_true rfl) dL_law_190 ⟨Nat.le_of_ble_eq_true rfl, Nat.le_of_ble_eq_true rfl⟩ (fun r1 u1 H locs hp1 hP hD hS => ?_)
  obtain ⟨m_1, rl_1, rb_1, rr_1, ra_1, pc_1, g_1, ix_1, cn_1, F_1, G_1, c_1, S_1⟩ := u1
  try dsimp only at hp1 hP hD
  refine lv_aload_n hex hby dL_law_193 rfl (lv_at hl 2 rfl) ?_
  refine lv_aload_n hex hby dL_law_194 rfl (lv_at hl 0 rfl) ?_
  refine lv_iload_n hex hby dL_law_195 rfl (lv_at hl 3 rfl) ?_
  refine lv_iconst (v := nI 1) hex hby dL_law_196 rfl ?_
  refine nv_iadd hex hby dL_law_197 ?_
  refine nv_sld hex hby hX hbl hbA hS (show i0 + 1 < L by omega) (by omega) dL_law_198 ?_
  refine mx_Ai (q0 := 37) (ci := 10) (As := [.int (xs (i0 + 1))]) (rest := [.int r1]) CFx (k_X10_setLevels (w := xs (i0 + 1)) (wz := (xs (i0 + 1)).toInt) (T := cuT cu V) (ns := cuN cu tc) rfl htb hP2b hpc hix2 hg2 hS2b hL2b hO2b hbk hcu hV hTb hm6) 1 gL_law_X10_setLevels rfl nd_X10_setLevels ⟨Nat.le_of_ble_eq_true rfl, Nat.le_of_ble_eq_true rfl⟩ hK hP hD hS hA0 hZ rfl rfl rfl hl.1 rfl (Nat.le_of_ble_eq_true rfl) dL_law_199 ⟨Nat.le_of_ble_eq_true rfl, Nat.le_of_ble_eq_true rfl⟩ (fun r2 u2 H locs hp2 hP hD hS => ?_)
  obtain ⟨m_2, rl_2, rb_2, rr_2, ra_2, pc_2, ix_2, g_2, c_2, S_2, L_2, O_2⟩ := u2
  try dsimp only at hp2 hP hD
  rcases hp1 with ⟨s1, l1, e1, c1, rfl, rfl, rfl, rfl, rfl, rfl, n1, n2, n3, i1, i2, i3, i4, d1, d2, d3, d4⟩ | ⟨e1, c1, rfl, rfl, rfl, rfl, rfl, rfl, rfl, rfl, rfl, rfl, rfl, rfl, rfl⟩ <;> rcases hp2 with ⟨s2, l2, e2, c2, rfl, rfl, rfl, rfl, rfl, rfl, y1, y2, y3, q1, q2, q3, q4, q5, q6⟩ | ⟨e2, c2, rfl, rfl, rfl, rfl, rfl, rfl, rfl, rfl, rfl, rfl, rfl, rfl⟩
  · obtain ⟨rfl, ga, gl⟩ := AG.div d1 q1 (fun i hi => absurd hi (by omega)) q2 q3
    have p1 := p2_pos (xs (i0 + 1)).toInt.toNat
    have he : r1 = r2 := e1.trans e2.symm
    refine lv_icmp_eq (tgt := 1115) hex hby dL_law_202 (by decide) (fun _ => ?_) (fun h => absurd he h)
    exact lc_end C ih ⟨by omega, by omega, hcu, hb1, hbk, by omega, htl, i2, Nat.zero_le _, by omega, Nat.zero_le _, by omega, hVt, hVb⟩ ⟨hPb, d4, i3, i4, n2, n3, htx, n1, i1, fun j hj => absurd hj (by omega), d2, d3⟩ ⟨hs0, hs1, hs2, hsm, htb, hT0, hT1, hT2, hP2b, fun j hj => absurd hj (by omega), q4, q5, ga, q6, gl, y3, y2, y1⟩ hSl hfb hF2 hG2 hf2 hP hD hS hl
  · exact absurd c1 c2
  · exact absurd c2 c1
  · have he : r1 = r2 := e1.trans e2.symm
    refine lv_icmp_eq (tgt := 1115) hex hby dL_law_202 (by decide) (fun _ => ?_) (fun h => absurd he h)
    exact lc_end C ih hA hB hM hSl hfb hF2 hG2 hf2 hP hD hS hl
set_option maxHeartbeats 4000000 in
set_option maxRecDepth 100000 in
theorem lc_setCurve {pp : Program} {l : Launch} {ee : Env} {ss : State} {mm : MethodId} {b0 : Nat} {bb : List Frame} {mt : Method} {cd : Code} {Q : State → Prop} {AA : Nat → Prop} {dC : Nat → ClassId} {dI : Nat → Nat → Nat} {cI cZ cS : ClassId} {ad : Nat → Nat} {fW : Nat → Option Nat} {tM tH L : Nat} {xs : Nat → Int32} {i0 : Nat} (C : LC pp ss mm b0 cd AA dC dI cI cZ cS tM tH L xs) (hi : i0 + 5 ≤ L) (hL : L ≤ 2560) (ih : LG pp l ee ss mm b0 bb mt cd Q AA dC dI cI cZ cS ad fW (i0 + 5)) {m : Nat} {cu : Nat} {tc : Nat} {rl : Nat} {rb : Nat} {rr : Nat} {ra : Nat} {pc : Nat} {bk : Nat} {c : Nat} {cn : Nat} {bs : Nat} {tl : Nat} {V : Nat → Nat} {P : Nat → Nat} {S : Nat → Nat} {F : Nat → Nat} {G : Nat → Nat} {g : Nat → Nat} {ix : Nat → Nat} {fb : Nat → Nat} {tx : Nat → Nat} {km : Nat → Nat} {kcu : Nat → Nat} {ktc : Nat → Nat} {krl : Nat → Nat} {krb : Nat → Nat} {krr : Nat → Nat} {kra : Nat → Nat} {kpc : Nat → Nat} {kbk : Nat → Nat} {kc : Nat → Nat} {kV : Nat → Nat → Nat} {kP : Nat → Nat → Nat} {kS : Nat → Nat → Nat} {ku : Nat → Nat} {im : Nat} {bs2 : Nat} {sm : Nat → Nat} {tb : Nat → Nat} {P2 : Nat → Nat} {S2 : Nat → Nat} {L2 : Nat → Nat} {K : Nat → Nat} {KT : Nat → Nat} {KS : Nat → Nat} {KL : Nat → Nat} {ix2 : Nat → Nat} {g2 : Nat → Nat} {F2 : Nat → Nat} {G2 : Nat → Nat} {O2 : Nat → Nat} {f2 : Nat → Nat} {st : Nat → Nat} {lv : Nat → Nat} {kst : Nat → Nat → Nat} {klv : Nat → Nat → Nat} (hA : IA m cu tc rl rb rr ra pc bk cn tl V) (hB : IB m cu rl rb rr ra pc c cn V P S F G g ix tx st lv) (hM : IM m cu tc pc c V P st lv sm tb P2 S2 L2 ix2 g2 O2) (hSl : IS fW ad km kcu ktc krl krb krr kra kpc kbk kc kV kP kS ku K KT KS KL kst klv) (hfb : ∀ j, fb j < 4096) (hF2 : ∀ j, F2 j < 4096) (hG2 : ∀ j, G2 j < 4096) (hf2 : ∀ j, f2 j < 4096) {H : Heap} {locs : List Loc} {ls : Array Slot} (hP : va_P (dC, dI) vwCl (LW cI cZ cS ad fW m cu tc rl rb rr ra pc bk c cn bs tl V P S F G g ix fb tx km kcu ktc krl krb krr kra kpc kbk kc kV kP kS ku m cu rl rb rr ra pc bk c tl im bs2 sm tb P2 S2 L2 tx K KT KS KL ku ix2 g2 F2 G2 O2 f2) H) (hD : va_D AA (LW cI cZ cS ad fW m cu tc rl rb rr ra pc bk c cn bs tl V P S F G g ix fb tx km kcu ktc krl krb krr kra kpc kbk kc kV kP kS ku m cu rl rb rr ra pc bk c tl im bs2 sm tb P2 S2 L2 tx K KT KS KL ku ix2 g2 F2 G2 O2 f2)) (hS : va_S AA ss.heap H locs) (hl : lv_has ls 4 [(0, .ref b0), (1, .ref (ad 0)), (2, .ref (ad 37)), (3, .int (nI i0))]) : W pp l ee room_1 ss mm #[Value.ref b0] bb mt cd H locs 55 56922 Q (F0 mm 207 ls []) := by
  obtain ⟨CFx, hK, hA0, hZ, hX, hbl, hbA⟩ := id C
  obtain ⟨hex, hby, hml, hown, hts⟩ := id CFx
  obtain ⟨hm1, hm6, hcu, hb1, hbk, hpc, htl, hcn, hrl, hrr, hrb, hra, hVt, hVb⟩ := id hA
  obtain ⟨hPb, hSb, hFb, hGb, hg, hix, htx, hN, hIv, hpg, hLD, hag⟩ := id hB
  obtain ⟨hs0, hs1, hs2, hsm, htb, hT0, hT1, hT2, hP2b, hPP, hS2b, hL2b, hAG, hO2b, hLf, hix2, hg2, hN2⟩ := id hM
  obtain ⟨hku, hW0, hW1, hKb, hKTb, hKSb, hKLb, hsl⟩ := id hSl
  have hV := cuT_VT (cu := cu) hVt
  have hL1 := hLD.1
  have hc := hLD.le hV hm6 hpc
  have hpg2 : ∀ j, j < pc → P2 j % 64 < 2 ^ m ∧ P2 j / 64 < 2 ^ m := fun j hj => by rw [hPP j hj]; exact hpg j hj
  have hsc := cu_sm hs0 hs1 hs2 hcu
  have hTb := cu_Tb hT0 hT1 hT2 hcu
  have h26 := p2_6 hm6
  have h46 := p4_6 hm6
  have hne := rg_ne hV hN hm6 hrl hrr hrb hra
  have htc8 := hVt.2.1
  refine lv_aload_n hex hby dL_law_207 rfl (lv_at hl 1 rfl) ?_
  refine lv_aload_n hex hby dL_law_208 rfl (lv_at hl 0 rfl) ?_
  refine lv_iload_n hex hby dL_law_209 rfl (lv_at hl 3 rfl) ?_
  refine lv_iconst (v := nI 1) hex hby dL_law_210 rfl ?_
  refine nv_iadd hex hby dL_law_211 ?_
  refine nv_sld hex hby hX hbl hbA hS (show i0 + 1 < L by omega) (by omega) dL_law_212 ?_
  refine mx_Ai (q0 := 0) (ci := 9) (As := [.int (xs (i0 + 1))]) (rest := []) CFx (k_X9_setCurve (w := xs (i0 + 1)) (wz := (xs (i0 + 1)).toInt) rfl hSb hPb hpc hix hg hFb hGb hcu hVt hVb hb1 hbk hm1 hm6 hpg (by omega) (by omega) (by omega) (by omega)) 1 gL_law_X9_setCurve rfl nd_X9_setCurve ⟨Nat.le_of_ble_eq_true rfl, Nat.le_of_ble_eq_true rfl⟩ hK hP hD hS hA0 hZ rfl rfl rfl hl.1 rfl (Nat.le_of_ble_eq_true rfl) dL_law_213 ⟨Nat.le_of_ble_eq_true rfl, Nat.le_of_ble_eq_true rfl⟩ (fun r1 u1 H locs hp1 hP hD hS => ?_)
  obtain ⟨cu_1, g_1, ix_1, cn_1, F_1, G_1, c_1, S_1⟩ := u1
  try dsimp only at hp1 hP hD
  refine lv_aload_n hex hby dL_law_216 rfl (lv_at hl 2 rfl) ?_
  refine lv_aload_n hex hby dL_law_217 rfl (lv_at hl 0 rfl) ?_
  refine lv_iload_n hex hby dL_law_218 rfl (lv_at hl 3 rfl) ?_
  refine lv_iconst (v := nI 1) hex hby dL_law_219 rfl ?_
  refine nv_iadd hex hby dL_law_220 ?_
  refine nv_sld hex hby hX hbl hbA hS (show i0 + 1 < L by omega) (by omega) dL_law_221 ?_
  refine mx_Ai (q0 := 37) (ci := 10) (As := [.int (xs (i0 + 1))]) (rest := [.int r1]) CFx (k_X10_setCurve (w := xs (i0 + 1)) (wz := (xs (i0 + 1)).toInt) rfl htb hP2b hpc hix2 hg2 hS2b hL2b hO2b hbk hcu hm1 hm6 hpg2 hT0 hT1 hT2 hVt) 1 gL_law_X10_setCurve rfl nd_X10_setCurve ⟨Nat.le_of_ble_eq_true rfl, Nat.le_of_ble_eq_true rfl⟩ hK hP hD hS hA0 hZ rfl rfl rfl hl.1 rfl (Nat.le_of_ble_eq_true rfl) dL_law_222 ⟨Nat.le_of_ble_eq_true rfl, Nat.le_of_ble_eq_true rfl⟩ (fun r2 u2 H locs hp2 hP hD hS => ?_)
  obtain ⟨cu_2, ix_2, g_2, c_2, S_2, L_2, O_2⟩ := u2
  try dsimp only at hp2 hP hD
  rcases hp1 with ⟨s1, l1, e1, c1, rfl, n1, n2, n3, i1, i2, i3, i4, d1, d2, d3, d4⟩ | ⟨e1, c1, rfl, rfl, rfl, rfl, rfl, rfl, rfl, rfl⟩ <;> rcases hp2 with ⟨s2, l2, e2, c2, rfl, y1, y2, y3, q1, q2, q3, q4, q5, q6⟩ | ⟨e2, c2, rfl, rfl, rfl, rfl, rfl, rfl, rfl⟩
  · obtain ⟨rfl, ga, gl⟩ := AG.div d1 q1 (ptv_eq hPP) q2 q3
    have he : r1 = r2 := e1.trans e2.symm
    refine lv_icmp_eq (tgt := 1115) hex hby dL_law_225 (by decide) (fun _ => ?_) (fun h => absurd he h)
    exact lc_end C ih ⟨hm1, hm6, by omega, hb1, hbk, hpc, htl, i2, hrl, hrr, hrb, hra, hVt, hVb⟩ ⟨hPb, d4, i3, i4, n2, n3, htx, n1, i1, hpg, d2, d3⟩ ⟨hs0, hs1, hs2, hsm, htb, hT0, hT1, hT2, hP2b, hPP, q4, q5, ga, q6, gl, y3, y2, y1⟩ hSl hfb hF2 hG2 hf2 hP hD hS hl
  · exact absurd c1 c2
  · exact absurd c2 c1
  · have he : r1 = r2 := e1.trans e2.symm
    refine lv_icmp_eq (tgt := 1115) hex hby dL_law_225 (by decide) (fun _ => ?_) (fun h => absurd he h)
    exact lc_end C ih hA hB hM hSl hfb hF2 hG2 hf2 hP hD hS hl
set_option maxHeartbeats 4000000 in
set_option maxRecDepth 100000 in
theorem lc_read {pp : Program} {l : Launch} {ee : Env} {ss : State} {mm : MethodId} {b0 : Nat} {bb : List Frame} {mt : Method} {cd : Code} {Q : State → Prop} {AA : Nat → Prop} {dC : Nat → ClassId} {dI : Nat → Nat → Nat} {cI cZ cS : ClassId} {ad : Nat → Nat} {fW : Nat → Option Nat} {tM tH L : Nat} {xs : Nat → Int32} {i0 : Nat} (C : LC pp ss mm b0 cd AA dC dI cI cZ cS tM tH L xs) (hi : i0 + 5 ≤ L) (hL : L ≤ 2560) (ih : LG pp l ee ss mm b0 bb mt cd Q AA dC dI cI cZ cS ad fW (i0 + 5)) {m : Nat} {cu : Nat} {tc : Nat} {rl : Nat} {rb : Nat} {rr : Nat} {ra : Nat} {pc : Nat} {bk : Nat} {c : Nat} {cn : Nat} {bs : Nat} {tl : Nat} {V : Nat → Nat} {P : Nat → Nat} {S : Nat → Nat} {F : Nat → Nat} {G : Nat → Nat} {g : Nat → Nat} {ix : Nat → Nat} {fb : Nat → Nat} {tx : Nat → Nat} {km : Nat → Nat} {kcu : Nat → Nat} {ktc : Nat → Nat} {krl : Nat → Nat} {krb : Nat → Nat} {krr : Nat → Nat} {kra : Nat → Nat} {kpc : Nat → Nat} {kbk : Nat → Nat} {kc : Nat → Nat} {kV : Nat → Nat → Nat} {kP : Nat → Nat → Nat} {kS : Nat → Nat → Nat} {ku : Nat → Nat} {im : Nat} {bs2 : Nat} {sm : Nat → Nat} {tb : Nat → Nat} {P2 : Nat → Nat} {S2 : Nat → Nat} {L2 : Nat → Nat} {K : Nat → Nat} {KT : Nat → Nat} {KS : Nat → Nat} {KL : Nat → Nat} {ix2 : Nat → Nat} {g2 : Nat → Nat} {F2 : Nat → Nat} {G2 : Nat → Nat} {O2 : Nat → Nat} {f2 : Nat → Nat} {st : Nat → Nat} {lv : Nat → Nat} {kst : Nat → Nat → Nat} {klv : Nat → Nat → Nat} (hA : IA m cu tc rl rb rr ra pc bk cn tl V) (hB : IB m cu rl rb rr ra pc c cn V P S F G g ix tx st lv) (hM : IM m cu tc pc c V P st lv sm tb P2 S2 L2 ix2 g2 O2) (hSl : IS fW ad km kcu ktc krl krb krr kra kpc kbk kc kV kP kS ku K KT KS KL kst klv) (hfb : ∀ j, fb j < 4096) (hF2 : ∀ j, F2 j < 4096) (hG2 : ∀ j, G2 j < 4096) (hf2 : ∀ j, f2 j < 4096) {H : Heap} {locs : List Loc} {ls : Array Slot} (hP : va_P (dC, dI) vwCl (LW cI cZ cS ad fW m cu tc rl rb rr ra pc bk c cn bs tl V P S F G g ix fb tx km kcu ktc krl krb krr kra kpc kbk kc kV kP kS ku m cu rl rb rr ra pc bk c tl im bs2 sm tb P2 S2 L2 tx K KT KS KL ku ix2 g2 F2 G2 O2 f2) H) (hD : va_D AA (LW cI cZ cS ad fW m cu tc rl rb rr ra pc bk c cn bs tl V P S F G g ix fb tx km kcu ktc krl krb krr kra kpc kbk kc kV kP kS ku m cu rl rb rr ra pc bk c tl im bs2 sm tb P2 S2 L2 tx K KT KS KL ku ix2 g2 F2 G2 O2 f2)) (hS : va_S AA ss.heap H locs) (hl : lv_has ls 4 [(0, .ref b0), (1, .ref (ad 0)), (2, .ref (ad 37)), (3, .int (nI i0))]) : W pp l ee room_1 ss mm #[Value.ref b0] bb mt cd H locs 55 56922 Q (F0 mm 433 ls []) := by
  obtain ⟨CFx, hK, hA0, hZ, hX, hbl, hbA⟩ := id C
  obtain ⟨hex, hby, hml, hown, hts⟩ := id CFx
  obtain ⟨hm1, hm6, hcu, hb1, hbk, hpc, htl, hcn, hrl, hrr, hrb, hra, hVt, hVb⟩ := id hA
  obtain ⟨hPb, hSb, hFb, hGb, hg, hix, htx, hN, hIv, hpg, hLD, hag⟩ := id hB
  obtain ⟨hs0, hs1, hs2, hsm, htb, hT0, hT1, hT2, hP2b, hPP, hS2b, hL2b, hAG, hO2b, hLf, hix2, hg2, hN2⟩ := id hM
  obtain ⟨hku, hW0, hW1, hKb, hKTb, hKSb, hKLb, hsl⟩ := id hSl
  have hV := cuT_VT (cu := cu) hVt
  have hL1 := hLD.1
  have hc := hLD.le hV hm6 hpc
  have hpg2 : ∀ j, j < pc → P2 j % 64 < 2 ^ m ∧ P2 j / 64 < 2 ^ m := fun j hj => by rw [hPP j hj]; exact hpg j hj
  have hsc := cu_sm hs0 hs1 hs2 hcu
  have hTb := cu_Tb hT0 hT1 hT2 hcu
  have h26 := p2_6 hm6
  have h46 := p4_6 hm6
  have hne := rg_ne hV hN hm6 hrl hrr hrb hra
  have htc8 := hVt.2.1
  refine lv_aload_n hex hby dL_law_433 rfl (lv_at hl 1 rfl) ?_
  refine mx_Ai (q0 := 0) (ci := 9) (As := []) (rest := []) CFx (k_X9_read  htx htl hSb hPb hpc hix hg hFb hGb hVb hb1 hbk hm1 hm6 hpg (by omega) (by omega) (by omega) (by omega)) 0 gL_law_X9_read rfl nd_X9_read ⟨Nat.le_of_ble_eq_true rfl, Nat.le_of_ble_eq_true rfl⟩ hK hP hD hS hA0 hZ rfl rfl rfl hl.1 rfl (Nat.le_of_ble_eq_true rfl) dL_law_434 ⟨Nat.le_of_ble_eq_true rfl, Nat.le_of_ble_eq_true rfl⟩ (fun r1 u1 H locs hp1 hP hD hS => ?_)
  obtain ⟨cu_1, tc_1, V_1, g_1, ix_1, cn_1, F_1, G_1, c_1, S_1⟩ := u1
  try dsimp only at hp1 hP hD
  refine lv_aload_n hex hby dL_law_437 rfl (lv_at hl 2 rfl) ?_
  refine mx_Ai (q0 := 37) (ci := 10) (As := []) (rest := [.int r1]) CFx (k_X10_read  hsm htb htx htl hP2b hpc hix2 hg2 hS2b hL2b hO2b hm1 hm6 hbk) 0 gL_law_X10_read rfl nd_X10_read ⟨Nat.le_of_ble_eq_true rfl, Nat.le_of_ble_eq_true rfl⟩ hK hP hD hS hA0 hZ rfl rfl rfl hl.1 rfl (Nat.le_of_ble_eq_true rfl) dL_law_438 ⟨Nat.le_of_ble_eq_true rfl, Nat.le_of_ble_eq_true rfl⟩ (fun r2 u2 H locs hp2 hP hD hS => ?_)
  obtain ⟨cu_2, tb_2, sm_2, ix_2, g_2, c_2, S_2, L_2, O_2⟩ := u2
  try dsimp only at hp2 hP hD
  rcases hp1 with ⟨a, e1, z1, rfl, rfl, rfl, rfl, rfl, rfl, rfl, rfl, rfl, rfl⟩ | ⟨s1, l1, e1, z1, rfl, rfl, vt, vr, vb, n1, n2, n3, i1, i2, i3, i4, d1, d2, d3, d4⟩ <;> rcases hp2 with ⟨b, e2, z2, rfl, rfl, rfl, rfl, rfl, rfl, rfl, rfl, rfl⟩ | ⟨s2, l2, e2, z2, rfl, rfl, tb1, tb2, tb3, y1, y2, y3, q1, q2, q3, q4, q5, q6⟩
  · have he : r1 = r2 := e1.trans e2.symm
    refine lv_icmp_eq (tgt := 1115) hex hby dL_law_441 (by decide) (fun _ => ?_) (fun h => absurd he h)
    exact lc_end C ih hA hB hM hSl hfb hF2 hG2 hf2 hP hD hS hl
  · have q := z1.uniq (fun _ _ => rfl) z2
    exact absurd q (by omega)
  · have q := z1.uniq (fun _ _ => rfl) z2
    exact absurd q (by omega)
  · have hrd := rd_VT z1
    have hNN : NumOK (cuT 2 V_1) m g_2 ix_2 := y1.congrT hrd vr
    obtain ⟨rfl, ga, gl⟩ := AG.div d1 q1 (fun i hi => (pg_iv (cuT_VT (cu := 2) vt) hNN hpg2 i hi).trans (ptv_eq hPP i hi)) q2 q3
    have he : r1 = r2 := e1.trans e2.symm
    refine lv_icmp_eq (tgt := 1115) hex hby dL_law_441 (by decide) (fun _ => ?_) (fun h => absurd he h)
    exact lc_end C ih ⟨hm1, hm6, by omega, hb1, hbk, hpc, htl, i2, hrl, hrr, hrb, hra, vt, vb⟩ ⟨hPb, d4, i3, i4, n2, n3, htx, n1, i1, hpg, d2, d3⟩ ⟨(by rw [upN_n (by omega)]; exact hs0), (by rw [upN_n (by omega)]; exact hs1), upN_s _ _ _, upN_lt hsm (by omega), tb1, hT0.lo tb3 (by omega) (by omega), hT1.lo tb3 (by omega) (by omega), tb2.congrT vr, hP2b, hPP, q4, q5, ga, q6, gl, y3, y2, hNN⟩ hSl hfb hF2 hG2 hf2 hP hD hS hl
set_option maxHeartbeats 4000000 in
set_option maxRecDepth 100000 in
theorem lc_setBucket {pp : Program} {l : Launch} {ee : Env} {ss : State} {mm : MethodId} {b0 : Nat} {bb : List Frame} {mt : Method} {cd : Code} {Q : State → Prop} {AA : Nat → Prop} {dC : Nat → ClassId} {dI : Nat → Nat → Nat} {cI cZ cS : ClassId} {ad : Nat → Nat} {fW : Nat → Option Nat} {tM tH L : Nat} {xs : Nat → Int32} {i0 : Nat} (C : LC pp ss mm b0 cd AA dC dI cI cZ cS tM tH L xs) (hi : i0 + 5 ≤ L) (hL : L ≤ 2560) (ih : LG pp l ee ss mm b0 bb mt cd Q AA dC dI cI cZ cS ad fW (i0 + 5)) {m : Nat} {cu : Nat} {tc : Nat} {rl : Nat} {rb : Nat} {rr : Nat} {ra : Nat} {pc : Nat} {bk : Nat} {c : Nat} {cn : Nat} {bs : Nat} {tl : Nat} {V : Nat → Nat} {P : Nat → Nat} {S : Nat → Nat} {F : Nat → Nat} {G : Nat → Nat} {g : Nat → Nat} {ix : Nat → Nat} {fb : Nat → Nat} {tx : Nat → Nat} {km : Nat → Nat} {kcu : Nat → Nat} {ktc : Nat → Nat} {krl : Nat → Nat} {krb : Nat → Nat} {krr : Nat → Nat} {kra : Nat → Nat} {kpc : Nat → Nat} {kbk : Nat → Nat} {kc : Nat → Nat} {kV : Nat → Nat → Nat} {kP : Nat → Nat → Nat} {kS : Nat → Nat → Nat} {ku : Nat → Nat} {im : Nat} {bs2 : Nat} {sm : Nat → Nat} {tb : Nat → Nat} {P2 : Nat → Nat} {S2 : Nat → Nat} {L2 : Nat → Nat} {K : Nat → Nat} {KT : Nat → Nat} {KS : Nat → Nat} {KL : Nat → Nat} {ix2 : Nat → Nat} {g2 : Nat → Nat} {F2 : Nat → Nat} {G2 : Nat → Nat} {O2 : Nat → Nat} {f2 : Nat → Nat} {st : Nat → Nat} {lv : Nat → Nat} {kst : Nat → Nat → Nat} {klv : Nat → Nat → Nat} (hA : IA m cu tc rl rb rr ra pc bk cn tl V) (hB : IB m cu rl rb rr ra pc c cn V P S F G g ix tx st lv) (hM : IM m cu tc pc c V P st lv sm tb P2 S2 L2 ix2 g2 O2) (hSl : IS fW ad km kcu ktc krl krb krr kra kpc kbk kc kV kP kS ku K KT KS KL kst klv) (hfb : ∀ j, fb j < 4096) (hF2 : ∀ j, F2 j < 4096) (hG2 : ∀ j, G2 j < 4096) (hf2 : ∀ j, f2 j < 4096) {H : Heap} {locs : List Loc} {ls : Array Slot} (hP : va_P (dC, dI) vwCl (LW cI cZ cS ad fW m cu tc rl rb rr ra pc bk c cn bs tl V P S F G g ix fb tx km kcu ktc krl krb krr kra kpc kbk kc kV kP kS ku m cu rl rb rr ra pc bk c tl im bs2 sm tb P2 S2 L2 tx K KT KS KL ku ix2 g2 F2 G2 O2 f2) H) (hD : va_D AA (LW cI cZ cS ad fW m cu tc rl rb rr ra pc bk c cn bs tl V P S F G g ix fb tx km kcu ktc krl krb krr kra kpc kbk kc kV kP kS ku m cu rl rb rr ra pc bk c tl im bs2 sm tb P2 S2 L2 tx K KT KS KL ku ix2 g2 F2 G2 O2 f2)) (hS : va_S AA ss.heap H locs) (hl : lv_has ls 4 [(0, .ref b0), (1, .ref (ad 0)), (2, .ref (ad 37)), (3, .int (nI i0))]) : W pp l ee room_1 ss mm #[Value.ref b0] bb mt cd H locs 55 56922 Q (F0 mm 788 ls []) := by
  obtain ⟨CFx, hK, hA0, hZ, hX, hbl, hbA⟩ := id C
  obtain ⟨hex, hby, hml, hown, hts⟩ := id CFx
  obtain ⟨hm1, hm6, hcu, hb1, hbk, hpc, htl, hcn, hrl, hrr, hrb, hra, hVt, hVb⟩ := id hA
  obtain ⟨hPb, hSb, hFb, hGb, hg, hix, htx, hN, hIv, hpg, hLD, hag⟩ := id hB
  obtain ⟨hs0, hs1, hs2, hsm, htb, hT0, hT1, hT2, hP2b, hPP, hS2b, hL2b, hAG, hO2b, hLf, hix2, hg2, hN2⟩ := id hM
  obtain ⟨hku, hW0, hW1, hKb, hKTb, hKSb, hKLb, hsl⟩ := id hSl
  have hV := cuT_VT (cu := cu) hVt
  have hL1 := hLD.1
  have hc := hLD.le hV hm6 hpc
  have hpg2 : ∀ j, j < pc → P2 j % 64 < 2 ^ m ∧ P2 j / 64 < 2 ^ m := fun j hj => by rw [hPP j hj]; exact hpg j hj
  have hsc := cu_sm hs0 hs1 hs2 hcu
  have hTb := cu_Tb hT0 hT1 hT2 hcu
  have h26 := p2_6 hm6
  have h46 := p4_6 hm6
  have hne := rg_ne hV hN hm6 hrl hrr hrb hra
  have htc8 := hVt.2.1
  refine lv_aload_n hex hby dL_law_788 rfl (lv_at hl 1 rfl) ?_
  refine lv_aload_n hex hby dL_law_789 rfl (lv_at hl 0 rfl) ?_
  refine lv_iload_n hex hby dL_law_790 rfl (lv_at hl 3 rfl) ?_
  refine lv_iconst (v := nI 1) hex hby dL_law_791 rfl ?_
  refine nv_iadd hex hby dL_law_792 ?_
  refine nv_sld hex hby hX hbl hbA hS (show i0 + 1 < L by omega) (by omega) dL_law_793 ?_
  refine mx_Ai (q0 := 0) (ci := 9) (As := [.int (xs (i0 + 1))]) (rest := []) CFx (k_X9_setBucket (w := xs (i0 + 1)) (wz := (xs (i0 + 1)).toInt) (T := cuT cu V) (ns := cuN cu tc) rfl hSb hPb hpc hix hV hN hpg hm1 hm6 hb1 hbk) 1 gL_law_X9_setBucket rfl nd_X9_setBucket ⟨Nat.le_of_ble_eq_true rfl, Nat.le_of_ble_eq_true rfl⟩ hK hP hD hS hA0 hZ rfl rfl rfl hl.1 rfl (Nat.le_of_ble_eq_true rfl) dL_law_794 ⟨Nat.le_of_ble_eq_true rfl, Nat.le_of_ble_eq_true rfl⟩ (fun r1 u1 H locs hp1 hP hD hS => ?_)
  obtain ⟨bk_1, c_1, S_1⟩ := u1
  try dsimp only at hp1 hP hD
  refine lv_aload_n hex hby dL_law_797 rfl (lv_at hl 2 rfl) ?_
  refine lv_aload_n hex hby dL_law_798 rfl (lv_at hl 0 rfl) ?_
  refine lv_iload_n hex hby dL_law_799 rfl (lv_at hl 3 rfl) ?_
  refine lv_iconst (v := nI 1) hex hby dL_law_800 rfl ?_
  refine nv_iadd hex hby dL_law_801 ?_
  refine nv_sld hex hby hX hbl hbA hS (show i0 + 1 < L by omega) (by omega) dL_law_802 ?_
  refine mx_Ai (q0 := 37) (ci := 10) (As := [.int (xs (i0 + 1))]) (rest := [.int r1]) CFx (k_X10_setBucket (w := xs (i0 + 1)) (wz := (xs (i0 + 1)).toInt) (T := cuT cu V) (ns := cuN cu tc) rfl hP2b hpc hix2 hS2b hL2b hO2b hm6 hV ⟨hN.1, hN2.2⟩ hpg2 hbk) 1 gL_law_X10_setBucket rfl nd_X10_setBucket ⟨Nat.le_of_ble_eq_true rfl, Nat.le_of_ble_eq_true rfl⟩ hK hP hD hS hA0 hZ rfl rfl rfl hl.1 rfl (Nat.le_of_ble_eq_true rfl) dL_law_803 ⟨Nat.le_of_ble_eq_true rfl, Nat.le_of_ble_eq_true rfl⟩ (fun r2 u2 H locs hp2 hP hD hS => ?_)
  obtain ⟨bk_2, c_2, S_2, L_2, O_2⟩ := u2
  try dsimp only at hp2 hP hD
  rcases hp1 with ⟨s1, l1, e1, c1, rfl, d1, d2, d3, d4⟩ | ⟨e1, c1, rfl, rfl, rfl⟩ <;> rcases hp2 with ⟨s2, l2, e2, c2, rfl, q1, q2, q3, q4, q5, q6⟩ | ⟨e2, c2, rfl, rfl, rfl, rfl, rfl⟩
  · obtain ⟨rfl, ga, gl⟩ := AG.div d1 q1 (ptv_eq hPP) q2 q3
    have he : r1 = r2 := e1.trans e2.symm
    refine lv_icmp_eq (tgt := 1115) hex hby dL_law_806 (by decide) (fun _ => ?_) (fun h => absurd he h)
    exact lc_end C ih ⟨hm1, hm6, hcu, by omega, by omega, hpc, htl, hcn, hrl, hrr, hrb, hra, hVt, hVb⟩ ⟨hPb, d4, hFb, hGb, hg, hix, htx, hN, hIv, hpg, d2, d3⟩ ⟨hs0, hs1, hs2, hsm, htb, hT0, hT1, hT2, hP2b, hPP, q4, q5, ga, q6, gl, hix2, hg2, hN2⟩ hSl hfb hF2 hG2 hf2 hP hD hS hl
  · exact absurd c1 c2
  · exact absurd c2 c1
  · have he : r1 = r2 := e1.trans e2.symm
    refine lv_icmp_eq (tgt := 1115) hex hby dL_law_806 (by decide) (fun _ => ?_) (fun h => absurd he h)
    exact lc_end C ih hA hB hM hSl hfb hF2 hG2 hf2 hP hD hS hl
set_option maxHeartbeats 4000000 in
set_option maxRecDepth 100000 in
theorem lc_addPoint {pp : Program} {l : Launch} {ee : Env} {ss : State} {mm : MethodId} {b0 : Nat} {bb : List Frame} {mt : Method} {cd : Code} {Q : State → Prop} {AA : Nat → Prop} {dC : Nat → ClassId} {dI : Nat → Nat → Nat} {cI cZ cS : ClassId} {ad : Nat → Nat} {fW : Nat → Option Nat} {tM tH L : Nat} {xs : Nat → Int32} {i0 : Nat} (C : LC pp ss mm b0 cd AA dC dI cI cZ cS tM tH L xs) (hi : i0 + 5 ≤ L) (hL : L ≤ 2560) (ih : LG pp l ee ss mm b0 bb mt cd Q AA dC dI cI cZ cS ad fW (i0 + 5)) {m : Nat} {cu : Nat} {tc : Nat} {rl : Nat} {rb : Nat} {rr : Nat} {ra : Nat} {pc : Nat} {bk : Nat} {c : Nat} {cn : Nat} {bs : Nat} {tl : Nat} {V : Nat → Nat} {P : Nat → Nat} {S : Nat → Nat} {F : Nat → Nat} {G : Nat → Nat} {g : Nat → Nat} {ix : Nat → Nat} {fb : Nat → Nat} {tx : Nat → Nat} {km : Nat → Nat} {kcu : Nat → Nat} {ktc : Nat → Nat} {krl : Nat → Nat} {krb : Nat → Nat} {krr : Nat → Nat} {kra : Nat → Nat} {kpc : Nat → Nat} {kbk : Nat → Nat} {kc : Nat → Nat} {kV : Nat → Nat → Nat} {kP : Nat → Nat → Nat} {kS : Nat → Nat → Nat} {ku : Nat → Nat} {im : Nat} {bs2 : Nat} {sm : Nat → Nat} {tb : Nat → Nat} {P2 : Nat → Nat} {S2 : Nat → Nat} {L2 : Nat → Nat} {K : Nat → Nat} {KT : Nat → Nat} {KS : Nat → Nat} {KL : Nat → Nat} {ix2 : Nat → Nat} {g2 : Nat → Nat} {F2 : Nat → Nat} {G2 : Nat → Nat} {O2 : Nat → Nat} {f2 : Nat → Nat} {st : Nat → Nat} {lv : Nat → Nat} {kst : Nat → Nat → Nat} {klv : Nat → Nat → Nat} (hA : IA m cu tc rl rb rr ra pc bk cn tl V) (hB : IB m cu rl rb rr ra pc c cn V P S F G g ix tx st lv) (hM : IM m cu tc pc c V P st lv sm tb P2 S2 L2 ix2 g2 O2) (hSl : IS fW ad km kcu ktc krl krb krr kra kpc kbk kc kV kP kS ku K KT KS KL kst klv) (hfb : ∀ j, fb j < 4096) (hF2 : ∀ j, F2 j < 4096) (hG2 : ∀ j, G2 j < 4096) (hf2 : ∀ j, f2 j < 4096) {H : Heap} {locs : List Loc} {ls : Array Slot} (hP : va_P (dC, dI) vwCl (LW cI cZ cS ad fW m cu tc rl rb rr ra pc bk c cn bs tl V P S F G g ix fb tx km kcu ktc krl krb krr kra kpc kbk kc kV kP kS ku m cu rl rb rr ra pc bk c tl im bs2 sm tb P2 S2 L2 tx K KT KS KL ku ix2 g2 F2 G2 O2 f2) H) (hD : va_D AA (LW cI cZ cS ad fW m cu tc rl rb rr ra pc bk c cn bs tl V P S F G g ix fb tx km kcu ktc krl krb krr kra kpc kbk kc kV kP kS ku m cu rl rb rr ra pc bk c tl im bs2 sm tb P2 S2 L2 tx K KT KS KL ku ix2 g2 F2 G2 O2 f2)) (hS : va_S AA ss.heap H locs) (hl : lv_has ls 4 [(0, .ref b0), (1, .ref (ad 0)), (2, .ref (ad 37)), (3, .int (nI i0))]) : W pp l ee room_1 ss mm #[Value.ref b0] bb mt cd H locs 55 56922 Q (F0 mm 676 ls []) := by
  obtain ⟨CFx, hK, hA0, hZ, hX, hbl, hbA⟩ := id C
  obtain ⟨hex, hby, hml, hown, hts⟩ := id CFx
  obtain ⟨hm1, hm6, hcu, hb1, hbk, hpc, htl, hcn, hrl, hrr, hrb, hra, hVt, hVb⟩ := id hA
  obtain ⟨hPb, hSb, hFb, hGb, hg, hix, htx, hN, hIv, hpg, hLD, hag⟩ := id hB
  obtain ⟨hs0, hs1, hs2, hsm, htb, hT0, hT1, hT2, hP2b, hPP, hS2b, hL2b, hAG, hO2b, hLf, hix2, hg2, hN2⟩ := id hM
  obtain ⟨hku, hW0, hW1, hKb, hKTb, hKSb, hKLb, hsl⟩ := id hSl
  have hV := cuT_VT (cu := cu) hVt
  have hL1 := hLD.1
  have hc := hLD.le hV hm6 hpc
  have hpg2 : ∀ j, j < pc → P2 j % 64 < 2 ^ m ∧ P2 j / 64 < 2 ^ m := fun j hj => by rw [hPP j hj]; exact hpg j hj
  have hsc := cu_sm hs0 hs1 hs2 hcu
  have hTb := cu_Tb hT0 hT1 hT2 hcu
  have h26 := p2_6 hm6
  have h46 := p4_6 hm6
  have hne := rg_ne hV hN hm6 hrl hrr hrb hra
  have htc8 := hVt.2.1
  refine lv_aload_n hex hby dL_law_676 rfl (lv_at hl 1 rfl) ?_
  refine lv_aload_n hex hby dL_law_677 rfl (lv_at hl 0 rfl) ?_
  refine lv_iload_n hex hby dL_law_678 rfl (lv_at hl 3 rfl) ?_
  refine lv_iconst (v := nI 1) hex hby dL_law_679 rfl ?_
  refine nv_iadd hex hby dL_law_680 ?_
  refine nv_sld hex hby hX hbl hbA hS (show i0 + 1 < L by omega) (by omega) dL_law_681 ?_
  refine lv_aload_n hex hby dL_law_682 rfl (lv_at hl 0 rfl) ?_
  refine lv_iload_n hex hby dL_law_683 rfl (lv_at hl 3 rfl) ?_
  refine lv_iconst (v := nI 2) hex hby dL_law_684 rfl ?_
  refine nv_iadd hex hby dL_law_685 ?_
  refine nv_sld hex hby hX hbl hbA hS (show i0 + 2 < L by omega) (by omega) dL_law_686 ?_
  refine mx_Ai (q0 := 0) (ci := 9) (As := [.int (xs (i0 + 1)), .int (xs (i0 + 2))]) (rest := []) CFx (k_X9_addPoint (x := xs (i0 + 1)) (xz := (xs (i0 + 1)).toInt) (y := xs (i0 + 2)) (yz := (xs (i0 + 2)).toInt) (T := cuT cu V) (ns := cuN cu tc) rfl rfl hSb hPb hpc hix hV hN hpg hm1 hm6 hb1 hbk) 2 gL_law_X9_addPoint rfl nd_X9_addPoint ⟨Nat.le_of_ble_eq_true rfl, Nat.le_of_ble_eq_true rfl⟩ hK hP hD hS hA0 hZ rfl rfl rfl hl.1 rfl (Nat.le_of_ble_eq_true rfl) dL_law_687 ⟨Nat.le_of_ble_eq_true rfl, Nat.le_of_ble_eq_true rfl⟩ (fun r1 u1 H locs hp1 hP hD hS => ?_)
  obtain ⟨pc_1, P_1, c_1, S_1⟩ := u1
  try dsimp only at hp1 hP hD
  refine lv_aload_n hex hby dL_law_690 rfl (lv_at hl 2 rfl) ?_
  refine lv_aload_n hex hby dL_law_691 rfl (lv_at hl 0 rfl) ?_
  refine lv_iload_n hex hby dL_law_692 rfl (lv_at hl 3 rfl) ?_
  refine lv_iconst (v := nI 1) hex hby dL_law_693 rfl ?_
  refine nv_iadd hex hby dL_law_694 ?_
  refine nv_sld hex hby hX hbl hbA hS (show i0 + 1 < L by omega) (by omega) dL_law_695 ?_
  refine lv_aload_n hex hby dL_law_696 rfl (lv_at hl 0 rfl) ?_
  refine lv_iload_n hex hby dL_law_697 rfl (lv_at hl 3 rfl) ?_
  refine lv_iconst (v := nI 2) hex hby dL_law_698 rfl ?_
  refine nv_iadd hex hby dL_law_699 ?_
  refine nv_sld hex hby hX hbl hbA hS (show i0 + 2 < L by omega) (by omega) dL_law_700 ?_
  refine mx_Ai (q0 := 37) (ci := 10) (As := [.int (xs (i0 + 1)), .int (xs (i0 + 2))]) (rest := [.int r1]) CFx (k_X10_addPoint (x := xs (i0 + 1)) (xz := (xs (i0 + 1)).toInt) (y := xs (i0 + 2)) (yz := (xs (i0 + 2)).toInt) (T := cuT cu V) (ns := cuN cu tc) rfl rfl hP2b hpc hix2 hS2b hL2b hO2b hm6 hV ⟨hN.1, hN2.2⟩ hpg2 hbk) 2 gL_law_X10_addPoint rfl nd_X10_addPoint ⟨Nat.le_of_ble_eq_true rfl, Nat.le_of_ble_eq_true rfl⟩ hK hP hD hS hA0 hZ rfl rfl rfl hl.1 rfl (Nat.le_of_ble_eq_true rfl) dL_law_701 ⟨Nat.le_of_ble_eq_true rfl, Nat.le_of_ble_eq_true rfl⟩ (fun r2 u2 H locs hp2 hP hD hS => ?_)
  obtain ⟨pc_2, P_2, c_2, S_2, L_2, O_2⟩ := u2
  try dsimp only at hp2 hP hD
  have hce : 64 * (xs (i0 + 2)).toInt.toNat + (xs (i0 + 1)).toInt.toNat = (xs (i0 + 2)).toInt.toNat * 64 + (xs (i0 + 1)).toInt.toNat := by omega
  rcases hp1 with ⟨s1, l1, e1, c1, x1, f1, rfl, rfl, g1, p1, d1, d2, d3, d4⟩ | ⟨e1, c1, rfl, rfl, rfl, rfl⟩ | ⟨e1, c1, x1, rfl, rfl, rfl, rfl⟩ | ⟨e1, c1, x1, f1, rfl, rfl, rfl, rfl⟩ <;> rcases hp2 with ⟨s2, l2, e2, c2, x2, f2_, rfl, rfl, g2_, p2, q1, q2, q3, q4, q5, q6⟩ | ⟨e2, c2, rfl, rfl, rfl, rfl, rfl, rfl⟩ | ⟨e2, c2, x2, rfl, rfl, rfl, rfl, rfl, rfl⟩ | ⟨e2, c2, x2, f2_, rfl, rfl, rfl, rfl, rfl, rfl⟩
  · have hpn : ∀ j, j < pc + 1 → upN P2 pc (64 * (xs (i0 + 2)).toInt.toNat + (xs (i0 + 1)).toInt.toNat) j = upN P pc ((xs (i0 + 2)).toInt.toNat * 64 + (xs (i0 + 1)).toInt.toNat) j := fun j hj => by
      rcases Nat.lt_or_ge j pc with w | w
      · rw [upN_n (by omega), upN_n (by omega)]; exact hPP j w
      · rw [show j = pc by omega, upN_s, upN_s, hce]
    obtain ⟨rfl, ga, gl⟩ := AG.div d1 q1 (ptv_eq hpn) q2 q3
    have he : r1 = r2 := e1.trans e2.symm
    refine lv_icmp_eq (tgt := 1115) hex hby dL_law_704 (by decide) (fun _ => ?_) (fun h => absurd he h)
    exact lc_end C ih ⟨hm1, hm6, hcu, hb1, hbk, by omega, htl, hcn, hrl, hrr, hrb, hra, hVt, hVb⟩ ⟨p1, d4, hFb, hGb, hg, hix, htx, hN, hIv, g1, d2, d3⟩ ⟨hs0, hs1, hs2, hsm, htb, hT0, hT1, hT2, p2, hpn, q4, q5, ga, q6, gl, hix2, hg2, hN2⟩ hSl hfb hF2 hG2 hf2 hP hD hS hl
  · exact absurd c1 c2
  · obtain ⟨k, hk, e⟩ := x2
    exact absurd ((hPP k hk).symm.trans (e.trans hce)) (x1 k hk)
  · exact absurd f1 (by omega)
  · exact absurd c2 c1
  · have he : r1 = r2 := e1.trans e2.symm
    refine lv_icmp_eq (tgt := 1115) hex hby dL_law_704 (by decide) (fun _ => ?_) (fun h => absurd he h)
    exact lc_end C ih hA hB hM hSl hfb hF2 hG2 hf2 hP hD hS hl
  · exact absurd c2 c1
  · exact absurd c2 c1
  · obtain ⟨k, hk, e⟩ := x1
    exact absurd ((hPP k hk).trans (e.trans hce.symm)) (x2 k hk)
  · exact absurd c1 c2
  · have he : r1 = r2 := e1.trans e2.symm
    refine lv_icmp_eq (tgt := 1115) hex hby dL_law_704 (by decide) (fun _ => ?_) (fun h => absurd he h)
    exact lc_end C ih hA hB hM hSl hfb hF2 hG2 hf2 hP hD hS hl
  · obtain ⟨k, hk, e⟩ := x1
    exact absurd ((hPP k hk).trans (e.trans hce.symm)) (x2 k hk)
  · exact absurd f2_ (by omega)
  · exact absurd c1 c2
  · obtain ⟨k, hk, e⟩ := x2
    exact absurd ((hPP k hk).symm.trans (e.trans hce)) (x1 k hk)
  · have he : r1 = r2 := e1.trans e2.symm
    refine lv_icmp_eq (tgt := 1115) hex hby dL_law_704 (by decide) (fun _ => ?_) (fun h => absurd he h)
    exact lc_end C ih hA hB hM hSl hfb hF2 hG2 hf2 hP hD hS hl
set_option maxHeartbeats 4000000 in
set_option maxRecDepth 100000 in
theorem lc_removePoint {pp : Program} {l : Launch} {ee : Env} {ss : State} {mm : MethodId} {b0 : Nat} {bb : List Frame} {mt : Method} {cd : Code} {Q : State → Prop} {AA : Nat → Prop} {dC : Nat → ClassId} {dI : Nat → Nat → Nat} {cI cZ cS : ClassId} {ad : Nat → Nat} {fW : Nat → Option Nat} {tM tH L : Nat} {xs : Nat → Int32} {i0 : Nat} (C : LC pp ss mm b0 cd AA dC dI cI cZ cS tM tH L xs) (hi : i0 + 5 ≤ L) (hL : L ≤ 2560) (ih : LG pp l ee ss mm b0 bb mt cd Q AA dC dI cI cZ cS ad fW (i0 + 5)) {m : Nat} {cu : Nat} {tc : Nat} {rl : Nat} {rb : Nat} {rr : Nat} {ra : Nat} {pc : Nat} {bk : Nat} {c : Nat} {cn : Nat} {bs : Nat} {tl : Nat} {V : Nat → Nat} {P : Nat → Nat} {S : Nat → Nat} {F : Nat → Nat} {G : Nat → Nat} {g : Nat → Nat} {ix : Nat → Nat} {fb : Nat → Nat} {tx : Nat → Nat} {km : Nat → Nat} {kcu : Nat → Nat} {ktc : Nat → Nat} {krl : Nat → Nat} {krb : Nat → Nat} {krr : Nat → Nat} {kra : Nat → Nat} {kpc : Nat → Nat} {kbk : Nat → Nat} {kc : Nat → Nat} {kV : Nat → Nat → Nat} {kP : Nat → Nat → Nat} {kS : Nat → Nat → Nat} {ku : Nat → Nat} {im : Nat} {bs2 : Nat} {sm : Nat → Nat} {tb : Nat → Nat} {P2 : Nat → Nat} {S2 : Nat → Nat} {L2 : Nat → Nat} {K : Nat → Nat} {KT : Nat → Nat} {KS : Nat → Nat} {KL : Nat → Nat} {ix2 : Nat → Nat} {g2 : Nat → Nat} {F2 : Nat → Nat} {G2 : Nat → Nat} {O2 : Nat → Nat} {f2 : Nat → Nat} {st : Nat → Nat} {lv : Nat → Nat} {kst : Nat → Nat → Nat} {klv : Nat → Nat → Nat} (hA : IA m cu tc rl rb rr ra pc bk cn tl V) (hB : IB m cu rl rb rr ra pc c cn V P S F G g ix tx st lv) (hM : IM m cu tc pc c V P st lv sm tb P2 S2 L2 ix2 g2 O2) (hSl : IS fW ad km kcu ktc krl krb krr kra kpc kbk kc kV kP kS ku K KT KS KL kst klv) (hfb : ∀ j, fb j < 4096) (hF2 : ∀ j, F2 j < 4096) (hG2 : ∀ j, G2 j < 4096) (hf2 : ∀ j, f2 j < 4096) {H : Heap} {locs : List Loc} {ls : Array Slot} (hP : va_P (dC, dI) vwCl (LW cI cZ cS ad fW m cu tc rl rb rr ra pc bk c cn bs tl V P S F G g ix fb tx km kcu ktc krl krb krr kra kpc kbk kc kV kP kS ku m cu rl rb rr ra pc bk c tl im bs2 sm tb P2 S2 L2 tx K KT KS KL ku ix2 g2 F2 G2 O2 f2) H) (hD : va_D AA (LW cI cZ cS ad fW m cu tc rl rb rr ra pc bk c cn bs tl V P S F G g ix fb tx km kcu ktc krl krb krr kra kpc kbk kc kV kP kS ku m cu rl rb rr ra pc bk c tl im bs2 sm tb P2 S2 L2 tx K KT KS KL ku ix2 g2 F2 G2 O2 f2)) (hS : va_S AA ss.heap H locs) (hl : lv_has ls 4 [(0, .ref b0), (1, .ref (ad 0)), (2, .ref (ad 37)), (3, .int (nI i0))]) : W pp l ee room_1 ss mm #[Value.ref b0] bb mt cd H locs 55 56922 Q (F0 mm 709 ls []) := by
  obtain ⟨CFx, hK, hA0, hZ, hX, hbl, hbA⟩ := id C
  obtain ⟨hex, hby, hml, hown, hts⟩ := id CFx
  obtain ⟨hm1, hm6, hcu, hb1, hbk, hpc, htl, hcn, hrl, hrr, hrb, hra, hVt, hVb⟩ := id hA
  obtain ⟨hPb, hSb, hFb, hGb, hg, hix, htx, hN, hIv, hpg, hLD, hag⟩ := id hB
  obtain ⟨hs0, hs1, hs2, hsm, htb, hT0, hT1, hT2, hP2b, hPP, hS2b, hL2b, hAG, hO2b, hLf, hix2, hg2, hN2⟩ := id hM
  obtain ⟨hku, hW0, hW1, hKb, hKTb, hKSb, hKLb, hsl⟩ := id hSl
  have hV := cuT_VT (cu := cu) hVt
  have hL1 := hLD.1
  have hc := hLD.le hV hm6 hpc
  have hpg2 : ∀ j, j < pc → P2 j % 64 < 2 ^ m ∧ P2 j / 64 < 2 ^ m := fun j hj => by rw [hPP j hj]; exact hpg j hj
  have hsc := cu_sm hs0 hs1 hs2 hcu
  have hTb := cu_Tb hT0 hT1 hT2 hcu
  have h26 := p2_6 hm6
  have h46 := p4_6 hm6
  have hne := rg_ne hV hN hm6 hrl hrr hrb hra
  have htc8 := hVt.2.1
  refine lv_aload_n hex hby dL_law_709 rfl (lv_at hl 1 rfl) ?_
  refine lv_aload_n hex hby dL_law_710 rfl (lv_at hl 0 rfl) ?_
  refine lv_iload_n hex hby dL_law_711 rfl (lv_at hl 3 rfl) ?_
  refine lv_iconst (v := nI 1) hex hby dL_law_712 rfl ?_
  refine nv_iadd hex hby dL_law_713 ?_
  refine nv_sld hex hby hX hbl hbA hS (show i0 + 1 < L by omega) (by omega) dL_law_714 ?_
  refine lv_aload_n hex hby dL_law_715 rfl (lv_at hl 0 rfl) ?_
  refine lv_iload_n hex hby dL_law_716 rfl (lv_at hl 3 rfl) ?_
  refine lv_iconst (v := nI 2) hex hby dL_law_717 rfl ?_
  refine nv_iadd hex hby dL_law_718 ?_
  refine nv_sld hex hby hX hbl hbA hS (show i0 + 2 < L by omega) (by omega) dL_law_719 ?_
  refine mx_Ai (q0 := 0) (ci := 9) (As := [.int (xs (i0 + 1)), .int (xs (i0 + 2))]) (rest := []) CFx (k_X9_removePoint (x := xs (i0 + 1)) (xz := (xs (i0 + 1)).toInt) (y := xs (i0 + 2)) (yz := (xs (i0 + 2)).toInt) (T := cuT cu V) (ns := cuN cu tc) rfl rfl hSb hPb hpc hix hV hN hpg hm1 hm6 hb1 hbk) 2 gL_law_X9_removePoint rfl nd_X9_removePoint ⟨Nat.le_of_ble_eq_true rfl, Nat.le_of_ble_eq_true rfl⟩ hK hP hD hS hA0 hZ rfl rfl rfl hl.1 rfl (Nat.le_of_ble_eq_true rfl) dL_law_720 ⟨Nat.le_of_ble_eq_true rfl, Nat.le_of_ble_eq_true rfl⟩ (fun r1 u1 H locs hp1 hP hD hS => ?_)
  obtain ⟨pc_1, P_1, c_1, S_1⟩ := u1
  try dsimp only at hp1 hP hD
  refine lv_aload_n hex hby dL_law_723 rfl (lv_at hl 2 rfl) ?_
  refine lv_aload_n hex hby dL_law_724 rfl (lv_at hl 0 rfl) ?_
  refine lv_iload_n hex hby dL_law_725 rfl (lv_at hl 3 rfl) ?_
  refine lv_iconst (v := nI 1) hex hby dL_law_726 rfl ?_
  refine nv_iadd hex hby dL_law_727 ?_
  refine nv_sld hex hby hX hbl hbA hS (show i0 + 1 < L by omega) (by omega) dL_law_728 ?_
  refine lv_aload_n hex hby dL_law_729 rfl (lv_at hl 0 rfl) ?_
  refine lv_iload_n hex hby dL_law_730 rfl (lv_at hl 3 rfl) ?_
  refine lv_iconst (v := nI 2) hex hby dL_law_731 rfl ?_
  refine nv_iadd hex hby dL_law_732 ?_
  refine nv_sld hex hby hX hbl hbA hS (show i0 + 2 < L by omega) (by omega) dL_law_733 ?_
  refine mx_Ai (q0 := 37) (ci := 10) (As := [.int (xs (i0 + 1)), .int (xs (i0 + 2))]) (rest := [.int r1]) CFx (k_X10_removePoint (x := xs (i0 + 1)) (xz := (xs (i0 + 1)).toInt) (y := xs (i0 + 2)) (yz := (xs (i0 + 2)).toInt) (T := cuT cu V) (ns := cuN cu tc) rfl rfl hP2b hpc hix2 hS2b hL2b hO2b hm6 hV ⟨hN.1, hN2.2⟩ hpg2 hbk) 2 gL_law_X10_removePoint rfl nd_X10_removePoint ⟨Nat.le_of_ble_eq_true rfl, Nat.le_of_ble_eq_true rfl⟩ hK hP hD hS hA0 hZ rfl rfl rfl hl.1 rfl (Nat.le_of_ble_eq_true rfl) dL_law_734 ⟨Nat.le_of_ble_eq_true rfl, Nat.le_of_ble_eq_true rfl⟩ (fun r2 u2 H locs hp2 hP hD hS => ?_)
  obtain ⟨pc_2, P_2, c_2, S_2, L_2, O_2⟩ := u2
  try dsimp only at hp2 hP hD
  have hce : 64 * (xs (i0 + 2)).toInt.toNat + (xs (i0 + 1)).toInt.toNat = (xs (i0 + 2)).toInt.toNat * 64 + (xs (i0 + 1)).toInt.toNat := by omega
  rcases hp1 with ⟨s1, l1, k1, e1, c1, f1, x1, w1, rfl, rfl, g1, p1, d1, d2, d3, d4⟩ | ⟨e1, c1, rfl, rfl, rfl, rfl⟩ | ⟨e1, c1, x1, rfl, rfl, rfl, rfl⟩ <;> rcases hp2 with ⟨s2, l2, k2, e2, c2, f2_, x2, w2, rfl, rfl, g2_, p2, q1, q2, q3, q4, q5, q6⟩ | ⟨e2, c2, rfl, rfl, rfl, rfl, rfl, rfl⟩ | ⟨e2, c2, x2, rfl, rfl, rfl, rfl, rfl, rfl⟩
  · have hkk : k1 = k2 := by
      rcases Nat.lt_trichotomy k1 k2 with w | w | w
      · exact absurd ((hPP k1 f1).trans (x1.trans hce.symm)) (w2 k1 w)
      · exact w
      · exact absurd ((hPP k2 f2_).symm.trans (x2.trans hce)) (w1 k2 w)
    subst hkk
    have hpn : ∀ j, j < pc - 1 → upN P2 k1 (P2 (pc - 1)) j = upN P k1 (P (pc - 1)) j := fun j hj => by
      by_cases w : j = k1
      · rw [w, upN_s, upN_s]; exact hPP _ (by omega)
      · rw [upN_n w, upN_n w]; exact hPP j (by omega)
    obtain ⟨rfl, ga, gl⟩ := AG.div d1 q1 (ptv_eq hpn) q2 q3
    have he : r1 = r2 := e1.trans e2.symm
    refine lv_icmp_eq (tgt := 1115) hex hby dL_law_737 (by decide) (fun _ => ?_) (fun h => absurd he h)
    exact lc_end C ih ⟨hm1, hm6, hcu, hb1, hbk, by omega, htl, hcn, hrl, hrr, hrb, hra, hVt, hVb⟩ ⟨p1, d4, hFb, hGb, hg, hix, htx, hN, hIv, g1, d2, d3⟩ ⟨hs0, hs1, hs2, hsm, htb, hT0, hT1, hT2, p2, hpn, q4, q5, ga, q6, gl, hix2, hg2, hN2⟩ hSl hfb hF2 hG2 hf2 hP hD hS hl
  · exact absurd c1 c2
  · exact absurd ((hPP k1 f1).trans (x1.trans hce.symm)) (x2 k1 f1)
  · exact absurd c2 c1
  · have he : r1 = r2 := e1.trans e2.symm
    refine lv_icmp_eq (tgt := 1115) hex hby dL_law_737 (by decide) (fun _ => ?_) (fun h => absurd he h)
    exact lc_end C ih hA hB hM hSl hfb hF2 hG2 hf2 hP hD hS hl
  · exact absurd c2 c1
  · exact absurd ((hPP k2 f2_).symm.trans (x2.trans hce)) (x1 k2 f2_)
  · exact absurd c1 c2
  · have he : r1 = r2 := e1.trans e2.symm
    refine lv_icmp_eq (tgt := 1115) hex hby dL_law_737 (by decide) (fun _ => ?_) (fun h => absurd he h)
    exact lc_end C ih hA hB hM hSl hfb hF2 hG2 hf2 hP hD hS hl
