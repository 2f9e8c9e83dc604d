set_option maxHeartbeats 4000000 in
set_option maxRecDepth 100000 in
theorem lc_states {pp : Program} {l : Launch} {ee : Env} {ss : State} {mm : MethodId} {b0 : Nat} {bb : List Frame} {mt : Method} {cd : Code} {Q : State → Prop} {AA : Nat → Prop} {dC : Nat → ClassId} {dI : Nat → Nat → Nat} {cI cZ cS : ClassId} {ad : Nat → Nat} {fW : Nat → Option Nat} {tM tH L : Nat} {xs : Nat → Int32} {i0 : Nat} (C : LC pp ss mm b0 cd AA dC dI cI cZ cS tM tH L xs) (hi : i0 + 5 ≤ L) (hL : L ≤ 2560) (ih : LG pp l ee ss mm b0 bb mt cd Q AA dC dI cI cZ cS ad fW (i0 + 5)) {m : Nat} {cu : Nat} {tc : Nat} {rl : Nat} {rb : Nat} {rr : Nat} {ra : Nat} {pc : Nat} {bk : Nat} {c : Nat} {cn : Nat} {bs : Nat} {tl : Nat} {V : Nat → Nat} {P : Nat → Nat} {S : Nat → Nat} {F : Nat → Nat} {G : Nat → Nat} {g : Nat → Nat} {ix : Nat → Nat} {fb : Nat → Nat} {tx : Nat → Nat} {km : Nat → Nat} {kcu : Nat → Nat} {ktc : Nat → Nat} {krl : Nat → Nat} {krb : Nat → Nat} {krr : Nat → Nat} {kra : Nat → Nat} {kpc : Nat → Nat} {kbk : Nat → Nat} {kc : Nat → Nat} {kV : Nat → Nat → Nat} {kP : Nat → Nat → Nat} {kS : Nat → Nat → Nat} {ku : Nat → Nat} {im : Nat} {bs2 : Nat} {sm : Nat → Nat} {tb : Nat → Nat} {P2 : Nat → Nat} {S2 : Nat → Nat} {L2 : Nat → Nat} {K : Nat → Nat} {KT : Nat → Nat} {KS : Nat → Nat} {KL : Nat → Nat} {ix2 : Nat → Nat} {g2 : Nat → Nat} {F2 : Nat → Nat} {G2 : Nat → Nat} {O2 : Nat → Nat} {f2 : Nat → Nat} {st : Nat → Nat} {lv : Nat → Nat} {kst : Nat → Nat → Nat} {klv : Nat → Nat → Nat} (hA : IA m cu tc rl rb rr ra pc bk cn tl V) (hB : IB m cu rl rb rr ra pc c cn V P S F G g ix tx st lv) (hM : IM m cu tc pc c V P st lv sm tb P2 S2 L2 ix2 g2 O2) (hSl : IS fW ad km kcu ktc krl krb krr kra kpc kbk kc kV kP kS ku K KT KS KL kst klv) (hfb : ∀ j, fb j < 4096) (hF2 : ∀ j, F2 j < 4096) (hG2 : ∀ j, G2 j < 4096) (hf2 : ∀ j, f2 j < 4096) {H : Heap} {locs : List Loc} {ls : Array Slot} (hP : va_P (dC, dI) vwCl (LW cI cZ cS ad fW m cu tc rl rb rr ra pc bk c cn bs tl V P S F G g ix fb tx km kcu ktc krl krb krr kra kpc kbk kc kV kP kS ku m cu rl rb rr ra pc bk c tl im bs2 sm tb P2 S2 L2 tx K KT KS KL ku ix2 g2 F2 G2 O2 f2) H) (hD : va_D AA (LW cI cZ cS ad fW m cu tc rl rb rr ra pc bk c cn bs tl V P S F G g ix fb tx km kcu ktc krl krb krr kra kpc kbk kc kV kP kS ku m cu rl rb rr ra pc bk c tl im bs2 sm tb P2 S2 L2 tx K KT KS KL ku ix2 g2 F2 G2 O2 f2)) (hS : va_S AA ss.heap H locs) (hl : lv_has ls 4 [(0, .ref b0), (1, .ref (ad 0)), (2, .ref (ad 37)), (3, .int (nI i0))]) : W pp l ee room_1 ss mm #[Value.ref b0] bb mt cd H locs 55 56922 Q (F0 mm 230 ls []) := by
  obtain ⟨CFx, hK, hA0, hZ, hX, hbl, hbA⟩ := id C
  obtain ⟨hex, hby, hml, hown, hts⟩ := id CFx
  obtain ⟨hm1, hm6, hcu, hb1, hbk, hpc, htl, hcn, hrl, hrr, hrb, hra, hVt, hVb⟩ := id hA
  obtain ⟨hPb, hSb, hFb, hGb, hg, hix, htx, hN, hIv, hpg, hLD, hag⟩ := id hB
  obtain ⟨hs0, hs1, hs2, hsm, htb, hT0, hT1, hT2, hP2b, hPP, hS2b, hL2b, hAG, hO2b, hLf, hix2, hg2, hN2⟩ := id hM
  obtain ⟨hku, hW0, hW1, hKb, hKTb, hKSb, hKLb, hsl⟩ := id hSl
  have hV := cuT_VT (cu := cu) hVt
  have hL1 := hLD.1
  have hc := hLD.le hV hm6 hpc
  have hpg2 : ∀ j, j < pc → P2 j % 64 < 2 ^ m ∧ P2 j / 64 < 2 ^ m := fun j hj => by rw [hPP j hj]; exact hpg j hj
  have hsc := cu_sm hs0 hs1 hs2 hcu
  have hTb := cu_Tb hT0 hT1 hT2 hcu
  have h26 := p2_6 hm6
  have h46 := p4_6 hm6
  have hne := rg_ne hV hN hm6 hrl hrr hrb hra
  have htc8 := hVt.2.1
  refine lv_aload_n hex hby dL_law_230 rfl (lv_at hl 1 rfl) ?_
  refine mx_Ai (q0 := 0) (ci := 9) (As := []) (rest := []) CFx (k_X9_states  hcu) 0 gL_law_X9_states rfl nd_X9_states ⟨Nat.le_of_ble_eq_true rfl, Nat.le_of_ble_eq_true rfl⟩ hK hP hD hS hA0 hZ rfl rfl rfl hl.1 rfl (Nat.le_of_ble_eq_true rfl) dL_law_231 ⟨Nat.le_of_ble_eq_true rfl, Nat.le_of_ble_eq_true rfl⟩ (fun r1 u1 H locs hp1 hP hD hS => ?_)
  try dsimp only at hp1 hP hD
  refine lv_aload_n hex hby dL_law_234 rfl (lv_at hl 2 rfl) ?_
  refine mx_Ai (q0 := 37) (ci := 10) (As := []) (rest := [.int r1]) CFx (k_X10_states (ns := cuN cu tc) hsm hcu hsc) 0 gL_law_X10_states rfl nd_X10_states ⟨Nat.le_of_ble_eq_true rfl, Nat.le_of_ble_eq_true rfl⟩ hK hP hD hS hA0 hZ rfl rfl rfl hl.1 rfl (Nat.le_of_ble_eq_true rfl) dL_law_235 ⟨Nat.le_of_ble_eq_true rfl, Nat.le_of_ble_eq_true rfl⟩ (fun r2 u2 H locs hp2 hP hD hS => ?_)
  try dsimp only at hp2 hP hD
  have he : r1 = r2 := hp1.trans hp2.symm
  refine lv_icmp_eq (tgt := 1115) hex hby dL_law_238 (by decide) (fun _ => ?_) (fun h => absurd he h)
  exact lc_end C ih hA hB hM hSl hfb hF2 hG2 hf2 hP hD hS hl
set_option maxHeartbeats 4000000 in
set_option maxRecDepth 100000 in
theorem lc_visit {pp : Program} {l : Launch} {ee : Env} {ss : State} {mm : MethodId} {b0 : Nat} {bb : List Frame} {mt : Method} {cd : Code} {Q : State → Prop} {AA : Nat → Prop} {dC : Nat → ClassId} {dI : Nat → Nat → Nat} {cI cZ cS : ClassId} {ad : Nat → Nat} {fW : Nat → Option Nat} {tM tH L : Nat} {xs : Nat → Int32} {i0 : Nat} (C : LC pp ss mm b0 cd AA dC dI cI cZ cS tM tH L xs) (hi : i0 + 5 ≤ L) (hL : L ≤ 2560) (ih : LG pp l ee ss mm b0 bb mt cd Q AA dC dI cI cZ cS ad fW (i0 + 5)) {m : Nat} {cu : Nat} {tc : Nat} {rl : Nat} {rb : Nat} {rr : Nat} {ra : Nat} {pc : Nat} {bk : Nat} {c : Nat} {cn : Nat} {bs : Nat} {tl : Nat} {V : Nat → Nat} {P : Nat → Nat} {S : Nat → Nat} {F : Nat → Nat} {G : Nat → Nat} {g : Nat → Nat} {ix : Nat → Nat} {fb : Nat → Nat} {tx : Nat → Nat} {km : Nat → Nat} {kcu : Nat → Nat} {ktc : Nat → Nat} {krl : Nat → Nat} {krb : Nat → Nat} {krr : Nat → Nat} {kra : Nat → Nat} {kpc : Nat → Nat} {kbk : Nat → Nat} {kc : Nat → Nat} {kV : Nat → Nat → Nat} {kP : Nat → Nat → Nat} {kS : Nat → Nat → Nat} {ku : Nat → Nat} {im : Nat} {bs2 : Nat} {sm : Nat → Nat} {tb : Nat → Nat} {P2 : Nat → Nat} {S2 : Nat → Nat} {L2 : Nat → Nat} {K : Nat → Nat} {KT : Nat → Nat} {KS : Nat → Nat} {KL : Nat → Nat} {ix2 : Nat → Nat} {g2 : Nat → Nat} {F2 : Nat → Nat} {G2 : Nat → Nat} {O2 : Nat → Nat} {f2 : Nat → Nat} {st : Nat → Nat} {lv : Nat → Nat} {kst : Nat → Nat → Nat} {klv : Nat → Nat → Nat} (hA : IA m cu tc rl rb rr ra pc bk cn tl V) (hB : IB m cu rl rb rr ra pc c cn V P S F G g ix tx st lv) (hM : IM m cu tc pc c V P st lv sm tb P2 S2 L2 ix2 g2 O2) (hSl : IS fW ad km kcu ktc krl krb krr kra kpc kbk kc kV kP kS ku K KT KS KL kst klv) (hfb : ∀ j, fb j < 4096) (hF2 : ∀ j, F2 j < 4096) (hG2 : ∀ j, G2 j < 4096) (hf2 : ∀ j, f2 j < 4096) {H : Heap} {locs : List Loc} {ls : Array Slot} (hP : va_P (dC, dI) vwCl (LW cI cZ cS ad fW m cu tc rl rb rr ra pc bk c cn bs tl V P S F G g ix fb tx km kcu ktc krl krb krr kra kpc kbk kc kV kP kS ku m cu rl rb rr ra pc bk c tl im bs2 sm tb P2 S2 L2 tx K KT KS KL ku ix2 g2 F2 G2 O2 f2) H) (hD : va_D AA (LW cI cZ cS ad fW m cu tc rl rb rr ra pc bk c cn bs tl V P S F G g ix fb tx km kcu ktc krl krb krr kra kpc kbk kc kV kP kS ku m cu rl rb rr ra pc bk c tl im bs2 sm tb P2 S2 L2 tx K KT KS KL ku ix2 g2 F2 G2 O2 f2)) (hS : va_S AA ss.heap H locs) (hl : lv_has ls 4 [(0, .ref b0), (1, .ref (ad 0)), (2, .ref (ad 37)), (3, .int (nI i0))]) : W pp l ee room_1 ss mm #[Value.ref b0] bb mt cd H locs 55 56922 Q (F0 mm 243 ls []) := by
  obtain ⟨CFx, hK, hA0, hZ, hX, hbl, hbA⟩ := id C
  obtain ⟨hex, hby, hml, hown, hts⟩ := id CFx
  obtain ⟨hm1, hm6, hcu, hb1, hbk, hpc, htl, hcn, hrl, hrr, hrb, hra, hVt, hVb⟩ := id hA
  obtain ⟨hPb, hSb, hFb, hGb, hg, hix, htx, hN, hIv, hpg, hLD, hag⟩ := id hB
  obtain ⟨hs0, hs1, hs2, hsm, htb, hT0, hT1, hT2, hP2b, hPP, hS2b, hL2b, hAG, hO2b, hLf, hix2, hg2, hN2⟩ := id hM
  obtain ⟨hku, hW0, hW1, hKb, hKTb, hKSb, hKLb, hsl⟩ := id hSl
  have hV := cuT_VT (cu := cu) hVt
  have hL1 := hLD.1
  have hc := hLD.le hV hm6 hpc
  have hpg2 : ∀ j, j < pc → P2 j % 64 < 2 ^ m ∧ P2 j / 64 < 2 ^ m := fun j hj => by rw [hPP j hj]; exact hpg j hj
  have hsc := cu_sm hs0 hs1 hs2 hcu
  have hTb := cu_Tb hT0 hT1 hT2 hcu
  have h26 := p2_6 hm6
  have h46 := p4_6 hm6
  have hne := rg_ne hV hN hm6 hrl hrr hrb hra
  have htc8 := hVt.2.1
  refine lv_aload_n hex hby dL_law_243 rfl (lv_at hl 1 rfl) ?_
  refine lv_aload_n hex hby dL_law_244 rfl (lv_at hl 0 rfl) ?_
  refine lv_iload_n hex hby dL_law_245 rfl (lv_at hl 3 rfl) ?_
  refine lv_iconst (v := nI 1) hex hby dL_law_246 rfl ?_
  refine nv_iadd hex hby dL_law_247 ?_
  refine nv_sld hex hby hX hbl hbA hS (show i0 + 1 < L by omega) (by omega) dL_law_248 ?_
  refine lv_aload_n hex hby dL_law_249 rfl (lv_at hl 0 rfl) ?_
  refine lv_iload_n hex hby dL_law_250 rfl (lv_at hl 3 rfl) ?_
  refine lv_iconst (v := nI 2) hex hby dL_law_251 rfl ?_
  refine nv_iadd hex hby dL_law_252 ?_
  refine nv_sld hex hby hX hbl hbA hS (show i0 + 2 < L by omega) (by omega) dL_law_253 ?_
  refine mx_Ai (q0 := 0) (ci := 9) (As := [.int (xs (i0 + 1)), .int (xs (i0 + 2))]) (rest := []) CFx (k_X9_visit (s := xs (i0 + 1)) (sz := (xs (i0 + 1)).toInt) (p := xs (i0 + 2)) (pz := (xs (i0 + 2)).toInt) rfl rfl hcu hVt hVb) 2 gL_law_X9_visit rfl nd_X9_visit ⟨Nat.le_of_ble_eq_true rfl, Nat.le_of_ble_eq_true rfl⟩ hK hP hD hS hA0 hZ rfl rfl rfl hl.1 rfl (Nat.le_of_ble_eq_true rfl) dL_law_254 ⟨Nat.le_of_ble_eq_true rfl, Nat.le_of_ble_eq_true rfl⟩ (fun r1 u1 H locs hp1 hP hD hS => ?_)
  try dsimp only at hp1 hP hD
  refine lv_aload_n hex hby dL_law_257 rfl (lv_at hl 2 rfl) ?_
  refine lv_aload_n hex hby dL_law_258 rfl (lv_at hl 0 rfl) ?_
  refine lv_iload_n hex hby dL_law_259 rfl (lv_at hl 3 rfl) ?_
  refine lv_iconst (v := nI 1) hex hby dL_law_260 rfl ?_
  refine nv_iadd hex hby dL_law_261 ?_
  refine nv_sld hex hby hX hbl hbA hS (show i0 + 1 < L by omega) (by omega) dL_law_262 ?_
  refine lv_aload_n hex hby dL_law_263 rfl (lv_at hl 0 rfl) ?_
  refine lv_iload_n hex hby dL_law_264 rfl (lv_at hl 3 rfl) ?_
  refine lv_iconst (v := nI 2) hex hby dL_law_265 rfl ?_
  refine nv_iadd hex hby dL_law_266 ?_
  refine nv_sld hex hby hX hbl hbA hS (show i0 + 2 < L by omega) (by omega) dL_law_267 ?_
  refine mx_Ai (q0 := 37) (ci := 10) (As := [.int (xs (i0 + 1)), .int (xs (i0 + 2))]) (rest := [.int r1]) CFx (k_X10_visit (s := xs (i0 + 1)) (sz := (xs (i0 + 1)).toInt) (p := xs (i0 + 2)) (pz := (xs (i0 + 2)).toInt) (T := cuT cu V) (ns := cuN cu tc) rfl rfl hsm htb hcu hsc hV hTb) 2 gL_law_X10_visit rfl nd_X10_visit ⟨Nat.le_of_ble_eq_true rfl, Nat.le_of_ble_eq_true rfl⟩ hK hP hD hS hA0 hZ rfl rfl rfl hl.1 rfl (Nat.le_of_ble_eq_true rfl) dL_law_268 ⟨Nat.le_of_ble_eq_true rfl, Nat.le_of_ble_eq_true rfl⟩ (fun r2 u2 H locs hp2 hP hD hS => ?_)
  try dsimp only at hp2 hP hD
  have he : r1 = r2 := by
    rcases hp1 with ⟨e1, c1⟩ | ⟨e1, c1⟩ <;> rcases hp2 with ⟨e2, c2⟩ | ⟨e2, c2⟩
    · exact e1.trans e2.symm
    · exact absurd c1 c2
    · exact absurd c2 c1
    · exact e1.trans e2.symm
  refine lv_icmp_eq (tgt := 1115) hex hby dL_law_271 (by decide) (fun _ => ?_) (fun h => absurd he h)
  exact lc_end C ih hA hB hM hSl hfb hF2 hG2 hf2 hP hD hS hl
set_option maxHeartbeats 4000000 in
set_option maxRecDepth 100000 in
theorem lc_index {pp : Program} {l : Launch} {ee : Env} {ss : State} {mm : MethodId} {b0 : Nat} {bb : List Frame} {mt : Method} {cd : Code} {Q : State → Prop} {AA : Nat → Prop} {dC : Nat → ClassId} {dI : Nat → Nat → Nat} {cI cZ cS : ClassId} {ad : Nat → Nat} {fW : Nat → Option Nat} {tM tH L : Nat} {xs : Nat → Int32} {i0 : Nat} (C : LC pp ss mm b0 cd AA dC dI cI cZ cS tM tH L xs) (hi : i0 + 5 ≤ L) (hL : L ≤ 2560) (ih : LG pp l ee ss mm b0 bb mt cd Q AA dC dI cI cZ cS ad fW (i0 + 5)) {m : Nat} {cu : Nat} {tc : Nat} {rl : Nat} {rb : Nat} {rr : Nat} {ra : Nat} {pc : Nat} {bk : Nat} {c : Nat} {cn : Nat} {bs : Nat} {tl : Nat} {V : Nat → Nat} {P : Nat → Nat} {S : Nat → Nat} {F : Nat → Nat} {G : Nat → Nat} {g : Nat → Nat} {ix : Nat → Nat} {fb : Nat → Nat} {tx : Nat → Nat} {km : Nat → Nat} {kcu : Nat → Nat} {ktc : Nat → Nat} {krl : Nat → Nat} {krb : Nat → Nat} {krr : Nat → Nat} {kra : Nat → Nat} {kpc : Nat → Nat} {kbk : Nat → Nat} {kc : Nat → Nat} {kV : Nat → Nat → Nat} {kP : Nat → Nat → Nat} {kS : Nat → Nat → Nat} {ku : Nat → Nat} {im : Nat} {bs2 : Nat} {sm : Nat → Nat} {tb : Nat → Nat} {P2 : Nat → Nat} {S2 : Nat → Nat} {L2 : Nat → Nat} {K : Nat → Nat} {KT : Nat → Nat} {KS : Nat → Nat} {KL : Nat → Nat} {ix2 : Nat → Nat} {g2 : Nat → Nat} {F2 : Nat → Nat} {G2 : Nat → Nat} {O2 : Nat → Nat} {f2 : Nat → Nat} {st : Nat → Nat} {lv : Nat → Nat} {kst : Nat → Nat → Nat} {klv : Nat → Nat → Nat} (hA : IA m cu tc rl rb rr ra pc bk cn tl V) (hB : IB m cu rl rb rr ra pc c cn V P S F G g ix tx st lv) (hM : IM m cu tc pc c V P st lv sm tb P2 S2 L2 ix2 g2 O2) (hSl : IS fW ad km kcu ktc krl krb krr kra kpc kbk kc kV kP kS ku K KT KS KL kst klv) (hfb : ∀ j, fb j < 4096) (hF2 : ∀ j, F2 j < 4096) (hG2 : ∀ j, G2 j < 4096) (hf2 : ∀ j, f2 j < 4096) {H : Heap} {locs : List Loc} {ls : Array Slot} (hP : va_P (dC, dI) vwCl (LW cI cZ cS ad fW m cu tc rl rb rr ra pc bk c cn bs tl V P S F G g ix fb tx km kcu ktc krl krb krr kra kpc kbk kc kV kP kS ku m cu rl rb rr ra pc bk c tl im bs2 sm tb P2 S2 L2 tx K KT KS KL ku ix2 g2 F2 G2 O2 f2) H) (hD : va_D AA (LW cI cZ cS ad fW m cu tc rl rb rr ra pc bk c cn bs tl V P S F G g ix fb tx km kcu ktc krl krb krr kra kpc kbk kc kV kP kS ku m cu rl rb rr ra pc bk c tl im bs2 sm tb P2 S2 L2 tx K KT KS KL ku ix2 g2 F2 G2 O2 f2)) (hS : va_S AA ss.heap H locs) (hl : lv_has ls 4 [(0, .ref b0), (1, .ref (ad 0)), (2, .ref (ad 37)), (3, .int (nI i0))]) : W pp l ee room_1 ss mm #[Value.ref b0] bb mt cd H locs 55 56922 Q (F0 mm 276 ls []) := by
  obtain ⟨CFx, hK, hA0, hZ, hX, hbl, hbA⟩ := id C
  obtain ⟨hex, hby, hml, hown, hts⟩ := id CFx
  obtain ⟨hm1, hm6, hcu, hb1, hbk, hpc, htl, hcn, hrl, hrr, hrb, hra, hVt, hVb⟩ := id hA
  obtain ⟨hPb, hSb, hFb, hGb, hg, hix, htx, hN, hIv, hpg, hLD, hag⟩ := id hB
  obtain ⟨hs0, hs1, hs2, hsm, htb, hT0, hT1, hT2, hP2b, hPP, hS2b, hL2b, hAG, hO2b, hLf, hix2, hg2, hN2⟩ := id hM
  obtain ⟨hku, hW0, hW1, hKb, hKTb, hKSb, hKLb, hsl⟩ := id hSl
  have hV := cuT_VT (cu := cu) hVt
  have hL1 := hLD.1
  have hc := hLD.le hV hm6 hpc
  have hpg2 : ∀ j, j < pc → P2 j % 64 < 2 ^ m ∧ P2 j / 64 < 2 ^ m := fun j hj => by rw [hPP j hj]; exact hpg j hj
  have hsc := cu_sm hs0 hs1 hs2 hcu
  have hTb := cu_Tb hT0 hT1 hT2 hcu
  have h26 := p2_6 hm6
  have h46 := p4_6 hm6
  have hne := rg_ne hV hN hm6 hrl hrr hrb hra
  have htc8 := hVt.2.1
  refine lv_aload_n hex hby dL_law_276 rfl (lv_at hl 1 rfl) ?_
  refine lv_aload_n hex hby dL_law_277 rfl (lv_at hl 0 rfl) ?_
  refine lv_iload_n hex hby dL_law_278 rfl (lv_at hl 3 rfl) ?_
  refine lv_iconst (v := nI 1) hex hby dL_law_279 rfl ?_
  refine nv_iadd hex hby dL_law_280 ?_
  refine nv_sld hex hby hX hbl hbA hS (show i0 + 1 < L by omega) (by omega) dL_law_281 ?_
  refine lv_aload_n hex hby dL_law_282 rfl (lv_at hl 0 rfl) ?_
  refine lv_iload_n hex hby dL_law_283 rfl (lv_at hl 3 rfl) ?_
  refine lv_iconst (v := nI 2) hex hby dL_law_284 rfl ?_
  refine nv_iadd hex hby dL_law_285 ?_
  refine nv_sld hex hby hX hbl hbA hS (show i0 + 2 < L by omega) (by omega) dL_law_286 ?_
  refine mx_Ai (q0 := 0) (ci := 9) (As := [.int (xs (i0 + 1)), .int (xs (i0 + 2))]) (rest := []) CFx (k_X9_index (x := xs (i0 + 1)) (xz := (xs (i0 + 1)).toInt) (y := xs (i0 + 2)) (yz := (xs (i0 + 2)).toInt) (T := cuT cu V) (ns := cuN cu tc) rfl rfl hix hm6 hV hN) 2 gL_law_X9_index rfl nd_X9_index ⟨Nat.le_of_ble_eq_true rfl, Nat.le_of_ble_eq_true rfl⟩ hK hP hD hS hA0 hZ rfl rfl rfl hl.1 rfl (Nat.le_of_ble_eq_true rfl) dL_law_287 ⟨Nat.le_of_ble_eq_true rfl, Nat.le_of_ble_eq_true rfl⟩ (fun r1 u1 H locs hp1 hP hD hS => ?_)
  try dsimp only at hp1 hP hD
  refine lv_aload_n hex hby dL_law_290 rfl (lv_at hl 2 rfl) ?_
  refine lv_aload_n hex hby dL_law_291 rfl (lv_at hl 0 rfl) ?_
  refine lv_iload_n hex hby dL_law_292 rfl (lv_at hl 3 rfl) ?_
  refine lv_iconst (v := nI 1) hex hby dL_law_293 rfl ?_
  refine nv_iadd hex hby dL_law_294 ?_
  refine nv_sld hex hby hX hbl hbA hS (show i0 + 1 < L by omega) (by omega) dL_law_295 ?_
  refine lv_aload_n hex hby dL_law_296 rfl (lv_at hl 0 rfl) ?_
  refine lv_iload_n hex hby dL_law_297 rfl (lv_at hl 3 rfl) ?_
  refine lv_iconst (v := nI 2) hex hby dL_law_298 rfl ?_
  refine nv_iadd hex hby dL_law_299 ?_
  refine nv_sld hex hby hX hbl hbA hS (show i0 + 2 < L by omega) (by omega) dL_law_300 ?_
  refine mx_Ai (q0 := 37) (ci := 10) (As := [.int (xs (i0 + 1)), .int (xs (i0 + 2))]) (rest := [.int r1]) CFx (k_X10_index (x := xs (i0 + 1)) (xz := (xs (i0 + 1)).toInt) (y := xs (i0 + 2)) (yz := (xs (i0 + 2)).toInt) (T := cuT cu V) (ns := cuN cu tc) rfl rfl hix2 hm6 hV ⟨hN.1, hN2.2⟩) 2 gL_law_X10_index rfl nd_X10_index ⟨Nat.le_of_ble_eq_true rfl, Nat.le_of_ble_eq_true rfl⟩ hK hP hD hS hA0 hZ rfl rfl rfl hl.1 rfl (Nat.le_of_ble_eq_true rfl) dL_law_301 ⟨Nat.le_of_ble_eq_true rfl, Nat.le_of_ble_eq_true rfl⟩ (fun r2 u2 H locs hp2 hP hD hS => ?_)
  try dsimp only at hp2 hP hD
  have he : r1 = r2 := by
    rcases hp1 with ⟨e1, c1⟩ | ⟨e1, c1⟩ <;> rcases hp2 with ⟨e2, c2⟩ | ⟨e2, c2⟩
    · exact e1.trans e2.symm
    · exact absurd c1 c2
    · exact absurd c2 c1
    · exact e1.trans e2.symm
  refine lv_icmp_eq (tgt := 1115) hex hby dL_law_304 (by decide) (fun _ => ?_) (fun h => absurd he h)
  exact lc_end C ih hA hB hM hSl hfb hF2 hG2 hf2 hP hD hS hl
set_option maxHeartbeats 4000000 in
set_option maxRecDepth 100000 in
theorem lc_cell {pp : Program} {l : Launch} {ee : Env} {ss : State} {mm : MethodId} {b0 : Nat} {bb : List Frame} {mt : Method} {cd : Code} {Q : State → Prop} {AA : Nat → Prop} {dC : Nat → ClassId} {dI : Nat → Nat → Nat} {cI cZ cS : ClassId} {ad : Nat → Nat} {fW : Nat → Option Nat} {tM tH L : Nat} {xs : Nat → Int32} {i0 : Nat} (C : LC pp ss mm b0 cd AA dC dI cI cZ cS tM tH L xs) (hi : i0 + 5 ≤ L) (hL : L ≤ 2560) (ih : LG pp l ee ss mm b0 bb mt cd Q AA dC dI cI cZ cS ad fW (i0 + 5)) {m : Nat} {cu : Nat} {tc : Nat} {rl : Nat} {rb : Nat} {rr : Nat} {ra : Nat} {pc : Nat} {bk : Nat} {c : Nat} {cn : Nat} {bs : Nat} {tl : Nat} {V : Nat → Nat} {P : Nat → Nat} {S : Nat → Nat} {F : Nat → Nat} {G : Nat → Nat} {g : Nat → Nat} {ix : Nat → Nat} {fb : Nat → Nat} {tx : Nat → Nat} {km : Nat → Nat} {kcu : Nat → Nat} {ktc : Nat → Nat} {krl : Nat → Nat} {krb : Nat → Nat} {krr : Nat → Nat} {kra : Nat → Nat} {kpc : Nat → Nat} {kbk : Nat → Nat} {kc : Nat → Nat} {kV : Nat → Nat → Nat} {kP : Nat → Nat → Nat} {kS : Nat → Nat → Nat} {ku : Nat → Nat} {im : Nat} {bs2 : Nat} {sm : Nat → Nat} {tb : Nat → Nat} {P2 : Nat → Nat} {S2 : Nat → Nat} {L2 : Nat → Nat} {K : Nat → Nat} {KT : Nat → Nat} {KS : Nat → Nat} {KL : Nat → Nat} {ix2 : Nat → Nat} {g2 : Nat → Nat} {F2 : Nat → Nat} {G2 : Nat → Nat} {O2 : Nat → Nat} {f2 : Nat → Nat} {st : Nat → Nat} {lv : Nat → Nat} {kst : Nat → Nat → Nat} {klv : Nat → Nat → Nat} (hA : IA m cu tc rl rb rr ra pc bk cn tl V) (hB : IB m cu rl rb rr ra pc c cn V P S F G g ix tx st lv) (hM : IM m cu tc pc c V P st lv sm tb P2 S2 L2 ix2 g2 O2) (hSl : IS fW ad km kcu ktc krl krb krr kra kpc kbk kc kV kP kS ku K KT KS KL kst klv) (hfb : ∀ j, fb j < 4096) (hF2 : ∀ j, F2 j < 4096) (hG2 : ∀ j, G2 j < 4096) (hf2 : ∀ j, f2 j < 4096) {H : Heap} {locs : List Loc} {ls : Array Slot} (hP : va_P (dC, dI) vwCl (LW cI cZ cS ad fW m cu tc rl rb rr ra pc bk c cn bs tl V P S F G g ix fb tx km kcu ktc krl krb krr kra kpc kbk kc kV kP kS ku m cu rl rb rr ra pc bk c tl im bs2 sm tb P2 S2 L2 tx K KT KS KL ku ix2 g2 F2 G2 O2 f2) H) (hD : va_D AA (LW cI cZ cS ad fW m cu tc rl rb rr ra pc bk c cn bs tl V P S F G g ix fb tx km kcu ktc krl krb krr kra kpc kbk kc kV kP kS ku m cu rl rb rr ra pc bk c tl im bs2 sm tb P2 S2 L2 tx K KT KS KL ku ix2 g2 F2 G2 O2 f2)) (hS : va_S AA ss.heap H locs) (hl : lv_has ls 4 [(0, .ref b0), (1, .ref (ad 0)), (2, .ref (ad 37)), (3, .int (nI i0))]) : W pp l ee room_1 ss mm #[Value.ref b0] bb mt cd H locs 55 56922 Q (F0 mm 309 ls []) := by
  obtain ⟨CFx, hK, hA0, hZ, hX, hbl, hbA⟩ := id C
  obtain ⟨hex, hby, hml, hown, hts⟩ := id CFx
  obtain ⟨hm1, hm6, hcu, hb1, hbk, hpc, htl, hcn, hrl, hrr, hrb, hra, hVt, hVb⟩ := id hA
  obtain ⟨hPb, hSb, hFb, hGb, hg, hix, htx, hN, hIv, hpg, hLD, hag⟩ := id hB
  obtain ⟨hs0, hs1, hs2, hsm, htb, hT0, hT1, hT2, hP2b, hPP, hS2b, hL2b, hAG, hO2b, hLf, hix2, hg2, hN2⟩ := id hM
  obtain ⟨hku, hW0, hW1, hKb, hKTb, hKSb, hKLb, hsl⟩ := id hSl
  have hV := cuT_VT (cu := cu) hVt
  have hL1 := hLD.1
  have hc := hLD.le hV hm6 hpc
  have hpg2 : ∀ j, j < pc → P2 j % 64 < 2 ^ m ∧ P2 j / 64 < 2 ^ m := fun j hj => by rw [hPP j hj]; exact hpg j hj
  have hsc := cu_sm hs0 hs1 hs2 hcu
  have hTb := cu_Tb hT0 hT1 hT2 hcu
  have h26 := p2_6 hm6
  have h46 := p4_6 hm6
  have hne := rg_ne hV hN hm6 hrl hrr hrb hra
  have htc8 := hVt.2.1
  refine lv_aload_n hex hby dL_law_309 rfl (lv_at hl 1 rfl) ?_
  refine lv_aload_n hex hby dL_law_310 rfl (lv_at hl 0 rfl) ?_
  refine lv_iload_n hex hby dL_law_311 rfl (lv_at hl 3 rfl) ?_
  refine lv_iconst (v := nI 1) hex hby dL_law_312 rfl ?_
  refine nv_iadd hex hby dL_law_313 ?_
  refine nv_sld hex hby hX hbl hbA hS (show i0 + 1 < L by omega) (by omega) dL_law_314 ?_
  refine lv_aload_n hex hby dL_law_315 rfl (lv_at hl 0 rfl) ?_
  refine lv_iload_n hex hby dL_law_316 rfl (lv_at hl 3 rfl) ?_
  refine lv_iconst (v := nI 2) hex hby dL_law_317 rfl ?_
  refine nv_iadd hex hby dL_law_318 ?_
  refine nv_sld hex hby hX hbl hbA hS (show i0 + 2 < L by omega) (by omega) dL_law_319 ?_
  refine lv_if_eq (tgt := 327) hex hby dL_law_320 (by decide) (fun hb_ => ?_) (fun hb_ => ?_)
  · refine lv_iconst (v := nI 0) hex hby dL_law_327 rfl ?_
    refine mx_Ai (q0 := 0) (ci := 9) (As := [.int (xs (i0 + 1)), .int (nI 0)]) (rest := []) CFx (k_X9_cell (i := xs (i0 + 1)) (iz := (xs (i0 + 1)).toInt) (w := nI 0) (wz := (0 : Int)) (T := cuT cu V) (ns := cuN cu tc) rfl (by rfl) hg hm6 hV hN) 2 gL_law_X9_cell rfl nd_X9_cell ⟨Nat.le_of_ble_eq_true rfl, Nat.le_of_ble_eq_true rfl⟩ hK hP hD hS hA0 hZ rfl rfl rfl hl.1 rfl (Nat.le_of_ble_eq_true rfl) dL_law_328 ⟨Nat.le_of_ble_eq_true rfl, Nat.le_of_ble_eq_true rfl⟩ (fun r1 u1 H locs hp1 hP hD hS => ?_)
    try dsimp only at hp1 hP hD
    refine lv_aload_n hex hby dL_law_331 rfl (lv_at hl 2 rfl) ?_
    refine lv_aload_n hex hby dL_law_332 rfl (lv_at hl 0 rfl) ?_
    refine lv_iload_n hex hby dL_law_333 rfl (lv_at hl 3 rfl) ?_
    refine lv_iconst (v := nI 1) hex hby dL_law_334 rfl ?_
    refine nv_iadd hex hby dL_law_335 ?_
    refine nv_sld hex hby hX hbl hbA hS (show i0 + 1 < L by omega) (by omega) dL_law_336 ?_
    refine lv_aload_n hex hby dL_law_337 rfl (lv_at hl 0 rfl) ?_
    refine lv_iload_n hex hby dL_law_338 rfl (lv_at hl 3 rfl) ?_
    refine lv_iconst (v := nI 2) hex hby dL_law_339 rfl ?_
    refine nv_iadd hex hby dL_law_340 ?_
    refine nv_sld hex hby hX hbl hbA hS (show i0 + 2 < L by omega) (by omega) dL_law_341 ?_
    refine lv_if_eq (tgt := 349) hex hby dL_law_342 (by decide) (fun _ => ?_) (fun h => absurd hb_ h)
    refine lv_iconst (v := nI 0) hex hby dL_law_349 rfl ?_
    refine mx_Ai (q0 := 37) (ci := 10) (As := [.int (xs (i0 + 1)), .int (nI 0)]) (rest := [.int r1]) CFx (k_X10_cell (i := xs (i0 + 1)) (iz := (xs (i0 + 1)).toInt) (w := nI 0) (wz := (0 : Int)) (T := cuT cu V) (ns := cuN cu tc) rfl (by rfl) hg2 hm6 hV ⟨hN2.1, hN.2⟩) 2 gL_law_X10_cell rfl nd_X10_cell ⟨Nat.le_of_ble_eq_true rfl, Nat.le_of_ble_eq_true rfl⟩ hK hP hD hS hA0 hZ rfl rfl rfl hl.1 rfl (Nat.le_of_ble_eq_true rfl) dL_law_350 ⟨Nat.le_of_ble_eq_true rfl, Nat.le_of_ble_eq_true rfl⟩ (fun r2 u2 H locs hp2 hP hD hS => ?_)
    try dsimp only at hp2 hP hD
    have he : r1 = r2 := by
      rcases hp1 with ⟨e1, c1, d1⟩ | ⟨e1, c1, d1⟩ | ⟨e1, c1⟩ <;> rcases hp2 with ⟨e2, c2, d2⟩ | ⟨e2, c2, d2⟩ | ⟨e2, c2⟩ <;> first | exact e1.trans e2.symm | exact absurd c1 c2 | exact absurd c2 c1 | exact absurd d1 d2 | exact absurd d2 d1
    refine lv_icmp_eq (tgt := 1115) hex hby dL_law_353 (by decide) (fun _ => ?_) (fun h => absurd he h)
    exact lc_end C ih hA hB hM hSl hfb hF2 hG2 hf2 hP hD hS hl
  · refine lv_iconst (v := nI 1) hex hby dL_law_323 rfl ?_
    refine lv_goto (tgt := 328) hex hby dL_law_324 (by decide) ?_
    refine mx_Ai (q0 := 0) (ci := 9) (As := [.int (xs (i0 + 1)), .int (nI 1)]) (rest := []) CFx (k_X9_cell (i := xs (i0 + 1)) (iz := (xs (i0 + 1)).toInt) (w := nI 1) (wz := (1 : Int)) (T := cuT cu V) (ns := cuN cu tc) rfl (by rfl) hg hm6 hV hN) 2 gL_law_X9_cell rfl nd_X9_cell ⟨Nat.le_of_ble_eq_true rfl, Nat.le_of_ble_eq_true rfl⟩ hK hP hD hS hA0 hZ rfl rfl rfl hl.1 rfl (Nat.le_of_ble_eq_true rfl) dL_law_328 ⟨Nat.le_of_ble_eq_true rfl, Nat.le_of_ble_eq_true rfl⟩ (fun r1 u1 H locs hp1 hP hD hS => ?_)
    try dsimp only at hp1 hP hD
    refine lv_aload_n hex hby dL_law_331 rfl (lv_at hl 2 rfl) ?_
    refine lv_aload_n hex hby dL_law_332 rfl (lv_at hl 0 rfl) ?_
    refine lv_iload_n hex hby dL_law_333 rfl (lv_at hl 3 rfl) ?_
    refine lv_iconst (v := nI 1) hex hby dL_law_334 rfl ?_
    refine nv_iadd hex hby dL_law_335 ?_
    refine nv_sld hex hby hX hbl hbA hS (show i0 + 1 < L by omega) (by omega) dL_law_336 ?_
    refine lv_aload_n hex hby dL_law_337 rfl (lv_at hl 0 rfl) ?_
    refine lv_iload_n hex hby dL_law_338 rfl (lv_at hl 3 rfl) ?_
    refine lv_iconst (v := nI 2) hex hby dL_law_339 rfl ?_
    refine nv_iadd hex hby dL_law_340 ?_
    refine nv_sld hex hby hX hbl hbA hS (show i0 + 2 < L by omega) (by omega) dL_law_341 ?_
    refine lv_if_eq (tgt := 349) hex hby dL_law_342 (by decide) (fun h => absurd h hb_) (fun _ => ?_)
    refine lv_iconst (v := nI 1) hex hby dL_law_345 rfl ?_
    refine lv_goto (tgt := 350) hex hby dL_law_346 (by decide) ?_
    refine mx_Ai (q0 := 37) (ci := 10) (As := [.int (xs (i0 + 1)), .int (nI 1)]) (rest := [.int r1]) CFx (k_X10_cell (i := xs (i0 + 1)) (iz := (xs (i0 + 1)).toInt) (w := nI 1) (wz := (1 : Int)) (T := cuT cu V) (ns := cuN cu tc) rfl (by rfl) hg2 hm6 hV ⟨hN2.1, hN.2⟩) 2 gL_law_X10_cell rfl nd_X10_cell ⟨Nat.le_of_ble_eq_true rfl, Nat.le_of_ble_eq_true rfl⟩ hK hP hD hS hA0 hZ rfl rfl rfl hl.1 rfl (Nat.le_of_ble_eq_true rfl) dL_law_350 ⟨Nat.le_of_ble_eq_true rfl, Nat.le_of_ble_eq_true rfl⟩ (fun r2 u2 H locs hp2 hP hD hS => ?_)
    try dsimp only at hp2 hP hD
    have he : r1 = r2 := by
      rcases hp1 with ⟨e1, c1, d1⟩ | ⟨e1, c1, d1⟩ | ⟨e1, c1⟩ <;> rcases hp2 with ⟨e2, c2, d2⟩ | ⟨e2, c2, d2⟩ | ⟨e2, c2⟩ <;> first | exact e1.trans e2.symm | exact absurd c1 c2 | exact absurd c2 c1 | exact absurd d1 d2 | exact absurd d2 d1
    refine lv_icmp_eq (tgt := 1115) hex hby dL_law_353 (by decide) (fun _ => ?_) (fun h => absurd he h)
    exact lc_end C ih hA hB hM hSl hfb hF2 hG2 hf2 hP hD hS hl
set_option maxHeartbeats 4000000 in
set_option maxRecDepth 100000 in
theorem lc_breaks {pp : Program} {l : Launch} {ee : Env} {ss : State} {mm : MethodId} {b0 : Nat} {bb : List Frame} {mt : Method} {cd : Code} {Q : State → Prop} {AA : Nat → Prop} {dC : Nat → ClassId} {dI : Nat → Nat → Nat} {cI cZ cS : ClassId} {ad : Nat → Nat} {fW : Nat → Option Nat} {tM tH L : Nat} {xs : Nat → Int32} {i0 : Nat} (C : LC pp ss mm b0 cd AA dC dI cI cZ cS tM tH L xs) (hi : i0 + 5 ≤ L) (hL : L ≤ 2560) (ih : LG pp l ee ss mm b0 bb mt cd Q AA dC dI cI cZ cS ad fW (i0 + 5)) {m : Nat} {cu : Nat} {tc : Nat} {rl : Nat} {rb : Nat} {rr : Nat} {ra : Nat} {pc : Nat} {bk : Nat} {c : Nat} {cn : Nat} {bs : Nat} {tl : Nat} {V : Nat → Nat} {P : Nat → Nat} {S : Nat → Nat} {F : Nat → Nat} {G : Nat → Nat} {g : Nat → Nat} {ix : Nat → Nat} {fb : Nat → Nat} {tx : Nat → Nat} {km : Nat → Nat} {kcu : Nat → Nat} {ktc : Nat → Nat} {krl : Nat → Nat} {krb : Nat → Nat} {krr : Nat → Nat} {kra : Nat → Nat} {kpc : Nat → Nat} {kbk : Nat → Nat} {kc : Nat → Nat} {kV : Nat → Nat → Nat} {kP : Nat → Nat → Nat} {kS : Nat → Nat → Nat} {ku : Nat → Nat} {im : Nat} {bs2 : Nat} {sm : Nat → Nat} {tb : Nat → Nat} {P2 : Nat → Nat} {S2 : Nat → Nat} {L2 : Nat → Nat} {K : Nat → Nat} {KT : Nat → Nat} {KS : Nat → Nat} {KL : Nat → Nat} {ix2 : Nat → Nat} {g2 : Nat → Nat} {F2 : Nat → Nat} {G2 : Nat → Nat} {O2 : Nat → Nat} {f2 : Nat → Nat} {st : Nat → Nat} {lv : Nat → Nat} {kst : Nat → Nat → Nat} {klv : Nat → Nat → Nat} (hA : IA m cu tc rl rb rr ra pc bk cn tl V) (hB : IB m cu rl rb rr ra pc c cn V P S F G g ix tx st lv) (hM : IM m cu tc pc c V P st lv sm tb P2 S2 L2 ix2 g2 O2) (hSl : IS fW ad km kcu ktc krl krb krr kra kpc kbk kc kV kP kS ku K KT KS KL kst klv) (hfb : ∀ j, fb j < 4096) (hF2 : ∀ j, F2 j < 4096) (hG2 : ∀ j, G2 j < 4096) (hf2 : ∀ j, f2 j < 4096) {H : Heap} {locs : List Loc} {ls : Array Slot} (hP : va_P (dC, dI) vwCl (LW cI cZ cS ad fW m cu tc rl rb rr ra pc bk c cn bs tl V P S F G g ix fb tx km kcu ktc krl krb krr kra kpc kbk kc kV kP kS ku m cu rl rb rr ra pc bk c tl im bs2 sm tb P2 S2 L2 tx K KT KS KL ku ix2 g2 F2 G2 O2 f2) H) (hD : va_D AA (LW cI cZ cS ad fW m cu tc rl rb rr ra pc bk c cn bs tl V P S F G g ix fb tx km kcu ktc krl krb krr kra kpc kbk kc kV kP kS ku m cu rl rb rr ra pc bk c tl im bs2 sm tb P2 S2 L2 tx K KT KS KL ku ix2 g2 F2 G2 O2 f2)) (hS : va_S AA ss.heap H locs) (hl : lv_has ls 4 [(0, .ref b0), (1, .ref (ad 0)), (2, .ref (ad 37)), (3, .int (nI i0))]) : W pp l ee room_1 ss mm #[Value.ref b0] bb mt cd H locs 55 56922 Q (F0 mm 358 ls []) := by
  obtain ⟨CFx, hK, hA0, hZ, hX, hbl, hbA⟩ := id C
  obtain ⟨hex, hby, hml, hown, hts⟩ := id CFx
  obtain ⟨hm1, hm6, hcu, hb1, hbk, hpc, htl, hcn, hrl, hrr, hrb, hra, hVt, hVb⟩ := id hA
  obtain ⟨hPb, hSb, hFb, hGb, hg, hix, htx, hN, hIv, hpg, hLD, hag⟩ := id hB
  obtain ⟨hs0, hs1, hs2, hsm, htb, hT0, hT1, hT2, hP2b, hPP, hS2b, hL2b, hAG, hO2b, hLf, hix2, hg2, hN2⟩ := id hM
  obtain ⟨hku, hW0, hW1, hKb, hKTb, hKSb, hKLb, hsl⟩ := id hSl
  have hV := cuT_VT (cu := cu) hVt
  have hL1 := hLD.1
  have hc := hLD.le hV hm6 hpc
  have hpg2 : ∀ j, j < pc → P2 j % 64 < 2 ^ m ∧ P2 j / 64 < 2 ^ m := fun j hj => by rw [hPP j hj]; exact hpg j hj
  have hsc := cu_sm hs0 hs1 hs2 hcu
  have hTb := cu_Tb hT0 hT1 hT2 hcu
  have h26 := p2_6 hm6
  have h46 := p4_6 hm6
  have hne := rg_ne hV hN hm6 hrl hrr hrb hra
  have htc8 := hVt.2.1
  refine lv_aload_n hex hby dL_law_358 rfl (lv_at hl 1 rfl) ?_
  refine mx_Ai (q0 := 0) (ci := 9) (As := []) (rest := []) CFx (k_X9_breaks (T := cuT cu V) (ns := cuN cu tc) hg hm6 hV hN) 0 gL_law_X9_breaks rfl nd_X9_breaks ⟨Nat.le_of_ble_eq_true rfl, Nat.le_of_ble_eq_true rfl⟩ hK hP hD hS hA0 hZ rfl rfl rfl hl.1 rfl (Nat.le_of_ble_eq_true rfl) dL_law_359 ⟨Nat.le_of_ble_eq_true rfl, Nat.le_of_ble_eq_true rfl⟩ (fun r1 u1 H locs hp1 hP hD hS => ?_)
  try dsimp only at hp1 hP hD
  refine lv_aload_n hex hby dL_law_362 rfl (lv_at hl 2 rfl) ?_
  refine mx_Ai (q0 := 37) (ci := 10) (As := []) (rest := [.int r1]) CFx (k_X10_breaks (T := cuT cu V) (ns := cuN cu tc) hg2 hm6 hV ⟨hN2.1, hN.2⟩) 0 gL_law_X10_breaks rfl nd_X10_breaks ⟨Nat.le_of_ble_eq_true rfl, Nat.le_of_ble_eq_true rfl⟩ hK hP hD hS hA0 hZ rfl rfl rfl hl.1 rfl (Nat.le_of_ble_eq_true rfl) dL_law_363 ⟨Nat.le_of_ble_eq_true rfl, Nat.le_of_ble_eq_true rfl⟩ (fun r2 u2 H locs hp2 hP hD hS => ?_)
  try dsimp only at hp2 hP hD
  have he : r1 = r2 := hp1.trans hp2.symm
  refine lv_icmp_eq (tgt := 1115) hex hby dL_law_366 (by decide) (fun _ => ?_) (fun h => absurd he h)
  exact lc_end C ih hA hB hM hSl hfb hF2 hG2 hf2 hP hD hS hl
set_option maxHeartbeats 4000000 in
set_option maxRecDepth 100000 in
theorem lc_stretch {pp : Program} {l : Launch} {ee : Env} {ss : State} {mm : MethodId} {b0 : Nat} {bb : List Frame} {mt : Method} {cd : Code} {Q : State → Prop} {AA : Nat → Prop} {dC : Nat → ClassId} {dI : Nat → Nat → Nat} {cI cZ cS : ClassId} {ad : Nat → Nat} {fW : Nat → Option Nat} {tM tH L : Nat} {xs : Nat → Int32} {i0 : Nat} (C : LC pp ss mm b0 cd AA dC dI cI cZ cS tM tH L xs) (hi : i0 + 5 ≤ L) (hL : L ≤ 2560) (ih : LG pp l ee ss mm b0 bb mt cd Q AA dC dI cI cZ cS ad fW (i0 + 5)) {m : Nat} {cu : Nat} {tc : Nat} {rl : Nat} {rb : Nat} {rr : Nat} {ra : Nat} {pc : Nat} {bk : Nat} {c : Nat} {cn : Nat} {bs : Nat} {tl : Nat} {V : Nat → Nat} {P : Nat → Nat} {S : Nat → Nat} {F : Nat → Nat} {G : Nat → Nat} {g : Nat → Nat} {ix : Nat → Nat} {fb : Nat → Nat} {tx : Nat → Nat} {km : Nat → Nat} {kcu : Nat → Nat} {ktc : Nat → Nat} {krl : Nat → Nat} {krb : Nat → Nat} {krr : Nat → Nat} {kra : Nat → Nat} {kpc : Nat → Nat} {kbk : Nat → Nat} {kc : Nat → Nat} {kV : Nat → Nat → Nat} {kP : Nat → Nat → Nat} {kS : Nat → Nat → Nat} {ku : Nat → Nat} {im : Nat} {bs2 : Nat} {sm : Nat → Nat} {tb : Nat → Nat} {P2 : Nat → Nat} {S2 : Nat → Nat} {L2 : Nat → Nat} {K : Nat → Nat} {KT : Nat → Nat} {KS : Nat → Nat} {KL : Nat → Nat} {ix2 : Nat → Nat} {g2 : Nat → Nat} {F2 : Nat → Nat} {G2 : Nat → Nat} {O2 : Nat → Nat} {f2 : Nat → Nat} {st : Nat → Nat} {lv : Nat → Nat} {kst : Nat → Nat → Nat} {klv : Nat → Nat → Nat} (hA : IA m cu tc rl rb rr ra pc bk cn tl V) (hB : IB m cu rl rb rr ra pc c cn V P S F G g ix tx st lv) (hM : IM m cu tc pc c V P st lv sm tb P2 S2 L2 ix2 g2 O2) (hSl : IS fW ad km kcu ktc krl krb krr kra kpc kbk kc kV kP kS ku K KT KS KL kst klv) (hfb : ∀ j, fb j < 4096) (hF2 : ∀ j, F2 j < 4096) (hG2 : ∀ j, G2 j < 4096) (hf2 : ∀ j, f2 j < 4096) {H : Heap} {locs : List Loc} {ls : Array Slot} (hP : va_P (dC, dI) vwCl (LW cI cZ cS ad fW m cu tc rl rb rr ra pc bk c cn bs tl V P S F G g ix fb tx km kcu ktc krl krb krr kra kpc kbk kc kV kP kS ku m cu rl rb rr ra pc bk c tl im bs2 sm tb P2 S2 L2 tx K KT KS KL ku ix2 g2 F2 G2 O2 f2) H) (hD : va_D AA (LW cI cZ cS ad fW m cu tc rl rb rr ra pc bk c cn bs tl V P S F G g ix fb tx km kcu ktc krl krb krr kra kpc kbk kc kV kP kS ku m cu rl rb rr ra pc bk c tl im bs2 sm tb P2 S2 L2 tx K KT KS KL ku ix2 g2 F2 G2 O2 f2)) (hS : va_S AA ss.heap H locs) (hl : lv_has ls 4 [(0, .ref b0), (1, .ref (ad 0)), (2, .ref (ad 37)), (3, .int (nI i0))]) : W pp l ee room_1 ss mm #[Value.ref b0] bb mt cd H locs 55 56922 Q (F0 mm 371 ls []) := by
  obtain ⟨CFx, hK, hA0, hZ, hX, hbl, hbA⟩ := id C
  obtain ⟨hex, hby, hml, hown, hts⟩ := id CFx
  obtain ⟨hm1, hm6, hcu, hb1, hbk, hpc, htl, hcn, hrl, hrr, hrb, hra, hVt, hVb⟩ := id hA
  obtain ⟨hPb, hSb, hFb, hGb, hg, hix, htx, hN, hIv, hpg, hLD, hag⟩ := id hB
  obtain ⟨hs0, hs1, hs2, hsm, htb, hT0, hT1, hT2, hP2b, hPP, hS2b, hL2b, hAG, hO2b, hLf, hix2, hg2, hN2⟩ := id hM
  obtain ⟨hku, hW0, hW1, hKb, hKTb, hKSb, hKLb, hsl⟩ := id hSl
  have hV := cuT_VT (cu := cu) hVt
  have hL1 := hLD.1
  have hc := hLD.le hV hm6 hpc
  have hpg2 : ∀ j, j < pc → P2 j % 64 < 2 ^ m ∧ P2 j / 64 < 2 ^ m := fun j hj => by rw [hPP j hj]; exact hpg j hj
  have hsc := cu_sm hs0 hs1 hs2 hcu
  have hTb := cu_Tb hT0 hT1 hT2 hcu
  have h26 := p2_6 hm6
  have h46 := p4_6 hm6
  have hne := rg_ne hV hN hm6 hrl hrr hrb hra
  have htc8 := hVt.2.1
  refine lv_aload_n hex hby dL_law_371 rfl (lv_at hl 1 rfl) ?_
  refine mx_Ai (q0 := 0) (ci := 9) (As := []) (rest := []) CFx (k_X9_stretch (T := cuT cu V) (ns := cuN cu tc) hix hm6 hV hN) 0 gL_law_X9_stretch rfl nd_X9_stretch ⟨Nat.le_of_ble_eq_true rfl, Nat.le_of_ble_eq_true rfl⟩ hK hP hD hS hA0 hZ rfl rfl rfl hl.1 rfl (Nat.le_of_ble_eq_true rfl) dL_law_372 ⟨Nat.le_of_ble_eq_true rfl, Nat.le_of_ble_eq_true rfl⟩ (fun r1 u1 H locs hp1 hP hD hS => ?_)
  try dsimp only at hp1 hP hD
  refine lv_aload_n hex hby dL_law_375 rfl (lv_at hl 2 rfl) ?_
  refine mx_Ai (q0 := 37) (ci := 10) (As := []) (rest := [.int r1]) CFx (k_X10_stretch (T := cuT cu V) (ns := cuN cu tc) hg2 hix2 hm6 hV hN2) 0 gL_law_X10_stretch rfl nd_X10_stretch ⟨Nat.le_of_ble_eq_true rfl, Nat.le_of_ble_eq_true rfl⟩ hK hP hD hS hA0 hZ rfl rfl rfl hl.1 rfl (Nat.le_of_ble_eq_true rfl) dL_law_376 ⟨Nat.le_of_ble_eq_true rfl, Nat.le_of_ble_eq_true rfl⟩ (fun r2 u2 H locs hp2 hP hD hS => ?_)
  try dsimp only at hp2 hP hD
  obtain ⟨a, e1, s1⟩ := hp1
  obtain ⟨b, e2, s2⟩ := hp2
  have he : r1 = r2 := by rw [e1, e2, s1.uniq (fun _ _ _ _ => rfl) s2]
  refine lv_icmp_eq (tgt := 1115) hex hby dL_law_379 (by decide) (fun _ => ?_) (fun h => absurd he h)
  exact lc_end C ih hA hB hM hSl hfb hF2 hG2 hf2 hP hD hS hl
set_option maxHeartbeats 4000000 in
set_option maxRecDepth 100000 in
theorem lc_points {pp : Program} {l : Launch} {ee : Env} {ss : State} {mm : MethodId} {b0 : Nat} {bb : List Frame} {mt : Method} {cd : Code} {Q : State → Prop} {AA : Nat → Prop} {dC : Nat → ClassId} {dI : Nat → Nat → Nat} {cI cZ cS : ClassId} {ad : Nat → Nat} {fW : Nat → Option Nat} {tM tH L : Nat} {xs : Nat → Int32} {i0 : Nat} (C : LC pp ss mm b0 cd AA dC dI cI cZ cS tM tH L xs) (hi : i0 + 5 ≤ L) (hL : L ≤ 2560) (ih : LG pp l ee ss mm b0 bb mt cd Q AA dC dI cI cZ cS ad fW (i0 + 5)) {m : Nat} {cu : Nat} {tc : Nat} {rl : Nat} {rb : Nat} {rr : Nat} {ra : Nat} {pc : Nat} {bk : Nat} {c : Nat} {cn : Nat} {bs : Nat} {tl : Nat} {V : Nat → Nat} {P : Nat → Nat} {S : Nat → Nat} {F : Nat → Nat} {G : Nat → Nat} {g : Nat → Nat} {ix : Nat → Nat} {fb : Nat → Nat} {tx : Nat → Nat} {km : Nat → Nat} {kcu : Nat → Nat} {ktc : Nat → Nat} {krl : Nat → Nat} {krb : Nat → Nat} {krr : Nat → Nat} {kra : Nat → Nat} {kpc : Nat → Nat} {kbk : Nat → Nat} {kc : Nat → Nat} {kV : Nat → Nat → Nat} {kP : Nat → Nat → Nat} {kS : Nat → Nat → Nat} {ku : Nat → Nat} {im : Nat} {bs2 : Nat} {sm : Nat → Nat} {tb : Nat → Nat} {P2 : Nat → Nat} {S2 : Nat → Nat} {L2 : Nat → Nat} {K : Nat → Nat} {KT : Nat → Nat} {KS : Nat → Nat} {KL : Nat → Nat} {ix2 : Nat → Nat} {g2 : Nat → Nat} {F2 : Nat → Nat} {G2 : Nat → Nat} {O2 : Nat → Nat} {f2 : Nat → Nat} {st : Nat → Nat} {lv : Nat → Nat} {kst : Nat → Nat → Nat} {klv : Nat → Nat → Nat} (hA : IA m cu tc rl rb rr ra pc bk cn tl V) (hB : IB m cu rl rb rr ra pc c cn V P S F G g ix tx st lv) (hM : IM m cu tc pc c V P st lv sm tb P2 S2 L2 ix2 g2 O2) (hSl : IS fW ad km kcu ktc krl krb krr kra kpc kbk kc kV kP kS ku K KT KS KL kst klv) (hfb : ∀ j, fb j < 4096) (hF2 : ∀ j, F2 j < 4096) (hG2 : ∀ j, G2 j < 4096) (hf2 : ∀ j, f2 j < 4096) {H : Heap} {locs : List Loc} {ls : Array Slot} (hP : va_P (dC, dI) vwCl (LW cI cZ cS ad fW m cu tc rl rb rr ra pc bk c cn bs tl V P S F G g ix fb tx km kcu ktc krl krb krr kra kpc kbk kc kV kP kS ku m cu rl rb rr ra pc bk c tl im bs2 sm tb P2 S2 L2 tx K KT KS KL ku ix2 g2 F2 G2 O2 f2) H) (hD : va_D AA (LW cI cZ cS ad fW m cu tc rl rb rr ra pc bk c cn bs tl V P S F G g ix fb tx km kcu ktc krl krb krr kra kpc kbk kc kV kP kS ku m cu rl rb rr ra pc bk c tl im bs2 sm tb P2 S2 L2 tx K KT KS KL ku ix2 g2 F2 G2 O2 f2)) (hS : va_S AA ss.heap H locs) (hl : lv_has ls 4 [(0, .ref b0), (1, .ref (ad 0)), (2, .ref (ad 37)), (3, .int (nI i0))]) : W pp l ee room_1 ss mm #[Value.ref b0] bb mt cd H locs 55 56922 Q (F0 mm 742 ls []) := by
  obtain ⟨CFx, hK, hA0, hZ, hX, hbl, hbA⟩ := id C
  obtain ⟨hex, hby, hml, hown, hts⟩ := id CFx
  obtain ⟨hm1, hm6, hcu, hb1, hbk, hpc, htl, hcn, hrl, hrr, hrb, hra, hVt, hVb⟩ := id hA
  obtain ⟨hPb, hSb, hFb, hGb, hg, hix, htx, hN, hIv, hpg, hLD, hag⟩ := id hB
  obtain ⟨hs0, hs1, hs2, hsm, htb, hT0, hT1, hT2, hP2b, hPP, hS2b, hL2b, hAG, hO2b, hLf, hix2, hg2, hN2⟩ := id hM
  obtain ⟨hku, hW0, hW1, hKb, hKTb, hKSb, hKLb, hsl⟩ := id hSl
  have hV := cuT_VT (cu := cu) hVt
  have hL1 := hLD.1
  have hc := hLD.le hV hm6 hpc
  have hpg2 : ∀ j, j < pc → P2 j % 64 < 2 ^ m ∧ P2 j / 64 < 2 ^ m := fun j hj => by rw [hPP j hj]; exact hpg j hj
  have hsc := cu_sm hs0 hs1 hs2 hcu
  have hTb := cu_Tb hT0 hT1 hT2 hcu
  have h26 := p2_6 hm6
  have h46 := p4_6 hm6
  have hne := rg_ne hV hN hm6 hrl hrr hrb hra
  have htc8 := hVt.2.1
  refine lv_aload_n hex hby dL_law_742 rfl (lv_at hl 1 rfl) ?_
  refine mx_Ai (q0 := 0) (ci := 9) (As := []) (rest := []) CFx (k_X9_points  ) 0 gL_law_X9_points rfl nd_X9_points ⟨Nat.le_of_ble_eq_true rfl, Nat.le_of_ble_eq_true rfl⟩ hK hP hD hS hA0 hZ rfl rfl rfl hl.1 rfl (Nat.le_of_ble_eq_true rfl) dL_law_743 ⟨Nat.le_of_ble_eq_true rfl, Nat.le_of_ble_eq_true rfl⟩ (fun r1 u1 H locs hp1 hP hD hS => ?_)
  try dsimp only at hp1 hP hD
  refine lv_aload_n hex hby dL_law_746 rfl (lv_at hl 2 rfl) ?_
  refine mx_Ai (q0 := 37) (ci := 10) (As := []) (rest := [.int r1]) CFx (k_X10_points  ) 0 gL_law_X10_points rfl nd_X10_points ⟨Nat.le_of_ble_eq_true rfl, Nat.le_of_ble_eq_true rfl⟩ hK hP hD hS hA0 hZ rfl rfl rfl hl.1 rfl (Nat.le_of_ble_eq_true rfl) dL_law_747 ⟨Nat.le_of_ble_eq_true rfl, Nat.le_of_ble_eq_true rfl⟩ (fun r2 u2 H locs hp2 hP hD hS => ?_)
  try dsimp only at hp2 hP hD
  have he : r1 = r2 := hp1.trans hp2.symm
  refine lv_icmp_eq (tgt := 1115) hex hby dL_law_750 (by decide) (fun _ => ?_) (fun h => absurd he h)
  exact lc_end C ih hA hB hM hSl hfb hF2 hG2 hf2 hP hD hS hl
set_option maxHeartbeats 4000000 in
set_option maxRecDepth 100000 in
theorem lc_leaves {pp : Program} {l : Launch} {ee : Env} {ss : State} {mm : MethodId} {b0 : Nat} {bb : List Frame} {mt : Method} {cd : Code} {Q : State → Prop} {AA : Nat → Prop} {dC : Nat → ClassId} {dI : Nat → Nat → Nat} {cI cZ cS : ClassId} {ad : Nat → Nat} {fW : Nat → Option Nat} {tM tH L : Nat} {xs : Nat → Int32} {i0 : Nat} (C : LC pp ss mm b0 cd AA dC dI cI cZ cS tM tH L xs) (hi : i0 + 5 ≤ L) (hL : L ≤ 2560) (ih : LG pp l ee ss mm b0 bb mt cd Q AA dC dI cI cZ cS ad fW (i0 + 5)) {m : Nat} {cu : Nat} {tc : Nat} {rl : Nat} {rb : Nat} {rr : Nat} {ra : Nat} {pc : Nat} {bk : Nat} {c : Nat} {cn : Nat} {bs : Nat} {tl : Nat} {V : Nat → Nat} {P : Nat → Nat} {S : Nat → Nat} {F : Nat → Nat} {G : Nat → Nat} {g : Nat → Nat} {ix : Nat → Nat} {fb : Nat → Nat} {tx : Nat → Nat} {km : Nat → Nat} {kcu : Nat → Nat} {ktc : Nat → Nat} {krl : Nat → Nat} {krb : Nat → Nat} {krr : Nat → Nat} {kra : Nat → Nat} {kpc : Nat → Nat} {kbk : Nat → Nat} {kc : Nat → Nat} {kV : Nat → Nat → Nat} {kP : Nat → Nat → Nat} {kS : Nat → Nat → Nat} {ku : Nat → Nat} {im : Nat} {bs2 : Nat} {sm : Nat → Nat} {tb : Nat → Nat} {P2 : Nat → Nat} {S2 : Nat → Nat} {L2 : Nat → Nat} {K : Nat → Nat} {KT : Nat → Nat} {KS : Nat → Nat} {KL : Nat → Nat} {ix2 : Nat → Nat} {g2 : Nat → Nat} {F2 : Nat → Nat} {G2 : Nat → Nat} {O2 : Nat → Nat} {f2 : Nat → Nat} {st : Nat → Nat} {lv : Nat → Nat} {kst : Nat → Nat → Nat} {klv : Nat → Nat → Nat} (hA : IA m cu tc rl rb rr ra pc bk cn tl V) (hB : IB m cu rl rb rr ra pc c cn V P S F G g ix tx st lv) (hM : IM m cu tc pc c V P st lv sm tb P2 S2 L2 ix2 g2 O2) (hSl : IS fW ad km kcu ktc krl krb krr kra kpc kbk kc kV kP kS ku K KT KS KL kst klv) (hfb : ∀ j, fb j < 4096) (hF2 : ∀ j, F2 j < 4096) (hG2 : ∀ j, G2 j < 4096) (hf2 : ∀ j, f2 j < 4096) {H : Heap} {locs : List Loc} {ls : Array Slot} (hP : va_P (dC, dI) vwCl (LW cI cZ cS ad fW m cu tc rl rb rr ra pc bk c cn bs tl V P S F G g ix fb tx km kcu ktc krl krb krr kra kpc kbk kc kV kP kS ku m cu rl rb rr ra pc bk c tl im bs2 sm tb P2 S2 L2 tx K KT KS KL ku ix2 g2 F2 G2 O2 f2) H) (hD : va_D AA (LW cI cZ cS ad fW m cu tc rl rb rr ra pc bk c cn bs tl V P S F G g ix fb tx km kcu ktc krl krb krr kra kpc kbk kc kV kP kS ku m cu rl rb rr ra pc bk c tl im bs2 sm tb P2 S2 L2 tx K KT KS KL ku ix2 g2 F2 G2 O2 f2)) (hS : va_S AA ss.heap H locs) (hl : lv_has ls 4 [(0, .ref b0), (1, .ref (ad 0)), (2, .ref (ad 37)), (3, .int (nI i0))]) : W pp l ee room_1 ss mm #[Value.ref b0] bb mt cd H locs 55 56922 Q (F0 mm 811 ls []) := by
  obtain ⟨CFx, hK, hA0, hZ, hX, hbl, hbA⟩ := id C
  obtain ⟨hex, hby, hml, hown, hts⟩ := id CFx
  obtain ⟨hm1, hm6, hcu, hb1, hbk, hpc, htl, hcn, hrl, hrr, hrb, hra, hVt, hVb⟩ := id hA
  obtain ⟨hPb, hSb, hFb, hGb, hg, hix, htx, hN, hIv, hpg, hLD, hag⟩ := id hB
  obtain ⟨hs0, hs1, hs2, hsm, htb, hT0, hT1, hT2, hP2b, hPP, hS2b, hL2b, hAG, hO2b, hLf, hix2, hg2, hN2⟩ := id hM
  obtain ⟨hku, hW0, hW1, hKb, hKTb, hKSb, hKLb, hsl⟩ := id hSl
  have hV := cuT_VT (cu := cu) hVt
  have hL1 := hLD.1
  have hc := hLD.le hV hm6 hpc
  have hpg2 : ∀ j, j < pc → P2 j % 64 < 2 ^ m ∧ P2 j / 64 < 2 ^ m := fun j hj => by rw [hPP j hj]; exact hpg j hj
  have hsc := cu_sm hs0 hs1 hs2 hcu
  have hTb := cu_Tb hT0 hT1 hT2 hcu
  have h26 := p2_6 hm6
  have h46 := p4_6 hm6
  have hne := rg_ne hV hN hm6 hrl hrr hrb hra
  have htc8 := hVt.2.1
  refine lv_aload_n hex hby dL_law_811 rfl (lv_at hl 1 rfl) ?_
  refine mx_Ai (q0 := 0) (ci := 9) (As := []) (rest := []) CFx (k_X9_leaves  ) 0 gL_law_X9_leaves rfl nd_X9_leaves ⟨Nat.le_of_ble_eq_true rfl, Nat.le_of_ble_eq_true rfl⟩ hK hP hD hS hA0 hZ rfl rfl rfl hl.1 rfl (Nat.le_of_ble_eq_true rfl) dL_law_812 ⟨Nat.le_of_ble_eq_true rfl, Nat.le_of_ble_eq_true rfl⟩ (fun r1 u1 H locs hp1 hP hD hS => ?_)
  try dsimp only at hp1 hP hD
  refine lv_aload_n hex hby dL_law_815 rfl (lv_at hl 2 rfl) ?_
  refine mx_Ai (q0 := 37) (ci := 10) (As := []) (rest := [.int r1]) CFx (k_X10_leaves  ) 0 gL_law_X10_leaves rfl nd_X10_leaves ⟨Nat.le_of_ble_eq_true rfl, Nat.le_of_ble_eq_true rfl⟩ hK hP hD hS hA0 hZ rfl rfl rfl hl.1 rfl (Nat.le_of_ble_eq_true rfl) dL_law_816 ⟨Nat.le_of_ble_eq_true rfl, Nat.le_of_ble_eq_true rfl⟩ (fun r2 u2 H locs hp2 hP hD hS => ?_)
  try dsimp only at hp2 hP hD
  have he : r1 = r2 := hp1.trans hp2.symm
  refine lv_icmp_eq (tgt := 1115) hex hby dL_law_819 (by decide) (fun _ => ?_) (fun h => absurd he h)
  exact lc_end C ih hA hB hM hSl hfb hF2 hG2 hf2 hP hD hS hl
set_option maxHeartbeats 4000000 in
set_option maxRecDepth 100000 in
theorem lc_faultPosition {pp : Program} {l : Launch} {ee : Env} {ss : State} {mm : MethodId} {b0 : Nat} {bb : List Frame} {mt : Method} {cd : Code} {Q : State → Prop} {AA : Nat → Prop} {dC : Nat → ClassId} {dI : Nat → Nat → Nat} {cI cZ cS : ClassId} {ad : Nat → Nat} {fW : Nat → Option Nat} {tM tH L : Nat} {xs : Nat → Int32} {i0 : Nat} (C : LC pp ss mm b0 cd AA dC dI cI cZ cS tM tH L xs) (hi : i0 + 5 ≤ L) (hL : L ≤ 2560) (ih : LG pp l ee ss mm b0 bb mt cd Q AA dC dI cI cZ cS ad fW (i0 + 5)) {m : Nat} {cu : Nat} {tc : Nat} {rl : Nat} {rb : Nat} {rr : Nat} {ra : Nat} {pc : Nat} {bk : Nat} {c : Nat} {cn : Nat} {bs : Nat} {tl : Nat} {V : Nat → Nat} {P : Nat → Nat} {S : Nat → Nat} {F : Nat → Nat} {G : Nat → Nat} {g : Nat → Nat} {ix : Nat → Nat} {fb : Nat → Nat} {tx : Nat → Nat} {km : Nat → Nat} {kcu : Nat → Nat} {ktc : Nat → Nat} {krl : Nat → Nat} {krb : Nat → Nat} {krr : Nat → Nat} {kra : Nat → Nat} {kpc : Nat → Nat} {kbk : Nat → Nat} {kc : Nat → Nat} {kV : Nat → Nat → Nat} {kP : Nat → Nat → Nat} {kS : Nat → Nat → Nat} {ku : Nat → Nat} {im : Nat} {bs2 : Nat} {sm : Nat → Nat} {tb : Nat → Nat} {P2 : Nat → Nat} {S2 : Nat → Nat} {L2 : Nat → Nat} {K : Nat → Nat} {KT : Nat → Nat} {KS : Nat → Nat} {KL : Nat → Nat} {ix2 : Nat → Nat} {g2 : Nat → Nat} {F2 : Nat → Nat} {G2 : Nat → Nat} {O2 : Nat → Nat} {f2 : Nat → Nat} {st : Nat → Nat} {lv : Nat → Nat} {kst : Nat → Nat → Nat} {klv : Nat → Nat → Nat} (hA : IA m cu tc rl rb rr ra pc bk cn tl V) (hB : IB m cu rl rb rr ra pc c cn V P S F G g ix tx st lv) (hM : IM m cu tc pc c V P st lv sm tb P2 S2 L2 ix2 g2 O2) (hSl : IS fW ad km kcu ktc krl krb krr kra kpc kbk kc kV kP kS ku K KT KS KL kst klv) (hfb : ∀ j, fb j < 4096) (hF2 : ∀ j, F2 j < 4096) (hG2 : ∀ j, G2 j < 4096) (hf2 : ∀ j, f2 j < 4096) {H : Heap} {locs : List Loc} {ls : Array Slot} (hP : va_P (dC, dI) vwCl (LW cI cZ cS ad fW m cu tc rl rb rr ra pc bk c cn bs tl V P S F G g ix fb tx km kcu ktc krl krb krr kra kpc kbk kc kV kP kS ku m cu rl rb rr ra pc bk c tl im bs2 sm tb P2 S2 L2 tx K KT KS KL ku ix2 g2 F2 G2 O2 f2) H) (hD : va_D AA (LW cI cZ cS ad fW m cu tc rl rb rr ra pc bk c cn bs tl V P S F G g ix fb tx km kcu ktc krl krb krr kra kpc kbk kc kV kP kS ku m cu rl rb rr ra pc bk c tl im bs2 sm tb P2 S2 L2 tx K KT KS KL ku ix2 g2 F2 G2 O2 f2)) (hS : va_S AA ss.heap H locs) (hl : lv_has ls 4 [(0, .ref b0), (1, .ref (ad 0)), (2, .ref (ad 37)), (3, .int (nI i0))]) : W pp l ee room_1 ss mm #[Value.ref b0] bb mt cd H locs 55 56922 Q (F0 mm 420 ls []) := by
  obtain ⟨CFx, hK, hA0, hZ, hX, hbl, hbA⟩ := id C
  obtain ⟨hex, hby, hml, hown, hts⟩ := id CFx
  obtain ⟨hm1, hm6, hcu, hb1, hbk, hpc, htl, hcn, hrl, hrr, hrb, hra, hVt, hVb⟩ := id hA
  obtain ⟨hPb, hSb, hFb, hGb, hg, hix, htx, hN, hIv, hpg, hLD, hag⟩ := id hB
  obtain ⟨hs0, hs1, hs2, hsm, htb, hT0, hT1, hT2, hP2b, hPP, hS2b, hL2b, hAG, hO2b, hLf, hix2, hg2, hN2⟩ := id hM
  obtain ⟨hku, hW0, hW1, hKb, hKTb, hKSb, hKLb, hsl⟩ := id hSl
  have hV := cuT_VT (cu := cu) hVt
  have hL1 := hLD.1
  have hc := hLD.le hV hm6 hpc
  have hpg2 : ∀ j, j < pc → P2 j % 64 < 2 ^ m ∧ P2 j / 64 < 2 ^ m := fun j hj => by rw [hPP j hj]; exact hpg j hj
  have hsc := cu_sm hs0 hs1 hs2 hcu
  have hTb := cu_Tb hT0 hT1 hT2 hcu
  have h26 := p2_6 hm6
  have h46 := p4_6 hm6
  have hne := rg_ne hV hN hm6 hrl hrr hrb hra
  have htc8 := hVt.2.1
  refine lv_aload_n hex hby dL_law_420 rfl (lv_at hl 1 rfl) ?_
  refine mx_Ai (q0 := 0) (ci := 9) (As := []) (rest := []) CFx (k_X9_faultPosition  htx htl) 0 gL_law_X9_faultPosition rfl nd_X9_faultPosition ⟨Nat.le_of_ble_eq_true rfl, Nat.le_of_ble_eq_true rfl⟩ hK hP hD hS hA0 hZ rfl rfl rfl hl.1 rfl (Nat.le_of_ble_eq_true rfl) dL_law_421 ⟨Nat.le_of_ble_eq_true rfl, Nat.le_of_ble_eq_true rfl⟩ (fun r1 u1 H locs hp1 hP hD hS => ?_)
  try dsimp only at hp1 hP hD
  refine lv_aload_n hex hby dL_law_424 rfl (lv_at hl 2 rfl) ?_
  refine mx_Ai (q0 := 37) (ci := 10) (As := []) (rest := [.int r1]) CFx (k_X10_faultPosition  htx htl) 0 gL_law_X10_faultPosition rfl nd_X10_faultPosition ⟨Nat.le_of_ble_eq_true rfl, Nat.le_of_ble_eq_true rfl⟩ hK hP hD hS hA0 hZ rfl rfl rfl hl.1 rfl (Nat.le_of_ble_eq_true rfl) dL_law_425 ⟨Nat.le_of_ble_eq_true rfl, Nat.le_of_ble_eq_true rfl⟩ (fun r2 u2 H locs hp2 hP hD hS => ?_)
  try dsimp only at hp2 hP hD
  have he : r1 = r2 := by
    rcases hp1 with ⟨a, e1, y1⟩ | ⟨e1, y1⟩ <;> rcases hp2 with ⟨b, e2, y2⟩ | ⟨e2, y2⟩ <;> have q := y1.uniq (fun _ _ => rfl) y2
    · rw [e1, e2, show a = b by omega]
    · omega
    · omega
    · exact e1.trans e2.symm
  refine lv_icmp_eq (tgt := 1115) hex hby dL_law_428 (by decide) (fun _ => ?_) (fun h => absurd he h)
  exact lc_end C ih hA hB hM hSl hfb hF2 hG2 hf2 hP hD hS hl
set_option maxHeartbeats 4000000 in
set_option maxRecDepth 100000 in
theorem lc_clusters {pp : Program} {l : Launch} {ee : Env} {ss : State} {mm : MethodId} {b0 : Nat} {bb : List Frame} {mt : Method} {cd : Code} {Q : State → Prop} {AA : Nat → Prop} {dC : Nat → ClassId} {dI : Nat → Nat → Nat} {cI cZ cS : ClassId} {ad : Nat → Nat} {fW : Nat → Option Nat} {tM tH L : Nat} {xs : Nat → Int32} {i0 : Nat} (C : LC pp ss mm b0 cd AA dC dI cI cZ cS tM tH L xs) (hi : i0 + 5 ≤ L) (hL : L ≤ 2560) (ih : LG pp l ee ss mm b0 bb mt cd Q AA dC dI cI cZ cS ad fW (i0 + 5)) {m : Nat} {cu : Nat} {tc : Nat} {rl : Nat} {rb : Nat} {rr : Nat} {ra : Nat} {pc : Nat} {bk : Nat} {c : Nat} {cn : Nat} {bs : Nat} {tl : Nat} {V : Nat → Nat} {P : Nat → Nat} {S : Nat → Nat} {F : Nat → Nat} {G : Nat → Nat} {g : Nat → Nat} {ix : Nat → Nat} {fb : Nat → Nat} {tx : Nat → Nat} {km : Nat → Nat} {kcu : Nat → Nat} {ktc : Nat → Nat} {krl : Nat → Nat} {krb : Nat → Nat} {krr : Nat → Nat} {kra : Nat → Nat} {kpc : Nat → Nat} {kbk : Nat → Nat} {kc : Nat → Nat} {kV : Nat → Nat → Nat} {kP : Nat → Nat → Nat} {kS : Nat → Nat → Nat} {ku : Nat → Nat} {im : Nat} {bs2 : Nat} {sm : Nat → Nat} {tb : Nat → Nat} {P2 : Nat → Nat} {S2 : Nat → Nat} {L2 : Nat → Nat} {K : Nat → Nat} {KT : Nat → Nat} {KS : Nat → Nat} {KL : Nat → Nat} {ix2 : Nat → Nat} {g2 : Nat → Nat} {F2 : Nat → Nat} {G2 : Nat → Nat} {O2 : Nat → Nat} {f2 : Nat → Nat} {st : Nat → Nat} {lv : Nat → Nat} {kst : Nat → Nat → Nat} {klv : Nat → Nat → Nat} (hA : IA m cu tc rl rb rr ra pc bk cn tl V) (hB : IB m cu rl rb rr ra pc c cn V P S F G g ix tx st lv) (hM : IM m cu tc pc c V P st lv sm tb P2 S2 L2 ix2 g2 O2) (hSl : IS fW ad km kcu ktc krl krb krr kra kpc kbk kc kV kP kS ku K KT KS KL kst klv) (hfb : ∀ j, fb j < 4096) (hF2 : ∀ j, F2 j < 4096) (hG2 : ∀ j, G2 j < 4096) (hf2 : ∀ j, f2 j < 4096) {H : Heap} {locs : List Loc} {ls : Array Slot} (hP : va_P (dC, dI) vwCl (LW cI cZ cS ad fW m cu tc rl rb rr ra pc bk c cn bs tl V P S F G g ix fb tx km kcu ktc krl krb krr kra kpc kbk kc kV kP kS ku m cu rl rb rr ra pc bk c tl im bs2 sm tb P2 S2 L2 tx K KT KS KL ku ix2 g2 F2 G2 O2 f2) H) (hD : va_D AA (LW cI cZ cS ad fW m cu tc rl rb rr ra pc bk c cn bs tl V P S F G g ix fb tx km kcu ktc krl krb krr kra kpc kbk kc kV kP kS ku m cu rl rb rr ra pc bk c tl im bs2 sm tb P2 S2 L2 tx K KT KS KL ku ix2 g2 F2 G2 O2 f2)) (hS : va_S AA ss.heap H locs) (hl : lv_has ls 4 [(0, .ref b0), (1, .ref (ad 0)), (2, .ref (ad 37)), (3, .int (nI i0))]) : W pp l ee room_1 ss mm #[Value.ref b0] bb mt cd H locs 55 56922 Q (F0 mm 643 ls []) := by
  obtain ⟨CFx, hK, hA0, hZ, hX, hbl, hbA⟩ := id C
  obtain ⟨hex, hby, hml, hown, hts⟩ := id CFx
  obtain ⟨hm1, hm6, hcu, hb1, hbk, hpc, htl, hcn, hrl, hrr, hrb, hra, hVt, hVb⟩ := id hA
  obtain ⟨hPb, hSb, hFb, hGb, hg, hix, htx, hN, hIv, hpg, hLD, hag⟩ := id hB
  obtain ⟨hs0, hs1, hs2, hsm, htb, hT0, hT1, hT2, hP2b, hPP, hS2b, hL2b, hAG, hO2b, hLf, hix2, hg2, hN2⟩ := id hM
  obtain ⟨hku, hW0, hW1, hKb, hKTb, hKSb, hKLb, hsl⟩ := id hSl
  have hV := cuT_VT (cu := cu) hVt
  have hL1 := hLD.1
  have hc := hLD.le hV hm6 hpc
  have hpg2 : ∀ j, j < pc → P2 j % 64 < 2 ^ m ∧ P2 j / 64 < 2 ^ m := fun j hj => by rw [hPP j hj]; exact hpg j hj
  have hsc := cu_sm hs0 hs1 hs2 hcu
  have hTb := cu_Tb hT0 hT1 hT2 hcu
  have h26 := p2_6 hm6
  have h46 := p4_6 hm6
  have hne := rg_ne hV hN hm6 hrl hrr hrb hra
  have htc8 := hVt.2.1
  refine lv_aload_n hex hby dL_law_643 rfl (lv_at hl 1 rfl) ?_
  refine lv_aload_n hex hby dL_law_644 rfl (lv_at hl 0 rfl) ?_
  refine lv_iload_n hex hby dL_law_645 rfl (lv_at hl 3 rfl) ?_
  refine lv_iconst (v := nI 1) hex hby dL_law_646 rfl ?_
  refine nv_iadd hex hby dL_law_647 ?_
  refine nv_sld hex hby hX hbl hbA hS (show i0 + 1 < L by omega) (by omega) dL_law_648 ?_
  refine lv_aload_n hex hby dL_law_649 rfl (lv_at hl 0 rfl) ?_
  refine lv_iload_n hex hby dL_law_650 rfl (lv_at hl 3 rfl) ?_
  refine lv_iconst (v := nI 2) hex hby dL_law_651 rfl ?_
  refine nv_iadd hex hby dL_law_652 ?_
  refine nv_sld hex hby hX hbl hbA hS (show i0 + 2 < L by omega) (by omega) dL_law_653 ?_
  refine mx_Ai (q0 := 0) (ci := 9) (As := [.int (xs (i0 + 1)), .int (xs (i0 + 2))]) (rest := []) CFx (k_X9_clusters (w := xs (i0 + 1)) (wz := (xs (i0 + 1)).toInt) (ht := xs (i0 + 2)) (htz := (xs (i0 + 2)).toInt) rfl rfl hg hm6) 2 gL_law_X9_clusters rfl nd_X9_clusters ⟨Nat.le_of_ble_eq_true rfl, Nat.le_of_ble_eq_true rfl⟩ hK hP hD hS hA0 hZ rfl rfl rfl hl.1 rfl (Nat.le_of_ble_eq_true rfl) dL_law_654 ⟨Nat.le_of_ble_eq_true rfl, Nat.le_of_ble_eq_true rfl⟩ (fun r1 u1 H locs hp1 hP hD hS => ?_)
  try dsimp only at hp1 hP hD
  refine lv_aload_n hex hby dL_law_657 rfl (lv_at hl 2 rfl) ?_
  refine lv_aload_n hex hby dL_law_658 rfl (lv_at hl 0 rfl) ?_
  refine lv_iload_n hex hby dL_law_659 rfl (lv_at hl 3 rfl) ?_
  refine lv_iconst (v := nI 1) hex hby dL_law_660 rfl ?_
  refine nv_iadd hex hby dL_law_661 ?_
  refine nv_sld hex hby hX hbl hbA hS (show i0 + 1 < L by omega) (by omega) dL_law_662 ?_
  refine lv_aload_n hex hby dL_law_663 rfl (lv_at hl 0 rfl) ?_
  refine lv_iload_n hex hby dL_law_664 rfl (lv_at hl 3 rfl) ?_
  refine lv_iconst (v := nI 2) hex hby dL_law_665 rfl ?_
  refine nv_iadd hex hby dL_law_666 ?_
  refine nv_sld hex hby hX hbl hbA hS (show i0 + 2 < L by omega) (by omega) dL_law_667 ?_
  refine mx_Ai (q0 := 37) (ci := 10) (As := [.int (xs (i0 + 1)), .int (xs (i0 + 2))]) (rest := [.int r1]) CFx (k_X10_clusters (w := xs (i0 + 1)) (wz := (xs (i0 + 1)).toInt) (ht := xs (i0 + 2)) (htz := (xs (i0 + 2)).toInt) rfl rfl hg2 hm6) 2 gL_law_X10_clusters rfl nd_X10_clusters ⟨Nat.le_of_ble_eq_true rfl, Nat.le_of_ble_eq_true rfl⟩ hK hP hD hS hA0 hZ rfl rfl rfl hl.1 rfl (Nat.le_of_ble_eq_true rfl) dL_law_668 ⟨Nat.le_of_ble_eq_true rfl, Nat.le_of_ble_eq_true rfl⟩ (fun r2 u2 H locs hp2 hP hD hS => ?_)
  try dsimp only at hp2 hP hD
  have he : r1 = r2 := by
    rcases hp1 with ⟨e1, c1⟩ | ⟨e1, c1⟩ <;> rcases hp2 with ⟨e2, c2⟩ | ⟨e2, c2⟩
    · exact e1.trans e2.symm
    · exact absurd c2 c1
    · exact absurd c1 c2
    · rw [e1, e2, clS_congr (fun i hi => (hN.1 i hi).trans (hN2.1 i hi).symm)]
  refine lv_icmp_eq (tgt := 1115) hex hby dL_law_671 (by decide) (fun _ => ?_) (fun h => absurd he h)
  exact lc_end C ih hA hB hM hSl hfb hF2 hG2 hf2 hP hD hS hl
