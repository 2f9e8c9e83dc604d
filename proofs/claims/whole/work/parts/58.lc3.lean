set_option maxHeartbeats 4000000 in
set_option maxRecDepth 100000 in
theorem lc_neighbours {pp : Program} {l : Launch} {ee : Env} {ss : State} {mm : MethodId} {b0 : Nat} {bb : List Frame} {mt : Method} {cd : Code} {Q : State → Prop} {AA : Nat → Prop} {dC : Nat → ClassId} {dI : Nat → Nat → Nat} {cI cZ cS : ClassId} {ad : Nat → Nat} {fW : Nat → Option Nat} {tM tH L : Nat} {xs : Nat → Int32} {i0 : Nat} (C : LC pp ss mm b0 cd AA dC dI cI cZ cS tM tH L xs) (hi : i0 + 5 ≤ L) (hL : L ≤ 2560) (ih : LG pp l ee ss mm b0 bb mt cd Q AA dC dI cI cZ cS ad fW (i0 + 5)) {m : Nat} {cu : Nat} {tc : Nat} {rl : Nat} {rb : Nat} {rr : Nat} {ra : Nat} {pc : Nat} {bk : Nat} {c : Nat} {cn : Nat} {bs : Nat} {tl : Nat} {V : Nat → Nat} {P : Nat → Nat} {S : Nat → Nat} {F : Nat → Nat} {G : Nat → Nat} {g : Nat → Nat} {ix : Nat → Nat} {fb : Nat → Nat} {tx : Nat → Nat} {km : Nat → Nat} {kcu : Nat → Nat} {ktc : Nat → Nat} {krl : Nat → Nat} {krb : Nat → Nat} {krr : Nat → Nat} {kra : Nat → Nat} {kpc : Nat → Nat} {kbk : Nat → Nat} {kc : Nat → Nat} {kV : Nat → Nat → Nat} {kP : Nat → Nat → Nat} {kS : Nat → Nat → Nat} {ku : Nat → Nat} {im : Nat} {bs2 : Nat} {sm : Nat → Nat} {tb : Nat → Nat} {P2 : Nat → Nat} {S2 : Nat → Nat} {L2 : Nat → Nat} {K : Nat → Nat} {KT : Nat → Nat} {KS : Nat → Nat} {KL : Nat → Nat} {ix2 : Nat → Nat} {g2 : Nat → Nat} {F2 : Nat → Nat} {G2 : Nat → Nat} {O2 : Nat → Nat} {f2 : Nat → Nat} {st : Nat → Nat} {lv : Nat → Nat} {kst : Nat → Nat → Nat} {klv : Nat → Nat → Nat} (hA : IA m cu tc rl rb rr ra pc bk cn tl V) (hB : IB m cu rl rb rr ra pc c cn V P S F G g ix tx st lv) (hM : IM m cu tc pc c V P st lv sm tb P2 S2 L2 ix2 g2 O2) (hSl : IS fW ad km kcu ktc krl krb krr kra kpc kbk kc kV kP kS ku K KT KS KL kst klv) (hfb : ∀ j, fb j < 4096) (hF2 : ∀ j, F2 j < 4096) (hG2 : ∀ j, G2 j < 4096) (hf2 : ∀ j, f2 j < 4096) {H : Heap} {locs : List Loc} {ls : Array Slot} (hP : va_P (dC, dI) vwCl (LW cI cZ cS ad fW m cu tc rl rb rr ra pc bk c cn bs tl V P S F G g ix fb tx km kcu ktc krl krb krr kra kpc kbk kc kV kP kS ku m cu rl rb rr ra pc bk c tl im bs2 sm tb P2 S2 L2 tx K KT KS KL ku ix2 g2 F2 G2 O2 f2) H) (hD : va_D AA (LW cI cZ cS ad fW m cu tc rl rb rr ra pc bk c cn bs tl V P S F G g ix fb tx km kcu ktc krl krb krr kra kpc kbk kc kV kP kS ku m cu rl rb rr ra pc bk c tl im bs2 sm tb P2 S2 L2 tx K KT KS KL ku ix2 g2 F2 G2 O2 f2)) (hS : va_S AA ss.heap H locs) (hl : lv_has ls 4 [(0, .ref b0), (1, .ref (ad 0)), (2, .ref (ad 37)), (3, .int (nI i0))]) : W pp l ee room_1 ss mm #[Value.ref b0] bb mt cd H locs 55 56922 Q (F0 mm 890 ls []) := by
  obtain ⟨CFx, hK, hA0, hZ, hX, hbl, hbA⟩ := id C
  obtain ⟨hex, hby, hml, hown, hts⟩ := id CFx
  obtain ⟨hm1, hm6, hcu, hb1, hbk, hpc, htl, hcn, hrl, hrr, hrb, hra, hVt, hVb⟩ := id hA
  obtain ⟨hPb, hSb, hFb, hGb, hg, hix, htx, hN, hIv, hpg, hLD, hag⟩ := id hB
  obtain ⟨hs0, hs1, hs2, hsm, htb, hT0, hT1, hT2, hP2b, hPP, hS2b, hL2b, hAG, hO2b, hLf, hix2, hg2, hN2⟩ := id hM
  obtain ⟨hku, hW0, hW1, hKb, hKTb, hKSb, hKLb, hsl⟩ := id hSl
  have hV := cuT_VT (cu := cu) hVt
  have hL1 := hLD.1
  have hc := hLD.le hV hm6 hpc
  have hpg2 : ∀ j, j < pc → P2 j % 64 < 2 ^ m ∧ P2 j / 64 < 2 ^ m := fun j hj => by rw [hPP j hj]; exact hpg j hj
  have hsc := cu_sm hs0 hs1 hs2 hcu
  have hTb := cu_Tb hT0 hT1 hT2 hcu
  have h26 := p2_6 hm6
  have h46 := p4_6 hm6
  have hne := rg_ne hV hN hm6 hrl hrr hrb hra
  have htc8 := hVt.2.1
  refine lv_aload_n hex hby dL_law_890 rfl (lv_at hl 1 rfl) ?_
  refine lv_aload_n hex hby dL_law_891 rfl (lv_at hl 0 rfl) ?_
  refine lv_iload_n hex hby dL_law_892 rfl (lv_at hl 3 rfl) ?_
  refine lv_iconst (v := nI 1) hex hby dL_law_893 rfl ?_
  refine nv_iadd hex hby dL_law_894 ?_
  refine nv_sld hex hby hX hbl hbA hS (show i0 + 1 < L by omega) (by omega) dL_law_895 ?_
  refine lv_aload_n hex hby dL_law_896 rfl (lv_at hl 0 rfl) ?_
  refine lv_iload_n hex hby dL_law_897 rfl (lv_at hl 3 rfl) ?_
  refine lv_iconst (v := nI 2) hex hby dL_law_898 rfl ?_
  refine nv_iadd hex hby dL_law_899 ?_
  refine nv_sld hex hby hX hbl hbA hS (show i0 + 2 < L by omega) (by omega) dL_law_900 ?_
  refine mx_Ai (q0 := 0) (ci := 9) (As := [.int (xs (i0 + 1)), .int (xs (i0 + 2))]) (rest := []) CFx (k_X9_neighbours (k := xs (i0 + 1)) (kz := (xs (i0 + 1)).toInt) (s := xs (i0 + 2)) (sz := (xs (i0 + 2)).toInt) (T := cuT cu V) (ns := cuN cu tc) (st := st) (lv := lv) rfl rfl hfb hg hix hSb hm6 hV hN hL1 hag hc) 2 gL_law_X9_neighbours rfl nd_X9_neighbours ⟨Nat.le_of_ble_eq_true rfl, Nat.le_of_ble_eq_true rfl⟩ hK hP hD hS hA0 hZ rfl rfl rfl hl.1 rfl (Nat.le_of_ble_eq_true rfl) dL_law_901 ⟨Nat.le_of_ble_eq_true rfl, Nat.le_of_ble_eq_true rfl⟩ (fun r1 u1 H locs hp1 hP hD hS => ?_)
  obtain ⟨bs_1, fb_1⟩ := u1
  try dsimp only at hp1 hP hD
  refine lv_aload_n hex hby dL_law_904 rfl (lv_at hl 2 rfl) ?_
  refine lv_aload_n hex hby dL_law_905 rfl (lv_at hl 0 rfl) ?_
  refine lv_iload_n hex hby dL_law_906 rfl (lv_at hl 3 rfl) ?_
  refine lv_iconst (v := nI 1) hex hby dL_law_907 rfl ?_
  refine nv_iadd hex hby dL_law_908 ?_
  refine nv_sld hex hby hX hbl hbA hS (show i0 + 1 < L by omega) (by omega) dL_law_909 ?_
  refine lv_aload_n hex hby dL_law_910 rfl (lv_at hl 0 rfl) ?_
  refine lv_iload_n hex hby dL_law_911 rfl (lv_at hl 3 rfl) ?_
  refine lv_iconst (v := nI 2) hex hby dL_law_912 rfl ?_
  refine nv_iadd hex hby dL_law_913 ?_
  refine nv_sld hex hby hX hbl hbA hS (show i0 + 2 < L by omega) (by omega) dL_law_914 ?_
  refine mx_Ai (q0 := 37) (ci := 10) (As := [.int (xs (i0 + 1)), .int (xs (i0 + 2))]) (rest := [.int r1]) CFx (k_X10_neighbours (k := xs (i0 + 1)) (kz := (xs (i0 + 1)).toInt) (s := xs (i0 + 2)) (sz := (xs (i0 + 2)).toInt) (T := cuT cu V) (ns := cuN cu tc) (st := st) (lv := lv) rfl rfl hf2 hg2 hS2b hL2b hix2 hO2b hm6 hV hN2 hL1 hAG hLf) 2 gL_law_X10_neighbours rfl nd_X10_neighbours ⟨Nat.le_of_ble_eq_true rfl, Nat.le_of_ble_eq_true rfl⟩ hK hP hD hS hA0 hZ rfl rfl rfl hl.1 rfl (Nat.le_of_ble_eq_true rfl) dL_law_915 ⟨Nat.le_of_ble_eq_true rfl, Nat.le_of_ble_eq_true rfl⟩ (fun r2 u2 H locs hp2 hP hD hS => ?_)
  obtain ⟨bs_2, f_2⟩ := u2
  try dsimp only at hp2 hP hD
  rcases hp1 with ⟨a, fa, e1, c1, s1, b1⟩ | ⟨e1, c1, b1⟩ <;> rcases hp2 with ⟨b, fbb, e2, c2, s2, b2⟩ | ⟨e2, c2, b2⟩
  · have he : r1 = r2 := by rw [e1, e2, (s1.uniq s2).1]
    refine lv_icmp_eq (tgt := 1115) hex hby dL_law_918 (by decide) (fun _ => ?_) (fun h => absurd he h)
    exact lc_end C ih hA hB hM hSl b1 hF2 hG2 b2 hP hD hS hl
  · exact absurd c1 c2
  · exact absurd c2 c1
  · have he : r1 = r2 := e1.trans e2.symm
    refine lv_icmp_eq (tgt := 1115) hex hby dL_law_918 (by decide) (fun _ => ?_) (fun h => absurd he h)
    exact lc_end C ih hA hB hM hSl b1 hF2 hG2 b2 hP hD hS hl
set_option maxHeartbeats 4000000 in
set_option maxRecDepth 100000 in
theorem lc_neighbour {pp : Program} {l : Launch} {ee : Env} {ss : State} {mm : MethodId} {b0 : Nat} {bb : List Frame} {mt : Method} {cd : Code} {Q : State → Prop} {AA : Nat → Prop} {dC : Nat → ClassId} {dI : Nat → Nat → Nat} {cI cZ cS : ClassId} {ad : Nat → Nat} {fW : Nat → Option Nat} {tM tH L : Nat} {xs : Nat → Int32} {i0 : Nat} (C : LC pp ss mm b0 cd AA dC dI cI cZ cS tM tH L xs) (hi : i0 + 5 ≤ L) (hL : L ≤ 2560) (ih : LG pp l ee ss mm b0 bb mt cd Q AA dC dI cI cZ cS ad fW (i0 + 5)) {m : Nat} {cu : Nat} {tc : Nat} {rl : Nat} {rb : Nat} {rr : Nat} {ra : Nat} {pc : Nat} {bk : Nat} {c : Nat} {cn : Nat} {bs : Nat} {tl : Nat} {V : Nat → Nat} {P : Nat → Nat} {S : Nat → Nat} {F : Nat → Nat} {G : Nat → Nat} {g : Nat → Nat} {ix : Nat → Nat} {fb : Nat → Nat} {tx : Nat → Nat} {km : Nat → Nat} {kcu : Nat → Nat} {ktc : Nat → Nat} {krl : Nat → Nat} {krb : Nat → Nat} {krr : Nat → Nat} {kra : Nat → Nat} {kpc : Nat → Nat} {kbk : Nat → Nat} {kc : Nat → Nat} {kV : Nat → Nat → Nat} {kP : Nat → Nat → Nat} {kS : Nat → Nat → Nat} {ku : Nat → Nat} {im : Nat} {bs2 : Nat} {sm : Nat → Nat} {tb : Nat → Nat} {P2 : Nat → Nat} {S2 : Nat → Nat} {L2 : Nat → Nat} {K : Nat → Nat} {KT : Nat → Nat} {KS : Nat → Nat} {KL : Nat → Nat} {ix2 : Nat → Nat} {g2 : Nat → Nat} {F2 : Nat → Nat} {G2 : Nat → Nat} {O2 : Nat → Nat} {f2 : Nat → Nat} {st : Nat → Nat} {lv : Nat → Nat} {kst : Nat → Nat → Nat} {klv : Nat → Nat → Nat} (hA : IA m cu tc rl rb rr ra pc bk cn tl V) (hB : IB m cu rl rb rr ra pc c cn V P S F G g ix tx st lv) (hM : IM m cu tc pc c V P st lv sm tb P2 S2 L2 ix2 g2 O2) (hSl : IS fW ad km kcu ktc krl krb krr kra kpc kbk kc kV kP kS ku K KT KS KL kst klv) (hfb : ∀ j, fb j < 4096) (hF2 : ∀ j, F2 j < 4096) (hG2 : ∀ j, G2 j < 4096) (hf2 : ∀ j, f2 j < 4096) {H : Heap} {locs : List Loc} {ls : Array Slot} (hP : va_P (dC, dI) vwCl (LW cI cZ cS ad fW m cu tc rl rb rr ra pc bk c cn bs tl V P S F G g ix fb tx km kcu ktc krl krb krr kra kpc kbk kc kV kP kS ku m cu rl rb rr ra pc bk c tl im bs2 sm tb P2 S2 L2 tx K KT KS KL ku ix2 g2 F2 G2 O2 f2) H) (hD : va_D AA (LW cI cZ cS ad fW m cu tc rl rb rr ra pc bk c cn bs tl V P S F G g ix fb tx km kcu ktc krl krb krr kra kpc kbk kc kV kP kS ku m cu rl rb rr ra pc bk c tl im bs2 sm tb P2 S2 L2 tx K KT KS KL ku ix2 g2 F2 G2 O2 f2)) (hS : va_S AA ss.heap H locs) (hl : lv_has ls 4 [(0, .ref b0), (1, .ref (ad 0)), (2, .ref (ad 37)), (3, .int (nI i0))]) : W pp l ee room_1 ss mm #[Value.ref b0] bb mt cd H locs 55 56922 Q (F0 mm 923 ls []) := by
  obtain ⟨CFx, hK, hA0, hZ, hX, hbl, hbA⟩ := id C
  obtain ⟨hex, hby, hml, hown, hts⟩ := id CFx
  obtain ⟨hm1, hm6, hcu, hb1, hbk, hpc, htl, hcn, hrl, hrr, hrb, hra, hVt, hVb⟩ := id hA
  obtain ⟨hPb, hSb, hFb, hGb, hg, hix, htx, hN, hIv, hpg, hLD, hag⟩ := id hB
  obtain ⟨hs0, hs1, hs2, hsm, htb, hT0, hT1, hT2, hP2b, hPP, hS2b, hL2b, hAG, hO2b, hLf, hix2, hg2, hN2⟩ := id hM
  obtain ⟨hku, hW0, hW1, hKb, hKTb, hKSb, hKLb, hsl⟩ := id hSl
  have hV := cuT_VT (cu := cu) hVt
  have hL1 := hLD.1
  have hc := hLD.le hV hm6 hpc
  have hpg2 : ∀ j, j < pc → P2 j % 64 < 2 ^ m ∧ P2 j / 64 < 2 ^ m := fun j hj => by rw [hPP j hj]; exact hpg j hj
  have hsc := cu_sm hs0 hs1 hs2 hcu
  have hTb := cu_Tb hT0 hT1 hT2 hcu
  have h26 := p2_6 hm6
  have h46 := p4_6 hm6
  have hne := rg_ne hV hN hm6 hrl hrr hrb hra
  have htc8 := hVt.2.1
  refine lv_aload_n hex hby dL_law_923 rfl (lv_at hl 1 rfl) ?_
  refine lv_aload_n hex hby dL_law_924 rfl (lv_at hl 0 rfl) ?_
  refine lv_iload_n hex hby dL_law_925 rfl (lv_at hl 3 rfl) ?_
  refine lv_iconst (v := nI 1) hex hby dL_law_926 rfl ?_
  refine nv_iadd hex hby dL_law_927 ?_
  refine nv_sld hex hby hX hbl hbA hS (show i0 + 1 < L by omega) (by omega) dL_law_928 ?_
  refine lv_aload_n hex hby dL_law_929 rfl (lv_at hl 0 rfl) ?_
  refine lv_iload_n hex hby dL_law_930 rfl (lv_at hl 3 rfl) ?_
  refine lv_iconst (v := nI 2) hex hby dL_law_931 rfl ?_
  refine nv_iadd hex hby dL_law_932 ?_
  refine nv_sld hex hby hX hbl hbA hS (show i0 + 2 < L by omega) (by omega) dL_law_933 ?_
  refine lv_aload_n hex hby dL_law_934 rfl (lv_at hl 0 rfl) ?_
  refine lv_iload_n hex hby dL_law_935 rfl (lv_at hl 3 rfl) ?_
  refine lv_iconst (v := nI 3) hex hby dL_law_936 rfl ?_
  refine nv_iadd hex hby dL_law_937 ?_
  refine nv_sld hex hby hX hbl hbA hS (show i0 + 3 < L by omega) (by omega) dL_law_938 ?_
  refine mx_Ai (q0 := 0) (ci := 9) (As := [.int (xs (i0 + 1)), .int (xs (i0 + 2)), .int (xs (i0 + 3))]) (rest := []) CFx (k_X9_neighbour (k := xs (i0 + 1)) (kz := (xs (i0 + 1)).toInt) (s := xs (i0 + 2)) (sz := (xs (i0 + 2)).toInt) (q := xs (i0 + 3)) (qz := (xs (i0 + 3)).toInt) (T := cuT cu V) (ns := cuN cu tc) (st := st) (lv := lv) rfl rfl rfl hfb hg hix hSb hm6 hV hN hL1 hag hc) 3 gL_law_X9_neighbour rfl nd_X9_neighbour ⟨Nat.le_of_ble_eq_true rfl, Nat.le_of_ble_eq_true rfl⟩ hK hP hD hS hA0 hZ rfl rfl rfl hl.1 rfl (Nat.le_of_ble_eq_true rfl) dL_law_939 ⟨Nat.le_of_ble_eq_true rfl, Nat.le_of_ble_eq_true rfl⟩ (fun r1 u1 H locs hp1 hP hD hS => ?_)
  obtain ⟨bs_1, fb_1⟩ := u1
  try dsimp only at hp1 hP hD
  refine lv_aload_n hex hby dL_law_942 rfl (lv_at hl 2 rfl) ?_
  refine lv_aload_n hex hby dL_law_943 rfl (lv_at hl 0 rfl) ?_
  refine lv_iload_n hex hby dL_law_944 rfl (lv_at hl 3 rfl) ?_
  refine lv_iconst (v := nI 1) hex hby dL_law_945 rfl ?_
  refine nv_iadd hex hby dL_law_946 ?_
  refine nv_sld hex hby hX hbl hbA hS (show i0 + 1 < L by omega) (by omega) dL_law_947 ?_
  refine lv_aload_n hex hby dL_law_948 rfl (lv_at hl 0 rfl) ?_
  refine lv_iload_n hex hby dL_law_949 rfl (lv_at hl 3 rfl) ?_
  refine lv_iconst (v := nI 2) hex hby dL_law_950 rfl ?_
  refine nv_iadd hex hby dL_law_951 ?_
  refine nv_sld hex hby hX hbl hbA hS (show i0 + 2 < L by omega) (by omega) dL_law_952 ?_
  refine lv_aload_n hex hby dL_law_953 rfl (lv_at hl 0 rfl) ?_
  refine lv_iload_n hex hby dL_law_954 rfl (lv_at hl 3 rfl) ?_
  refine lv_iconst (v := nI 3) hex hby dL_law_955 rfl ?_
  refine nv_iadd hex hby dL_law_956 ?_
  refine nv_sld hex hby hX hbl hbA hS (show i0 + 3 < L by omega) (by omega) dL_law_957 ?_
  refine mx_Ai (q0 := 37) (ci := 10) (As := [.int (xs (i0 + 1)), .int (xs (i0 + 2)), .int (xs (i0 + 3))]) (rest := [.int r1]) CFx (k_X10_neighbour (k := xs (i0 + 1)) (kz := (xs (i0 + 1)).toInt) (s := xs (i0 + 2)) (sz := (xs (i0 + 2)).toInt) (q := xs (i0 + 3)) (qz := (xs (i0 + 3)).toInt) (T := cuT cu V) (ns := cuN cu tc) (st := st) (lv := lv) rfl rfl rfl hf2 hg2 hS2b hL2b hix2 hO2b hm6 hV hN2 hL1 hAG hLf) 3 gL_law_X10_neighbour rfl nd_X10_neighbour ⟨Nat.le_of_ble_eq_true rfl, Nat.le_of_ble_eq_true rfl⟩ hK hP hD hS hA0 hZ rfl rfl rfl hl.1 rfl (Nat.le_of_ble_eq_true rfl) dL_law_958 ⟨Nat.le_of_ble_eq_true rfl, Nat.le_of_ble_eq_true rfl⟩ (fun r2 u2 H locs hp2 hP hD hS => ?_)
  obtain ⟨bs_2, f_2⟩ := u2
  try dsimp only at hp2 hP hD
  rcases hp1 with ⟨v1, n1, y1, e1, c1, s1, d1, w1, b1⟩ | ⟨e1, c1, b1⟩ | ⟨n1, y1, e1, c1, s1, d1, b1⟩ <;> rcases hp2 with ⟨v2, n2, y2, e2, c2, s2, d2, w2, b2⟩ | ⟨e2, c2, b2⟩ | ⟨n2, y2, e2, c2, s2, d2, b2⟩
  · have he : r1 = r2 := by rw [e1, e2, w1, w2, (s1.uniq s2).2 _ (by omega)]
    refine lv_icmp_eq (tgt := 1115) hex hby dL_law_961 (by decide) (fun _ => ?_) (fun h => absurd he h)
    exact lc_end C ih hA hB hM hSl b1 hF2 hG2 b2 hP hD hS hl
  · exact absurd c1 c2
  · have q := (s1.uniq s2).1
    exact absurd d1 (by omega)
  · exact absurd c2 c1
  · have he : r1 = r2 := e1.trans e2.symm
    refine lv_icmp_eq (tgt := 1115) hex hby dL_law_961 (by decide) (fun _ => ?_) (fun h => absurd he h)
    exact lc_end C ih hA hB hM hSl b1 hF2 hG2 b2 hP hD hS hl
  · exact absurd c2 c1
  · have q := (s1.uniq s2).1
    exact absurd d2 (by omega)
  · exact absurd c1 c2
  · have he : r1 = r2 := e1.trans e2.symm
    refine lv_icmp_eq (tgt := 1115) hex hby dL_law_961 (by decide) (fun _ => ?_) (fun h => absurd he h)
    exact lc_end C ih hA hB hM hSl b1 hF2 hG2 b2 hP hD hS hl
set_option maxHeartbeats 4000000 in
set_option maxRecDepth 100000 in
theorem lc_walk {pp : Program} {l : Launch} {ee : Env} {ss : State} {mm : MethodId} {b0 : Nat} {bb : List Frame} {mt : Method} {cd : Code} {Q : State → Prop} {AA : Nat → Prop} {dC : Nat → ClassId} {dI : Nat → Nat → Nat} {cI cZ cS : ClassId} {ad : Nat → Nat} {fW : Nat → Option Nat} {tM tH L : Nat} {xs : Nat → Int32} {i0 : Nat} (C : LC pp ss mm b0 cd AA dC dI cI cZ cS tM tH L xs) (hi : i0 + 5 ≤ L) (hL : L ≤ 2560) (ih : LG pp l ee ss mm b0 bb mt cd Q AA dC dI cI cZ cS ad fW (i0 + 5)) {m : Nat} {cu : Nat} {tc : Nat} {rl : Nat} {rb : Nat} {rr : Nat} {ra : Nat} {pc : Nat} {bk : Nat} {c : Nat} {cn : Nat} {bs : Nat} {tl : Nat} {V : Nat → Nat} {P : Nat → Nat} {S : Nat → Nat} {F : Nat → Nat} {G : Nat → Nat} {g : Nat → Nat} {ix : Nat → Nat} {fb : Nat → Nat} {tx : Nat → Nat} {km : Nat → Nat} {kcu : Nat → Nat} {ktc : Nat → Nat} {krl : Nat → Nat} {krb : Nat → Nat} {krr : Nat → Nat} {kra : Nat → Nat} {kpc : Nat → Nat} {kbk : Nat → Nat} {kc : Nat → Nat} {kV : Nat → Nat → Nat} {kP : Nat → Nat → Nat} {kS : Nat → Nat → Nat} {ku : Nat → Nat} {im : Nat} {bs2 : Nat} {sm : Nat → Nat} {tb : Nat → Nat} {P2 : Nat → Nat} {S2 : Nat → Nat} {L2 : Nat → Nat} {K : Nat → Nat} {KT : Nat → Nat} {KS : Nat → Nat} {KL : Nat → Nat} {ix2 : Nat → Nat} {g2 : Nat → Nat} {F2 : Nat → Nat} {G2 : Nat → Nat} {O2 : Nat → Nat} {f2 : Nat → Nat} {st : Nat → Nat} {lv : Nat → Nat} {kst : Nat → Nat → Nat} {klv : Nat → Nat → Nat} (hA : IA m cu tc rl rb rr ra pc bk cn tl V) (hB : IB m cu rl rb rr ra pc c cn V P S F G g ix tx st lv) (hM : IM m cu tc pc c V P st lv sm tb P2 S2 L2 ix2 g2 O2) (hSl : IS fW ad km kcu ktc krl krb krr kra kpc kbk kc kV kP kS ku K KT KS KL kst klv) (hfb : ∀ j, fb j < 4096) (hF2 : ∀ j, F2 j < 4096) (hG2 : ∀ j, G2 j < 4096) (hf2 : ∀ j, f2 j < 4096) {H : Heap} {locs : List Loc} {ls : Array Slot} (hP : va_P (dC, dI) vwCl (LW cI cZ cS ad fW m cu tc rl rb rr ra pc bk c cn bs tl V P S F G g ix fb tx km kcu ktc krl krb krr kra kpc kbk kc kV kP kS ku m cu rl rb rr ra pc bk c tl im bs2 sm tb P2 S2 L2 tx K KT KS KL ku ix2 g2 F2 G2 O2 f2) H) (hD : va_D AA (LW cI cZ cS ad fW m cu tc rl rb rr ra pc bk c cn bs tl V P S F G g ix fb tx km kcu ktc krl krb krr kra kpc kbk kc kV kP kS ku m cu rl rb rr ra pc bk c tl im bs2 sm tb P2 S2 L2 tx K KT KS KL ku ix2 g2 F2 G2 O2 f2)) (hS : va_S AA ss.heap H locs) (hl : lv_has ls 4 [(0, .ref b0), (1, .ref (ad 0)), (2, .ref (ad 37)), (3, .int (nI i0))]) : W pp l ee room_1 ss mm #[Value.ref b0] bb mt cd H locs 55 56922 Q (F0 mm 979 ls []) := by
  obtain ⟨CFx, hK, hA0, hZ, hX, hbl, hbA⟩ := id C
  obtain ⟨hex, hby, hml, hown, hts⟩ := id CFx
  obtain ⟨hm1, hm6, hcu, hb1, hbk, hpc, htl, hcn, hrl, hrr, hrb, hra, hVt, hVb⟩ := id hA
  obtain ⟨hPb, hSb, hFb, hGb, hg, hix, htx, hN, hIv, hpg, hLD, hag⟩ := id hB
  obtain ⟨hs0, hs1, hs2, hsm, htb, hT0, hT1, hT2, hP2b, hPP, hS2b, hL2b, hAG, hO2b, hLf, hix2, hg2, hN2⟩ := id hM
  obtain ⟨hku, hW0, hW1, hKb, hKTb, hKSb, hKLb, hsl⟩ := id hSl
  have hV := cuT_VT (cu := cu) hVt
  have hL1 := hLD.1
  have hc := hLD.le hV hm6 hpc
  have hpg2 : ∀ j, j < pc → P2 j % 64 < 2 ^ m ∧ P2 j / 64 < 2 ^ m := fun j hj => by rw [hPP j hj]; exact hpg j hj
  have hsc := cu_sm hs0 hs1 hs2 hcu
  have hTb := cu_Tb hT0 hT1 hT2 hcu
  have h26 := p2_6 hm6
  have h46 := p4_6 hm6
  have hne := rg_ne hV hN hm6 hrl hrr hrb hra
  have htc8 := hVt.2.1
  refine lv_aload_n hex hby dL_law_979 rfl (lv_at hl 1 rfl) ?_
  refine lv_aload_n hex hby dL_law_980 rfl (lv_at hl 0 rfl) ?_
  refine lv_iload_n hex hby dL_law_981 rfl (lv_at hl 3 rfl) ?_
  refine lv_iconst (v := nI 1) hex hby dL_law_982 rfl ?_
  refine nv_iadd hex hby dL_law_983 ?_
  refine nv_sld hex hby hX hbl hbA hS (show i0 + 1 < L by omega) (by omega) dL_law_984 ?_
  refine lv_aload_n hex hby dL_law_985 rfl (lv_at hl 0 rfl) ?_
  refine lv_iload_n hex hby dL_law_986 rfl (lv_at hl 3 rfl) ?_
  refine lv_iconst (v := nI 2) hex hby dL_law_987 rfl ?_
  refine nv_iadd hex hby dL_law_988 ?_
  refine nv_sld hex hby hX hbl hbA hS (show i0 + 2 < L by omega) (by omega) dL_law_989 ?_
  refine mx_Ai (q0 := 0) (ci := 9) (As := [.int (xs (i0 + 1)), .int (xs (i0 + 2))]) (rest := []) CFx (k_X9_walk (k := xs (i0 + 1)) (kz := (xs (i0 + 1)).toInt) (s := xs (i0 + 2)) (sz := (xs (i0 + 2)).toInt) (T := cuT cu V) (ns := cuN cu tc) (st := st) (lv := lv) rfl rfl hfb hg hix hSb hm6 hV hN hL1 hag hc) 2 gL_law_X9_walk rfl nd_X9_walk ⟨Nat.le_of_ble_eq_true rfl, Nat.le_of_ble_eq_true rfl⟩ hK hP hD hS hA0 hZ rfl rfl rfl hl.1 rfl (Nat.le_of_ble_eq_true rfl) dL_law_990 ⟨Nat.le_of_ble_eq_true rfl, Nat.le_of_ble_eq_true rfl⟩ (fun r1 u1 H locs hp1 hP hD hS => ?_)
  obtain ⟨bs_1, fb_1⟩ := u1
  try dsimp only at hp1 hP hD
  refine lv_aload_n hex hby dL_law_993 rfl (lv_at hl 2 rfl) ?_
  refine lv_aload_n hex hby dL_law_994 rfl (lv_at hl 0 rfl) ?_
  refine lv_iload_n hex hby dL_law_995 rfl (lv_at hl 3 rfl) ?_
  refine lv_iconst (v := nI 1) hex hby dL_law_996 rfl ?_
  refine nv_iadd hex hby dL_law_997 ?_
  refine nv_sld hex hby hX hbl hbA hS (show i0 + 1 < L by omega) (by omega) dL_law_998 ?_
  refine lv_aload_n hex hby dL_law_999 rfl (lv_at hl 0 rfl) ?_
  refine lv_iload_n hex hby dL_law_1000 rfl (lv_at hl 3 rfl) ?_
  refine lv_iconst (v := nI 2) hex hby dL_law_1001 rfl ?_
  refine nv_iadd hex hby dL_law_1002 ?_
  refine nv_sld hex hby hX hbl hbA hS (show i0 + 2 < L by omega) (by omega) dL_law_1003 ?_
  refine mx_Ai (q0 := 37) (ci := 10) (As := [.int (xs (i0 + 1)), .int (xs (i0 + 2))]) (rest := [.int r1]) CFx (k_X10_walk (k := xs (i0 + 1)) (kz := (xs (i0 + 1)).toInt) (s := xs (i0 + 2)) (sz := (xs (i0 + 2)).toInt) (T := cuT cu V) (ns := cuN cu tc) (st := st) (lv := lv) rfl rfl hf2 hg2 hS2b hL2b hix2 hO2b hm6 hV hN2 hL1 hAG hLf) 2 gL_law_X10_walk rfl nd_X10_walk ⟨Nat.le_of_ble_eq_true rfl, Nat.le_of_ble_eq_true rfl⟩ hK hP hD hS hA0 hZ rfl rfl rfl hl.1 rfl (Nat.le_of_ble_eq_true rfl) dL_law_1004 ⟨Nat.le_of_ble_eq_true rfl, Nat.le_of_ble_eq_true rfl⟩ (fun r2 u2 H locs hp2 hP hD hS => ?_)
  obtain ⟨bs_2, f_2⟩ := u2
  try dsimp only at hp2 hP hD
  rcases hp1 with ⟨a, e1, c1, s1, b1⟩ | ⟨e1, c1, b1⟩ <;> rcases hp2 with ⟨b, e2, c2, s2, b2⟩ | ⟨e2, c2, b2⟩
  · have he : r1 = r2 := by rw [e1, e2, s1.uniq s2]
    refine lv_icmp_eq (tgt := 1115) hex hby dL_law_1007 (by decide) (fun _ => ?_) (fun h => absurd he h)
    exact lc_end C ih hA hB hM hSl b1 hF2 hG2 b2 hP hD hS hl
  · exact absurd c1 c2
  · exact absurd c2 c1
  · have he : r1 = r2 := e1.trans e2.symm
    refine lv_icmp_eq (tgt := 1115) hex hby dL_law_1007 (by decide) (fun _ => ?_) (fun h => absurd he h)
    exact lc_end C ih hA hB hM hSl b1 hF2 hG2 b2 hP hD hS hl
set_option maxHeartbeats 4000000 in
set_option maxRecDepth 100000 in
theorem lc_walked {pp : Program} {l : Launch} {ee : Env} {ss : State} {mm : MethodId} {b0 : Nat} {bb : List Frame} {mt : Method} {cd : Code} {Q : State → Prop} {AA : Nat → Prop} {dC : Nat → ClassId} {dI : Nat → Nat → Nat} {cI cZ cS : ClassId} {ad : Nat → Nat} {fW : Nat → Option Nat} {tM tH L : Nat} {xs : Nat → Int32} {i0 : Nat} (C : LC pp ss mm b0 cd AA dC dI cI cZ cS tM tH L xs) (hi : i0 + 5 ≤ L) (hL : L ≤ 2560) (ih : LG pp l ee ss mm b0 bb mt cd Q AA dC dI cI cZ cS ad fW (i0 + 5)) {m : Nat} {cu : Nat} {tc : Nat} {rl : Nat} {rb : Nat} {rr : Nat} {ra : Nat} {pc : Nat} {bk : Nat} {c : Nat} {cn : Nat} {bs : Nat} {tl : Nat} {V : Nat → Nat} {P : Nat → Nat} {S : Nat → Nat} {F : Nat → Nat} {G : Nat → Nat} {g : Nat → Nat} {ix : Nat → Nat} {fb : Nat → Nat} {tx : Nat → Nat} {km : Nat → Nat} {kcu : Nat → Nat} {ktc : Nat → Nat} {krl : Nat → Nat} {krb : Nat → Nat} {krr : Nat → Nat} {kra : Nat → Nat} {kpc : Nat → Nat} {kbk : Nat → Nat} {kc : Nat → Nat} {kV : Nat → Nat → Nat} {kP : Nat → Nat → Nat} {kS : Nat → Nat → Nat} {ku : Nat → Nat} {im : Nat} {bs2 : Nat} {sm : Nat → Nat} {tb : Nat → Nat} {P2 : Nat → Nat} {S2 : Nat → Nat} {L2 : Nat → Nat} {K : Nat → Nat} {KT : Nat → Nat} {KS : Nat → Nat} {KL : Nat → Nat} {ix2 : Nat → Nat} {g2 : Nat → Nat} {F2 : Nat → Nat} {G2 : Nat → Nat} {O2 : Nat → Nat} {f2 : Nat → Nat} {st : Nat → Nat} {lv : Nat → Nat} {kst : Nat → Nat → Nat} {klv : Nat → Nat → Nat} (hA : IA m cu tc rl rb rr ra pc bk cn tl V) (hB : IB m cu rl rb rr ra pc c cn V P S F G g ix tx st lv) (hM : IM m cu tc pc c V P st lv sm tb P2 S2 L2 ix2 g2 O2) (hSl : IS fW ad km kcu ktc krl krb krr kra kpc kbk kc kV kP kS ku K KT KS KL kst klv) (hfb : ∀ j, fb j < 4096) (hF2 : ∀ j, F2 j < 4096) (hG2 : ∀ j, G2 j < 4096) (hf2 : ∀ j, f2 j < 4096) {H : Heap} {locs : List Loc} {ls : Array Slot} (hP : va_P (dC, dI) vwCl (LW cI cZ cS ad fW m cu tc rl rb rr ra pc bk c cn bs tl V P S F G g ix fb tx km kcu ktc krl krb krr kra kpc kbk kc kV kP kS ku m cu rl rb rr ra pc bk c tl im bs2 sm tb P2 S2 L2 tx K KT KS KL ku ix2 g2 F2 G2 O2 f2) H) (hD : va_D AA (LW cI cZ cS ad fW m cu tc rl rb rr ra pc bk c cn bs tl V P S F G g ix fb tx km kcu ktc krl krb krr kra kpc kbk kc kV kP kS ku m cu rl rb rr ra pc bk c tl im bs2 sm tb P2 S2 L2 tx K KT KS KL ku ix2 g2 F2 G2 O2 f2)) (hS : va_S AA ss.heap H locs) (hl : lv_has ls 4 [(0, .ref b0), (1, .ref (ad 0)), (2, .ref (ad 37)), (3, .int (nI i0))]) : W pp l ee room_1 ss mm #[Value.ref b0] bb mt cd H locs 55 56922 Q (F0 mm 1012 ls []) := by
  obtain ⟨CFx, hK, hA0, hZ, hX, hbl, hbA⟩ := id C
  obtain ⟨hex, hby, hml, hown, hts⟩ := id CFx
  obtain ⟨hm1, hm6, hcu, hb1, hbk, hpc, htl, hcn, hrl, hrr, hrb, hra, hVt, hVb⟩ := id hA
  obtain ⟨hPb, hSb, hFb, hGb, hg, hix, htx, hN, hIv, hpg, hLD, hag⟩ := id hB
  obtain ⟨hs0, hs1, hs2, hsm, htb, hT0, hT1, hT2, hP2b, hPP, hS2b, hL2b, hAG, hO2b, hLf, hix2, hg2, hN2⟩ := id hM
  obtain ⟨hku, hW0, hW1, hKb, hKTb, hKSb, hKLb, hsl⟩ := id hSl
  have hV := cuT_VT (cu := cu) hVt
  have hL1 := hLD.1
  have hc := hLD.le hV hm6 hpc
  have hpg2 : ∀ j, j < pc → P2 j % 64 < 2 ^ m ∧ P2 j / 64 < 2 ^ m := fun j hj => by rw [hPP j hj]; exact hpg j hj
  have hsc := cu_sm hs0 hs1 hs2 hcu
  have hTb := cu_Tb hT0 hT1 hT2 hcu
  have h26 := p2_6 hm6
  have h46 := p4_6 hm6
  have hne := rg_ne hV hN hm6 hrl hrr hrb hra
  have htc8 := hVt.2.1
  refine lv_aload_n hex hby dL_law_1012 rfl (lv_at hl 1 rfl) ?_
  refine lv_aload_n hex hby dL_law_1013 rfl (lv_at hl 0 rfl) ?_
  refine lv_iload_n hex hby dL_law_1014 rfl (lv_at hl 3 rfl) ?_
  refine lv_iconst (v := nI 1) hex hby dL_law_1015 rfl ?_
  refine nv_iadd hex hby dL_law_1016 ?_
  refine nv_sld hex hby hX hbl hbA hS (show i0 + 1 < L by omega) (by omega) dL_law_1017 ?_
  refine lv_aload_n hex hby dL_law_1018 rfl (lv_at hl 0 rfl) ?_
  refine lv_iload_n hex hby dL_law_1019 rfl (lv_at hl 3 rfl) ?_
  refine lv_iconst (v := nI 2) hex hby dL_law_1020 rfl ?_
  refine nv_iadd hex hby dL_law_1021 ?_
  refine nv_sld hex hby hX hbl hbA hS (show i0 + 2 < L by omega) (by omega) dL_law_1022 ?_
  refine lv_aload_n hex hby dL_law_1023 rfl (lv_at hl 0 rfl) ?_
  refine lv_iload_n hex hby dL_law_1024 rfl (lv_at hl 3 rfl) ?_
  refine lv_iconst (v := nI 3) hex hby dL_law_1025 rfl ?_
  refine nv_iadd hex hby dL_law_1026 ?_
  refine nv_sld hex hby hX hbl hbA hS (show i0 + 3 < L by omega) (by omega) dL_law_1027 ?_
  refine mx_Ai (q0 := 0) (ci := 9) (As := [.int (xs (i0 + 1)), .int (xs (i0 + 2)), .int (xs (i0 + 3))]) (rest := []) CFx (k_X9_walked (k := xs (i0 + 1)) (kz := (xs (i0 + 1)).toInt) (s := xs (i0 + 2)) (sz := (xs (i0 + 2)).toInt) (q := xs (i0 + 3)) (qz := (xs (i0 + 3)).toInt) (T := cuT cu V) (ns := cuN cu tc) (st := st) (lv := lv) rfl rfl rfl hfb hg hix hSb hm6 hV hN hL1 hag hc) 3 gL_law_X9_walked rfl nd_X9_walked ⟨Nat.le_of_ble_eq_true rfl, Nat.le_of_ble_eq_true rfl⟩ hK hP hD hS hA0 hZ rfl rfl rfl hl.1 rfl (Nat.le_of_ble_eq_true rfl) dL_law_1028 ⟨Nat.le_of_ble_eq_true rfl, Nat.le_of_ble_eq_true rfl⟩ (fun r1 u1 H locs hp1 hP hD hS => ?_)
  obtain ⟨bs_1, fb_1⟩ := u1
  try dsimp only at hp1 hP hD
  refine lv_aload_n hex hby dL_law_1031 rfl (lv_at hl 2 rfl) ?_
  refine lv_aload_n hex hby dL_law_1032 rfl (lv_at hl 0 rfl) ?_
  refine lv_iload_n hex hby dL_law_1033 rfl (lv_at hl 3 rfl) ?_
  refine lv_iconst (v := nI 1) hex hby dL_law_1034 rfl ?_
  refine nv_iadd hex hby dL_law_1035 ?_
  refine nv_sld hex hby hX hbl hbA hS (show i0 + 1 < L by omega) (by omega) dL_law_1036 ?_
  refine lv_aload_n hex hby dL_law_1037 rfl (lv_at hl 0 rfl) ?_
  refine lv_iload_n hex hby dL_law_1038 rfl (lv_at hl 3 rfl) ?_
  refine lv_iconst (v := nI 2) hex hby dL_law_1039 rfl ?_
  refine nv_iadd hex hby dL_law_1040 ?_
  refine nv_sld hex hby hX hbl hbA hS (show i0 + 2 < L by omega) (by omega) dL_law_1041 ?_
  refine lv_aload_n hex hby dL_law_1042 rfl (lv_at hl 0 rfl) ?_
  refine lv_iload_n hex hby dL_law_1043 rfl (lv_at hl 3 rfl) ?_
  refine lv_iconst (v := nI 3) hex hby dL_law_1044 rfl ?_
  refine nv_iadd hex hby dL_law_1045 ?_
  refine nv_sld hex hby hX hbl hbA hS (show i0 + 3 < L by omega) (by omega) dL_law_1046 ?_
  refine mx_Ai (q0 := 37) (ci := 10) (As := [.int (xs (i0 + 1)), .int (xs (i0 + 2)), .int (xs (i0 + 3))]) (rest := [.int r1]) CFx (k_X10_walked (k := xs (i0 + 1)) (kz := (xs (i0 + 1)).toInt) (s := xs (i0 + 2)) (sz := (xs (i0 + 2)).toInt) (q := xs (i0 + 3)) (qz := (xs (i0 + 3)).toInt) (T := cuT cu V) (ns := cuN cu tc) (st := st) (lv := lv) rfl rfl rfl hf2 hg2 hS2b hL2b hix2 hO2b hm6 hV hN2 hL1 hAG hLf) 3 gL_law_X10_walked rfl nd_X10_walked ⟨Nat.le_of_ble_eq_true rfl, Nat.le_of_ble_eq_true rfl⟩ hK hP hD hS hA0 hZ rfl rfl rfl hl.1 rfl (Nat.le_of_ble_eq_true rfl) dL_law_1047 ⟨Nat.le_of_ble_eq_true rfl, Nat.le_of_ble_eq_true rfl⟩ (fun r2 u2 H locs hp2 hP hD hS => ?_)
  obtain ⟨bs_2, f_2⟩ := u2
  try dsimp only at hp2 hP hD
  rcases hp1 with ⟨a, e1, c1, s1, b1⟩ | ⟨e1, c1, b1⟩ | ⟨e1, c1, s1, b1⟩ <;> rcases hp2 with ⟨b, e2, c2, s2, b2⟩ | ⟨e2, c2, b2⟩ | ⟨e2, c2, s2, b2⟩
  · have he : r1 = r2 := by rw [e1, e2, s1.uniq s2]
    refine lv_icmp_eq (tgt := 1115) hex hby dL_law_1050 (by decide) (fun _ => ?_) (fun h => absurd he h)
    exact lc_end C ih hA hB hM hSl b1 hF2 hG2 b2 hP hD hS hl
  · exact absurd c1 c2
  · exact (s1.notlt s2).elim
  · exact absurd c2 c1
  · have he : r1 = r2 := e1.trans e2.symm
    refine lv_icmp_eq (tgt := 1115) hex hby dL_law_1050 (by decide) (fun _ => ?_) (fun h => absurd he h)
    exact lc_end C ih hA hB hM hSl b1 hF2 hG2 b2 hP hD hS hl
  · exact absurd c2 c1
  · exact (s2.notlt s1).elim
  · exact absurd c1 c2
  · have he : r1 = r2 := e1.trans e2.symm
    refine lv_icmp_eq (tgt := 1115) hex hby dL_law_1050 (by decide) (fun _ => ?_) (fun h => absurd he h)
    exact lc_end C ih hA hB hM hSl b1 hF2 hG2 b2 hP hD hS hl
set_option maxHeartbeats 4000000 in
set_option maxRecDepth 100000 in
theorem lc_checksum {pp : Program} {l : Launch} {ee : Env} {ss : State} {mm : MethodId} {b0 : Nat} {bb : List Frame} {mt : Method} {cd : Code} {Q : State → Prop} {AA : Nat → Prop} {dC : Nat → ClassId} {dI : Nat → Nat → Nat} {cI cZ cS : ClassId} {ad : Nat → Nat} {fW : Nat → Option Nat} {tM tH L : Nat} {xs : Nat → Int32} {i0 : Nat} (C : LC pp ss mm b0 cd AA dC dI cI cZ cS tM tH L xs) (hi : i0 + 5 ≤ L) (hL : L ≤ 2560) (ih : LG pp l ee ss mm b0 bb mt cd Q AA dC dI cI cZ cS ad fW (i0 + 5)) {m : Nat} {cu : Nat} {tc : Nat} {rl : Nat} {rb : Nat} {rr : Nat} {ra : Nat} {pc : Nat} {bk : Nat} {c : Nat} {cn : Nat} {bs : Nat} {tl : Nat} {V : Nat → Nat} {P : Nat → Nat} {S : Nat → Nat} {F : Nat → Nat} {G : Nat → Nat} {g : Nat → Nat} {ix : Nat → Nat} {fb : Nat → Nat} {tx : Nat → Nat} {km : Nat → Nat} {kcu : Nat → Nat} {ktc : Nat → Nat} {krl : Nat → Nat} {krb : Nat → Nat} {krr : Nat → Nat} {kra : Nat → Nat} {kpc : Nat → Nat} {kbk : Nat → Nat} {kc : Nat → Nat} {kV : Nat → Nat → Nat} {kP : Nat → Nat → Nat} {kS : Nat → Nat → Nat} {ku : Nat → Nat} {im : Nat} {bs2 : Nat} {sm : Nat → Nat} {tb : Nat → Nat} {P2 : Nat → Nat} {S2 : Nat → Nat} {L2 : Nat → Nat} {K : Nat → Nat} {KT : Nat → Nat} {KS : Nat → Nat} {KL : Nat → Nat} {ix2 : Nat → Nat} {g2 : Nat → Nat} {F2 : Nat → Nat} {G2 : Nat → Nat} {O2 : Nat → Nat} {f2 : Nat → Nat} {st : Nat → Nat} {lv : Nat → Nat} {kst : Nat → Nat → Nat} {klv : Nat → Nat → Nat} (hA : IA m cu tc rl rb rr ra pc bk cn tl V) (hB : IB m cu rl rb rr ra pc c cn V P S F G g ix tx st lv) (hM : IM m cu tc pc c V P st lv sm tb P2 S2 L2 ix2 g2 O2) (hSl : IS fW ad km kcu ktc krl krb krr kra kpc kbk kc kV kP kS ku K KT KS KL kst klv) (hfb : ∀ j, fb j < 4096) (hF2 : ∀ j, F2 j < 4096) (hG2 : ∀ j, G2 j < 4096) (hf2 : ∀ j, f2 j < 4096) {H : Heap} {locs : List Loc} {ls : Array Slot} (hP : va_P (dC, dI) vwCl (LW cI cZ cS ad fW m cu tc rl rb rr ra pc bk c cn bs tl V P S F G g ix fb tx km kcu ktc krl krb krr kra kpc kbk kc kV kP kS ku m cu rl rb rr ra pc bk c tl im bs2 sm tb P2 S2 L2 tx K KT KS KL ku ix2 g2 F2 G2 O2 f2) H) (hD : va_D AA (LW cI cZ cS ad fW m cu tc rl rb rr ra pc bk c cn bs tl V P S F G g ix fb tx km kcu ktc krl krb krr kra kpc kbk kc kV kP kS ku m cu rl rb rr ra pc bk c tl im bs2 sm tb P2 S2 L2 tx K KT KS KL ku ix2 g2 F2 G2 O2 f2)) (hS : va_S AA ss.heap H locs) (hl : lv_has ls 4 [(0, .ref b0), (1, .ref (ad 0)), (2, .ref (ad 37)), (3, .int (nI i0))]) : W pp l ee room_1 ss mm #[Value.ref b0] bb mt cd H locs 55 56922 Q (F0 mm 1101 ls []) := by
  obtain ⟨CFx, hK, hA0, hZ, hX, hbl, hbA⟩ := id C
  obtain ⟨hex, hby, hml, hown, hts⟩ := id CFx
  obtain ⟨hm1, hm6, hcu, hb1, hbk, hpc, htl, hcn, hrl, hrr, hrb, hra, hVt, hVb⟩ := id hA
  obtain ⟨hPb, hSb, hFb, hGb, hg, hix, htx, hN, hIv, hpg, hLD, hag⟩ := id hB
  obtain ⟨hs0, hs1, hs2, hsm, htb, hT0, hT1, hT2, hP2b, hPP, hS2b, hL2b, hAG, hO2b, hLf, hix2, hg2, hN2⟩ := id hM
  obtain ⟨hku, hW0, hW1, hKb, hKTb, hKSb, hKLb, hsl⟩ := id hSl
  have hV := cuT_VT (cu := cu) hVt
  have hL1 := hLD.1
  have hc := hLD.le hV hm6 hpc
  have hpg2 : ∀ j, j < pc → P2 j % 64 < 2 ^ m ∧ P2 j / 64 < 2 ^ m := fun j hj => by rw [hPP j hj]; exact hpg j hj
  have hsc := cu_sm hs0 hs1 hs2 hcu
  have hTb := cu_Tb hT0 hT1 hT2 hcu
  have h26 := p2_6 hm6
  have h46 := p4_6 hm6
  have hne := rg_ne hV hN hm6 hrl hrr hrb hra
  have htc8 := hVt.2.1
  refine lv_aload_n hex hby dL_law_1101 rfl (lv_at hl 1 rfl) ?_
  refine mx_Al (q0 := 0) (ci := 9) (As := []) (rest := []) CFx (k_X9_checksum (st := st) (lv := lv) hcu hVt hVb hm6 hg hix hN hFb hGb hcn hIv hSb hPb hpc hL1 hag hc hpg) 0 gL_law_X9_checksum rfl nd_X9_checksum ⟨Nat.le_of_ble_eq_true rfl, Nat.le_of_ble_eq_true rfl⟩ hK hP hD hS hA0 hZ rfl rfl rfl hl.1 rfl (Nat.le_of_ble_eq_true rfl) dL_law_1102 ⟨Nat.le_of_ble_eq_true rfl, Nat.le_of_ble_eq_true rfl⟩ (fun r1 u1 H locs hp1 hP hD hS => ?_)
  try dsimp only at hp1 hP hD
  refine lv_aload_n hex hby dL_law_1105 rfl (lv_at hl 2 rfl) ?_
  refine mx_Al (q0 := 37) (ci := 10) (As := []) (rest := [.long r1]) CFx (k_X10_checksum (T := cuT cu V) (ns := cuN cu tc) (st := st) (lv := lv) hsm htb hcu hsc hV hTb hF2 hG2 hg2 hm6 hN2 hrl hrr hrb hra hS2b hL2b hP2b hpc hix2 hL1 hAG hpg2 hbk) 0 gL_law_X10_checksum rfl nd_X10_checksum ⟨Nat.le_of_ble_eq_true rfl, Nat.le_of_ble_eq_true rfl⟩ hK hP hD hS hA0 hZ rfl rfl rfl hl.1 rfl (Nat.le_of_ble_eq_true rfl) dL_law_1106 ⟨Nat.le_of_ble_eq_true rfl, Nat.le_of_ble_eq_true rfl⟩ (fun r2 u2 H locs hp2 hP hD hS => ?_)
  obtain ⟨im_2, F_2, G_2⟩ := u2
  try dsimp only at hp2 hP hD
  obtain ⟨z1, e1, k1⟩ := hp1
  obtain ⟨z2, e2, k2, q1, q2⟩ := hp2
  have he0 : r1 = r2 := e1.trans ((k1.uniq (k2.congrP hPP)).trans e2.symm)
  have he : lg_cmp r1 r2 = 0 := by rw [he0]; exact lg_cmp_rf r2
  refine W.lcmp hex hby dL_law_1109 ?_
  refine lv_if_eq (tgt := 1115) hex hby dL_law_1110 (by decide) (fun _ => ?_) (fun h => absurd he h)
  exact lc_end C ih hA hB hM hSl hfb q1 q2 hf2 hP hD hS hl
set_option maxHeartbeats 4000000 in
set_option maxRecDepth 100000 in
theorem lc_append {pp : Program} {l : Launch} {ee : Env} {ss : State} {mm : MethodId} {b0 : Nat} {bb : List Frame} {mt : Method} {cd : Code} {Q : State → Prop} {AA : Nat → Prop} {dC : Nat → ClassId} {dI : Nat → Nat → Nat} {cI cZ cS : ClassId} {ad : Nat → Nat} {fW : Nat → Option Nat} {tM tH L : Nat} {xs : Nat → Int32} {i0 : Nat} (C : LC pp ss mm b0 cd AA dC dI cI cZ cS tM tH L xs) (hi : i0 + 5 ≤ L) (hL : L ≤ 2560) (ih : LG pp l ee ss mm b0 bb mt cd Q AA dC dI cI cZ cS ad fW (i0 + 5)) {m : Nat} {cu : Nat} {tc : Nat} {rl : Nat} {rb : Nat} {rr : Nat} {ra : Nat} {pc : Nat} {bk : Nat} {c : Nat} {cn : Nat} {bs : Nat} {tl : Nat} {V : Nat → Nat} {P : Nat → Nat} {S : Nat → Nat} {F : Nat → Nat} {G : Nat → Nat} {g : Nat → Nat} {ix : Nat → Nat} {fb : Nat → Nat} {tx : Nat → Nat} {km : Nat → Nat} {kcu : Nat → Nat} {ktc : Nat → Nat} {krl : Nat → Nat} {krb : Nat → Nat} {krr : Nat → Nat} {kra : Nat → Nat} {kpc : Nat → Nat} {kbk : Nat → Nat} {kc : Nat → Nat} {kV : Nat → Nat → Nat} {kP : Nat → Nat → Nat} {kS : Nat → Nat → Nat} {ku : Nat → Nat} {im : Nat} {bs2 : Nat} {sm : Nat → Nat} {tb : Nat → Nat} {P2 : Nat → Nat} {S2 : Nat → Nat} {L2 : Nat → Nat} {K : Nat → Nat} {KT : Nat → Nat} {KS : Nat → Nat} {KL : Nat → Nat} {ix2 : Nat → Nat} {g2 : Nat → Nat} {F2 : Nat → Nat} {G2 : Nat → Nat} {O2 : Nat → Nat} {f2 : Nat → Nat} {st : Nat → Nat} {lv : Nat → Nat} {kst : Nat → Nat → Nat} {klv : Nat → Nat → Nat} (hA : IA m cu tc rl rb rr ra pc bk cn tl V) (hB : IB m cu rl rb rr ra pc c cn V P S F G g ix tx st lv) (hM : IM m cu tc pc c V P st lv sm tb P2 S2 L2 ix2 g2 O2) (hSl : IS fW ad km kcu ktc krl krb krr kra kpc kbk kc kV kP kS ku K KT KS KL kst klv) (hfb : ∀ j, fb j < 4096) (hF2 : ∀ j, F2 j < 4096) (hG2 : ∀ j, G2 j < 4096) (hf2 : ∀ j, f2 j < 4096) {H : Heap} {locs : List Loc} {ls : Array Slot} (hP : va_P (dC, dI) vwCl (LW cI cZ cS ad fW m cu tc rl rb rr ra pc bk c cn bs tl V P S F G g ix fb tx km kcu ktc krl krb krr kra kpc kbk kc kV kP kS ku m cu rl rb rr ra pc bk c tl im bs2 sm tb P2 S2 L2 tx K KT KS KL ku ix2 g2 F2 G2 O2 f2) H) (hD : va_D AA (LW cI cZ cS ad fW m cu tc rl rb rr ra pc bk c cn bs tl V P S F G g ix fb tx km kcu ktc krl krb krr kra kpc kbk kc kV kP kS ku m cu rl rb rr ra pc bk c tl im bs2 sm tb P2 S2 L2 tx K KT KS KL ku ix2 g2 F2 G2 O2 f2)) (hS : va_S AA ss.heap H locs) (hl : lv_has ls 4 [(0, .ref b0), (1, .ref (ad 0)), (2, .ref (ad 37)), (3, .int (nI i0))]) : W pp l ee room_1 ss mm #[Value.ref b0] bb mt cd H locs 55 56922 Q (F0 mm 384 ls []) := by
  obtain ⟨CFx, hK, hA0, hZ, hX, hbl, hbA⟩ := id C
  obtain ⟨hex, hby, hml, hown, hts⟩ := id CFx
  obtain ⟨hm1, hm6, hcu, hb1, hbk, hpc, htl, hcn, hrl, hrr, hrb, hra, hVt, hVb⟩ := id hA
  obtain ⟨hPb, hSb, hFb, hGb, hg, hix, htx, hN, hIv, hpg, hLD, hag⟩ := id hB
  obtain ⟨hs0, hs1, hs2, hsm, htb, hT0, hT1, hT2, hP2b, hPP, hS2b, hL2b, hAG, hO2b, hLf, hix2, hg2, hN2⟩ := id hM
  obtain ⟨hku, hW0, hW1, hKb, hKTb, hKSb, hKLb, hsl⟩ := id hSl
  have hV := cuT_VT (cu := cu) hVt
  have hL1 := hLD.1
  have hc := hLD.le hV hm6 hpc
  have hpg2 : ∀ j, j < pc → P2 j % 64 < 2 ^ m ∧ P2 j / 64 < 2 ^ m := fun j hj => by rw [hPP j hj]; exact hpg j hj
  have hsc := cu_sm hs0 hs1 hs2 hcu
  have hTb := cu_Tb hT0 hT1 hT2 hcu
  have h26 := p2_6 hm6
  have h46 := p4_6 hm6
  have hne := rg_ne hV hN hm6 hrl hrr hrb hra
  have htc8 := hVt.2.1
  refine lv_aload_n hex hby dL_law_384 rfl (lv_at hl 1 rfl) ?_
  refine lv_aload_n hex hby dL_law_385 rfl (lv_at hl 0 rfl) ?_
  refine lv_iload_n hex hby dL_law_386 rfl (lv_at hl 3 rfl) ?_
  refine lv_iconst (v := nI 1) hex hby dL_law_387 rfl ?_
  refine nv_iadd hex hby dL_law_388 ?_
  refine nv_sld hex hby hX hbl hbA hS (show i0 + 1 < L by omega) (by omega) dL_law_389 ?_
  refine mx_Ai (q0 := 0) (ci := 9) (As := [.int (xs (i0 + 1))]) (rest := []) CFx (k_X9_append (w := xs (i0 + 1)) (wz := (xs (i0 + 1)).toInt) rfl htx htl) 1 gL_law_X9_append rfl nd_X9_append ⟨Nat.le_of_ble_eq_true rfl, Nat.le_of_ble_eq_true rfl⟩ hK hP hD hS hA0 hZ rfl rfl rfl hl.1 rfl (Nat.le_of_ble_eq_true rfl) dL_law_390 ⟨Nat.le_of_ble_eq_true rfl, Nat.le_of_ble_eq_true rfl⟩ (fun r1 u1 H locs hp1 hP hD hS => ?_)
  obtain ⟨tl_1, tx_1⟩ := u1
  try dsimp only at hp1 hP hD
  refine lv_aload_n hex hby dL_law_393 rfl (lv_at hl 2 rfl) ?_
  refine lv_aload_n hex hby dL_law_394 rfl (lv_at hl 0 rfl) ?_
  refine lv_iload_n hex hby dL_law_395 rfl (lv_at hl 3 rfl) ?_
  refine lv_iconst (v := nI 1) hex hby dL_law_396 rfl ?_
  refine nv_iadd hex hby dL_law_397 ?_
  refine nv_sld hex hby hX hbl hbA hS (show i0 + 1 < L by omega) (by omega) dL_law_398 ?_
  refine mx_Ai (q0 := 37) (ci := 10) (As := [.int (xs (i0 + 1))]) (rest := [.int r1]) CFx (k_X10_append (w := xs (i0 + 1)) (wz := (xs (i0 + 1)).toInt) rfl htx htl) 1 gL_law_X10_append rfl nd_X10_append ⟨Nat.le_of_ble_eq_true rfl, Nat.le_of_ble_eq_true rfl⟩ hK hP hD hS hA0 hZ rfl rfl rfl hl.1 rfl (Nat.le_of_ble_eq_true rfl) dL_law_399 ⟨Nat.le_of_ble_eq_true rfl, Nat.le_of_ble_eq_true rfl⟩ (fun r2 u2 H locs hp2 hP hD hS => ?_)
  obtain ⟨tl_2, tx_2⟩ := u2
  try dsimp only at hp2 hP hD
  rcases hp1 with ⟨e1, c1, d1, rfl, rfl, b1⟩ | ⟨e1, c1, rfl, rfl⟩ | ⟨e1, c1, d1, rfl, rfl⟩ <;> rcases hp2 with ⟨e2, c2, d2, rfl, rfl, b2⟩ | ⟨e2, c2, rfl, rfl⟩ | ⟨e2, c2, d2, rfl, rfl⟩
  · have he : r1 = r2 := e1.trans e2.symm
    refine lv_icmp_eq (tgt := 1115) hex hby dL_law_402 (by decide) (fun _ => ?_) (fun h => absurd he h)
    exact lc_end C ih ⟨hm1, hm6, hcu, hb1, hbk, hpc, by omega, hcn, hrl, hrr, hrb, hra, hVt, hVb⟩ ⟨hPb, hSb, hFb, hGb, hg, hix, b1, hN, hIv, hpg, hLD, hag⟩ hM hSl hfb hF2 hG2 hf2 hP hD hS hl
  · exact absurd c1 c2
  · exact absurd d1 (by omega)
  · exact absurd c2 c1
  · have he : r1 = r2 := e1.trans e2.symm
    refine lv_icmp_eq (tgt := 1115) hex hby dL_law_402 (by decide) (fun _ => ?_) (fun h => absurd he h)
    exact lc_end C ih hA hB hM hSl hfb hF2 hG2 hf2 hP hD hS hl
  · exact absurd c2 c1
  · exact absurd d2 (by omega)
  · exact absurd c1 c2
  · have he : r1 = r2 := e1.trans e2.symm
    refine lv_icmp_eq (tgt := 1115) hex hby dL_law_402 (by decide) (fun _ => ?_) (fun h => absurd he h)
    exact lc_end C ih hA hB hM hSl hfb hF2 hG2 hf2 hP hD hS hl
set_option maxHeartbeats 4000000 in
set_option maxRecDepth 100000 in
theorem lc_clearText {pp : Program} {l : Launch} {ee : Env} {ss : State} {mm : MethodId} {b0 : Nat} {bb : List Frame} {mt : Method} {cd : Code} {Q : State → Prop} {AA : Nat → Prop} {dC : Nat → ClassId} {dI : Nat → Nat → Nat} {cI cZ cS : ClassId} {ad : Nat → Nat} {fW : Nat → Option Nat} {tM tH L : Nat} {xs : Nat → Int32} {i0 : Nat} (C : LC pp ss mm b0 cd AA dC dI cI cZ cS tM tH L xs) (hi : i0 + 5 ≤ L) (hL : L ≤ 2560) (ih : LG pp l ee ss mm b0 bb mt cd Q AA dC dI cI cZ cS ad fW (i0 + 5)) {m : Nat} {cu : Nat} {tc : Nat} {rl : Nat} {rb : Nat} {rr : Nat} {ra : Nat} {pc : Nat} {bk : Nat} {c : Nat} {cn : Nat} {bs : Nat} {tl : Nat} {V : Nat → Nat} {P : Nat → Nat} {S : Nat → Nat} {F : Nat → Nat} {G : Nat → Nat} {g : Nat → Nat} {ix : Nat → Nat} {fb : Nat → Nat} {tx : Nat → Nat} {km : Nat → Nat} {kcu : Nat → Nat} {ktc : Nat → Nat} {krl : Nat → Nat} {krb : Nat → Nat} {krr : Nat → Nat} {kra : Nat → Nat} {kpc : Nat → Nat} {kbk : Nat → Nat} {kc : Nat → Nat} {kV : Nat → Nat → Nat} {kP : Nat → Nat → Nat} {kS : Nat → Nat → Nat} {ku : Nat → Nat} {im : Nat} {bs2 : Nat} {sm : Nat → Nat} {tb : Nat → Nat} {P2 : Nat → Nat} {S2 : Nat → Nat} {L2 : Nat → Nat} {K : Nat → Nat} {KT : Nat → Nat} {KS : Nat → Nat} {KL : Nat → Nat} {ix2 : Nat → Nat} {g2 : Nat → Nat} {F2 : Nat → Nat} {G2 : Nat → Nat} {O2 : Nat → Nat} {f2 : Nat → Nat} {st : Nat → Nat} {lv : Nat → Nat} {kst : Nat → Nat → Nat} {klv : Nat → Nat → Nat} (hA : IA m cu tc rl rb rr ra pc bk cn tl V) (hB : IB m cu rl rb rr ra pc c cn V P S F G g ix tx st lv) (hM : IM m cu tc pc c V P st lv sm tb P2 S2 L2 ix2 g2 O2) (hSl : IS fW ad km kcu ktc krl krb krr kra kpc kbk kc kV kP kS ku K KT KS KL kst klv) (hfb : ∀ j, fb j < 4096) (hF2 : ∀ j, F2 j < 4096) (hG2 : ∀ j, G2 j < 4096) (hf2 : ∀ j, f2 j < 4096) {H : Heap} {locs : List Loc} {ls : Array Slot} (hP : va_P (dC, dI) vwCl (LW cI cZ cS ad fW m cu tc rl rb rr ra pc bk c cn bs tl V P S F G g ix fb tx km kcu ktc krl krb krr kra kpc kbk kc kV kP kS ku m cu rl rb rr ra pc bk c tl im bs2 sm tb P2 S2 L2 tx K KT KS KL ku ix2 g2 F2 G2 O2 f2) H) (hD : va_D AA (LW cI cZ cS ad fW m cu tc rl rb rr ra pc bk c cn bs tl V P S F G g ix fb tx km kcu ktc krl krb krr kra kpc kbk kc kV kP kS ku m cu rl rb rr ra pc bk c tl im bs2 sm tb P2 S2 L2 tx K KT KS KL ku ix2 g2 F2 G2 O2 f2)) (hS : va_S AA ss.heap H locs) (hl : lv_has ls 4 [(0, .ref b0), (1, .ref (ad 0)), (2, .ref (ad 37)), (3, .int (nI i0))]) : W pp l ee room_1 ss mm #[Value.ref b0] bb mt cd H locs 55 56922 Q (F0 mm 407 ls []) := by
  obtain ⟨CFx, hK, hA0, hZ, hX, hbl, hbA⟩ := id C
  obtain ⟨hex, hby, hml, hown, hts⟩ := id CFx
  obtain ⟨hm1, hm6, hcu, hb1, hbk, hpc, htl, hcn, hrl, hrr, hrb, hra, hVt, hVb⟩ := id hA
  obtain ⟨hPb, hSb, hFb, hGb, hg, hix, htx, hN, hIv, hpg, hLD, hag⟩ := id hB
  obtain ⟨hs0, hs1, hs2, hsm, htb, hT0, hT1, hT2, hP2b, hPP, hS2b, hL2b, hAG, hO2b, hLf, hix2, hg2, hN2⟩ := id hM
  obtain ⟨hku, hW0, hW1, hKb, hKTb, hKSb, hKLb, hsl⟩ := id hSl
  have hV := cuT_VT (cu := cu) hVt
  have hL1 := hLD.1
  have hc := hLD.le hV hm6 hpc
  have hpg2 : ∀ j, j < pc → P2 j % 64 < 2 ^ m ∧ P2 j / 64 < 2 ^ m := fun j hj => by rw [hPP j hj]; exact hpg j hj
  have hsc := cu_sm hs0 hs1 hs2 hcu
  have hTb := cu_Tb hT0 hT1 hT2 hcu
  have h26 := p2_6 hm6
  have h46 := p4_6 hm6
  have hne := rg_ne hV hN hm6 hrl hrr hrb hra
  have htc8 := hVt.2.1
  refine lv_aload_n hex hby dL_law_407 rfl (lv_at hl 1 rfl) ?_
  refine mx_Ai (q0 := 0) (ci := 9) (As := []) (rest := []) CFx (k_X9_clearText  ) 0 gL_law_X9_clearText rfl nd_X9_clearText ⟨Nat.le_of_ble_eq_true rfl, Nat.le_of_ble_eq_true rfl⟩ hK hP hD hS hA0 hZ rfl rfl rfl hl.1 rfl (Nat.le_of_ble_eq_true rfl) dL_law_408 ⟨Nat.le_of_ble_eq_true rfl, Nat.le_of_ble_eq_true rfl⟩ (fun r1 u1 H locs hp1 hP hD hS => ?_)
  try dsimp only at hp1 hP hD
  refine lv_aload_n hex hby dL_law_411 rfl (lv_at hl 2 rfl) ?_
  refine mx_Ai (q0 := 37) (ci := 10) (As := []) (rest := [.int r1]) CFx (k_X10_clearText  ) 0 gL_law_X10_clearText rfl nd_X10_clearText ⟨Nat.le_of_ble_eq_true rfl, Nat.le_of_ble_eq_true rfl⟩ hK hP hD hS hA0 hZ rfl rfl rfl hl.1 rfl (Nat.le_of_ble_eq_true rfl) dL_law_412 ⟨Nat.le_of_ble_eq_true rfl, Nat.le_of_ble_eq_true rfl⟩ (fun r2 u2 H locs hp2 hP hD hS => ?_)
  try dsimp only at hp2 hP hD
  have he : r1 = r2 := hp1.trans hp2.symm
  refine lv_icmp_eq (tgt := 1115) hex hby dL_law_415 (by decide) (fun _ => ?_) (fun h => absurd he h)
  exact lc_end C ih ⟨hm1, hm6, hcu, hb1, hbk, hpc, by omega, hcn, hrl, hrr, hrb, hra, hVt, hVb⟩ hB hM hSl hfb hF2 hG2 hf2 hP hD hS hl
set_option maxHeartbeats 4000000 in
set_option maxRecDepth 100000 in
theorem lc_setRange {pp : Program} {l : Launch} {ee : Env} {ss : State} {mm : MethodId} {b0 : Nat} {bb : List Frame} {mt : Method} {cd : Code} {Q : State → Prop} {AA : Nat → Prop} {dC : Nat → ClassId} {dI : Nat → Nat → Nat} {cI cZ cS : ClassId} {ad : Nat → Nat} {fW : Nat → Option Nat} {tM tH L : Nat} {xs : Nat → Int32} {i0 : Nat} (C : LC pp ss mm b0 cd AA dC dI cI cZ cS tM tH L xs) (hi : i0 + 5 ≤ L) (hL : L ≤ 2560) (ih : LG pp l ee ss mm b0 bb mt cd Q AA dC dI cI cZ cS ad fW (i0 + 5)) {m : Nat} {cu : Nat} {tc : Nat} {rl : Nat} {rb : Nat} {rr : Nat} {ra : Nat} {pc : Nat} {bk : Nat} {c : Nat} {cn : Nat} {bs : Nat} {tl : Nat} {V : Nat → Nat} {P : Nat → Nat} {S : Nat → Nat} {F : Nat → Nat} {G : Nat → Nat} {g : Nat → Nat} {ix : Nat → Nat} {fb : Nat → Nat} {tx : Nat → Nat} {km : Nat → Nat} {kcu : Nat → Nat} {ktc : Nat → Nat} {krl : Nat → Nat} {krb : Nat → Nat} {krr : Nat → Nat} {kra : Nat → Nat} {kpc : Nat → Nat} {kbk : Nat → Nat} {kc : Nat → Nat} {kV : Nat → Nat → Nat} {kP : Nat → Nat → Nat} {kS : Nat → Nat → Nat} {ku : Nat → Nat} {im : Nat} {bs2 : Nat} {sm : Nat → Nat} {tb : Nat → Nat} {P2 : Nat → Nat} {S2 : Nat → Nat} {L2 : Nat → Nat} {K : Nat → Nat} {KT : Nat → Nat} {KS : Nat → Nat} {KL : Nat → Nat} {ix2 : Nat → Nat} {g2 : Nat → Nat} {F2 : Nat → Nat} {G2 : Nat → Nat} {O2 : Nat → Nat} {f2 : Nat → Nat} {st : Nat → Nat} {lv : Nat → Nat} {kst : Nat → Nat → Nat} {klv : Nat → Nat → Nat} (hA : IA m cu tc rl rb rr ra pc bk cn tl V) (hB : IB m cu rl rb rr ra pc c cn V P S F G g ix tx st lv) (hM : IM m cu tc pc c V P st lv sm tb P2 S2 L2 ix2 g2 O2) (hSl : IS fW ad km kcu ktc krl krb krr kra kpc kbk kc kV kP kS ku K KT KS KL kst klv) (hfb : ∀ j, fb j < 4096) (hF2 : ∀ j, F2 j < 4096) (hG2 : ∀ j, G2 j < 4096) (hf2 : ∀ j, f2 j < 4096) {H : Heap} {locs : List Loc} {ls : Array Slot} (hP : va_P (dC, dI) vwCl (LW cI cZ cS ad fW m cu tc rl rb rr ra pc bk c cn bs tl V P S F G g ix fb tx km kcu ktc krl krb krr kra kpc kbk kc kV kP kS ku m cu rl rb rr ra pc bk c tl im bs2 sm tb P2 S2 L2 tx K KT KS KL ku ix2 g2 F2 G2 O2 f2) H) (hD : va_D AA (LW cI cZ cS ad fW m cu tc rl rb rr ra pc bk c cn bs tl V P S F G g ix fb tx km kcu ktc krl krb krr kra kpc kbk kc kV kP kS ku m cu rl rb rr ra pc bk c tl im bs2 sm tb P2 S2 L2 tx K KT KS KL ku ix2 g2 F2 G2 O2 f2)) (hS : va_S AA ss.heap H locs) (hl : lv_has ls 4 [(0, .ref b0), (1, .ref (ad 0)), (2, .ref (ad 37)), (3, .int (nI i0))]) : W pp l ee room_1 ss mm #[Value.ref b0] bb mt cd H locs 55 56922 Q (F0 mm 446 ls []) := by
  obtain ⟨CFx, hK, hA0, hZ, hX, hbl, hbA⟩ := id C
  obtain ⟨hex, hby, hml, hown, hts⟩ := id CFx
  obtain ⟨hm1, hm6, hcu, hb1, hbk, hpc, htl, hcn, hrl, hrr, hrb, hra, hVt, hVb⟩ := id hA
  obtain ⟨hPb, hSb, hFb, hGb, hg, hix, htx, hN, hIv, hpg, hLD, hag⟩ := id hB
  obtain ⟨hs0, hs1, hs2, hsm, htb, hT0, hT1, hT2, hP2b, hPP, hS2b, hL2b, hAG, hO2b, hLf, hix2, hg2, hN2⟩ := id hM
  obtain ⟨hku, hW0, hW1, hKb, hKTb, hKSb, hKLb, hsl⟩ := id hSl
  have hV := cuT_VT (cu := cu) hVt
  have hL1 := hLD.1
  have hc := hLD.le hV hm6 hpc
  have hpg2 : ∀ j, j < pc → P2 j % 64 < 2 ^ m ∧ P2 j / 64 < 2 ^ m := fun j hj => by rw [hPP j hj]; exact hpg j hj
  have hsc := cu_sm hs0 hs1 hs2 hcu
  have hTb := cu_Tb hT0 hT1 hT2 hcu
  have h26 := p2_6 hm6
  have h46 := p4_6 hm6
  have hne := rg_ne hV hN hm6 hrl hrr hrb hra
  have htc8 := hVt.2.1
  refine lv_aload_n hex hby dL_law_446 rfl (lv_at hl 1 rfl) ?_
  refine lv_aload_n hex hby dL_law_447 rfl (lv_at hl 0 rfl) ?_
  refine lv_iload_n hex hby dL_law_448 rfl (lv_at hl 3 rfl) ?_
  refine lv_iconst (v := nI 1) hex hby dL_law_449 rfl ?_
  refine nv_iadd hex hby dL_law_450 ?_
  refine nv_sld hex hby hX hbl hbA hS (show i0 + 1 < L by omega) (by omega) dL_law_451 ?_
  refine lv_aload_n hex hby dL_law_452 rfl (lv_at hl 0 rfl) ?_
  refine lv_iload_n hex hby dL_law_453 rfl (lv_at hl 3 rfl) ?_
  refine lv_iconst (v := nI 2) hex hby dL_law_454 rfl ?_
  refine nv_iadd hex hby dL_law_455 ?_
  refine nv_sld hex hby hX hbl hbA hS (show i0 + 2 < L by omega) (by omega) dL_law_456 ?_
  refine lv_aload_n hex hby dL_law_457 rfl (lv_at hl 0 rfl) ?_
  refine lv_iload_n hex hby dL_law_458 rfl (lv_at hl 3 rfl) ?_
  refine lv_iconst (v := nI 3) hex hby dL_law_459 rfl ?_
  refine nv_iadd hex hby dL_law_460 ?_
  refine nv_sld hex hby hX hbl hbA hS (show i0 + 3 < L by omega) (by omega) dL_law_461 ?_
  refine lv_aload_n hex hby dL_law_462 rfl (lv_at hl 0 rfl) ?_
  refine lv_iload_n hex hby dL_law_463 rfl (lv_at hl 3 rfl) ?_
  refine lv_iconst (v := nI 4) hex hby dL_law_464 rfl ?_
  refine nv_iadd hex hby dL_law_465 ?_
  refine nv_sld hex hby hX hbl hbA hS (show i0 + 4 < L by omega) (by omega) dL_law_466 ?_
  refine mx_Ai (q0 := 0) (ci := 9) (As := [.int (xs (i0 + 1)), .int (xs (i0 + 2)), .int (xs (i0 + 3)), .int (xs (i0 + 4))]) (rest := []) CFx (k_X9_setRange (p1 := xs (i0 + 1)) (p1z := (xs (i0 + 1)).toInt) (p2 := xs (i0 + 2)) (p2z := (xs (i0 + 2)).toInt) (p3 := xs (i0 + 3)) (p3z := (xs (i0 + 3)).toInt) (p4 := xs (i0 + 4)) (p4z := (xs (i0 + 4)).toInt) (T := cuT cu V) (ns := cuN cu tc) rfl rfl rfl rfl hFb hGb hg hm6 hV hN) 4 gL_law_X9_setRange rfl nd_X9_setRange ⟨Nat.le_of_ble_eq_true rfl, Nat.le_of_ble_eq_true rfl⟩ hK hP hD hS hA0 hZ rfl rfl rfl hl.1 rfl (Nat.le_of_ble_eq_true rfl) dL_law_467 ⟨Nat.le_of_ble_eq_true rfl, Nat.le_of_ble_eq_true rfl⟩ (fun r1 u1 H locs hp1 hP hD hS => ?_)
  obtain ⟨rl_1, rb_1, rr_1, ra_1, cn_1, F_1, G_1⟩ := u1
  try dsimp only at hp1 hP hD
  refine lv_aload_n hex hby dL_law_470 rfl (lv_at hl 2 rfl) ?_
  refine lv_aload_n hex hby dL_law_471 rfl (lv_at hl 0 rfl) ?_
  refine lv_iload_n hex hby dL_law_472 rfl (lv_at hl 3 rfl) ?_
  refine lv_iconst (v := nI 1) hex hby dL_law_473 rfl ?_
  refine nv_iadd hex hby dL_law_474 ?_
  refine nv_sld hex hby hX hbl hbA hS (show i0 + 1 < L by omega) (by omega) dL_law_475 ?_
  refine lv_aload_n hex hby dL_law_476 rfl (lv_at hl 0 rfl) ?_
  refine lv_iload_n hex hby dL_law_477 rfl (lv_at hl 3 rfl) ?_
  refine lv_iconst (v := nI 2) hex hby dL_law_478 rfl ?_
  refine nv_iadd hex hby dL_law_479 ?_
  refine nv_sld hex hby hX hbl hbA hS (show i0 + 2 < L by omega) (by omega) dL_law_480 ?_
  refine lv_aload_n hex hby dL_law_481 rfl (lv_at hl 0 rfl) ?_
  refine lv_iload_n hex hby dL_law_482 rfl (lv_at hl 3 rfl) ?_
  refine lv_iconst (v := nI 3) hex hby dL_law_483 rfl ?_
  refine nv_iadd hex hby dL_law_484 ?_
  refine nv_sld hex hby hX hbl hbA hS (show i0 + 3 < L by omega) (by omega) dL_law_485 ?_
  refine lv_aload_n hex hby dL_law_486 rfl (lv_at hl 0 rfl) ?_
  refine lv_iload_n hex hby dL_law_487 rfl (lv_at hl 3 rfl) ?_
  refine lv_iconst (v := nI 4) hex hby dL_law_488 rfl ?_
  refine nv_iadd hex hby dL_law_489 ?_
  refine nv_sld hex hby hX hbl hbA hS (show i0 + 4 < L by omega) (by omega) dL_law_490 ?_
  refine mx_Ai (q0 := 37) (ci := 10) (As := [.int (xs (i0 + 1)), .int (xs (i0 + 2)), .int (xs (i0 + 3)), .int (xs (i0 + 4))]) (rest := [.int r1]) CFx (k_X10_setRange (p1 := xs (i0 + 1)) (p1z := (xs (i0 + 1)).toInt) (p2 := xs (i0 + 2)) (p2z := (xs (i0 + 2)).toInt) (p3 := xs (i0 + 3)) (p3z := (xs (i0 + 3)).toInt) (p4 := xs (i0 + 4)) (p4z := (xs (i0 + 4)).toInt) rfl rfl rfl rfl hm6) 4 gL_law_X10_setRange rfl nd_X10_setRange ⟨Nat.le_of_ble_eq_true rfl, Nat.le_of_ble_eq_true rfl⟩ hK hP hD hS hA0 hZ rfl rfl rfl hl.1 rfl (Nat.le_of_ble_eq_true rfl) dL_law_491 ⟨Nat.le_of_ble_eq_true rfl, Nat.le_of_ble_eq_true rfl⟩ (fun r2 u2 H locs hp2 hP hD hS => ?_)
  obtain ⟨rl_2, rb_2, rr_2, ra_2⟩ := u2
  try dsimp only at hp2 hP hD
  rcases hp1 with ⟨e1, c1, rfl, rfl, rfl, rfl, i1, i2, i3, i4⟩ | ⟨e1, c1, rfl, rfl, rfl, rfl, rfl, rfl, rfl⟩ <;> rcases hp2 with ⟨e2, c2, rfl, rfl, rfl, rfl⟩ | ⟨e2, c2, rfl, rfl, rfl, rfl⟩
  · have he : r1 = r2 := e1.trans e2.symm
    refine lv_icmp_eq (tgt := 1115) hex hby dL_law_494 (by decide) (fun _ => ?_) (fun h => absurd he h)
    exact lc_end C ih ⟨hm1, hm6, hcu, hb1, hbk, hpc, htl, i2, by omega, by omega, by omega, by omega, hVt, hVb⟩ ⟨hPb, hSb, i3, i4, hg, hix, htx, hN, i1, hpg, hLD, hag⟩ hM hSl hfb hF2 hG2 hf2 hP hD hS hl
  · exact absurd c1 c2
  · exact absurd c2 c1
  · have he : r1 = r2 := e1.trans e2.symm
    refine lv_icmp_eq (tgt := 1115) hex hby dL_law_494 (by decide) (fun _ => ?_) (fun h => absurd he h)
    exact lc_end C ih hA hB hM hSl hfb hF2 hG2 hf2 hP hD hS hl
