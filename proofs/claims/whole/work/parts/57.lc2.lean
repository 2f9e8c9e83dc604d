set_option maxHeartbeats 4000000 in
set_option maxRecDepth 100000 in
theorem lc_leaf {pp : Program} {l : Launch} {ee : Env} {ss : State} {mm : MethodId} {b0 : Nat} {bb : List Frame} {mt : Method} {cd : Code} {Q : State → Prop} {AA : Nat → Prop} {dC : Nat → ClassId} {dI : Nat → Nat → Nat} {cI cZ cS : ClassId} {ad : Nat → Nat} {fW : Nat → Option Nat} {tM tH L : Nat} {xs : Nat → Int32} {i0 : Nat} (C : LC pp ss mm b0 cd AA dC dI cI cZ cS tM tH L xs) (hi : i0 + 5 ≤ L) (hL : L ≤ 2560) (ih : LG pp l ee ss mm b0 bb mt cd Q AA dC dI cI cZ cS ad fW (i0 + 5)) {m : Nat} {cu : Nat} {tc : Nat} {rl : Nat} {rb : Nat} {rr : Nat} {ra : Nat} {pc : Nat} {bk : Nat} {c : Nat} {cn : Nat} {bs : Nat} {tl : Nat} {V : Nat → Nat} {P : Nat → Nat} {S : Nat → Nat} {F : Nat → Nat} {G : Nat → Nat} {g : Nat → Nat} {ix : Nat → Nat} {fb : Nat → Nat} {tx : Nat → Nat} {km : Nat → Nat} {kcu : Nat → Nat} {ktc : Nat → Nat} {krl : Nat → Nat} {krb : Nat → Nat} {krr : Nat → Nat} {kra : Nat → Nat} {kpc : Nat → Nat} {kbk : Nat → Nat} {kc : Nat → Nat} {kV : Nat → Nat → Nat} {kP : Nat → Nat → Nat} {kS : Nat → Nat → Nat} {ku : Nat → Nat} {im : Nat} {bs2 : Nat} {sm : Nat → Nat} {tb : Nat → Nat} {P2 : Nat → Nat} {S2 : Nat → Nat} {L2 : Nat → Nat} {K : Nat → Nat} {KT : Nat → Nat} {KS : Nat → Nat} {KL : Nat → Nat} {ix2 : Nat → Nat} {g2 : Nat → Nat} {F2 : Nat → Nat} {G2 : Nat → Nat} {O2 : Nat → Nat} {f2 : Nat → Nat} {st : Nat → Nat} {lv : Nat → Nat} {kst : Nat → Nat → Nat} {klv : Nat → Nat → Nat} (hA : IA m cu tc rl rb rr ra pc bk cn tl V) (hB : IB m cu rl rb rr ra pc c cn V P S F G g ix tx st lv) (hM : IM m cu tc pc c V P st lv sm tb P2 S2 L2 ix2 g2 O2) (hSl : IS fW ad km kcu ktc krl krb krr kra kpc kbk kc kV kP kS ku K KT KS KL kst klv) (hfb : ∀ j, fb j < 4096) (hF2 : ∀ j, F2 j < 4096) (hG2 : ∀ j, G2 j < 4096) (hf2 : ∀ j, f2 j < 4096) {H : Heap} {locs : List Loc} {ls : Array Slot} (hP : va_P (dC, dI) vwCl (LW cI cZ cS ad fW m cu tc rl rb rr ra pc bk c cn bs tl V P S F G g ix fb tx km kcu ktc krl krb krr kra kpc kbk kc kV kP kS ku m cu rl rb rr ra pc bk c tl im bs2 sm tb P2 S2 L2 tx K KT KS KL ku ix2 g2 F2 G2 O2 f2) H) (hD : va_D AA (LW cI cZ cS ad fW m cu tc rl rb rr ra pc bk c cn bs tl V P S F G g ix fb tx km kcu ktc krl krb krr kra kpc kbk kc kV kP kS ku m cu rl rb rr ra pc bk c tl im bs2 sm tb P2 S2 L2 tx K KT KS KL ku ix2 g2 F2 G2 O2 f2)) (hS : va_S AA ss.heap H locs) (hl : lv_has ls 4 [(0, .ref b0), (1, .ref (ad 0)), (2, .ref (ad 37)), (3, .int (nI i0))]) : W pp l ee room_1 ss mm #[Value.ref b0] bb mt cd H locs 55 56922 Q (F0 mm 824 ls []) := by
  obtain ⟨CFx, hK, hA0, hZ, hX, hbl, hbA⟩ := id C
  obtain ⟨hex, hby, hml, hown, hts⟩ := id CFx
  obtain ⟨hm1, hm6, hcu, hb1, hbk, hpc, htl, hcn, hrl, hrr, hrb, hra, hVt, hVb⟩ := id hA
  obtain ⟨hPb, hSb, hFb, hGb, hg, hix, htx, hN, hIv, hpg, hLD, hag⟩ := id hB
  obtain ⟨hs0, hs1, hs2, hsm, htb, hT0, hT1, hT2, hP2b, hPP, hS2b, hL2b, hAG, hO2b, hLf, hix2, hg2, hN2⟩ := id hM
  obtain ⟨hku, hW0, hW1, hKb, hKTb, hKSb, hKLb, hsl⟩ := id hSl
  have hV := cuT_VT (cu := cu) hVt
  have hL1 := hLD.1
  have hc := hLD.le hV hm6 hpc
  have hpg2 : ∀ j, j < pc → P2 j % 64 < 2 ^ m ∧ P2 j / 64 < 2 ^ m := fun j hj => by rw [hPP j hj]; exact hpg j hj
  have hsc := cu_sm hs0 hs1 hs2 hcu
  have hTb := cu_Tb hT0 hT1 hT2 hcu
  have h26 := p2_6 hm6
  have h46 := p4_6 hm6
  have hne := rg_ne hV hN hm6 hrl hrr hrb hra
  have htc8 := hVt.2.1
  refine lv_aload_n hex hby dL_law_824 rfl (lv_at hl 1 rfl) ?_
  refine lv_aload_n hex hby dL_law_825 rfl (lv_at hl 0 rfl) ?_
  refine lv_iload_n hex hby dL_law_826 rfl (lv_at hl 3 rfl) ?_
  refine lv_iconst (v := nI 1) hex hby dL_law_827 rfl ?_
  refine nv_iadd hex hby dL_law_828 ?_
  refine nv_sld hex hby hX hbl hbA hS (show i0 + 1 < L by omega) (by omega) dL_law_829 ?_
  refine lv_aload_n hex hby dL_law_830 rfl (lv_at hl 0 rfl) ?_
  refine lv_iload_n hex hby dL_law_831 rfl (lv_at hl 3 rfl) ?_
  refine lv_iconst (v := nI 2) hex hby dL_law_832 rfl ?_
  refine nv_iadd hex hby dL_law_833 ?_
  refine nv_sld hex hby hX hbl hbA hS (show i0 + 2 < L by omega) (by omega) dL_law_834 ?_
  refine mx_Ai (q0 := 0) (ci := 9) (As := [.int (xs (i0 + 1)), .int (xs (i0 + 2))]) (rest := []) CFx (k_X9_leaf (k := xs (i0 + 1)) (kz := (xs (i0 + 1)).toInt) (w := xs (i0 + 2)) (wz := (xs (i0 + 2)).toInt) (T := cuT cu V) (ns := cuN cu tc) (st := st) (lv := lv) rfl rfl hg hix hSb hPb hpc hm6 hV hN hL1 hag hc hpg) 2 gL_law_X9_leaf rfl nd_X9_leaf ⟨Nat.le_of_ble_eq_true rfl, Nat.le_of_ble_eq_true rfl⟩ hK hP hD hS hA0 hZ rfl rfl rfl hl.1 rfl (Nat.le_of_ble_eq_true rfl) dL_law_835 ⟨Nat.le_of_ble_eq_true rfl, Nat.le_of_ble_eq_true rfl⟩ (fun r1 u1 H locs hp1 hP hD hS => ?_)
  try dsimp only at hp1 hP hD
  refine lv_aload_n hex hby dL_law_838 rfl (lv_at hl 2 rfl) ?_
  refine lv_aload_n hex hby dL_law_839 rfl (lv_at hl 0 rfl) ?_
  refine lv_iload_n hex hby dL_law_840 rfl (lv_at hl 3 rfl) ?_
  refine lv_iconst (v := nI 1) hex hby dL_law_841 rfl ?_
  refine nv_iadd hex hby dL_law_842 ?_
  refine nv_sld hex hby hX hbl hbA hS (show i0 + 1 < L by omega) (by omega) dL_law_843 ?_
  refine lv_aload_n hex hby dL_law_844 rfl (lv_at hl 0 rfl) ?_
  refine lv_iload_n hex hby dL_law_845 rfl (lv_at hl 3 rfl) ?_
  refine lv_iconst (v := nI 2) hex hby dL_law_846 rfl ?_
  refine nv_iadd hex hby dL_law_847 ?_
  refine nv_sld hex hby hX hbl hbA hS (show i0 + 2 < L by omega) (by omega) dL_law_848 ?_
  refine mx_Ai (q0 := 37) (ci := 10) (As := [.int (xs (i0 + 1)), .int (xs (i0 + 2))]) (rest := [.int r1]) CFx (k_X10_leaf (k := xs (i0 + 1)) (kz := (xs (i0 + 1)).toInt) (w := xs (i0 + 2)) (wz := (xs (i0 + 2)).toInt) (T := cuT cu V) (ns := cuN cu tc) (st := st) (lv := lv) rfl rfl hg2 hS2b hL2b hP2b hpc hix2 hm6 hV hN2 hL1 hAG hpg2) 2 gL_law_X10_leaf rfl nd_X10_leaf ⟨Nat.le_of_ble_eq_true rfl, Nat.le_of_ble_eq_true rfl⟩ hK hP hD hS hA0 hZ rfl rfl rfl hl.1 rfl (Nat.le_of_ble_eq_true rfl) dL_law_849 ⟨Nat.le_of_ble_eq_true rfl, Nat.le_of_ble_eq_true rfl⟩ (fun r2 u2 H locs hp2 hP hD hS => ?_)
  try dsimp only at hp2 hP hD
  have he : r1 = r2 := by
    rcases hp1 with ⟨e1, c1, d1⟩ | ⟨e1, c1⟩ | ⟨e1, c1, d1⟩ <;> rcases hp2 with ⟨e2, c2, d2⟩ | ⟨e2, c2⟩ | ⟨e2, c2, d2⟩ <;> first | exact e1.trans e2.symm | exact absurd c1 c2 | exact absurd c2 c1 | exact absurd d1 d2 | exact absurd d2 d1 | exact e1.trans ((congrArg nI (tlV_congr (ptv_eq hPP) _ _)).symm.trans e2.symm)
  refine lv_icmp_eq (tgt := 1115) hex hby dL_law_852 (by decide) (fun _ => ?_) (fun h => absurd he h)
  exact lc_end C ih hA hB hM hSl hfb hF2 hG2 hf2 hP hD hS hl
set_option maxHeartbeats 4000000 in
set_option maxRecDepth 100000 in
theorem lc_leafAt {pp : Program} {l : Launch} {ee : Env} {ss : State} {mm : MethodId} {b0 : Nat} {bb : List Frame} {mt : Method} {cd : Code} {Q : State → Prop} {AA : Nat → Prop} {dC : Nat → ClassId} {dI : Nat → Nat → Nat} {cI cZ cS : ClassId} {ad : Nat → Nat} {fW : Nat → Option Nat} {tM tH L : Nat} {xs : Nat → Int32} {i0 : Nat} (C : LC pp ss mm b0 cd AA dC dI cI cZ cS tM tH L xs) (hi : i0 + 5 ≤ L) (hL : L ≤ 2560) (ih : LG pp l ee ss mm b0 bb mt cd Q AA dC dI cI cZ cS ad fW (i0 + 5)) {m : Nat} {cu : Nat} {tc : Nat} {rl : Nat} {rb : Nat} {rr : Nat} {ra : Nat} {pc : Nat} {bk : Nat} {c : Nat} {cn : Nat} {bs : Nat} {tl : Nat} {V : Nat → Nat} {P : Nat → Nat} {S : Nat → Nat} {F : Nat → Nat} {G : Nat → Nat} {g : Nat → Nat} {ix : Nat → Nat} {fb : Nat → Nat} {tx : Nat → Nat} {km : Nat → Nat} {kcu : Nat → Nat} {ktc : Nat → Nat} {krl : Nat → Nat} {krb : Nat → Nat} {krr : Nat → Nat} {kra : Nat → Nat} {kpc : Nat → Nat} {kbk : Nat → Nat} {kc : Nat → Nat} {kV : Nat → Nat → Nat} {kP : Nat → Nat → Nat} {kS : Nat → Nat → Nat} {ku : Nat → Nat} {im : Nat} {bs2 : Nat} {sm : Nat → Nat} {tb : Nat → Nat} {P2 : Nat → Nat} {S2 : Nat → Nat} {L2 : Nat → Nat} {K : Nat → Nat} {KT : Nat → Nat} {KS : Nat → Nat} {KL : Nat → Nat} {ix2 : Nat → Nat} {g2 : Nat → Nat} {F2 : Nat → Nat} {G2 : Nat → Nat} {O2 : Nat → Nat} {f2 : Nat → Nat} {st : Nat → Nat} {lv : Nat → Nat} {kst : Nat → Nat → Nat} {klv : Nat → Nat → Nat} (hA : IA m cu tc rl rb rr ra pc bk cn tl V) (hB : IB m cu rl rb rr ra pc c cn V P S F G g ix tx st lv) (hM : IM m cu tc pc c V P st lv sm tb P2 S2 L2 ix2 g2 O2) (hSl : IS fW ad km kcu ktc krl krb krr kra kpc kbk kc kV kP kS ku K KT KS KL kst klv) (hfb : ∀ j, fb j < 4096) (hF2 : ∀ j, F2 j < 4096) (hG2 : ∀ j, G2 j < 4096) (hf2 : ∀ j, f2 j < 4096) {H : Heap} {locs : List Loc} {ls : Array Slot} (hP : va_P (dC, dI) vwCl (LW cI cZ cS ad fW m cu tc rl rb rr ra pc bk c cn bs tl V P S F G g ix fb tx km kcu ktc krl krb krr kra kpc kbk kc kV kP kS ku m cu rl rb rr ra pc bk c tl im bs2 sm tb P2 S2 L2 tx K KT KS KL ku ix2 g2 F2 G2 O2 f2) H) (hD : va_D AA (LW cI cZ cS ad fW m cu tc rl rb rr ra pc bk c cn bs tl V P S F G g ix fb tx km kcu ktc krl krb krr kra kpc kbk kc kV kP kS ku m cu rl rb rr ra pc bk c tl im bs2 sm tb P2 S2 L2 tx K KT KS KL ku ix2 g2 F2 G2 O2 f2)) (hS : va_S AA ss.heap H locs) (hl : lv_has ls 4 [(0, .ref b0), (1, .ref (ad 0)), (2, .ref (ad 37)), (3, .int (nI i0))]) : W pp l ee room_1 ss mm #[Value.ref b0] bb mt cd H locs 55 56922 Q (F0 mm 857 ls []) := by
  obtain ⟨CFx, hK, hA0, hZ, hX, hbl, hbA⟩ := id C
  obtain ⟨hex, hby, hml, hown, hts⟩ := id CFx
  obtain ⟨hm1, hm6, hcu, hb1, hbk, hpc, htl, hcn, hrl, hrr, hrb, hra, hVt, hVb⟩ := id hA
  obtain ⟨hPb, hSb, hFb, hGb, hg, hix, htx, hN, hIv, hpg, hLD, hag⟩ := id hB
  obtain ⟨hs0, hs1, hs2, hsm, htb, hT0, hT1, hT2, hP2b, hPP, hS2b, hL2b, hAG, hO2b, hLf, hix2, hg2, hN2⟩ := id hM
  obtain ⟨hku, hW0, hW1, hKb, hKTb, hKSb, hKLb, hsl⟩ := id hSl
  have hV := cuT_VT (cu := cu) hVt
  have hL1 := hLD.1
  have hc := hLD.le hV hm6 hpc
  have hpg2 : ∀ j, j < pc → P2 j % 64 < 2 ^ m ∧ P2 j / 64 < 2 ^ m := fun j hj => by rw [hPP j hj]; exact hpg j hj
  have hsc := cu_sm hs0 hs1 hs2 hcu
  have hTb := cu_Tb hT0 hT1 hT2 hcu
  have h26 := p2_6 hm6
  have h46 := p4_6 hm6
  have hne := rg_ne hV hN hm6 hrl hrr hrb hra
  have htc8 := hVt.2.1
  refine lv_aload_n hex hby dL_law_857 rfl (lv_at hl 1 rfl) ?_
  refine lv_aload_n hex hby dL_law_858 rfl (lv_at hl 0 rfl) ?_
  refine lv_iload_n hex hby dL_law_859 rfl (lv_at hl 3 rfl) ?_
  refine lv_iconst (v := nI 1) hex hby dL_law_860 rfl ?_
  refine nv_iadd hex hby dL_law_861 ?_
  refine nv_sld hex hby hX hbl hbA hS (show i0 + 1 < L by omega) (by omega) dL_law_862 ?_
  refine lv_aload_n hex hby dL_law_863 rfl (lv_at hl 0 rfl) ?_
  refine lv_iload_n hex hby dL_law_864 rfl (lv_at hl 3 rfl) ?_
  refine lv_iconst (v := nI 2) hex hby dL_law_865 rfl ?_
  refine nv_iadd hex hby dL_law_866 ?_
  refine nv_sld hex hby hX hbl hbA hS (show i0 + 2 < L by omega) (by omega) dL_law_867 ?_
  refine mx_Ai (q0 := 0) (ci := 9) (As := [.int (xs (i0 + 1)), .int (xs (i0 + 2))]) (rest := []) CFx (k_X9_leafAt (x := xs (i0 + 1)) (xz := (xs (i0 + 1)).toInt) (y := xs (i0 + 2)) (yz := (xs (i0 + 2)).toInt) (T := cuT cu V) (ns := cuN cu tc) (st := st) (lv := lv) rfl rfl hix hm6 hV hN hSb hL1 hag hc) 2 gL_law_X9_leafAt rfl nd_X9_leafAt ⟨Nat.le_of_ble_eq_true rfl, Nat.le_of_ble_eq_true rfl⟩ hK hP hD hS hA0 hZ rfl rfl rfl hl.1 rfl (Nat.le_of_ble_eq_true rfl) dL_law_868 ⟨Nat.le_of_ble_eq_true rfl, Nat.le_of_ble_eq_true rfl⟩ (fun r1 u1 H locs hp1 hP hD hS => ?_)
  try dsimp only at hp1 hP hD
  refine lv_aload_n hex hby dL_law_871 rfl (lv_at hl 2 rfl) ?_
  refine lv_aload_n hex hby dL_law_872 rfl (lv_at hl 0 rfl) ?_
  refine lv_iload_n hex hby dL_law_873 rfl (lv_at hl 3 rfl) ?_
  refine lv_iconst (v := nI 1) hex hby dL_law_874 rfl ?_
  refine nv_iadd hex hby dL_law_875 ?_
  refine nv_sld hex hby hX hbl hbA hS (show i0 + 1 < L by omega) (by omega) dL_law_876 ?_
  refine lv_aload_n hex hby dL_law_877 rfl (lv_at hl 0 rfl) ?_
  refine lv_iload_n hex hby dL_law_878 rfl (lv_at hl 3 rfl) ?_
  refine lv_iconst (v := nI 2) hex hby dL_law_879 rfl ?_
  refine nv_iadd hex hby dL_law_880 ?_
  refine nv_sld hex hby hX hbl hbA hS (show i0 + 2 < L by omega) (by omega) dL_law_881 ?_
  refine mx_Ai (q0 := 37) (ci := 10) (As := [.int (xs (i0 + 1)), .int (xs (i0 + 2))]) (rest := [.int r1]) CFx (k_X10_leafAt (x := xs (i0 + 1)) (xz := (xs (i0 + 1)).toInt) (y := xs (i0 + 2)) (yz := (xs (i0 + 2)).toInt) (T := cuT cu V) (ns := cuN cu tc) (st := st) (lv := lv) rfl rfl hix2 hO2b hm6 hV ⟨hN.1, hN2.2⟩ hL1 hLf) 2 gL_law_X10_leafAt rfl nd_X10_leafAt ⟨Nat.le_of_ble_eq_true rfl, Nat.le_of_ble_eq_true rfl⟩ hK hP hD hS hA0 hZ rfl rfl rfl hl.1 rfl (Nat.le_of_ble_eq_true rfl) dL_law_882 ⟨Nat.le_of_ble_eq_true rfl, Nat.le_of_ble_eq_true rfl⟩ (fun r2 u2 H locs hp2 hP hD hS => ?_)
  try dsimp only at hp2 hP hD
  have he : r1 = r2 := by
    rcases hp1 with ⟨a, e1, c1, v1, l1⟩ | ⟨e1, c1⟩ <;> rcases hp2 with ⟨b, e2, c2, v2, l2⟩ | ⟨e2, c2⟩
    · rw [e1, e2, inLf.uniq hV hL1 v1 v2 (by omega) (by omega) l1 l2]
    · exact absurd c1 c2
    · exact absurd c2 c1
    · exact e1.trans e2.symm
  refine lv_icmp_eq (tgt := 1115) hex hby dL_law_885 (by decide) (fun _ => ?_) (fun h => absurd he h)
  exact lc_end C ih hA hB hM hSl hfb hF2 hG2 hf2 hP hD hS hl
set_option maxHeartbeats 4000000 in
set_option maxRecDepth 100000 in
theorem lc_nearest {pp : Program} {l : Launch} {ee : Env} {ss : State} {mm : MethodId} {b0 : Nat} {bb : List Frame} {mt : Method} {cd : Code} {Q : State → Prop} {AA : Nat → Prop} {dC : Nat → ClassId} {dI : Nat → Nat → Nat} {cI cZ cS : ClassId} {ad : Nat → Nat} {fW : Nat → Option Nat} {tM tH L : Nat} {xs : Nat → Int32} {i0 : Nat} (C : LC pp ss mm b0 cd AA dC dI cI cZ cS tM tH L xs) (hi : i0 + 5 ≤ L) (hL : L ≤ 2560) (ih : LG pp l ee ss mm b0 bb mt cd Q AA dC dI cI cZ cS ad fW (i0 + 5)) {m : Nat} {cu : Nat} {tc : Nat} {rl : Nat} {rb : Nat} {rr : Nat} {ra : Nat} {pc : Nat} {bk : Nat} {c : Nat} {cn : Nat} {bs : Nat} {tl : Nat} {V : Nat → Nat} {P : Nat → Nat} {S : Nat → Nat} {F : Nat → Nat} {G : Nat → Nat} {g : Nat → Nat} {ix : Nat → Nat} {fb : Nat → Nat} {tx : Nat → Nat} {km : Nat → Nat} {kcu : Nat → Nat} {ktc : Nat → Nat} {krl : Nat → Nat} {krb : Nat → Nat} {krr : Nat → Nat} {kra : Nat → Nat} {kpc : Nat → Nat} {kbk : Nat → Nat} {kc : Nat → Nat} {kV : Nat → Nat → Nat} {kP : Nat → Nat → Nat} {kS : Nat → Nat → Nat} {ku : Nat → Nat} {im : Nat} {bs2 : Nat} {sm : Nat → Nat} {tb : Nat → Nat} {P2 : Nat → Nat} {S2 : Nat → Nat} {L2 : Nat → Nat} {K : Nat → Nat} {KT : Nat → Nat} {KS : Nat → Nat} {KL : Nat → Nat} {ix2 : Nat → Nat} {g2 : Nat → Nat} {F2 : Nat → Nat} {G2 : Nat → Nat} {O2 : Nat → Nat} {f2 : Nat → Nat} {st : Nat → Nat} {lv : Nat → Nat} {kst : Nat → Nat → Nat} {klv : Nat → Nat → Nat} (hA : IA m cu tc rl rb rr ra pc bk cn tl V) (hB : IB m cu rl rb rr ra pc c cn V P S F G g ix tx st lv) (hM : IM m cu tc pc c V P st lv sm tb P2 S2 L2 ix2 g2 O2) (hSl : IS fW ad km kcu ktc krl krb krr kra kpc kbk kc kV kP kS ku K KT KS KL kst klv) (hfb : ∀ j, fb j < 4096) (hF2 : ∀ j, F2 j < 4096) (hG2 : ∀ j, G2 j < 4096) (hf2 : ∀ j, f2 j < 4096) {H : Heap} {locs : List Loc} {ls : Array Slot} (hP : va_P (dC, dI) vwCl (LW cI cZ cS ad fW m cu tc rl rb rr ra pc bk c cn bs tl V P S F G g ix fb tx km kcu ktc krl krb krr kra kpc kbk kc kV kP kS ku m cu rl rb rr ra pc bk c tl im bs2 sm tb P2 S2 L2 tx K KT KS KL ku ix2 g2 F2 G2 O2 f2) H) (hD : va_D AA (LW cI cZ cS ad fW m cu tc rl rb rr ra pc bk c cn bs tl V P S F G g ix fb tx km kcu ktc krl krb krr kra kpc kbk kc kV kP kS ku m cu rl rb rr ra pc bk c tl im bs2 sm tb P2 S2 L2 tx K KT KS KL ku ix2 g2 F2 G2 O2 f2)) (hS : va_S AA ss.heap H locs) (hl : lv_has ls 4 [(0, .ref b0), (1, .ref (ad 0)), (2, .ref (ad 37)), (3, .int (nI i0))]) : W pp l ee room_1 ss mm #[Value.ref b0] bb mt cd H locs 55 56922 Q (F0 mm 755 ls []) := by
  obtain ⟨CFx, hK, hA0, hZ, hX, hbl, hbA⟩ := id C
  obtain ⟨hex, hby, hml, hown, hts⟩ := id CFx
  obtain ⟨hm1, hm6, hcu, hb1, hbk, hpc, htl, hcn, hrl, hrr, hrb, hra, hVt, hVb⟩ := id hA
  obtain ⟨hPb, hSb, hFb, hGb, hg, hix, htx, hN, hIv, hpg, hLD, hag⟩ := id hB
  obtain ⟨hs0, hs1, hs2, hsm, htb, hT0, hT1, hT2, hP2b, hPP, hS2b, hL2b, hAG, hO2b, hLf, hix2, hg2, hN2⟩ := id hM
  obtain ⟨hku, hW0, hW1, hKb, hKTb, hKSb, hKLb, hsl⟩ := id hSl
  have hV := cuT_VT (cu := cu) hVt
  have hL1 := hLD.1
  have hc := hLD.le hV hm6 hpc
  have hpg2 : ∀ j, j < pc → P2 j % 64 < 2 ^ m ∧ P2 j / 64 < 2 ^ m := fun j hj => by rw [hPP j hj]; exact hpg j hj
  have hsc := cu_sm hs0 hs1 hs2 hcu
  have hTb := cu_Tb hT0 hT1 hT2 hcu
  have h26 := p2_6 hm6
  have h46 := p4_6 hm6
  have hne := rg_ne hV hN hm6 hrl hrr hrb hra
  have htc8 := hVt.2.1
  refine lv_aload_n hex hby dL_law_755 rfl (lv_at hl 1 rfl) ?_
  refine lv_aload_n hex hby dL_law_756 rfl (lv_at hl 0 rfl) ?_
  refine lv_iload_n hex hby dL_law_757 rfl (lv_at hl 3 rfl) ?_
  refine lv_iconst (v := nI 1) hex hby dL_law_758 rfl ?_
  refine nv_iadd hex hby dL_law_759 ?_
  refine nv_sld hex hby hX hbl hbA hS (show i0 + 1 < L by omega) (by omega) dL_law_760 ?_
  refine lv_aload_n hex hby dL_law_761 rfl (lv_at hl 0 rfl) ?_
  refine lv_iload_n hex hby dL_law_762 rfl (lv_at hl 3 rfl) ?_
  refine lv_iconst (v := nI 2) hex hby dL_law_763 rfl ?_
  refine nv_iadd hex hby dL_law_764 ?_
  refine nv_sld hex hby hX hbl hbA hS (show i0 + 2 < L by omega) (by omega) dL_law_765 ?_
  refine mx_Ai (q0 := 0) (ci := 9) (As := [.int (xs (i0 + 1)), .int (xs (i0 + 2))]) (rest := []) CFx (k_X9_nearest (x := xs (i0 + 1)) (xz := (xs (i0 + 1)).toInt) (y := xs (i0 + 2)) (yz := (xs (i0 + 2)).toInt) (T := cuT cu V) (ns := cuN cu tc) rfl rfl hix hPb hpc hm6 hV hN hpg) 2 gL_law_X9_nearest rfl nd_X9_nearest ⟨Nat.le_of_ble_eq_true rfl, Nat.le_of_ble_eq_true rfl⟩ hK hP hD hS hA0 hZ rfl rfl rfl hl.1 rfl (Nat.le_of_ble_eq_true rfl) dL_law_766 ⟨Nat.le_of_ble_eq_true rfl, Nat.le_of_ble_eq_true rfl⟩ (fun r1 u1 H locs hp1 hP hD hS => ?_)
  try dsimp only at hp1 hP hD
  refine lv_aload_n hex hby dL_law_769 rfl (lv_at hl 2 rfl) ?_
  refine lv_aload_n hex hby dL_law_770 rfl (lv_at hl 0 rfl) ?_
  refine lv_iload_n hex hby dL_law_771 rfl (lv_at hl 3 rfl) ?_
  refine lv_iconst (v := nI 1) hex hby dL_law_772 rfl ?_
  refine nv_iadd hex hby dL_law_773 ?_
  refine nv_sld hex hby hX hbl hbA hS (show i0 + 1 < L by omega) (by omega) dL_law_774 ?_
  refine lv_aload_n hex hby dL_law_775 rfl (lv_at hl 0 rfl) ?_
  refine lv_iload_n hex hby dL_law_776 rfl (lv_at hl 3 rfl) ?_
  refine lv_iconst (v := nI 2) hex hby dL_law_777 rfl ?_
  refine nv_iadd hex hby dL_law_778 ?_
  refine nv_sld hex hby hX hbl hbA hS (show i0 + 2 < L by omega) (by omega) dL_law_779 ?_
  refine mx_Ai (q0 := 37) (ci := 10) (As := [.int (xs (i0 + 1)), .int (xs (i0 + 2))]) (rest := [.int r1]) CFx (k_X10_nearest (x := xs (i0 + 1)) (xz := (xs (i0 + 1)).toInt) (y := xs (i0 + 2)) (yz := (xs (i0 + 2)).toInt) (T := cuT cu V) (ns := cuN cu tc) rfl rfl hix2 hP2b hpc hm6 hV ⟨hN.1, hN2.2⟩ hpg2) 2 gL_law_X10_nearest rfl nd_X10_nearest ⟨Nat.le_of_ble_eq_true rfl, Nat.le_of_ble_eq_true rfl⟩ hK hP hD hS hA0 hZ rfl rfl rfl hl.1 rfl (Nat.le_of_ble_eq_true rfl) dL_law_780 ⟨Nat.le_of_ble_eq_true rfl, Nat.le_of_ble_eq_true rfl⟩ (fun r2 u2 H locs hp2 hP hD hS => ?_)
  try dsimp only at hp2 hP hD
  have he : r1 = r2 := by
    rcases hp1 with ⟨e1, c1, d1⟩ | ⟨e1, c1, d1⟩ | ⟨e1, c1⟩ <;> rcases hp2 with ⟨e2, c2, d2⟩ | ⟨e2, c2, d2⟩ | ⟨e2, c2⟩ <;> first | exact e1.trans e2.symm | exact absurd c1 c2 | exact absurd c2 c1 | omega | exact e1.trans ((congrArg zI (nrs_congr (ptv_eq hPP))).symm.trans e2.symm)
  refine lv_icmp_eq (tgt := 1115) hex hby dL_law_783 (by decide) (fun _ => ?_) (fun h => absurd he h)
  exact lc_end C ih hA hB hM hSl hfb hF2 hG2 hf2 hP hD hS hl
set_option maxHeartbeats 4000000 in
set_option maxRecDepth 100000 in
theorem lc_intervals {pp : Program} {l : Launch} {ee : Env} {ss : State} {mm : MethodId} {b0 : Nat} {bb : List Frame} {mt : Method} {cd : Code} {Q : State → Prop} {AA : Nat → Prop} {dC : Nat → ClassId} {dI : Nat → Nat → Nat} {cI cZ cS : ClassId} {ad : Nat → Nat} {fW : Nat → Option Nat} {tM tH L : Nat} {xs : Nat → Int32} {i0 : Nat} (C : LC pp ss mm b0 cd AA dC dI cI cZ cS tM tH L xs) (hi : i0 + 5 ≤ L) (hL : L ≤ 2560) (ih : LG pp l ee ss mm b0 bb mt cd Q AA dC dI cI cZ cS ad fW (i0 + 5)) {m : Nat} {cu : Nat} {tc : Nat} {rl : Nat} {rb : Nat} {rr : Nat} {ra : Nat} {pc : Nat} {bk : Nat} {c : Nat} {cn : Nat} {bs : Nat} {tl : Nat} {V : Nat → Nat} {P : Nat → Nat} {S : Nat → Nat} {F : Nat → Nat} {G : Nat → Nat} {g : Nat → Nat} {ix : Nat → Nat} {fb : Nat → Nat} {tx : Nat → Nat} {km : Nat → Nat} {kcu : Nat → Nat} {ktc : Nat → Nat} {krl : Nat → Nat} {krb : Nat → Nat} {krr : Nat → Nat} {kra : Nat → Nat} {kpc : Nat → Nat} {kbk : Nat → Nat} {kc : Nat → Nat} {kV : Nat → Nat → Nat} {kP : Nat → Nat → Nat} {kS : Nat → Nat → Nat} {ku : Nat → Nat} {im : Nat} {bs2 : Nat} {sm : Nat → Nat} {tb : Nat → Nat} {P2 : Nat → Nat} {S2 : Nat → Nat} {L2 : Nat → Nat} {K : Nat → Nat} {KT : Nat → Nat} {KS : Nat → Nat} {KL : Nat → Nat} {ix2 : Nat → Nat} {g2 : Nat → Nat} {F2 : Nat → Nat} {G2 : Nat → Nat} {O2 : Nat → Nat} {f2 : Nat → Nat} {st : Nat → Nat} {lv : Nat → Nat} {kst : Nat → Nat → Nat} {klv : Nat → Nat → Nat} (hA : IA m cu tc rl rb rr ra pc bk cn tl V) (hB : IB m cu rl rb rr ra pc c cn V P S F G g ix tx st lv) (hM : IM m cu tc pc c V P st lv sm tb P2 S2 L2 ix2 g2 O2) (hSl : IS fW ad km kcu ktc krl krb krr kra kpc kbk kc kV kP kS ku K KT KS KL kst klv) (hfb : ∀ j, fb j < 4096) (hF2 : ∀ j, F2 j < 4096) (hG2 : ∀ j, G2 j < 4096) (hf2 : ∀ j, f2 j < 4096) {H : Heap} {locs : List Loc} {ls : Array Slot} (hP : va_P (dC, dI) vwCl (LW cI cZ cS ad fW m cu tc rl rb rr ra pc bk c cn bs tl V P S F G g ix fb tx km kcu ktc krl krb krr kra kpc kbk kc kV kP kS ku m cu rl rb rr ra pc bk c tl im bs2 sm tb P2 S2 L2 tx K KT KS KL ku ix2 g2 F2 G2 O2 f2) H) (hD : va_D AA (LW cI cZ cS ad fW m cu tc rl rb rr ra pc bk c cn bs tl V P S F G g ix fb tx km kcu ktc krl krb krr kra kpc kbk kc kV kP kS ku m cu rl rb rr ra pc bk c tl im bs2 sm tb P2 S2 L2 tx K KT KS KL ku ix2 g2 F2 G2 O2 f2)) (hS : va_S AA ss.heap H locs) (hl : lv_has ls 4 [(0, .ref b0), (1, .ref (ad 0)), (2, .ref (ad 37)), (3, .int (nI i0))]) : W pp l ee room_1 ss mm #[Value.ref b0] bb mt cd H locs 55 56922 Q (F0 mm 499 ls []) := by
  obtain ⟨CFx, hK, hA0, hZ, hX, hbl, hbA⟩ := id C
  obtain ⟨hex, hby, hml, hown, hts⟩ := id CFx
  obtain ⟨hm1, hm6, hcu, hb1, hbk, hpc, htl, hcn, hrl, hrr, hrb, hra, hVt, hVb⟩ := id hA
  obtain ⟨hPb, hSb, hFb, hGb, hg, hix, htx, hN, hIv, hpg, hLD, hag⟩ := id hB
  obtain ⟨hs0, hs1, hs2, hsm, htb, hT0, hT1, hT2, hP2b, hPP, hS2b, hL2b, hAG, hO2b, hLf, hix2, hg2, hN2⟩ := id hM
  obtain ⟨hku, hW0, hW1, hKb, hKTb, hKSb, hKLb, hsl⟩ := id hSl
  have hV := cuT_VT (cu := cu) hVt
  have hL1 := hLD.1
  have hc := hLD.le hV hm6 hpc
  have hpg2 : ∀ j, j < pc → P2 j % 64 < 2 ^ m ∧ P2 j / 64 < 2 ^ m := fun j hj => by rw [hPP j hj]; exact hpg j hj
  have hsc := cu_sm hs0 hs1 hs2 hcu
  have hTb := cu_Tb hT0 hT1 hT2 hcu
  have h26 := p2_6 hm6
  have h46 := p4_6 hm6
  have hne := rg_ne hV hN hm6 hrl hrr hrb hra
  have htc8 := hVt.2.1
  refine lv_aload_n hex hby dL_law_499 rfl (lv_at hl 1 rfl) ?_
  refine mx_Ai (q0 := 0) (ci := 9) (As := []) (rest := []) CFx (k_X9_intervals  ) 0 gL_law_X9_intervals rfl nd_X9_intervals ⟨Nat.le_of_ble_eq_true rfl, Nat.le_of_ble_eq_true rfl⟩ hK hP hD hS hA0 hZ rfl rfl rfl hl.1 rfl (Nat.le_of_ble_eq_true rfl) dL_law_500 ⟨Nat.le_of_ble_eq_true rfl, Nat.le_of_ble_eq_true rfl⟩ (fun r1 u1 H locs hp1 hP hD hS => ?_)
  try dsimp only at hp1 hP hD
  refine lv_aload_n hex hby dL_law_503 rfl (lv_at hl 2 rfl) ?_
  refine mx_Ai (q0 := 37) (ci := 10) (As := []) (rest := [.int r1]) CFx (k_X10_intervals (T := cuT cu V) (ns := cuN cu tc) hF2 hG2 hg2 hm6 hV ⟨hN2.1, hN.2⟩ hrl hrr hrb hra) 0 gL_law_X10_intervals rfl nd_X10_intervals ⟨Nat.le_of_ble_eq_true rfl, Nat.le_of_ble_eq_true rfl⟩ hK hP hD hS hA0 hZ rfl rfl rfl hl.1 rfl (Nat.le_of_ble_eq_true rfl) dL_law_504 ⟨Nat.le_of_ble_eq_true rfl, Nat.le_of_ble_eq_true rfl⟩ (fun r2 u2 H locs hp2 hP hD hS => ?_)
  obtain ⟨im_2, F_2, G_2⟩ := u2
  try dsimp only at hp2 hP hD
  obtain ⟨e2, q1, q2⟩ := hp2
  have he : r1 = r2 := hp1.trans ((congrArg nI hIv.1).trans e2.symm)
  refine lv_icmp_eq (tgt := 1115) hex hby dL_law_507 (by decide) (fun _ => ?_) (fun h => absurd he h)
  exact lc_end C ih hA hB hM hSl hfb q1 q2 hf2 hP hD hS hl
set_option maxHeartbeats 4000000 in
set_option maxRecDepth 100000 in
theorem lc_interval {pp : Program} {l : Launch} {ee : Env} {ss : State} {mm : MethodId} {b0 : Nat} {bb : List Frame} {mt : Method} {cd : Code} {Q : State → Prop} {AA : Nat → Prop} {dC : Nat → ClassId} {dI : Nat → Nat → Nat} {cI cZ cS : ClassId} {ad : Nat → Nat} {fW : Nat → Option Nat} {tM tH L : Nat} {xs : Nat → Int32} {i0 : Nat} (C : LC pp ss mm b0 cd AA dC dI cI cZ cS tM tH L xs) (hi : i0 + 5 ≤ L) (hL : L ≤ 2560) (ih : LG pp l ee ss mm b0 bb mt cd Q AA dC dI cI cZ cS ad fW (i0 + 5)) {m : Nat} {cu : Nat} {tc : Nat} {rl : Nat} {rb : Nat} {rr : Nat} {ra : Nat} {pc : Nat} {bk : Nat} {c : Nat} {cn : Nat} {bs : Nat} {tl : Nat} {V : Nat → Nat} {P : Nat → Nat} {S : Nat → Nat} {F : Nat → Nat} {G : Nat → Nat} {g : Nat → Nat} {ix : Nat → Nat} {fb : Nat → Nat} {tx : Nat → Nat} {km : Nat → Nat} {kcu : Nat → Nat} {ktc : Nat → Nat} {krl : Nat → Nat} {krb : Nat → Nat} {krr : Nat → Nat} {kra : Nat → Nat} {kpc : Nat → Nat} {kbk : Nat → Nat} {kc : Nat → Nat} {kV : Nat → Nat → Nat} {kP : Nat → Nat → Nat} {kS : Nat → Nat → Nat} {ku : Nat → Nat} {im : Nat} {bs2 : Nat} {sm : Nat → Nat} {tb : Nat → Nat} {P2 : Nat → Nat} {S2 : Nat → Nat} {L2 : Nat → Nat} {K : Nat → Nat} {KT : Nat → Nat} {KS : Nat → Nat} {KL : Nat → Nat} {ix2 : Nat → Nat} {g2 : Nat → Nat} {F2 : Nat → Nat} {G2 : Nat → Nat} {O2 : Nat → Nat} {f2 : Nat → Nat} {st : Nat → Nat} {lv : Nat → Nat} {kst : Nat → Nat → Nat} {klv : Nat → Nat → Nat} (hA : IA m cu tc rl rb rr ra pc bk cn tl V) (hB : IB m cu rl rb rr ra pc c cn V P S F G g ix tx st lv) (hM : IM m cu tc pc c V P st lv sm tb P2 S2 L2 ix2 g2 O2) (hSl : IS fW ad km kcu ktc krl krb krr kra kpc kbk kc kV kP kS ku K KT KS KL kst klv) (hfb : ∀ j, fb j < 4096) (hF2 : ∀ j, F2 j < 4096) (hG2 : ∀ j, G2 j < 4096) (hf2 : ∀ j, f2 j < 4096) {H : Heap} {locs : List Loc} {ls : Array Slot} (hP : va_P (dC, dI) vwCl (LW cI cZ cS ad fW m cu tc rl rb rr ra pc bk c cn bs tl V P S F G g ix fb tx km kcu ktc krl krb krr kra kpc kbk kc kV kP kS ku m cu rl rb rr ra pc bk c tl im bs2 sm tb P2 S2 L2 tx K KT KS KL ku ix2 g2 F2 G2 O2 f2) H) (hD : va_D AA (LW cI cZ cS ad fW m cu tc rl rb rr ra pc bk c cn bs tl V P S F G g ix fb tx km kcu ktc krl krb krr kra kpc kbk kc kV kP kS ku m cu rl rb rr ra pc bk c tl im bs2 sm tb P2 S2 L2 tx K KT KS KL ku ix2 g2 F2 G2 O2 f2)) (hS : va_S AA ss.heap H locs) (hl : lv_has ls 4 [(0, .ref b0), (1, .ref (ad 0)), (2, .ref (ad 37)), (3, .int (nI i0))]) : W pp l ee room_1 ss mm #[Value.ref b0] bb mt cd H locs 55 56922 Q (F0 mm 512 ls []) := by
  obtain ⟨CFx, hK, hA0, hZ, hX, hbl, hbA⟩ := id C
  obtain ⟨hex, hby, hml, hown, hts⟩ := id CFx
  obtain ⟨hm1, hm6, hcu, hb1, hbk, hpc, htl, hcn, hrl, hrr, hrb, hra, hVt, hVb⟩ := id hA
  obtain ⟨hPb, hSb, hFb, hGb, hg, hix, htx, hN, hIv, hpg, hLD, hag⟩ := id hB
  obtain ⟨hs0, hs1, hs2, hsm, htb, hT0, hT1, hT2, hP2b, hPP, hS2b, hL2b, hAG, hO2b, hLf, hix2, hg2, hN2⟩ := id hM
  obtain ⟨hku, hW0, hW1, hKb, hKTb, hKSb, hKLb, hsl⟩ := id hSl
  have hV := cuT_VT (cu := cu) hVt
  have hL1 := hLD.1
  have hc := hLD.le hV hm6 hpc
  have hpg2 : ∀ j, j < pc → P2 j % 64 < 2 ^ m ∧ P2 j / 64 < 2 ^ m := fun j hj => by rw [hPP j hj]; exact hpg j hj
  have hsc := cu_sm hs0 hs1 hs2 hcu
  have hTb := cu_Tb hT0 hT1 hT2 hcu
  have h26 := p2_6 hm6
  have h46 := p4_6 hm6
  have hne := rg_ne hV hN hm6 hrl hrr hrb hra
  have htc8 := hVt.2.1
  refine lv_aload_n hex hby dL_law_512 rfl (lv_at hl 1 rfl) ?_
  refine lv_aload_n hex hby dL_law_513 rfl (lv_at hl 0 rfl) ?_
  refine lv_iload_n hex hby dL_law_514 rfl (lv_at hl 3 rfl) ?_
  refine lv_iconst (v := nI 1) hex hby dL_law_515 rfl ?_
  refine nv_iadd hex hby dL_law_516 ?_
  refine nv_sld hex hby hX hbl hbA hS (show i0 + 1 < L by omega) (by omega) dL_law_517 ?_
  refine lv_aload_n hex hby dL_law_518 rfl (lv_at hl 0 rfl) ?_
  refine lv_iload_n hex hby dL_law_519 rfl (lv_at hl 3 rfl) ?_
  refine lv_iconst (v := nI 2) hex hby dL_law_520 rfl ?_
  refine nv_iadd hex hby dL_law_521 ?_
  refine nv_sld hex hby hX hbl hbA hS (show i0 + 2 < L by omega) (by omega) dL_law_522 ?_
  refine lv_if_eq (tgt := 530) hex hby dL_law_523 (by decide) (fun hb_ => ?_) (fun hb_ => ?_)
  · refine lv_iconst (v := nI 0) hex hby dL_law_530 rfl ?_
    refine mx_Ai (q0 := 0) (ci := 9) (As := [.int (xs (i0 + 1)), .int (nI 0)]) (rest := []) CFx (k_X9_interval (k := xs (i0 + 1)) (kz := (xs (i0 + 1)).toInt) (w := nI 0) (wz := (0 : Int)) (T := cuT cu V) (ns := cuN cu tc) rfl (by rfl) hFb hGb hcn hIv) 2 gL_law_X9_interval rfl nd_X9_interval ⟨Nat.le_of_ble_eq_true rfl, Nat.le_of_ble_eq_true rfl⟩ hK hP hD hS hA0 hZ rfl rfl rfl hl.1 rfl (Nat.le_of_ble_eq_true rfl) dL_law_531 ⟨Nat.le_of_ble_eq_true rfl, Nat.le_of_ble_eq_true rfl⟩ (fun r1 u1 H locs hp1 hP hD hS => ?_)
    try dsimp only at hp1 hP hD
    refine lv_aload_n hex hby dL_law_534 rfl (lv_at hl 2 rfl) ?_
    refine lv_aload_n hex hby dL_law_535 rfl (lv_at hl 0 rfl) ?_
    refine lv_iload_n hex hby dL_law_536 rfl (lv_at hl 3 rfl) ?_
    refine lv_iconst (v := nI 1) hex hby dL_law_537 rfl ?_
    refine nv_iadd hex hby dL_law_538 ?_
    refine nv_sld hex hby hX hbl hbA hS (show i0 + 1 < L by omega) (by omega) dL_law_539 ?_
    refine lv_aload_n hex hby dL_law_540 rfl (lv_at hl 0 rfl) ?_
    refine lv_iload_n hex hby dL_law_541 rfl (lv_at hl 3 rfl) ?_
    refine lv_iconst (v := nI 2) hex hby dL_law_542 rfl ?_
    refine nv_iadd hex hby dL_law_543 ?_
    refine nv_sld hex hby hX hbl hbA hS (show i0 + 2 < L by omega) (by omega) dL_law_544 ?_
    refine lv_if_eq (tgt := 552) hex hby dL_law_545 (by decide) (fun _ => ?_) (fun h => absurd hb_ h)
    refine lv_iconst (v := nI 0) hex hby dL_law_552 rfl ?_
    refine mx_Ai (q0 := 37) (ci := 10) (As := [.int (xs (i0 + 1)), .int (nI 0)]) (rest := [.int r1]) CFx (k_X10_interval (k := xs (i0 + 1)) (kz := (xs (i0 + 1)).toInt) (w := nI 0) (wz := (0 : Int)) (T := cuT cu V) (ns := cuN cu tc) rfl (by rfl) hF2 hG2 hg2 hm6 hV ⟨hN2.1, hN.2⟩ hrl hrr hrb hra hne) 2 gL_law_X10_interval rfl nd_X10_interval ⟨Nat.le_of_ble_eq_true rfl, Nat.le_of_ble_eq_true rfl⟩ hK hP hD hS hA0 hZ rfl rfl rfl hl.1 rfl (Nat.le_of_ble_eq_true rfl) dL_law_553 ⟨Nat.le_of_ble_eq_true rfl, Nat.le_of_ble_eq_true rfl⟩ (fun r2 u2 H locs hp2 hP hD hS => ?_)
    obtain ⟨im_2, F_2, G_2⟩ := u2
    try dsimp only at hp2 hP hD
    rcases hp1 with ⟨a, e1, c1, a1⟩ | ⟨e1, c1⟩ <;> rcases hp2 with ⟨b, e2, c2, a2, q1, q2⟩ | ⟨e2, c2, q1, q2⟩
    · have he : r1 = r2 := by rw [e1, e2, a1.uniq a2]
      refine lv_icmp_eq (tgt := 1115) hex hby dL_law_556 (by decide) (fun _ => ?_) (fun h => absurd he h)
      exact lc_end C ih hA hB hM hSl hfb q1 q2 hf2 hP hD hS hl
    · exact absurd c1 c2
    · exact absurd c2 c1
    · have he : r1 = r2 := e1.trans e2.symm
      refine lv_icmp_eq (tgt := 1115) hex hby dL_law_556 (by decide) (fun _ => ?_) (fun h => absurd he h)
      exact lc_end C ih hA hB hM hSl hfb q1 q2 hf2 hP hD hS hl
  · refine lv_iconst (v := nI 1) hex hby dL_law_526 rfl ?_
    refine lv_goto (tgt := 531) hex hby dL_law_527 (by decide) ?_
    refine mx_Ai (q0 := 0) (ci := 9) (As := [.int (xs (i0 + 1)), .int (nI 1)]) (rest := []) CFx (k_X9_interval (k := xs (i0 + 1)) (kz := (xs (i0 + 1)).toInt) (w := nI 1) (wz := (1 : Int)) (T := cuT cu V) (ns := cuN cu tc) rfl (by rfl) hFb hGb hcn hIv) 2 gL_law_X9_interval rfl nd_X9_interval ⟨Nat.le_of_ble_eq_true rfl, Nat.le_of_ble_eq_true rfl⟩ hK hP hD hS hA0 hZ rfl rfl rfl hl.1 rfl (Nat.le_of_ble_eq_true rfl) dL_law_531 ⟨Nat.le_of_ble_eq_true rfl, Nat.le_of_ble_eq_true rfl⟩ (fun r1 u1 H locs hp1 hP hD hS => ?_)
    try dsimp only at hp1 hP hD
    refine lv_aload_n hex hby dL_law_534 rfl (lv_at hl 2 rfl) ?_
    refine lv_aload_n hex hby dL_law_535 rfl (lv_at hl 0 rfl) ?_
    refine lv_iload_n hex hby dL_law_536 rfl (lv_at hl 3 rfl) ?_
    refine lv_iconst (v := nI 1) hex hby dL_law_537 rfl ?_
    refine nv_iadd hex hby dL_law_538 ?_
    refine nv_sld hex hby hX hbl hbA hS (show i0 + 1 < L by omega) (by omega) dL_law_539 ?_
    refine lv_aload_n hex hby dL_law_540 rfl (lv_at hl 0 rfl) ?_
    refine lv_iload_n hex hby dL_law_541 rfl (lv_at hl 3 rfl) ?_
    refine lv_iconst (v := nI 2) hex hby dL_law_542 rfl ?_
    refine nv_iadd hex hby dL_law_543 ?_
    refine nv_sld hex hby hX hbl hbA hS (show i0 + 2 < L by omega) (by omega) dL_law_544 ?_
    refine lv_if_eq (tgt := 552) hex hby dL_law_545 (by decide) (fun h => absurd h hb_) (fun _ => ?_)
    refine lv_iconst (v := nI 1) hex hby dL_law_548 rfl ?_
    refine lv_goto (tgt := 553) hex hby dL_law_549 (by decide) ?_
    refine mx_Ai (q0 := 37) (ci := 10) (As := [.int (xs (i0 + 1)), .int (nI 1)]) (rest := [.int r1]) CFx (k_X10_interval (k := xs (i0 + 1)) (kz := (xs (i0 + 1)).toInt) (w := nI 1) (wz := (1 : Int)) (T := cuT cu V) (ns := cuN cu tc) rfl (by rfl) hF2 hG2 hg2 hm6 hV ⟨hN2.1, hN.2⟩ hrl hrr hrb hra hne) 2 gL_law_X10_interval rfl nd_X10_interval ⟨Nat.le_of_ble_eq_true rfl, Nat.le_of_ble_eq_true rfl⟩ hK hP hD hS hA0 hZ rfl rfl rfl hl.1 rfl (Nat.le_of_ble_eq_true rfl) dL_law_553 ⟨Nat.le_of_ble_eq_true rfl, Nat.le_of_ble_eq_true rfl⟩ (fun r2 u2 H locs hp2 hP hD hS => ?_)
    obtain ⟨im_2, F_2, G_2⟩ := u2
    try dsimp only at hp2 hP hD
    rcases hp1 with ⟨a, e1, c1, a1⟩ | ⟨e1, c1⟩ <;> rcases hp2 with ⟨b, e2, c2, a2, q1, q2⟩ | ⟨e2, c2, q1, q2⟩
    · have he : r1 = r2 := by rw [e1, e2, a1.uniq a2]
      refine lv_icmp_eq (tgt := 1115) hex hby dL_law_556 (by decide) (fun _ => ?_) (fun h => absurd he h)
      exact lc_end C ih hA hB hM hSl hfb q1 q2 hf2 hP hD hS hl
    · exact absurd c1 c2
    · exact absurd c2 c1
    · have he : r1 = r2 := e1.trans e2.symm
      refine lv_icmp_eq (tgt := 1115) hex hby dL_law_556 (by decide) (fun _ => ?_) (fun h => absurd he h)
      exact lc_end C ih hA hB hM hSl hfb q1 q2 hf2 hP hD hS hl
set_option maxHeartbeats 4000000 in
set_option maxRecDepth 100000 in
theorem lc_extra {pp : Program} {l : Launch} {ee : Env} {ss : State} {mm : MethodId} {b0 : Nat} {bb : List Frame} {mt : Method} {cd : Code} {Q : State → Prop} {AA : Nat → Prop} {dC : Nat → ClassId} {dI : Nat → Nat → Nat} {cI cZ cS : ClassId} {ad : Nat → Nat} {fW : Nat → Option Nat} {tM tH L : Nat} {xs : Nat → Int32} {i0 : Nat} (C : LC pp ss mm b0 cd AA dC dI cI cZ cS tM tH L xs) (hi : i0 + 5 ≤ L) (hL : L ≤ 2560) (ih : LG pp l ee ss mm b0 bb mt cd Q AA dC dI cI cZ cS ad fW (i0 + 5)) {m : Nat} {cu : Nat} {tc : Nat} {rl : Nat} {rb : Nat} {rr : Nat} {ra : Nat} {pc : Nat} {bk : Nat} {c : Nat} {cn : Nat} {bs : Nat} {tl : Nat} {V : Nat → Nat} {P : Nat → Nat} {S : Nat → Nat} {F : Nat → Nat} {G : Nat → Nat} {g : Nat → Nat} {ix : Nat → Nat} {fb : Nat → Nat} {tx : Nat → Nat} {km : Nat → Nat} {kcu : Nat → Nat} {ktc : Nat → Nat} {krl : Nat → Nat} {krb : Nat → Nat} {krr : Nat → Nat} {kra : Nat → Nat} {kpc : Nat → Nat} {kbk : Nat → Nat} {kc : Nat → Nat} {kV : Nat → Nat → Nat} {kP : Nat → Nat → Nat} {kS : Nat → Nat → Nat} {ku : Nat → Nat} {im : Nat} {bs2 : Nat} {sm : Nat → Nat} {tb : Nat → Nat} {P2 : Nat → Nat} {S2 : Nat → Nat} {L2 : Nat → Nat} {K : Nat → Nat} {KT : Nat → Nat} {KS : Nat → Nat} {KL : Nat → Nat} {ix2 : Nat → Nat} {g2 : Nat → Nat} {F2 : Nat → Nat} {G2 : Nat → Nat} {O2 : Nat → Nat} {f2 : Nat → Nat} {st : Nat → Nat} {lv : Nat → Nat} {kst : Nat → Nat → Nat} {klv : Nat → Nat → Nat} (hA : IA m cu tc rl rb rr ra pc bk cn tl V) (hB : IB m cu rl rb rr ra pc c cn V P S F G g ix tx st lv) (hM : IM m cu tc pc c V P st lv sm tb P2 S2 L2 ix2 g2 O2) (hSl : IS fW ad km kcu ktc krl krb krr kra kpc kbk kc kV kP kS ku K KT KS KL kst klv) (hfb : ∀ j, fb j < 4096) (hF2 : ∀ j, F2 j < 4096) (hG2 : ∀ j, G2 j < 4096) (hf2 : ∀ j, f2 j < 4096) {H : Heap} {locs : List Loc} {ls : Array Slot} (hP : va_P (dC, dI) vwCl (LW cI cZ cS ad fW m cu tc rl rb rr ra pc bk c cn bs tl V P S F G g ix fb tx km kcu ktc krl krb krr kra kpc kbk kc kV kP kS ku m cu rl rb rr ra pc bk c tl im bs2 sm tb P2 S2 L2 tx K KT KS KL ku ix2 g2 F2 G2 O2 f2) H) (hD : va_D AA (LW cI cZ cS ad fW m cu tc rl rb rr ra pc bk c cn bs tl V P S F G g ix fb tx km kcu ktc krl krb krr kra kpc kbk kc kV kP kS ku m cu rl rb rr ra pc bk c tl im bs2 sm tb P2 S2 L2 tx K KT KS KL ku ix2 g2 F2 G2 O2 f2)) (hS : va_S AA ss.heap H locs) (hl : lv_has ls 4 [(0, .ref b0), (1, .ref (ad 0)), (2, .ref (ad 37)), (3, .int (nI i0))]) : W pp l ee room_1 ss mm #[Value.ref b0] bb mt cd H locs 55 56922 Q (F0 mm 561 ls []) := by
  obtain ⟨CFx, hK, hA0, hZ, hX, hbl, hbA⟩ := id C
  obtain ⟨hex, hby, hml, hown, hts⟩ := id CFx
  obtain ⟨hm1, hm6, hcu, hb1, hbk, hpc, htl, hcn, hrl, hrr, hrb, hra, hVt, hVb⟩ := id hA
  obtain ⟨hPb, hSb, hFb, hGb, hg, hix, htx, hN, hIv, hpg, hLD, hag⟩ := id hB
  obtain ⟨hs0, hs1, hs2, hsm, htb, hT0, hT1, hT2, hP2b, hPP, hS2b, hL2b, hAG, hO2b, hLf, hix2, hg2, hN2⟩ := id hM
  obtain ⟨hku, hW0, hW1, hKb, hKTb, hKSb, hKLb, hsl⟩ := id hSl
  have hV := cuT_VT (cu := cu) hVt
  have hL1 := hLD.1
  have hc := hLD.le hV hm6 hpc
  have hpg2 : ∀ j, j < pc → P2 j % 64 < 2 ^ m ∧ P2 j / 64 < 2 ^ m := fun j hj => by rw [hPP j hj]; exact hpg j hj
  have hsc := cu_sm hs0 hs1 hs2 hcu
  have hTb := cu_Tb hT0 hT1 hT2 hcu
  have h26 := p2_6 hm6
  have h46 := p4_6 hm6
  have hne := rg_ne hV hN hm6 hrl hrr hrb hra
  have htc8 := hVt.2.1
  refine lv_aload_n hex hby dL_law_561 rfl (lv_at hl 1 rfl) ?_
  refine lv_aload_n hex hby dL_law_562 rfl (lv_at hl 0 rfl) ?_
  refine lv_iload_n hex hby dL_law_563 rfl (lv_at hl 3 rfl) ?_
  refine lv_iconst (v := nI 1) hex hby dL_law_564 rfl ?_
  refine nv_iadd hex hby dL_law_565 ?_
  refine nv_sld hex hby hX hbl hbA hS (show i0 + 1 < L by omega) (by omega) dL_law_566 ?_
  refine mx_Ai (q0 := 0) (ci := 9) (As := [.int (xs (i0 + 1))]) (rest := []) CFx (k_X9_extra (k := xs (i0 + 1)) (kz := (xs (i0 + 1)).toInt) (T := cuT cu V) (ns := cuN cu tc) rfl hFb hGb hcn hIv) 1 gL_law_X9_extra rfl nd_X9_extra ⟨Nat.le_of_ble_eq_true rfl, Nat.le_of_ble_eq_true rfl⟩ hK hP hD hS hA0 hZ rfl rfl rfl hl.1 rfl (Nat.le_of_ble_eq_true rfl) dL_law_567 ⟨Nat.le_of_ble_eq_true rfl, Nat.le_of_ble_eq_true rfl⟩ (fun r1 u1 H locs hp1 hP hD hS => ?_)
  try dsimp only at hp1 hP hD
  refine lv_aload_n hex hby dL_law_570 rfl (lv_at hl 2 rfl) ?_
  refine lv_aload_n hex hby dL_law_571 rfl (lv_at hl 0 rfl) ?_
  refine lv_iload_n hex hby dL_law_572 rfl (lv_at hl 3 rfl) ?_
  refine lv_iconst (v := nI 1) hex hby dL_law_573 rfl ?_
  refine nv_iadd hex hby dL_law_574 ?_
  refine nv_sld hex hby hX hbl hbA hS (show i0 + 1 < L by omega) (by omega) dL_law_575 ?_
  refine mx_Ai (q0 := 37) (ci := 10) (As := [.int (xs (i0 + 1))]) (rest := [.int r1]) CFx (k_X10_extra (k := xs (i0 + 1)) (kz := (xs (i0 + 1)).toInt) (T := cuT cu V) (ns := cuN cu tc) rfl hF2 hG2 hg2 hm6 hV ⟨hN2.1, hN.2⟩ hrl hrr hrb hra hne) 1 gL_law_X10_extra rfl nd_X10_extra ⟨Nat.le_of_ble_eq_true rfl, Nat.le_of_ble_eq_true rfl⟩ hK hP hD hS hA0 hZ rfl rfl rfl hl.1 rfl (Nat.le_of_ble_eq_true rfl) dL_law_576 ⟨Nat.le_of_ble_eq_true rfl, Nat.le_of_ble_eq_true rfl⟩ (fun r2 u2 H locs hp2 hP hD hS => ?_)
  obtain ⟨im_2, F_2, G_2⟩ := u2
  try dsimp only at hp2 hP hD
  rcases hp1 with ⟨a, e1, c1, a1⟩ | ⟨e1, c1⟩ <;> rcases hp2 with ⟨b, e2, c2, a2, q1, q2⟩ | ⟨e2, c2, rfl, rfl⟩
  · have he : r1 = r2 := by rw [e1, e2, a1.uniq a2]
    refine lv_icmp_eq (tgt := 1115) hex hby dL_law_579 (by decide) (fun _ => ?_) (fun h => absurd he h)
    exact lc_end C ih hA hB hM hSl hfb q1 q2 hf2 hP hD hS hl
  · exact absurd c1 c2
  · exact absurd c2 c1
  · have he : r1 = r2 := e1.trans e2.symm
    refine lv_icmp_eq (tgt := 1115) hex hby dL_law_579 (by decide) (fun _ => ?_) (fun h => absurd he h)
    exact lc_end C ih hA hB hM hSl hfb hF2 hG2 hf2 hP hD hS hl
set_option maxHeartbeats 4000000 in
set_option maxRecDepth 100000 in
theorem lc_covering {pp : Program} {l : Launch} {ee : Env} {ss : State} {mm : MethodId} {b0 : Nat} {bb : List Frame} {mt : Method} {cd : Code} {Q : State → Prop} {AA : Nat → Prop} {dC : Nat → ClassId} {dI : Nat → Nat → Nat} {cI cZ cS : ClassId} {ad : Nat → Nat} {fW : Nat → Option Nat} {tM tH L : Nat} {xs : Nat → Int32} {i0 : Nat} (C : LC pp ss mm b0 cd AA dC dI cI cZ cS tM tH L xs) (hi : i0 + 5 ≤ L) (hL : L ≤ 2560) (ih : LG pp l ee ss mm b0 bb mt cd Q AA dC dI cI cZ cS ad fW (i0 + 5)) {m : Nat} {cu : Nat} {tc : Nat} {rl : Nat} {rb : Nat} {rr : Nat} {ra : Nat} {pc : Nat} {bk : Nat} {c : Nat} {cn : Nat} {bs : Nat} {tl : Nat} {V : Nat → Nat} {P : Nat → Nat} {S : Nat → Nat} {F : Nat → Nat} {G : Nat → Nat} {g : Nat → Nat} {ix : Nat → Nat} {fb : Nat → Nat} {tx : Nat → Nat} {km : Nat → Nat} {kcu : Nat → Nat} {ktc : Nat → Nat} {krl : Nat → Nat} {krb : Nat → Nat} {krr : Nat → Nat} {kra : Nat → Nat} {kpc : Nat → Nat} {kbk : Nat → Nat} {kc : Nat → Nat} {kV : Nat → Nat → Nat} {kP : Nat → Nat → Nat} {kS : Nat → Nat → Nat} {ku : Nat → Nat} {im : Nat} {bs2 : Nat} {sm : Nat → Nat} {tb : Nat → Nat} {P2 : Nat → Nat} {S2 : Nat → Nat} {L2 : Nat → Nat} {K : Nat → Nat} {KT : Nat → Nat} {KS : Nat → Nat} {KL : Nat → Nat} {ix2 : Nat → Nat} {g2 : Nat → Nat} {F2 : Nat → Nat} {G2 : Nat → Nat} {O2 : Nat → Nat} {f2 : Nat → Nat} {st : Nat → Nat} {lv : Nat → Nat} {kst : Nat → Nat → Nat} {klv : Nat → Nat → Nat} (hA : IA m cu tc rl rb rr ra pc bk cn tl V) (hB : IB m cu rl rb rr ra pc c cn V P S F G g ix tx st lv) (hM : IM m cu tc pc c V P st lv sm tb P2 S2 L2 ix2 g2 O2) (hSl : IS fW ad km kcu ktc krl krb krr kra kpc kbk kc kV kP kS ku K KT KS KL kst klv) (hfb : ∀ j, fb j < 4096) (hF2 : ∀ j, F2 j < 4096) (hG2 : ∀ j, G2 j < 4096) (hf2 : ∀ j, f2 j < 4096) {H : Heap} {locs : List Loc} {ls : Array Slot} (hP : va_P (dC, dI) vwCl (LW cI cZ cS ad fW m cu tc rl rb rr ra pc bk c cn bs tl V P S F G g ix fb tx km kcu ktc krl krb krr kra kpc kbk kc kV kP kS ku m cu rl rb rr ra pc bk c tl im bs2 sm tb P2 S2 L2 tx K KT KS KL ku ix2 g2 F2 G2 O2 f2) H) (hD : va_D AA (LW cI cZ cS ad fW m cu tc rl rb rr ra pc bk c cn bs tl V P S F G g ix fb tx km kcu ktc krl krb krr kra kpc kbk kc kV kP kS ku m cu rl rb rr ra pc bk c tl im bs2 sm tb P2 S2 L2 tx K KT KS KL ku ix2 g2 F2 G2 O2 f2)) (hS : va_S AA ss.heap H locs) (hl : lv_has ls 4 [(0, .ref b0), (1, .ref (ad 0)), (2, .ref (ad 37)), (3, .int (nI i0))]) : W pp l ee room_1 ss mm #[Value.ref b0] bb mt cd H locs 55 56922 Q (F0 mm 584 ls []) := by
  obtain ⟨CFx, hK, hA0, hZ, hX, hbl, hbA⟩ := id C
  obtain ⟨hex, hby, hml, hown, hts⟩ := id CFx
  obtain ⟨hm1, hm6, hcu, hb1, hbk, hpc, htl, hcn, hrl, hrr, hrb, hra, hVt, hVb⟩ := id hA
  obtain ⟨hPb, hSb, hFb, hGb, hg, hix, htx, hN, hIv, hpg, hLD, hag⟩ := id hB
  obtain ⟨hs0, hs1, hs2, hsm, htb, hT0, hT1, hT2, hP2b, hPP, hS2b, hL2b, hAG, hO2b, hLf, hix2, hg2, hN2⟩ := id hM
  obtain ⟨hku, hW0, hW1, hKb, hKTb, hKSb, hKLb, hsl⟩ := id hSl
  have hV := cuT_VT (cu := cu) hVt
  have hL1 := hLD.1
  have hc := hLD.le hV hm6 hpc
  have hpg2 : ∀ j, j < pc → P2 j % 64 < 2 ^ m ∧ P2 j / 64 < 2 ^ m := fun j hj => by rw [hPP j hj]; exact hpg j hj
  have hsc := cu_sm hs0 hs1 hs2 hcu
  have hTb := cu_Tb hT0 hT1 hT2 hcu
  have h26 := p2_6 hm6
  have h46 := p4_6 hm6
  have hne := rg_ne hV hN hm6 hrl hrr hrb hra
  have htc8 := hVt.2.1
  refine lv_aload_n hex hby dL_law_584 rfl (lv_at hl 1 rfl) ?_
  refine lv_aload_n hex hby dL_law_585 rfl (lv_at hl 0 rfl) ?_
  refine lv_iload_n hex hby dL_law_586 rfl (lv_at hl 3 rfl) ?_
  refine lv_iconst (v := nI 1) hex hby dL_law_587 rfl ?_
  refine nv_iadd hex hby dL_law_588 ?_
  refine nv_sld hex hby hX hbl hbA hS (show i0 + 1 < L by omega) (by omega) dL_law_589 ?_
  refine lv_aload_n hex hby dL_law_590 rfl (lv_at hl 0 rfl) ?_
  refine lv_iload_n hex hby dL_law_591 rfl (lv_at hl 3 rfl) ?_
  refine lv_iconst (v := nI 2) hex hby dL_law_592 rfl ?_
  refine nv_iadd hex hby dL_law_593 ?_
  refine nv_sld hex hby hX hbl hbA hS (show i0 + 2 < L by omega) (by omega) dL_law_594 ?_
  refine lv_aload_n hex hby dL_law_595 rfl (lv_at hl 0 rfl) ?_
  refine lv_iload_n hex hby dL_law_596 rfl (lv_at hl 3 rfl) ?_
  refine lv_iconst (v := nI 3) hex hby dL_law_597 rfl ?_
  refine nv_iadd hex hby dL_law_598 ?_
  refine nv_sld hex hby hX hbl hbA hS (show i0 + 3 < L by omega) (by omega) dL_law_599 ?_
  refine lv_if_eq (tgt := 607) hex hby dL_law_600 (by decide) (fun hb_ => ?_) (fun hb_ => ?_)
  · refine lv_iconst (v := nI 0) hex hby dL_law_607 rfl ?_
    refine mx_Ai (q0 := 0) (ci := 9) (As := [.int (xs (i0 + 1)), .int (xs (i0 + 2)), .int (nI 0)]) (rest := []) CFx (k_X9_covering (k := xs (i0 + 1)) (kz := (xs (i0 + 1)).toInt) (q := xs (i0 + 2)) (qz := (xs (i0 + 2)).toInt) (w := nI 0) (wz := (0 : Int)) (T := cuT cu V) (ns := cuN cu tc) rfl rfl (by rfl) hFb hGb hcn hIv) 3 gL_law_X9_covering rfl nd_X9_covering ⟨Nat.le_of_ble_eq_true rfl, Nat.le_of_ble_eq_true rfl⟩ hK hP hD hS hA0 hZ rfl rfl rfl hl.1 rfl (Nat.le_of_ble_eq_true rfl) dL_law_608 ⟨Nat.le_of_ble_eq_true rfl, Nat.le_of_ble_eq_true rfl⟩ (fun r1 u1 H locs hp1 hP hD hS => ?_)
    try dsimp only at hp1 hP hD
    refine lv_aload_n hex hby dL_law_611 rfl (lv_at hl 2 rfl) ?_
    refine lv_aload_n hex hby dL_law_612 rfl (lv_at hl 0 rfl) ?_
    refine lv_iload_n hex hby dL_law_613 rfl (lv_at hl 3 rfl) ?_
    refine lv_iconst (v := nI 1) hex hby dL_law_614 rfl ?_
    refine nv_iadd hex hby dL_law_615 ?_
    refine nv_sld hex hby hX hbl hbA hS (show i0 + 1 < L by omega) (by omega) dL_law_616 ?_
    refine lv_aload_n hex hby dL_law_617 rfl (lv_at hl 0 rfl) ?_
    refine lv_iload_n hex hby dL_law_618 rfl (lv_at hl 3 rfl) ?_
    refine lv_iconst (v := nI 2) hex hby dL_law_619 rfl ?_
    refine nv_iadd hex hby dL_law_620 ?_
    refine nv_sld hex hby hX hbl hbA hS (show i0 + 2 < L by omega) (by omega) dL_law_621 ?_
    refine lv_aload_n hex hby dL_law_622 rfl (lv_at hl 0 rfl) ?_
    refine lv_iload_n hex hby dL_law_623 rfl (lv_at hl 3 rfl) ?_
    refine lv_iconst (v := nI 3) hex hby dL_law_624 rfl ?_
    refine nv_iadd hex hby dL_law_625 ?_
    refine nv_sld hex hby hX hbl hbA hS (show i0 + 3 < L by omega) (by omega) dL_law_626 ?_
    refine lv_if_eq (tgt := 634) hex hby dL_law_627 (by decide) (fun _ => ?_) (fun h => absurd hb_ h)
    refine lv_iconst (v := nI 0) hex hby dL_law_634 rfl ?_
    refine mx_Ai (q0 := 37) (ci := 10) (As := [.int (xs (i0 + 1)), .int (xs (i0 + 2)), .int (nI 0)]) (rest := [.int r1]) CFx (k_X10_covering (k := xs (i0 + 1)) (kz := (xs (i0 + 1)).toInt) (q := xs (i0 + 2)) (qz := (xs (i0 + 2)).toInt) (w := nI 0) (wz := (0 : Int)) (T := cuT cu V) (ns := cuN cu tc) rfl rfl (by rfl) hF2 hG2 hg2 hm6 hV ⟨hN2.1, hN.2⟩ hrl hrr hrb hra hne) 3 gL_law_X10_covering rfl nd_X10_covering ⟨Nat.le_of_ble_eq_true rfl, Nat.le_of_ble_eq_true rfl⟩ hK hP hD hS hA0 hZ rfl rfl rfl hl.1 rfl (Nat.le_of_ble_eq_true rfl) dL_law_635 ⟨Nat.le_of_ble_eq_true rfl, Nat.le_of_ble_eq_true rfl⟩ (fun r2 u2 H locs hp2 hP hD hS => ?_)
    obtain ⟨im_2, F_2, G_2⟩ := u2
    try dsimp only at hp2 hP hD
    rcases hp1 with ⟨a, e1, c1, d1, a1⟩ | ⟨e1, c1, d1⟩ | ⟨e1, c1⟩ <;> rcases hp2 with ⟨b, e2, c2, d2, a2, q1, q2⟩ | ⟨e2, c2, d2, q1, q2⟩ | ⟨e2, c2, q1, q2⟩
    · have he : r1 = r2 := by rw [e1, e2, CvAt.uniq (by omega) a1 a2]
      refine lv_icmp_eq (tgt := 1115) hex hby dL_law_638 (by decide) (fun _ => ?_) (fun h => absurd he h)
      exact lc_end C ih hA hB hM hSl hfb q1 q2 hf2 hP hD hS hl
    · exact absurd d1 d2
    · exact absurd c1 c2
    · exact absurd d2 d1
    · have he : r1 = r2 := e1.trans e2.symm
      refine lv_icmp_eq (tgt := 1115) hex hby dL_law_638 (by decide) (fun _ => ?_) (fun h => absurd he h)
      exact lc_end C ih hA hB hM hSl hfb q1 q2 hf2 hP hD hS hl
    · exact absurd c1 c2
    · exact absurd c2 c1
    · exact absurd c2 c1
    · have he : r1 = r2 := e1.trans e2.symm
      refine lv_icmp_eq (tgt := 1115) hex hby dL_law_638 (by decide) (fun _ => ?_) (fun h => absurd he h)
      exact lc_end C ih hA hB hM hSl hfb q1 q2 hf2 hP hD hS hl
  · refine lv_iconst (v := nI 1) hex hby dL_law_603 rfl ?_
    refine lv_goto (tgt := 608) hex hby dL_law_604 (by decide) ?_
    refine mx_Ai (q0 := 0) (ci := 9) (As := [.int (xs (i0 + 1)), .int (xs (i0 + 2)), .int (nI 1)]) (rest := []) CFx (k_X9_covering (k := xs (i0 + 1)) (kz := (xs (i0 + 1)).toInt) (q := xs (i0 + 2)) (qz := (xs (i0 + 2)).toInt) (w := nI 1) (wz := (1 : Int)) (T := cuT cu V) (ns := cuN cu tc) rfl rfl (by rfl) hFb hGb hcn hIv) 3 gL_law_X9_covering rfl nd_X9_covering ⟨Nat.le_of_ble_eq_true rfl, Nat.le_of_ble_eq_true rfl⟩ hK hP hD hS hA0 hZ rfl rfl rfl hl.1 rfl (Nat.le_of_ble_eq_true rfl) dL_law_608 ⟨Nat.le_of_ble_eq_true rfl, Nat.le_of_ble_eq_true rfl⟩ (fun r1 u1 H locs hp1 hP hD hS => ?_)
    try dsimp only at hp1 hP hD
    refine lv_aload_n hex hby dL_law_611 rfl (lv_at hl 2 rfl) ?_
    refine lv_aload_n hex hby dL_law_612 rfl (lv_at hl 0 rfl) ?_
    refine lv_iload_n hex hby dL_law_613 rfl (lv_at hl 3 rfl) ?_
    refine lv_iconst (v := nI 1) hex hby dL_law_614 rfl ?_
    refine nv_iadd hex hby dL_law_615 ?_
    refine nv_sld hex hby hX hbl hbA hS (show i0 + 1 < L by omega) (by omega) dL_law_616 ?_
    refine lv_aload_n hex hby dL_law_617 rfl (lv_at hl 0 rfl) ?_
    refine lv_iload_n hex hby dL_law_618 rfl (lv_at hl 3 rfl) ?_
    refine lv_iconst (v := nI 2) hex hby dL_law_619 rfl ?_
    refine nv_iadd hex hby dL_law_620 ?_
    refine nv_sld hex hby hX hbl hbA hS (show i0 + 2 < L by omega) (by omega) dL_law_621 ?_
    refine lv_aload_n hex hby dL_law_622 rfl (lv_at hl 0 rfl) ?_
    refine lv_iload_n hex hby dL_law_623 rfl (lv_at hl 3 rfl) ?_
    refine lv_iconst (v := nI 3) hex hby dL_law_624 rfl ?_
    refine nv_iadd hex hby dL_law_625 ?_
    refine nv_sld hex hby hX hbl hbA hS (show i0 + 3 < L by omega) (by omega) dL_law_626 ?_
    refine lv_if_eq (tgt := 634) hex hby dL_law_627 (by decide) (fun h => absurd h hb_) (fun _ => ?_)
    refine lv_iconst (v := nI 1) hex hby dL_law_630 rfl ?_
    refine lv_goto (tgt := 635) hex hby dL_law_631 (by decide) ?_
    refine mx_Ai (q0 := 37) (ci := 10) (As := [.int (xs (i0 + 1)), .int (xs (i0 + 2)), .int (nI 1)]) (rest := [.int r1]) CFx (k_X10_covering (k := xs (i0 + 1)) (kz := (xs (i0 + 1)).toInt) (q := xs (i0 + 2)) (qz := (xs (i0 + 2)).toInt) (w := nI 1) (wz := (1 : Int)) (T := cuT cu V) (ns := cuN cu tc) rfl rfl (by rfl) hF2 hG2 hg2 hm6 hV ⟨hN2.1, hN.2⟩ hrl hrr hrb hra hne) 3 gL_law_X10_covering rfl nd_X10_covering ⟨Nat.le_of_ble_eq_true rfl, Nat.le_of_ble_eq_true rfl⟩ hK hP hD hS hA0 hZ rfl rfl rfl hl.1 rfl (Nat.le_of_ble_eq_true rfl) dL_law_635 ⟨Nat.le_of_ble_eq_true rfl, Nat.le_of_ble_eq_true rfl⟩ (fun r2 u2 H locs hp2 hP hD hS => ?_)
    obtain ⟨im_2, F_2, G_2⟩ := u2
    try dsimp only at hp2 hP hD
    rcases hp1 with ⟨a, e1, c1, d1, a1⟩ | ⟨e1, c1, d1⟩ | ⟨e1, c1⟩ <;> rcases hp2 with ⟨b, e2, c2, d2, a2, q1, q2⟩ | ⟨e2, c2, d2, q1, q2⟩ | ⟨e2, c2, q1, q2⟩
    · have he : r1 = r2 := by rw [e1, e2, CvAt.uniq (by omega) a1 a2]
      refine lv_icmp_eq (tgt := 1115) hex hby dL_law_638 (by decide) (fun _ => ?_) (fun h => absurd he h)
      exact lc_end C ih hA hB hM hSl hfb q1 q2 hf2 hP hD hS hl
    · exact absurd d1 d2
    · exact absurd c1 c2
    · exact absurd d2 d1
    · have he : r1 = r2 := e1.trans e2.symm
      refine lv_icmp_eq (tgt := 1115) hex hby dL_law_638 (by decide) (fun _ => ?_) (fun h => absurd he h)
      exact lc_end C ih hA hB hM hSl hfb q1 q2 hf2 hP hD hS hl
    · exact absurd c1 c2
    · exact absurd c2 c1
    · exact absurd c2 c1
    · have he : r1 = r2 := e1.trans e2.symm
      refine lv_icmp_eq (tgt := 1115) hex hby dL_law_638 (by decide) (fun _ => ?_) (fun h => absurd he h)
      exact lc_end C ih hA hB hM hSl hfb q1 q2 hf2 hP hD hS hl
