section LOP
set_option maxHeartbeats 4000000 in
set_option maxRecDepth 100000 in
theorem law_loop {pp : Program} {l : Launch} {ee : Env} {ss : State} {mm : MethodId} {b0 : Nat} {bb : List Frame} {mt : Method} {cd : Code} {Q : State → Prop} {AA : Nat → Prop} {dC : Nat → ClassId} {dI : Nat → Nat → Nat} {cI cZ cS : ClassId} {ad : Nat → Nat} {fW : Nat → Option Nat} {tM tH L : Nat} {xs : Nat → Int32} (C : LC pp ss mm b0 cd AA dC dI cI cZ cS tM tH L xs) (hL : L ≤ 2560) (hQ : ∀ {H : Heap} {locs : List Loc} {ls : Array Slot}, va_S AA ss.heap H locs → W pp l ee room_1 ss mm #[Value.ref b0] bb mt cd H locs 55 56922 Q (F0 mm 1121 ls [])) : ∀ n i0, i0 ≤ L → L - i0 < n → LG pp l ee ss mm b0 bb mt cd Q AA dC dI cI cZ cS ad fW i0 := by
  intro n
  induction n with
  | zero => intro i0 _ h; exact absurd h (Nat.not_lt_zero _)
  | succ n ih =>
    intro i0 hi0 hn
    unfold LG
    intro m cu tc rl rb rr ra pc bk c cn bs tl V P S F G g ix fb tx km kcu ktc krl krb krr kra kpc kbk kc kV kP kS ku im bs2 sm tb P2 S2 L2 K KT KS KL ix2 g2 F2 G2 O2 f2 st lv kst klv hA hB hM hSl hfb hF2 hG2 hf2 H locs ls hP hD hS hl
    obtain ⟨CFx, hK, hA0, hZ, hX, hbl, hbA⟩ := id C
    obtain ⟨hex, hby, hml, hown, hts⟩ := id CFx
    refine lv_iload_n hex hby dL_law_18 rfl (lv_at hl 3 rfl) ?_
    refine lv_aload_n hex hby dL_law_19 rfl (lv_at hl 0 rfl) ?_
    refine va_slen hex hby hX hbl hbA hS dL_law_20 ?_
    refine nv_top (y := nI L) rfl ?_
    refine lv_iconst (v := nI 5) hex hby dL_law_21 rfl ?_
    refine nz_isub (a := (L : Int)) (b := (5 : Int)) hex hby dL_law_22 (ni_nz _) rfl ?_
    refine ni_icmp_gt (tgt := 1121) (a := (i0 : Int)) (b := (L : Int) - 5) hex hby dL_law_23 (by decide) (ni_toInt (by omega)) (zI_toInt (by omega) (by omega)) (fun c_ => ?_) (fun c_ => ?_)
    · exact hQ hS
    · refine lv_aload_n hex hby dL_law_26 rfl (lv_at hl 0 rfl) ?_
      refine lv_iload_n hex hby dL_law_27 rfl (lv_at hl 3 rfl) ?_
      refine nv_sld hex hby hX hbl hbA hS (show i0 < L by omega) (by omega) dL_law_28 ?_
      refine lv_bipush (v := nI 63) hex hby dL_law_29 rfl ?_
      refine lv_iand hex hby dL_law_31 ?_
      generalize xs i0 &&& nI 63 = x
      have ihn := @ih (i0 + 5) (by omega) (by omega)
      by_cases h33 : 0 ≤ x.toInt ∧ x.toInt ≤ 33
      · obtain ⟨k, _, rfl, hk⟩ := ni_of h33.1
        rcases (show k = 0 ∨ k = 1 ∨ k = 2 ∨ k = 3 ∨ k = 4 ∨ k = 5 ∨ k = 6 ∨ k = 7 ∨ k = 8 ∨ k = 9 ∨ k = 10 ∨ k = 11 ∨ k = 12 ∨ k = 13 ∨ k = 14 ∨ k = 15 ∨ k = 16 ∨ k = 17 ∨ k = 18 ∨ k = 19 ∨ k = 20 ∨ k = 21 ∨ k = 22 ∨ k = 23 ∨ k = 24 ∨ k = 25 ∨ k = 26 ∨ k = 27 ∨ k = 28 ∨ k = 29 ∨ k = 30 ∨ k = 31 ∨ k = 32 ∨ k = 33 by omega) with rfl | rfl | rfl | rfl | rfl | rfl | rfl | rfl | rfl | rfl | rfl | rfl | rfl | rfl | rfl | rfl | rfl | rfl | rfl | rfl | rfl | rfl | rfl | rfl | rfl | rfl | rfl | rfl | rfl | rfl | rfl | rfl | rfl | rfl
        · refine lv_tableIn (tgt := 184) (off := 152) hex hby dL_law_32 (by decide +kernel) (by decide +kernel) (by decide +kernel) (by decide) ?_
          exact lc_setLevels C (by omega) hL ihn hA hB hM hSl hfb hF2 hG2 hf2 hP hD hS hl
        · refine lv_tableIn (tgt := 207) (off := 175) hex hby dL_law_32 (by decide +kernel) (by decide +kernel) (by decide +kernel) (by decide) ?_
          exact lc_setCurve C (by omega) hL ihn hA hB hM hSl hfb hF2 hG2 hf2 hP hD hS hl
        · refine lv_tableIn (tgt := 230) (off := 198) hex hby dL_law_32 (by decide +kernel) (by decide +kernel) (by decide +kernel) (by decide) ?_
          exact lc_states C (by omega) hL ihn hA hB hM hSl hfb hF2 hG2 hf2 hP hD hS hl
        · refine lv_tableIn (tgt := 243) (off := 211) hex hby dL_law_32 (by decide +kernel) (by decide +kernel) (by decide +kernel) (by decide) ?_
          exact lc_visit C (by omega) hL ihn hA hB hM hSl hfb hF2 hG2 hf2 hP hD hS hl
        · refine lv_tableIn (tgt := 276) (off := 244) hex hby dL_law_32 (by decide +kernel) (by decide +kernel) (by decide +kernel) (by decide) ?_
          exact lc_index C (by omega) hL ihn hA hB hM hSl hfb hF2 hG2 hf2 hP hD hS hl
        · refine lv_tableIn (tgt := 309) (off := 277) hex hby dL_law_32 (by decide +kernel) (by decide +kernel) (by decide +kernel) (by decide) ?_
          exact lc_cell C (by omega) hL ihn hA hB hM hSl hfb hF2 hG2 hf2 hP hD hS hl
        · refine lv_tableIn (tgt := 358) (off := 326) hex hby dL_law_32 (by decide +kernel) (by decide +kernel) (by decide +kernel) (by decide) ?_
          exact lc_breaks C (by omega) hL ihn hA hB hM hSl hfb hF2 hG2 hf2 hP hD hS hl
        · refine lv_tableIn (tgt := 371) (off := 339) hex hby dL_law_32 (by decide +kernel) (by decide +kernel) (by decide +kernel) (by decide) ?_
          exact lc_stretch C (by omega) hL ihn hA hB hM hSl hfb hF2 hG2 hf2 hP hD hS hl
        · refine lv_tableIn (tgt := 384) (off := 352) hex hby dL_law_32 (by decide +kernel) (by decide +kernel) (by decide +kernel) (by decide) ?_
          exact lc_append C (by omega) hL ihn hA hB hM hSl hfb hF2 hG2 hf2 hP hD hS hl
        · refine lv_tableIn (tgt := 407) (off := 375) hex hby dL_law_32 (by decide +kernel) (by decide +kernel) (by decide +kernel) (by decide) ?_
          exact lc_clearText C (by omega) hL ihn hA hB hM hSl hfb hF2 hG2 hf2 hP hD hS hl
        · refine lv_tableIn (tgt := 420) (off := 388) hex hby dL_law_32 (by decide +kernel) (by decide +kernel) (by decide +kernel) (by decide) ?_
          exact lc_faultPosition C (by omega) hL ihn hA hB hM hSl hfb hF2 hG2 hf2 hP hD hS hl
        · refine lv_tableIn (tgt := 433) (off := 401) hex hby dL_law_32 (by decide +kernel) (by decide +kernel) (by decide +kernel) (by decide) ?_
          exact lc_read C (by omega) hL ihn hA hB hM hSl hfb hF2 hG2 hf2 hP hD hS hl
        · refine lv_tableIn (tgt := 446) (off := 414) hex hby dL_law_32 (by decide +kernel) (by decide +kernel) (by decide +kernel) (by decide) ?_
          exact lc_setRange C (by omega) hL ihn hA hB hM hSl hfb hF2 hG2 hf2 hP hD hS hl
        · refine lv_tableIn (tgt := 499) (off := 467) hex hby dL_law_32 (by decide +kernel) (by decide +kernel) (by decide +kernel) (by decide) ?_
          exact lc_intervals C (by omega) hL ihn hA hB hM hSl hfb hF2 hG2 hf2 hP hD hS hl
        · refine lv_tableIn (tgt := 512) (off := 480) hex hby dL_law_32 (by decide +kernel) (by decide +kernel) (by decide +kernel) (by decide) ?_
          exact lc_interval C (by omega) hL ihn hA hB hM hSl hfb hF2 hG2 hf2 hP hD hS hl
        · refine lv_tableIn (tgt := 561) (off := 529) hex hby dL_law_32 (by decide +kernel) (by decide +kernel) (by decide +kernel) (by decide) ?_
          exact lc_extra C (by omega) hL ihn hA hB hM hSl hfb hF2 hG2 hf2 hP hD hS hl
        · refine lv_tableIn (tgt := 584) (off := 552) hex hby dL_law_32 (by decide +kernel) (by decide +kernel) (by decide +kernel) (by decide) ?_
          exact lc_covering C (by omega) hL ihn hA hB hM hSl hfb hF2 hG2 hf2 hP hD hS hl
        · refine lv_tableIn (tgt := 643) (off := 611) hex hby dL_law_32 (by decide +kernel) (by decide +kernel) (by decide +kernel) (by decide) ?_
          exact lc_clusters C (by omega) hL ihn hA hB hM hSl hfb hF2 hG2 hf2 hP hD hS hl
        · refine lv_tableIn (tgt := 676) (off := 644) hex hby dL_law_32 (by decide +kernel) (by decide +kernel) (by decide +kernel) (by decide) ?_
          exact lc_addPoint C (by omega) hL ihn hA hB hM hSl hfb hF2 hG2 hf2 hP hD hS hl
        · refine lv_tableIn (tgt := 709) (off := 677) hex hby dL_law_32 (by decide +kernel) (by decide +kernel) (by decide +kernel) (by decide) ?_
          exact lc_removePoint C (by omega) hL ihn hA hB hM hSl hfb hF2 hG2 hf2 hP hD hS hl
        · refine lv_tableIn (tgt := 742) (off := 710) hex hby dL_law_32 (by decide +kernel) (by decide +kernel) (by decide +kernel) (by decide) ?_
          exact lc_points C (by omega) hL ihn hA hB hM hSl hfb hF2 hG2 hf2 hP hD hS hl
        · refine lv_tableIn (tgt := 755) (off := 723) hex hby dL_law_32 (by decide +kernel) (by decide +kernel) (by decide +kernel) (by decide) ?_
          exact lc_nearest C (by omega) hL ihn hA hB hM hSl hfb hF2 hG2 hf2 hP hD hS hl
        · refine lv_tableIn (tgt := 788) (off := 756) hex hby dL_law_32 (by decide +kernel) (by decide +kernel) (by decide +kernel) (by decide) ?_
          exact lc_setBucket C (by omega) hL ihn hA hB hM hSl hfb hF2 hG2 hf2 hP hD hS hl
        · refine lv_tableIn (tgt := 811) (off := 779) hex hby dL_law_32 (by decide +kernel) (by decide +kernel) (by decide +kernel) (by decide) ?_
          exact lc_leaves C (by omega) hL ihn hA hB hM hSl hfb hF2 hG2 hf2 hP hD hS hl
        · refine lv_tableIn (tgt := 824) (off := 792) hex hby dL_law_32 (by decide +kernel) (by decide +kernel) (by decide +kernel) (by decide) ?_
          exact lc_leaf C (by omega) hL ihn hA hB hM hSl hfb hF2 hG2 hf2 hP hD hS hl
        · refine lv_tableIn (tgt := 857) (off := 825) hex hby dL_law_32 (by decide +kernel) (by decide +kernel) (by decide +kernel) (by decide) ?_
          exact lc_leafAt C (by omega) hL ihn hA hB hM hSl hfb hF2 hG2 hf2 hP hD hS hl
        · refine lv_tableIn (tgt := 890) (off := 858) hex hby dL_law_32 (by decide +kernel) (by decide +kernel) (by decide +kernel) (by decide) ?_
          exact lc_neighbours C (by omega) hL ihn hA hB hM hSl hfb hF2 hG2 hf2 hP hD hS hl
        · refine lv_tableIn (tgt := 923) (off := 891) hex hby dL_law_32 (by decide +kernel) (by decide +kernel) (by decide +kernel) (by decide) ?_
          exact lc_neighbour C (by omega) hL ihn hA hB hM hSl hfb hF2 hG2 hf2 hP hD hS hl
        · refine lv_tableIn (tgt := 966) (off := 934) hex hby dL_law_32 (by decide +kernel) (by decide +kernel) (by decide +kernel) (by decide) ?_
          exact lc_balance C (by omega) hL ihn hA hB hM hSl hfb hF2 hG2 hf2 hP hD hS hl
        · refine lv_tableIn (tgt := 979) (off := 947) hex hby dL_law_32 (by decide +kernel) (by decide +kernel) (by decide +kernel) (by decide) ?_
          exact lc_walk C (by omega) hL ihn hA hB hM hSl hfb hF2 hG2 hf2 hP hD hS hl
        · refine lv_tableIn (tgt := 1012) (off := 980) hex hby dL_law_32 (by decide +kernel) (by decide +kernel) (by decide +kernel) (by decide) ?_
          exact lc_walked C (by omega) hL ihn hA hB hM hSl hfb hF2 hG2 hf2 hP hD hS hl
        · refine lv_tableIn (tgt := 1055) (off := 1023) hex hby dL_law_32 (by decide +kernel) (by decide +kernel) (by decide +kernel) (by decide) ?_
          exact lc_save C (by omega) hL ihn hA hB hM hSl hfb hF2 hG2 hf2 hP hD hS hl
        · refine lv_tableIn (tgt := 1078) (off := 1046) hex hby dL_law_32 (by decide +kernel) (by decide +kernel) (by decide +kernel) (by decide) ?_
          exact lc_restore C (by omega) hL ihn hA hB hM hSl hfb hF2 hG2 hf2 hP hD hS hl
        · refine lv_tableIn (tgt := 1101) (off := 1069) hex hby dL_law_32 (by decide +kernel) (by decide +kernel) (by decide +kernel) (by decide) ?_
          exact lc_checksum C (by omega) hL ihn hA hB hM hSl hfb hF2 hG2 hf2 hP hD hS hl
      · refine lv_tableOut (tgt := 1115) hex hby dL_law_32 (by omega) (by decide) ?_
        exact lc_end C ihn hA hB hM hSl hfb hF2 hG2 hf2 hP hD hS hl
end LOP
