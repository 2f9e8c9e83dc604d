section NUM2
variable {l : Launch} {dC : Nat → ClassId} {dI : Nat → Nat → Nat} {cI cZ cS : ClassId}
theorem nd_X2_divideSquares : ndV yX2_divideSquares RX2 3 := by decide +kernel
theorem in_X2_divideSquares_X2 : ∀ w ∈ wsX20, w ∈ wsX2_divideSquares := fun _ h => List.mem_cons_of_mem _ (List.mem_append_right _ (h))
set_option maxHeartbeats 4000000 in
set_option maxRecDepth 100000 in
theorem c_X2_divideSquares {h : Nat} {aC : Nat} {v0 : Value} {v1 : Value} {aI : Nat} {g0 : Nat → Nat} {sq : Nat} {half : Nat} {tA : Nat} {nt : Nat} {T : Nat → Nat} {ns : Nat} (hg0 : ∀ j, g0 j < 40960) (hsq : 1 ≤ sq ∧ 4 * sq ≤ 4096) (hnt : 4 * ns ≤ nt ∧ nt ≤ 32) (hT : ∀ j, T j < 100) (hst : ∀ i, i < sq → g0 i / 4096 < ns) (hhalf : half ≤ 64) (hnew : ∀ i, i < sq → ∀ p, p < 4 → g0 i % 4096 + half * (T (4 * (g0 i / 4096) + p) / 10 % 2 + T (4 * (g0 i / 4096) + p) / 10 / 2 * 64) < 4096) : MU l yX2_divideSquares wsX2_divideSquares 0 0 (dC, dI) (tyK cI cZ cS) [(h, .inr (2, [v0, v1, .ref aC, .ref aI])), (aC, .inl (cI, 4096, .inl (nA g0)))] [(tA, nt, T)] [.ref h, .int (nI sq), .int (nI half), .ref tA] (fun rv_ (u_ : (Nat → Nat)) => rV ((∀ j, u_ j < 40960) ∧ (∀ i, i < sq → ∀ p, p < 4 → u_ (4 * i + p) = dsv T half (g0 i) p) ∧ (∀ j, 4 * sq ≤ j → u_ j = g0 j)) rv_) (fun (u_ : (Nat → Nat)) => [(h, .inr (2, [v0, v1, .ref aC, .ref aI])), (aC, .inl (cI, 4096, .inl (nA u_)))]) := by
  refine mu_of (by decide) rfl (Nat.le_of_ble_eq_true rfl) ?_
  intro pp ee ss mm bb mt cd Q A CFx hP hK hD hS hA hTr hret ls hl
  obtain ⟨hex, hby, hml, hown, hts⟩ := id CFx
  have hl : lv_has ls 11 [(0, .ref h), (1, .int (nI sq)), (2, .int (nI half)), (3, .ref tA)] := hl
  have hT0_ : va_T .int tA nt (fun j => .int (nA T j)) A ss ss.heap := hTr _ (List.mem_of_getElem? (i := 0) rfl)
  have hTb := hT
  refine lv_iload_n hex hby dX2_divideSquares_0 rfl (lv_at hl 1 rfl) ?_
  refine lv_iconst (v := nI 1) hex hby dX2_divideSquares_1 rfl ?_
  refine nz_isub (a := (sq : Int)) (b := (1 : Int)) hex hby dX2_divideSquares_2 (ni_nz _) rfl ?_
  refine lv_istore (lv' := [(4, .int (zI ((sq : Int) - (1 : Int)))), (0, .ref h), (1, .int (nI sq)), (2, .int (nI half)), (3, .ref tA)]) hex hby dX2_divideSquares_3 hl (by decide) rfl (fun ls hl => ?_)
  have loop5 : ∀ (nn : Nat) (z : Int) (k : Nat) (gg : Nat → Nat), k < nn → (z = (k : Int) - 1) → (k ≤ sq) → (∀ j, gg j < 40960) → (∀ j, j < k → gg j = g0 j) → (∀ j, k ≤ j → j < sq → ∀ p, p < 4 → gg (4 * j + p) = dsv T half (g0 j) p) → (∀ j, 4 * sq ≤ j → gg j = g0 j) → ∀ (H : Heap) (locs : List Loc), va_P (dC, dI) vwCl [(h, .inr (2, [v0, v1, .ref aC, .ref aI])), (aC, .inl (cI, 4096, .inl (nA gg)))] H → va_D A [(h, .inr (2, [v0, v1, .ref aC, .ref aI])), (aC, .inl (cI, 4096, .inl (nA gg)))] → va_S A ss.heap H locs → ∀ ls : Array Slot, lv_has ls 11 [(4, .int (zI z)), (0, .ref h), (1, .int (nI sq)), (2, .int (nI half)), (3, .ref tA)] → W pp l ee (rmO 0 0) ss mm ([.ref h, .int (nI sq), .int (nI half), .ref tA] : List Value).toArray bb mt cd H locs 0 0 Q (F0 mm 5 ls []) := by
    intro nn
    induction nn with
    | zero => intro z k gg hms5; exact absurd hms5 (Nat.not_lt_zero _)
    | succ nn ih5 =>
      intro z k gg hms5 hz hk hgg hlow hdone hhi H locs hP hD hS ls hl
      refine lv_iload hex hby dX2_divideSquares_5 (lv_at hl 0 rfl) ?_
      refine ni_if_lt (tgt := 118) (a := z) hex hby dX2_divideSquares_7 (by decide) (zI_toInt (by omega) (by omega)) (fun c_1 => ?_) (fun c_1 => ?_)
      · exact hret _ gg _ _ _ _ _ (Or.inr (Or.inr (Or.inl ⟨rfl, rfl, rfl, dX2_divideSquares_118⟩))) ⟨rfl, ⟨hgg, (fun i hi p hp => hdone i (by omega) hi p hp), hhi⟩⟩ hP hD hS
      · obtain ⟨i, rfl⟩ : ∃ i : Nat, z = (i : Int) := ⟨z.toNat, by omega⟩
        rw [zI_nat] at hl
        have hgi : gg i = g0 i := hlow i (by omega)
        have hsi := hst i (by omega)
        refine lv_aload_n hex hby dX2_divideSquares_10 rfl (lv_at hl 1 rfl) ?_
        refine nv_get (v := .ref aC) CFx in_X2_divideSquares_X2 hK hP 0 rfl rfl 2 (by decide) (List.mem_of_getElem? (i := 1) rfl) rfl dX2_divideSquares_11 ?_
        refine lv_iload hex hby dX2_divideSquares_14 (lv_at hl 0 rfl) ?_
        refine nv_iald hex hby hK hP 1 0 rfl rfl (by omega) (by omega) dX2_divideSquares_16 ?_
        have hb_2 := hgg i
        refine lv_sipush (v := nI 4096) hex hby dX2_divideSquares_17 rfl ?_
        refine nv_idiv hex hby dX2_divideSquares_20 (by omega) (by omega) (by omega) ?_
        refine lv_istore (lv' := [(5, .int (nI (gg i / 4096))), (4, .int (nI i)), (0, .ref h), (1, .int (nI sq)), (2, .int (nI half)), (3, .ref tA)]) hex hby dX2_divideSquares_21 hl (by decide) rfl (fun ls hl => ?_)
        refine lv_aload_n hex hby dX2_divideSquares_23 rfl (lv_at hl 2 rfl) ?_
        refine nv_get (v := .ref aC) CFx in_X2_divideSquares_X2 hK hP 0 rfl rfl 2 (by decide) (List.mem_of_getElem? (i := 1) rfl) rfl dX2_divideSquares_24 ?_
        refine lv_iload hex hby dX2_divideSquares_27 (lv_at hl 1 rfl) ?_
        refine nv_iald hex hby hK hP 1 0 rfl rfl (by omega) (by omega) dX2_divideSquares_29 ?_
        have hb_3 := hgg i
        refine lv_sipush (v := nI 4096) hex hby dX2_divideSquares_30 rfl ?_
        refine nv_irem hex hby dX2_divideSquares_33 (by omega) (by omega) (by omega) ?_
        refine lv_istore (lv' := [(6, .int (nI (gg i % 4096))), (5, .int (nI (gg i / 4096))), (4, .int (nI i)), (0, .ref h), (1, .int (nI sq)), (2, .int (nI half)), (3, .ref tA)]) hex hby dX2_divideSquares_34 hl (by decide) rfl (fun ls hl => ?_)
        refine lv_iconst (v := nI 0) hex hby dX2_divideSquares_36 rfl ?_
        refine lv_istore (lv' := [(7, .int (nI 0)), (6, .int (nI (gg i % 4096))), (5, .int (nI (gg i / 4096))), (4, .int (nI i)), (0, .ref h), (1, .int (nI sq)), (2, .int (nI half)), (3, .ref tA)]) hex hby dX2_divideSquares_37 hl (by decide) rfl (fun ls hl => ?_)
        have loop39 : ∀ (nn : Nat) (p : Nat) (gp : Nat → Nat), (4 - p) < nn → (p ≤ 4) → (∀ j, gp j < 40960) → (∀ j, j < i → gp j = g0 j) → (∀ i2, i < i2 → i2 < sq → ∀ p, p < 4 → gp (4 * i2 + p) = dsv T half (g0 i2) p) → (∀ i2, i2 = i → ∀ p2, p2 < p → gp (4 * i2 + p2) = dsv T half (g0 i) p2) → (∀ j, 4 * sq ≤ j → gp j = g0 j) → ∀ (H : Heap) (locs : List Loc), va_P (dC, dI) vwCl [(h, .inr (2, [v0, v1, .ref aC, .ref aI])), (aC, .inl (cI, 4096, .inl (nA gp)))] H → va_D A [(h, .inr (2, [v0, v1, .ref aC, .ref aI])), (aC, .inl (cI, 4096, .inl (nA gp)))] → va_S A ss.heap H locs → ∀ ls : Array Slot, lv_has ls 11 [(7, .int (nI p)), (6, .int (nI (gg i % 4096))), (5, .int (nI (gg i / 4096))), (4, .int (nI i)), (0, .ref h), (1, .int (nI sq)), (2, .int (nI half)), (3, .ref tA)] → W pp l ee (rmO 0 0) ss mm ([.ref h, .int (nI sq), .int (nI half), .ref tA] : List Value).toArray bb mt cd H locs 0 0 Q (F0 mm 39 ls []) := by
          intro nn
          induction nn with
          | zero => intro p gp hms39; exact absurd hms39 (Nat.not_lt_zero _)
          | succ nn ih39 =>
            intro p gp hms39 hp4 hgp hlow2 hdone2 hp hhi2 H locs hP hD hS ls hl
            refine lv_iload hex hby dX2_divideSquares_39 (lv_at hl 0 rfl) ?_
            refine lv_iconst (v := nI 4) hex hby dX2_divideSquares_41 rfl ?_
            refine nv_icmp_ge (tgt := 112) hex hby dX2_divideSquares_42 (by decide) (by omega) (by omega) (fun c_4 => ?_) (fun c_4 => ?_)
            · refine lv_iinc (v := zI ((i : Int) - 1)) (lv' := [(4, .int (zI ((i : Int) - 1))), (7, .int (nI p)), (6, .int (nI (gg i % 4096))), (5, .int (nI (gg i / 4096))), (0, .ref h), (1, .int (nI sq)), (2, .int (nI half)), (3, .ref tA)]) hex hby dX2_divideSquares_112 hl (k := 3) rfl (by rw [ni_nz]; exact ni_decz _) (by decide) rfl (fun ls hl => ?_)
              refine lv_goto (tgt := 5) hex hby dX2_divideSquares_115 (by decide) ?_
              have pf_5 : ∀ j, i ≤ j → j < sq → ∀ p, p < 4 → gp (4 * j + p) = dsv T half (g0 j) p := by
                intro i2 h1 h2 p2 hp2
                rcases Nat.lt_or_ge i i2 with q | q
                · exact hdone2 i2 (by omega) h2 p2 hp2
                · have e : i2 = i := by omega
                  rw [e]; exact hp i rfl p2 (by omega)
              exact ih5 ((i : Int) - 1) i gp (by omega) (by omega) (by omega) hgp hlow2 pf_5 hhi2 _ _ hP hD hS _ (lv_sub hl [0, 4, 5, 6, 7] rfl)
            · refine lv_aload_n hex hby dX2_divideSquares_45 rfl (lv_at hl 7 rfl) ?_
              refine lv_iconst (v := nI 4) hex hby dX2_divideSquares_46 rfl ?_
              refine lv_iload hex hby dX2_divideSquares_47 (lv_at hl 2 rfl) ?_
              refine nv_imul hex hby dX2_divideSquares_49 ?_
              refine lv_iload hex hby dX2_divideSquares_50 (lv_at hl 0 rfl) ?_
              refine nv_iadd hex hby dX2_divideSquares_52 ?_
              refine va_ti (v := .int (nI (T (4 * (gg i / 4096) + p)))) hex hby hT0_ hS (ni_in (by omega) (by omega)) (by rw [ni_cl (by omega)]; rfl) dX2_divideSquares_53 ?_
              have hb_6 := hTb (4 * (gg i / 4096) + p)
              refine lv_istore (lv' := [(8, .int (nI (T (4 * (gg i / 4096) + p)))), (7, .int (nI p)), (6, .int (nI (gg i % 4096))), (5, .int (nI (gg i / 4096))), (4, .int (nI i)), (0, .ref h), (1, .int (nI sq)), (2, .int (nI half)), (3, .ref tA)]) hex hby dX2_divideSquares_54 hl (by decide) rfl (fun ls hl => ?_)
              refine lv_iload hex hby dX2_divideSquares_56 (lv_at hl 0 rfl) ?_
              refine lv_bipush (v := nI 10) hex hby dX2_divideSquares_58 rfl ?_
              refine nv_idiv hex hby dX2_divideSquares_60 (by omega) (by omega) (by omega) ?_
              refine lv_istore (lv' := [(9, .int (nI (T (4 * (gg i / 4096) + p) / 10))), (8, .int (nI (T (4 * (gg i / 4096) + p)))), (7, .int (nI p)), (6, .int (nI (gg i % 4096))), (5, .int (nI (gg i / 4096))), (4, .int (nI i)), (0, .ref h), (1, .int (nI sq)), (2, .int (nI half)), (3, .ref tA)]) hex hby dX2_divideSquares_61 hl (by decide) rfl (fun ls hl => ?_)
              refine lv_iload hex hby dX2_divideSquares_63 (lv_at hl 3 rfl) ?_
              refine lv_iload_n hex hby dX2_divideSquares_65 rfl (lv_at hl 8 rfl) ?_
              refine lv_iload hex hby dX2_divideSquares_66 (lv_at hl 0 rfl) ?_
              refine lv_iconst (v := nI 2) hex hby dX2_divideSquares_68 rfl ?_
              refine nv_irem hex hby dX2_divideSquares_69 (by omega) (by omega) (by omega) ?_
              refine lv_iload hex hby dX2_divideSquares_70 (lv_at hl 0 rfl) ?_
              refine lv_iconst (v := nI 2) hex hby dX2_divideSquares_72 rfl ?_
              refine nv_idiv hex hby dX2_divideSquares_73 (by omega) (by omega) (by omega) ?_
              refine lv_bipush (v := nI 64) hex hby dX2_divideSquares_74 rfl ?_
              refine nv_imul hex hby dX2_divideSquares_76 ?_
              refine nv_iadd hex hby dX2_divideSquares_77 ?_
              refine nv_imul hex hby dX2_divideSquares_78 ?_
              refine nv_iadd hex hby dX2_divideSquares_79 ?_
              refine lv_istore (lv' := [(10, .int (nI (gg i % 4096 + half * ((T (4 * (gg i / 4096) + p) / 10) % 2 + (T (4 * (gg i / 4096) + p) / 10) / 2 * 64)))), (9, .int (nI (T (4 * (gg i / 4096) + p) / 10))), (8, .int (nI (T (4 * (gg i / 4096) + p)))), (7, .int (nI p)), (6, .int (nI (gg i % 4096))), (5, .int (nI (gg i / 4096))), (4, .int (nI i)), (0, .ref h), (1, .int (nI sq)), (2, .int (nI half)), (3, .ref tA)]) hex hby dX2_divideSquares_80 hl (by decide) rfl (fun ls hl => ?_)
              refine lv_aload_n hex hby dX2_divideSquares_82 rfl (lv_at hl 7 rfl) ?_
              refine nv_get (v := .ref aC) CFx in_X2_divideSquares_X2 hK hP 0 rfl rfl 2 (by decide) (List.mem_of_getElem? (i := 1) rfl) rfl dX2_divideSquares_83 ?_
              refine lv_iconst (v := nI 4) hex hby dX2_divideSquares_86 rfl ?_
              refine lv_iload hex hby dX2_divideSquares_87 (lv_at hl 6 rfl) ?_
              refine nv_imul hex hby dX2_divideSquares_89 ?_
              refine lv_iload hex hby dX2_divideSquares_90 (lv_at hl 3 rfl) ?_
              refine nv_iadd hex hby dX2_divideSquares_92 ?_
              refine lv_sipush (v := nI 4096) hex hby dX2_divideSquares_93 rfl ?_
              refine lv_iload hex hby dX2_divideSquares_96 (lv_at hl 2 rfl) ?_
              refine lv_bipush (v := nI 10) hex hby dX2_divideSquares_98 rfl ?_
              refine nv_irem hex hby dX2_divideSquares_100 (by omega) (by omega) (by omega) ?_
              refine nv_imul hex hby dX2_divideSquares_101 ?_
              refine lv_iload hex hby dX2_divideSquares_102 (lv_at hl 0 rfl) ?_
              refine nv_iadd hex hby dX2_divideSquares_104 ?_
              have hnw := hnew i (by omega) p (by omega)
              rw [← hgi] at hnw
              refine nv_iast hex hby hK hP hD hS 1 0 rfl rfl (by omega) (by omega) dX2_divideSquares_105 (fun H locs hP hD hS => ?_)
              have hP : va_P (dC, dI) vwCl [(h, .inr (2, [v0, v1, .ref aC, .ref aI])), (aC, .inl (cI, 4096, .inl (nA (upN gp (4 * i + p) (4096 * (T (4 * (gg i / 4096) + p) % 10) + (gg i % 4096 + half * ((T (4 * (gg i / 4096) + p) / 10) % 2 + (T (4 * (gg i / 4096) + p) / 10) / 2 * 64)))))))] H := hP
              have hD : va_D A [(h, .inr (2, [v0, v1, .ref aC, .ref aI])), (aC, .inl (cI, 4096, .inl (nA (upN gp (4 * i + p) (4096 * (T (4 * (gg i / 4096) + p) % 10) + (gg i % 4096 + half * ((T (4 * (gg i / 4096) + p) / 10) % 2 + (T (4 * (gg i / 4096) + p) / 10) / 2 * 64)))))))] := hD
              have hB_7 := upN_lt (k := 4 * i + p) (x := 4096 * (T (4 * (gg i / 4096) + p) % 10) + (gg i % 4096 + half * ((T (4 * (gg i / 4096) + p) / 10) % 2 + (T (4 * (gg i / 4096) + p) / 10) / 2 * 64))) hgp (by omega)
              refine lv_iinc (v := nI (p + 1)) (lv' := [(7, .int (nI (p + 1))), (10, .int (nI (gg i % 4096 + half * ((T (4 * (gg i / 4096) + p) / 10) % 2 + (T (4 * (gg i / 4096) + p) / 10) / 2 * 64)))), (9, .int (nI (T (4 * (gg i / 4096) + p) / 10))), (8, .int (nI (T (4 * (gg i / 4096) + p)))), (6, .int (nI (gg i % 4096))), (5, .int (nI (gg i / 4096))), (4, .int (nI i)), (0, .ref h), (1, .int (nI sq)), (2, .int (nI half)), (3, .ref tA)]) hex hby dX2_divideSquares_106 hl (k := 3) rfl (ni_inc _) (by decide) rfl (fun ls hl => ?_)
              refine lv_goto (tgt := 39) hex hby dX2_divideSquares_109 (by decide) ?_
              have pf_8 : ∀ i2, i2 = i → ∀ p2, p2 < (p + 1) → (upN gp (4 * i + p) (4096 * (T (4 * (gg i / 4096) + p) % 10) + (gg i % 4096 + half * ((T (4 * (gg i / 4096) + p) / 10) % 2 + (T (4 * (gg i / 4096) + p) / 10) / 2 * 64)))) (4 * i2 + p2) = dsv T half (g0 i) p2 := by
                intro i2 e p2 h
                subst e
                rcases Nat.lt_or_ge p2 p with q | q
                · rw [upN_n (by omega)]; exact hp i2 rfl p2 q
                · have e : p2 = p := by omega
                  rw [e, upN_s, hgi]; rfl
              exact ih39 (p + 1) (upN gp (4 * i + p) (4096 * (T (4 * (gg i / 4096) + p) % 10) + (gg i % 4096 + half * ((T (4 * (gg i / 4096) + p) / 10) % 2 + (T (4 * (gg i / 4096) + p) / 10) / 2 * 64)))) (by omega) (by omega) hB_7 (fun j hj => by rw [upN_n (by omega)]; exact hlow2 j hj) (fun i2 h1 h2 p2 hp2 => by rw [upN_n (by omega)]; exact hdone2 i2 h1 h2 p2 hp2) pf_8 (fun j hj => by rw [upN_n (by omega)]; exact hhi2 j hj) _ _ hP hD hS _ (lv_sub hl [0, 4, 5, 6, 7, 8, 9, 10] rfl)
        exact loop39 _ 0 gg (Nat.lt_succ_self _) (by omega) hgg (fun j hj => hlow j (by omega)) (fun i2 h1 h2 => hdone i2 (by omega) h2) (fun _ _ p2 h => absurd h (by omega)) hhi _ _ hP hD hS _ (lv_sub hl [0, 1, 2, 3, 4, 5, 6, 7] rfl)
  exact loop5 _ ((sq : Int) - (1 : Int)) sq g0 (Nat.lt_succ_self _) (by omega) (by omega) hg0 (fun _ _ => rfl) (fun i h1 h2 => absurd h2 (by omega)) (fun _ _ => rfl) _ _ hP hD hS _ (lv_sub hl [0, 1, 2, 3, 4] rfl)
theorem TR.lower {tr : List (Nat × Nat × (Nat → Nat))} {A B : Nat → Prop} {s : State} {H0 H : Heap} {locs : List Loc} (h : TR tr A s H0) (hS : va_S A H0 H locs) (hAB : ∀ q, B q → A q) : TR tr B s H := fun q hq => ((h q hq).kept hS.2.1).narrow hAB
theorem nd_X2_fill : ndV yX2_fill RX2 2 := by decide +kernel
theorem in_X2_fill_X2 : ∀ w ∈ wsX20, w ∈ wsX2_fill := fun _ h => List.mem_cons_of_mem _ (List.mem_append_right _ (h))
set_option maxHeartbeats 4000000 in
set_option maxRecDepth 100000 in
theorem c_X2_fill {h : Nat} {aC : Nat} {aI : Nat} {v0 : Value} {v1 : Value} {g0 : Nat → Nat} {ix0 : Nat → Nat} {m : Nat} {tA : Nat} {nt : Nat} {T : Nat → Nat} {ns : Nat} (hg0 : ∀ j, g0 j < 4096) (hix0 : ∀ j, ix0 j < 4096) (hnt : 4 * ns ≤ nt ∧ nt ≤ 32) (hT : ∀ j, T j < 100) (hV : VT T ns) (hm1 : 1 ≤ m) (hm6 : m ≤ 6) : MU l yX2_fill wsX2_fill 1 30 (dC, dI) (tyK cI cZ cS) [(h, .inr (2, [v0, v1, .ref aC, .ref aI])), (aC, .inl (cI, 4096, .inl (nA g0))), (aI, .inl (cI, 4096, .inl (nA ix0)))] [(tA, nt, T)] [.ref h, .int (nI m), .ref tA] (fun rv_ (u_ : (Nat → Nat) × (Nat → Nat)) => rV (NumOK T m u_.1 u_.2 ∧ (∀ j, u_.1 j < 4096) ∧ (∀ j, u_.2 j < 4096)) rv_) (fun (u_ : (Nat → Nat) × (Nat → Nat)) => [(h, .inr (2, [.int (nI (2 ^ m)), .int (nI (4 ^ m)), .ref aC, .ref aI])), (aC, .inl (cI, 4096, .inl (nA u_.1))), (aI, .inl (cI, 4096, .inl (nA u_.2)))]) := by
  refine mu_of (by decide) rfl (Nat.le_of_ble_eq_true rfl) ?_
  intro pp ee ss mm bb mt cd Q A CFx hP hK hD hS hA hTr hret ls hl
  obtain ⟨hex, hby, hml, hown, hts⟩ := id CFx
  have hl : lv_has ls 4 [(0, .ref h), (1, .int (nI m)), (2, .ref tA)] := hl
  have hT0_ : va_T .int tA nt (fun j => .int (nA T j)) A ss ss.heap := hTr _ (List.mem_of_getElem? (i := 0) rfl)
  have hp2 := p2_6 hm6
  have hp4 := p4_6 hm6
  have hp4p := p4_pos m
  refine lv_aload_n hex hby dX2_fill_0 rfl (lv_at hl 0 rfl) ?_
  refine lv_iconst (v := nI 1) hex hby dX2_fill_1 rfl ?_
  refine lv_iload_n hex hby dX2_fill_2 rfl (lv_at hl 1 rfl) ?_
  refine nv_ishl hex hby dX2_fill_3 (by omega) (by omega) ?_
  refine nv_top (y := nI (2 ^ m)) (congrArg nI (Nat.one_mul _)) ?_
  refine nv_put CFx in_X2_fill_X2 tyX2 tyX2_ok nmX2 hK hP hD hS 0 rfl rfl 0 (by decide) (List.mem_of_getElem? (i := 1) rfl) rfl (by decide +kernel) (Nat.le_of_ble_eq_true rfl) dX2_fill_4 (fun H locs hP hD hS => ?_)
  have hP : va_P (dC, dI) vwCl [(h, .inr (2, [.int (nI (2 ^ m)), v1, .ref aC, .ref aI])), (aC, .inl (cI, 4096, .inl (nA g0))), (aI, .inl (cI, 4096, .inl (nA ix0)))] H := hP
  have hD : va_D A [(h, .inr (2, [.int (nI (2 ^ m)), v1, .ref aC, .ref aI])), (aC, .inl (cI, 4096, .inl (nA g0))), (aI, .inl (cI, 4096, .inl (nA ix0)))] := hD
  refine lv_aload_n hex hby dX2_fill_7 rfl (lv_at hl 0 rfl) ?_
  refine lv_aload_n hex hby dX2_fill_8 rfl (lv_at hl 0 rfl) ?_
  refine nv_get (v := .int (nI (2 ^ m))) CFx in_X2_fill_X2 hK hP 0 rfl rfl 0 (by decide) (List.mem_of_getElem? (i := 1) rfl) rfl dX2_fill_9 ?_
  refine lv_aload_n hex hby dX2_fill_12 rfl (lv_at hl 0 rfl) ?_
  refine nv_get (v := .int (nI (2 ^ m))) CFx in_X2_fill_X2 hK hP 0 rfl rfl 0 (by decide) (List.mem_of_getElem? (i := 1) rfl) rfl dX2_fill_13 ?_
  refine nv_imul hex hby dX2_fill_16 ?_
  refine nv_top (y := nI (4 ^ m)) (congrArg nI (p22 m)) ?_
  refine nv_put CFx in_X2_fill_X2 tyX2 tyX2_ok nmX2 hK hP hD hS 0 rfl rfl 1 (by decide) (List.mem_of_getElem? (i := 2) rfl) rfl (by decide +kernel) (Nat.le_of_ble_eq_true rfl) dX2_fill_17 (fun H locs hP hD hS => ?_)
  have hP : va_P (dC, dI) vwCl [(h, .inr (2, [.int (nI (2 ^ m)), .int (nI (4 ^ m)), .ref aC, .ref aI])), (aC, .inl (cI, 4096, .inl (nA g0))), (aI, .inl (cI, 4096, .inl (nA ix0)))] H := hP
  have hD : va_D A [(h, .inr (2, [.int (nI (2 ^ m)), .int (nI (4 ^ m)), .ref aC, .ref aI])), (aC, .inl (cI, 4096, .inl (nA g0))), (aI, .inl (cI, 4096, .inl (nA ix0)))] := hD
  refine lv_aload_n hex hby dX2_fill_20 rfl (lv_at hl 0 rfl) ?_
  refine nv_get (v := .ref aC) CFx in_X2_fill_X2 hK hP 0 rfl rfl 2 (by decide) (List.mem_of_getElem? (i := 3) rfl) rfl dX2_fill_21 ?_
  refine lv_iconst (v := nI 0) hex hby dX2_fill_24 rfl ?_
  refine lv_iconst (v := nI 0) hex hby dX2_fill_25 rfl ?_
  refine nv_iast hex hby hK hP hD hS 1 0 rfl rfl (by omega) (by omega) dX2_fill_26 (fun H locs hP hD hS => ?_)
  have hP : va_P (dC, dI) vwCl [(h, .inr (2, [.int (nI (2 ^ m)), .int (nI (4 ^ m)), .ref aC, .ref aI])), (aC, .inl (cI, 4096, .inl (nA (upN g0 0 0)))), (aI, .inl (cI, 4096, .inl (nA ix0)))] H := hP
  have hD : va_D A [(h, .inr (2, [.int (nI (2 ^ m)), .int (nI (4 ^ m)), .ref aC, .ref aI])), (aC, .inl (cI, 4096, .inl (nA (upN g0 0 0)))), (aI, .inl (cI, 4096, .inl (nA ix0)))] := hD
  have hB_1 := upN_lt (k := 0) (x := 0) hg0 (by omega)
  refine lv_iconst (v := nI 0) hex hby dX2_fill_27 rfl ?_
  refine lv_istore_n (lv' := [(3, .int (nI 0)), (0, .ref h), (1, .int (nI m)), (2, .ref tA)]) hex hby dX2_fill_28 rfl hl (by decide) rfl (fun ls hl => ?_)
  have loop29 : ∀ (nn : Nat) (L : Nat) (gg : Nat → Nat), (m - L) < nn → (L ≤ m) → (∀ j, gg j < 40960) → (∀ j, j < 4 ^ L → gg j = sqv T m L j) → (∀ j, 4 ^ m ≤ j → gg j < 4096) → ∀ (H : Heap) (locs : List Loc), va_P (dC, dI) vwCl [(h, .inr (2, [.int (nI (2 ^ m)), .int (nI (4 ^ m)), .ref aC, .ref aI])), (aC, .inl (cI, 4096, .inl (nA gg))), (aI, .inl (cI, 4096, .inl (nA ix0)))] H → va_D A [(h, .inr (2, [.int (nI (2 ^ m)), .int (nI (4 ^ m)), .ref aC, .ref aI])), (aC, .inl (cI, 4096, .inl (nA gg))), (aI, .inl (cI, 4096, .inl (nA ix0)))] → va_S A ss.heap H locs → ∀ ls : Array Slot, lv_has ls 4 [(3, .int (nI L)), (0, .ref h), (1, .int (nI m)), (2, .ref tA)] → W pp l ee (rmO 1 30) ss mm ([.ref h, .int (nI m), .ref tA] : List Value).toArray bb mt cd H locs 0 0 Q (F0 mm 29 ls []) := by
    intro nn
    induction nn with
    | zero => intro L gg hms29; exact absurd hms29 (Nat.not_lt_zero _)
    | succ nn ih29 =>
      intro L gg hms29 hL hgg hsqL hhi H locs hP hD hS ls hl
      refine lv_iload_n hex hby dX2_fill_29 rfl (lv_at hl 0 rfl) ?_
      refine lv_iload_n hex hby dX2_fill_30 rfl (lv_at hl 2 rfl) ?_
      refine nv_icmp_ge (tgt := 58) hex hby dX2_fill_31 (by decide) (by omega) (by omega) (fun c_2 => ?_) (fun c_2 => ?_)
      · refine lv_iconst (v := nI 0) hex hby dX2_fill_58 rfl ?_
        refine lv_istore_n (lv' := [(3, .int (nI 0)), (0, .ref h), (1, .int (nI m)), (2, .ref tA)]) hex hby dX2_fill_59 rfl hl (by decide) rfl (fun ls hl => ?_)
        have loop60 : ∀ (nn : Nat) (i : Nat) (gi : Nat → Nat) (jx : Nat → Nat), (4 ^ m - i) < nn → (i ≤ 4 ^ m) → (∀ j, gi j < 40960) → (∀ j, j < i → gi j = cvc T m j) → (∀ j, i ≤ j → j < 4 ^ m → gi j = sqv T m m j) → (∀ j, 4 ^ m ≤ j → gi j < 4096) → (∀ j, jx j < 4096) → (∀ j, j < i → jx (cvc T m j) = j) → ∀ (H : Heap) (locs : List Loc), va_P (dC, dI) vwCl [(h, .inr (2, [.int (nI (2 ^ m)), .int (nI (4 ^ m)), .ref aC, .ref aI])), (aC, .inl (cI, 4096, .inl (nA gi))), (aI, .inl (cI, 4096, .inl (nA jx)))] H → va_D A [(h, .inr (2, [.int (nI (2 ^ m)), .int (nI (4 ^ m)), .ref aC, .ref aI])), (aC, .inl (cI, 4096, .inl (nA gi))), (aI, .inl (cI, 4096, .inl (nA jx)))] → va_S A ss.heap H locs → ∀ ls : Array Slot, lv_has ls 4 [(3, .int (nI i)), (0, .ref h), (1, .int (nI m)), (2, .ref tA)] → W pp l ee (rmO 1 30) ss mm ([.ref h, .int (nI m), .ref tA] : List Value).toArray bb mt cd H locs 0 0 Q (F0 mm 60 ls []) := by
          intro nn
          induction nn with
          | zero => intro i gi jx hms60; exact absurd hms60 (Nat.not_lt_zero _)
          | succ nn ih60 =>
            intro i gi jx hms60 hi hgi hdone hrest hhi2 hjx hjd H locs hP hD hS ls hl
            refine lv_iload_n hex hby dX2_fill_60 rfl (lv_at hl 0 rfl) ?_
            refine lv_aload_n hex hby dX2_fill_61 rfl (lv_at hl 1 rfl) ?_
            refine nv_get (v := .int (nI (4 ^ m))) CFx in_X2_fill_X2 hK hP 0 rfl rfl 1 (by decide) (List.mem_of_getElem? (i := 2) rfl) rfl dX2_fill_62 ?_
            refine nv_icmp_ge (tgt := 98) hex hby dX2_fill_65 (by decide) (by omega) (by omega) (fun c_3 => ?_) (fun c_3 => ?_)
            · have pf_4 : ∀ j, gi j < 4096 := by
                intro j
                rcases Nat.lt_or_ge j (4 ^ m) with q | q
                · rw [hdone j (by omega)]; exact cvc_lt hV j hm6
                · exact hhi2 j q
              exact hret _ (gi, jx) _ _ _ _ _ (Or.inr (Or.inr (Or.inl ⟨rfl, rfl, rfl, dX2_fill_98⟩))) ⟨rfl, ⟨⟨fun j hj => hdone j (by omega), fun j hj => hjd j (by omega)⟩, pf_4, hjx⟩⟩ hP hD hS
            · refine lv_aload_n hex hby dX2_fill_68 rfl (lv_at hl 1 rfl) ?_
              refine nv_get (v := .ref aC) CFx in_X2_fill_X2 hK hP 0 rfl rfl 2 (by decide) (List.mem_of_getElem? (i := 3) rfl) rfl dX2_fill_69 ?_
              refine lv_iload_n hex hby dX2_fill_72 rfl (lv_at hl 0 rfl) ?_
              refine lv_dup2_11 hex hby dX2_fill_73 rfl rfl ?_
              refine nv_iald hex hby hK hP 1 0 rfl rfl (by omega) (by omega) dX2_fill_74 ?_
              have hb_5 := hgi i
              refine lv_sipush (v := nI 4096) hex hby dX2_fill_75 rfl ?_
              refine nv_irem hex hby dX2_fill_78 (by omega) (by omega) (by omega) ?_
              refine nv_iast hex hby hK hP hD hS 1 0 rfl rfl (by omega) (by omega) dX2_fill_79 (fun H locs hP hD hS => ?_)
              have hP : va_P (dC, dI) vwCl [(h, .inr (2, [.int (nI (2 ^ m)), .int (nI (4 ^ m)), .ref aC, .ref aI])), (aC, .inl (cI, 4096, .inl (nA (upN gi i (gi i % 4096))))), (aI, .inl (cI, 4096, .inl (nA jx)))] H := hP
              have hD : va_D A [(h, .inr (2, [.int (nI (2 ^ m)), .int (nI (4 ^ m)), .ref aC, .ref aI])), (aC, .inl (cI, 4096, .inl (nA (upN gi i (gi i % 4096))))), (aI, .inl (cI, 4096, .inl (nA jx)))] := hD
              have hB_6 := upN_lt (k := i) (x := gi i % 4096) hgi (by omega)
              refine lv_aload_n hex hby dX2_fill_80 rfl (lv_at hl 1 rfl) ?_
              refine nv_get (v := .ref aI) CFx in_X2_fill_X2 hK hP 0 rfl rfl 3 (by decide) (List.mem_of_getElem? (i := 4) rfl) rfl dX2_fill_81 ?_
              refine lv_aload_n hex hby dX2_fill_84 rfl (lv_at hl 1 rfl) ?_
              refine nv_get (v := .ref aC) CFx in_X2_fill_X2 hK hP 0 rfl rfl 2 (by decide) (List.mem_of_getElem? (i := 3) rfl) rfl dX2_fill_85 ?_
              refine lv_iload_n hex hby dX2_fill_88 rfl (lv_at hl 0 rfl) ?_
              refine nv_iald hex hby hK hP 1 0 rfl rfl (by omega) (by omega) dX2_fill_89 ?_
              have hb_7 := hB_6 i
              have hcl := cvc_lt hV i hm6
              refine nv_top (y := nI (cvc T m i)) (congrArg nI (by rw [upN_s, hrest i (Nat.le_refl _) (by omega), sqv_last]; omega)) ?_
              refine lv_iload_n hex hby dX2_fill_90 rfl (lv_at hl 0 rfl) ?_
              refine nv_iast hex hby hK hP hD hS 2 0 rfl rfl (by omega) (by omega) dX2_fill_91 (fun H locs hP hD hS => ?_)
              have hP : va_P (dC, dI) vwCl [(h, .inr (2, [.int (nI (2 ^ m)), .int (nI (4 ^ m)), .ref aC, .ref aI])), (aC, .inl (cI, 4096, .inl (nA (upN gi i (gi i % 4096))))), (aI, .inl (cI, 4096, .inl (nA (upN jx (cvc T m i) i))))] H := hP
              have hD : va_D A [(h, .inr (2, [.int (nI (2 ^ m)), .int (nI (4 ^ m)), .ref aC, .ref aI])), (aC, .inl (cI, 4096, .inl (nA (upN gi i (gi i % 4096))))), (aI, .inl (cI, 4096, .inl (nA (upN jx (cvc T m i) i))))] := hD
              have hB_8 := upN_lt (k := cvc T m i) (x := i) hjx (by omega)
              refine lv_iinc (v := nI (i + 1)) (lv' := [(3, .int (nI (i + 1))), (0, .ref h), (1, .int (nI m)), (2, .ref tA)]) hex hby dX2_fill_92 hl (k := 0) rfl (ni_inc _) (by decide) rfl (fun ls hl => ?_)
              refine lv_goto (tgt := 60) hex hby dX2_fill_95 (by decide) ?_
              have pf_9 : ∀ j, j < (i + 1) → (upN gi i (gi i % 4096)) j = cvc T m j := by
                intro j hj
                rcases Nat.lt_or_ge j i with q | q
                · rw [upN_n (by omega)]; exact hdone j q
                · have e : j = i := by omega
                  rw [e, upN_s, hrest i (Nat.le_refl _) (by omega), sqv_last]; omega
              have pf_10 : ∀ j, j < (i + 1) → (upN jx (cvc T m i) i) (cvc T m j) = j := by
                intro j hj
                rcases Nat.lt_or_ge j i with q | q
                · rw [upN_n (fun e => by have := cvc_inj hV hm6 (show j < 4 ^ m by omega) (show i < 4 ^ m by omega) e; omega)]; exact hjd j q
                · have e : j = i := by omega
                  rw [e, upN_s]
              exact ih60 (i + 1) (upN gi i (gi i % 4096)) (upN jx (cvc T m i) i) (by omega) (by omega) hB_6 pf_9 (fun j h1 h2 => by rw [upN_n (by omega)]; exact hrest j (by omega) h2) (fun j hj => by rw [upN_n (by omega)]; exact hhi2 j hj) hB_8 pf_10 _ _ hP hD hS _ (lv_sub hl [0, 1, 2, 3] rfl)
        have pf_11 : ∀ j, 0 ≤ j → j < 4 ^ m → gg j = sqv T m m j := by
          intro j _ hj
          have e : L = m := by omega
          rw [e] at hsqL; exact hsqL j hj
        exact loop60 _ 0 gg ix0 (Nat.lt_succ_self _) (by omega) hgg (fun j hj => absurd hj (by omega)) pf_11 hhi hix0 (fun j hj => absurd hj (by omega)) _ _ hP hD hS _ (lv_sub hl [0, 1, 2, 3] rfl)
      · have hpl : 2 ^ (2 * L) ≤ 4096 := by rw [p24]; exact p4_6 (by omega)
        refine lv_aload_n hex hby dX2_fill_34 rfl (lv_at hl 1 rfl) ?_
        refine lv_iconst (v := nI 1) hex hby dX2_fill_35 rfl ?_
        refine lv_iconst (v := nI 2) hex hby dX2_fill_36 rfl ?_
        refine lv_iload_n hex hby dX2_fill_37 rfl (lv_at hl 0 rfl) ?_
        refine nv_imul hex hby dX2_fill_38 ?_
        refine nv_ishl hex hby dX2_fill_39 (by omega) (by omega) ?_
        refine nv_top (y := nI (2 ^ (2 * L))) (congrArg nI (Nat.one_mul _)) ?_
        refine nv_top (y := nI (4 ^ L)) (congrArg nI (p24 L)) ?_
        refine lv_aload_n hex hby dX2_fill_40 rfl (lv_at hl 1 rfl) ?_
        refine nv_get (v := .int (nI (2 ^ m))) CFx in_X2_fill_X2 hK hP 0 rfl rfl 0 (by decide) (List.mem_of_getElem? (i := 1) rfl) rfl dX2_fill_41 ?_
        refine lv_iload_n hex hby dX2_fill_44 rfl (lv_at hl 0 rfl) ?_
        refine lv_iconst (v := nI 1) hex hby dX2_fill_45 rfl ?_
        refine nv_iadd hex hby dX2_fill_46 ?_
        refine nv_ishr hex hby dX2_fill_47 (by omega) (by omega) ?_
        refine nv_top (y := nI (2 ^ (m - (L + 1)))) (congrArg nI (Nat.pow_div (by omega) (by decide))) ?_
        refine lv_aload_n hex hby dX2_fill_48 rfl (lv_at hl 3 rfl) ?_
        have trf : TR [(tA, nt, T)] (va_A [(h, .inr (2, [.int (nI (2 ^ m)), .int (nI (4 ^ m)), .ref aC, .ref aI])), (aC, .inl (cI, 4096, .inl (nA gg)))] H.size) ss H := TR.lower hTr hS (va_free hD hS hA [0, 1] rfl)
        refine mu_Vv (As := [.int (nI (4 ^ L)), .int (nI (2 ^ (m - (L + 1)))), .ref tA]) (rest := []) (wr := [(aI, .inl (cI, 4096, .inl (nA ix0)))]) CFx (c_X2_divideSquares (h := h) (aC := aC) (v0 := .int (nI (2 ^ m))) (v1 := .int (nI (4 ^ m))) (aI := aI) (g0 := gg) (sq := 4 ^ L) (half := 2 ^ (m - (L + 1))) (tA := tA) (nt := nt) (T := T) (ns := ns) hgg (by have := p4_le (show L + 1 ≤ 6 by omega); have := p4_pos L; rw [p4_s] at *; omega) hnt hT (fun i hi => by rw [hsqL i hi]; exact sq_st hV hm6 (by omega) i) (by have := p2_6 (show m - (L + 1) ≤ 6 by omega); omega) (fun i hi p hp => by rw [hsqL i hi]; exact ds_new hV hm6 (by omega) i p hp)) 3 gX2_fill_X2_divideSquares rfl nd_X2_divideSquares ⟨Nat.le_of_ble_eq_true rfl, Nat.le_of_ble_eq_true rfl⟩ hK hP hD hS hA [0, 1] [2] rfl rfl (by decide) (by decide) (by decide) trf rfl rfl rfl hl.1 rfl (Nat.le_of_ble_eq_true rfl) dX2_fill_49 ⟨Nat.le_refl _, Nat.le_refl _⟩ (fun u H locs hr_12 hP hD hS => ?_)
        obtain ⟨gd, rfl⟩ : ∃ z, z = u := ⟨_, rfl⟩
        have hP : va_P (dC, dI) vwCl [(aI, .inl (cI, 4096, .inl (nA ix0))), (h, .inr (2, [.int (nI (2 ^ m)), .int (nI (4 ^ m)), .ref aC, .ref aI])), (aC, .inl (cI, 4096, .inl (nA gd)))] H := hP
        have hD : va_D A [(aI, .inl (cI, 4096, .inl (nA ix0))), (h, .inr (2, [.int (nI (2 ^ m)), .int (nI (4 ^ m)), .ref aC, .ref aI])), (aC, .inl (cI, 4096, .inl (nA gd)))] := hD
        obtain ⟨hd1, hd2, hd3⟩ := hr_12
        refine lv_iinc (v := nI (L + 1)) (lv' := [(3, .int (nI (L + 1))), (0, .ref h), (1, .int (nI m)), (2, .ref tA)]) hex hby dX2_fill_52 hl (k := 0) rfl (ni_inc _) (by decide) rfl (fun ls hl => ?_)
        refine lv_goto (tgt := 29) hex hby dX2_fill_55 (by decide) ?_
        have pf_14 : ∀ j, j < 4 ^ (L + 1) → gd j = sqv T m (L + 1) j := by
          intro i hi
          have q : i = 4 * (i / 4) + i % 4 := by omega
          have hi4 : i / 4 < 4 ^ L := by rw [p4_s] at hi; omega
          rw [q, hd2 (i / 4) hi4 (i % 4) (Nat.mod_lt _ (by decide)), hsqL _ hi4]
          exact dsv_sq hV hm6 (by omega) _ _ (Nat.mod_lt _ (by decide))
        exact ih29 (L + 1) gd (by omega) (by omega) hd1 pf_14 (fun j hj => by rw [hd3 j (by have := p4_le (show L + 1 ≤ m by omega); rw [p4_s] at this; omega)]; exact hhi j hj) _ _ (hP.sub [1, 2, 0] rfl) (hD.sub [1, 2, 0] (by decide) rfl) hS _ (lv_sub hl [0, 1, 2, 3] rfl)
  have pf_15 : ∀ j, j < 4 ^ 0 → (upN g0 0 0) j = sqv T m 0 j := by
    intro j hj
    have e4 : (4 : Nat) ^ 0 = 1 := rfl
    have e : j = 0 := by omega
    rw [e, upN_s]; unfold sqv cvs cvc cvy cvx; rfl
  exact loop29 _ 0 (upN g0 0 0) (Nat.lt_succ_self _) (by omega) (fun j => by have := hg0 j; unfold upN; split <;> omega) pf_15 (fun j hj => by rw [upN_n (by omega)]; exact hg0 j) _ _ hP hD hS _ (lv_sub hl [0, 1, 2, 3] rfl)
end NUM2
