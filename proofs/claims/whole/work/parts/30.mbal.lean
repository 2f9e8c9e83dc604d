section MBAL
variable {l : Launch} {dC : Nat → ClassId} {dI : Nat → Nat → Nat} {cI cZ cS : ClassId}
def TLs (T : Nat → Nat) (m c : Nat) (st lv : Nat → Nat) (k s : Nat) : Prop := ∃ j, j < s ∧ ∃ v, Nbr T m c st lv j k v ∧ lv v + 1 < lv k
def TLa (T : Nat → Nat) (m c : Nat) (st lv f : Nat → Nat) (k s i : Nat) : Prop := TLs T m c st lv k s ∨ ∃ a, a < i ∧ lv (f a) + 1 < lv k
theorem TLs.next {T : Nat → Nat} {m c : Nat} {st lv f : Nat → Nat} {k s n : Nat} (h : SSt n f (Nbr T m c st lv s k)) : TLs T m c st lv k (s + 1) ↔ TLa T m c st lv f k s n := by
  constructor
  · rintro ⟨j, hj, v, h1, h2⟩
    rcases Nat.lt_or_ge j s with q | q
    · exact Or.inl ⟨j, q, v, h1, h2⟩
    · rw [show j = s by omega] at h1
      obtain ⟨a, ha, e⟩ := (h.2 v).mp h1
      exact Or.inr ⟨a, ha, by rw [e]; exact h2⟩
  · rintro (⟨j, hj, z⟩ | ⟨a, ha, h2⟩)
    · exact ⟨j, by omega, z⟩
    · exact ⟨s, by omega, f a, (h.2 _).mpr ⟨a, ha, rfl⟩, h2⟩
theorem TLs.four {T : Nat → Nat} {m c : Nat} {st lv : Nat → Nat} {k : Nat} : TLs T m c st lv k 4 ↔ TLf T m c st lv k := Iff.rfl
theorem TLs.lv {T : Nat → Nat} {m c : Nat} {st lv : Nat → Nat} {k s : Nat} (h : TLs T m c st lv k s) : 2 ≤ lv k := by obtain ⟨_, _, v, _, h⟩ := h; omega
theorem TLa.zero {T : Nat → Nat} {m c : Nat} {st lv f : Nat → Nat} {k s : Nat} : TLa T m c st lv f k s 0 ↔ TLs T m c st lv k s := ⟨fun h => h.elim id (fun ⟨a, ha, _⟩ => absurd ha (Nat.not_lt_zero _)), Or.inl⟩
theorem TLa.one {T : Nat → Nat} {m c : Nat} {st lv f : Nat → Nat} {k s i : Nat} : TLa T m c st lv f k s (i + 1) ↔ TLa T m c st lv f k s i ∨ lv (f i) + 1 < lv k := by
  constructor
  · rintro (h | ⟨a, ha, h⟩)
    · exact Or.inl (Or.inl h)
    · rcases Nat.lt_or_ge a i with q | q
      · exact Or.inl (Or.inr ⟨a, q, h⟩)
      · rw [show a = i by omega] at h; exact Or.inr h
  · rintro ((h | ⟨a, ha, h⟩) | h)
    · exact Or.inl h
    · exact Or.inr ⟨a, by omega, h⟩
    · exact Or.inr ⟨i, by omega, h⟩
theorem AG_q {st lv S Lv S2 L2 : Nat → Nat} {c k : Nat} (hag : AG c st lv S Lv) (hk : k < c) (h1 : ∀ j, j < k → S2 j = S j ∧ L2 j = Lv j) (h2 : ∀ t, t < 4 → S2 (k + t) = S k + t * 4 ^ (lv k - 1) ∧ L2 (k + t) = lv k - 1) (h3 : ∀ j, k < j → j < c → S2 (j + 3) = S j ∧ L2 (j + 3) = Lv j) : AG (c + 3) (dst st lv k) (dlv lv k) S2 L2 := by
  intro j hj
  rcases Nat.lt_or_ge j k with a | a
  · rw [dst_lo (by omega), dlv_lo a, (h1 j a).1, (h1 j a).2]; exact hag j (by omega)
  · rcases Nat.lt_or_ge (k + 3) j with b | b
    · rw [dst_hi b, dlv_hi b, show j = j - 3 + 3 by omega, (h3 (j - 3) (by omega) (by omega)).1, (h3 (j - 3) (by omega) (by omega)).2, Nat.add_sub_cancel]
      exact hag _ (by omega)
    · have e := h2 (j - k) (by omega)
      rw [show k + (j - k) = j by omega] at e
      rw [dlv_mid a b, e.1, e.2]
      refine ⟨?_, rfl⟩
      rcases Nat.lt_or_ge k j with d | d
      · rw [dst_mid d b, (hag k hk).1]
      · rw [show j = k by omega, dst_lo (Nat.le_refl _), Nat.sub_self, Nat.zero_mul, Nat.add_zero]; exact (hag k hk).1
theorem nd_X10_isUnlike : ndV yX10_isUnlike RX10 1 := by decide +kernel
theorem in_X10_isUnlike_X10 : ∀ w ∈ wsX100, w ∈ wsX10_isUnlike := fun _ h => List.mem_cons_of_mem _ (List.mem_append_right _ (h))
set_option maxHeartbeats 4000000 in
set_option maxRecDepth 100000 in
theorem c_X10_isUnlike {h : Nat} {aB : Nat} {aC : Nat} {aI : Nat} {aS : Nat} {aL : Nat} {aO : Nat} {m : Nat} {v1 : Value} {v2 : Value} {v3 : Value} {v4 : Value} {v5 : Value} {v6 : Value} {v7 : Value} {v8 : Value} {v9 : Value} {v10 : Value} {v13 : Value} {v14 : Value} {v15 : Value} {v16 : Value} {v17 : Value} {v18 : Value} {v19 : Value} {v20 : Value} {v23 : Value} {v24 : Value} {v25 : Value} {bs : Nat} {f : Nat → Nat} {g : Nat → Nat} {ix : Nat → Nat} {S : Nat → Nat} {Lv : Nat → Nat} {O : Nat → Nat} {k : Nat} {T : Nat → Nat} {ns : Nat} {st : Nat → Nat} {lv : Nat → Nat} {c : Nat} (hfb : ∀ j, f j < 4096) (hg : ∀ j, g j < 4096) (hSb : ∀ j, S j < 4096) (hLb : ∀ j, Lv j < 7) (hgc : ∀ i, i < 4 ^ m → g i = cvc T m i) (hV : VT T ns) (hL : LvL m c st lv) (hag : AG c st lv S Lv) (hm6 : m ≤ 6) (hk : k < c) (hix : ∀ j, ix j < 4096) (hOb : ∀ j, O j < 4096) (hN : NumOK T m g ix) (hO : LfOK c st O) : MU l yX10_isUnlike wsX10_isUnlike 3 72 (dC, dI) (tyK cI cZ cS) [(h, .inr (10, [.int (nI m), v1, v2, v3, v4, v5, v6, v7, v8, v9, v10, .ref aS, .ref aL, v13, v14, v15, v16, v17, v18, v19, v20, .ref aI, .ref aC, v23, v24, v25, .ref aO, .ref aB, .int (nI bs)])), (aB, .inl (cI, 64, .inl (nA f))), (aC, .inl (cI, 4096, .inl (nA g))), (aI, .inl (cI, 4096, .inl (nA ix))), (aS, .inl (cI, 4096, .inl (nA S))), (aL, .inl (cI, 4096, .inl (nA Lv))), (aO, .inl (cI, 4096, .inl (nA O)))] [] [.ref h, .int (nI k)] (fun rv_ (u_ : Nat × (Nat → Nat)) => rI (fun r => (r = nI 1 ∧ TLf T m c st lv k ∧ (∀ j, u_.2 j < 4096)) ∨ (r = nI 0 ∧ ¬ TLf T m c st lv k ∧ (∀ j, u_.2 j < 4096))) rv_) (fun (u_ : Nat × (Nat → Nat)) => [(h, .inr (10, [.int (nI m), v1, v2, v3, v4, v5, v6, v7, v8, v9, v10, .ref aS, .ref aL, v13, v14, v15, v16, v17, v18, v19, v20, .ref aI, .ref aC, v23, v24, v25, .ref aO, .ref aB, .int (nI u_.1)])), (aB, .inl (cI, 64, .inl (nA u_.2))), (aC, .inl (cI, 4096, .inl (nA g))), (aI, .inl (cI, 4096, .inl (nA ix))), (aS, .inl (cI, 4096, .inl (nA S))), (aL, .inl (cI, 4096, .inl (nA Lv))), (aO, .inl (cI, 4096, .inl (nA O)))]) := by
  refine mu_of (by decide) rfl (Nat.le_of_ble_eq_true rfl) ?_
  intro pp ee ss mm bb mt cd Q A CFx hP hK hD hS hA hTr hret ls hl
  obtain ⟨hex, hby, hml, hown, hts⟩ := id CFx
  have hl : lv_has ls 5 [(0, .ref h), (1, .int (nI k))] := hl
  have hk3 := hL.2.2.2 k hk
  have hgk := hag k hk
  have htop := hL.top hk
  have h46 := p4_6 hm6
  have h26 := p2_6 hm6
  have hp4k := p4_pos (lv k)
  have hgc_ := hgc (st k) (by omega)
  have hcm := cvc_mod (T := T) (k := m) (st k) hm6
  have hcle := hL.le (Nat.le_refl c)
  have hstc := hL.2.2.1
  have hcxl := cvx_lt T m (st k)
  have hcyl := cvy_lt hV m (st k)
  have h2k := p2_6 (show lv k ≤ 6 by omega)
  have h2kp := p2_pos (lv k)
  have hlk7 := hLb k
  refine lv_iconst (v := nI 0) hex hby dX10_isUnlike_0 rfl ?_
  refine lv_istore_n (lv' := [(2, .int (nI 0)), (0, .ref h), (1, .int (nI k))]) hex hby dX10_isUnlike_1 rfl hl (by decide) rfl (fun ls hl => ?_)
  refine lv_iconst (v := nI 0) hex hby dX10_isUnlike_2 rfl ?_
  refine lv_istore_n (lv' := [(3, .int (nI 0)), (2, .int (nI 0)), (0, .ref h), (1, .int (nI k))]) hex hby dX10_isUnlike_3 rfl hl (by decide) rfl (fun ls hl => ?_)
  have loop4 : ∀ (nn : Nat) (b : Nat) (s : Nat) (b2 : Nat) (f2 : Nat → Nat), (4 - s) < nn → (s ≤ 4) → (b ≤ 1) → (b = 1 ↔ TLs T m c st lv k s) → (∀ j, f2 j < 4096) → ∀ (H : Heap) (locs : List Loc), va_P (dC, dI) vwCl [(h, .inr (10, [.int (nI m), v1, v2, v3, v4, v5, v6, v7, v8, v9, v10, .ref aS, .ref aL, v13, v14, v15, v16, v17, v18, v19, v20, .ref aI, .ref aC, v23, v24, v25, .ref aO, .ref aB, .int (nI b2)])), (aB, .inl (cI, 64, .inl (nA f2))), (aC, .inl (cI, 4096, .inl (nA g))), (aI, .inl (cI, 4096, .inl (nA ix))), (aS, .inl (cI, 4096, .inl (nA S))), (aL, .inl (cI, 4096, .inl (nA Lv))), (aO, .inl (cI, 4096, .inl (nA O)))] H → va_D A [(h, .inr (10, [.int (nI m), v1, v2, v3, v4, v5, v6, v7, v8, v9, v10, .ref aS, .ref aL, v13, v14, v15, v16, v17, v18, v19, v20, .ref aI, .ref aC, v23, v24, v25, .ref aO, .ref aB, .int (nI b2)])), (aB, .inl (cI, 64, .inl (nA f2))), (aC, .inl (cI, 4096, .inl (nA g))), (aI, .inl (cI, 4096, .inl (nA ix))), (aS, .inl (cI, 4096, .inl (nA S))), (aL, .inl (cI, 4096, .inl (nA Lv))), (aO, .inl (cI, 4096, .inl (nA O)))] → va_S A ss.heap H locs → ∀ ls : Array Slot, lv_has ls 5 [(3, .int (nI s)), (2, .int (nI b)), (0, .ref h), (1, .int (nI k))] → W pp l ee (rmO 3 72) ss mm ([.ref h, .int (nI k)] : List Value).toArray bb mt cd H locs 0 0 Q (F0 mm 4 ls []) := by
    intro nn
    induction nn with
    | zero => intro b s b2 f2 hms4; exact absurd hms4 (Nat.not_lt_zero _)
    | succ nn ih4 =>
      intro b s b2 f2 hms4 hs hb1 hbs hf2 H locs hP hD hS ls hl
      refine lv_iload_n hex hby dX10_isUnlike_4 rfl (lv_at hl 0 rfl) ?_
      refine lv_iconst (v := nI 4) hex hby dX10_isUnlike_5 rfl ?_
      refine nv_icmp_ge (tgt := 82) hex hby dX10_isUnlike_6 (by decide) (by omega) (by omega) (fun c_1 => ?_) (fun c_1 => ?_)
      · have hfin : b = 1 ↔ TLf T m c st lv k := by rw [← TLs.four, show 4 = s by omega]; exact hbs
        refine lv_iload_n hex hby dX10_isUnlike_82 rfl (lv_at hl 1 rfl) ?_
        rcases (show b = 1 ∨ b = 0 by omega) with rfl | rfl
        · exact hret _ (b2, f2) _ _ _ _ _ (Or.inr (Or.inl ⟨rfl, _, (Or.inl rfl), rfl, rfl, dX10_isUnlike_83⟩)) ⟨_, rfl, Or.inl ⟨rfl, (hfin.mp rfl), hf2⟩⟩ hP hD hS
        · exact hret _ (b2, f2) _ _ _ _ _ (Or.inr (Or.inl ⟨rfl, _, (Or.inr rfl), rfl, rfl, dX10_isUnlike_83⟩)) ⟨_, rfl, Or.inr ⟨rfl, (fun q => absurd (hfin.mpr q) (by decide)), hf2⟩⟩ hP hD hS
      · refine lv_aload_n hex hby dX10_isUnlike_9 rfl (lv_at hl 2 rfl) ?_
        refine nv_get (v := .ref aL) CFx in_X10_isUnlike_X10 hK hP 0 rfl rfl 12 (by decide) (List.mem_of_getElem? (i := 1) rfl) rfl dX10_isUnlike_10 ?_
        refine lv_iload_n hex hby dX10_isUnlike_13 rfl (lv_at hl 3 rfl) ?_
        refine nv_iald hex hby hK hP 5 0 rfl rfl (by omega) (by omega) dX10_isUnlike_14 ?_
        have hb_2 := hLb k
        refine lv_iconst (v := nI 1) hex hby dX10_isUnlike_15 rfl ?_
        refine nv_icmp_le (tgt := 82) hex hby dX10_isUnlike_16 (by decide) (by omega) (by omega) (fun c_3 => ?_) (fun c_3 => ?_)
        · have hfin : b = 1 ↔ TLf T m c st lv k := ⟨fun q => by have := (hbs.mp q).lv; omega, fun q => by have := TL_lv q; omega⟩
          refine lv_iload_n hex hby dX10_isUnlike_82 rfl (lv_at hl 1 rfl) ?_
          rcases (show b = 1 ∨ b = 0 by omega) with rfl | rfl
          · exact hret _ (b2, f2) _ _ _ _ _ (Or.inr (Or.inl ⟨rfl, _, (Or.inl rfl), rfl, rfl, dX10_isUnlike_83⟩)) ⟨_, rfl, Or.inl ⟨rfl, (hfin.mp rfl), hf2⟩⟩ hP hD hS
          · exact hret _ (b2, f2) _ _ _ _ _ (Or.inr (Or.inl ⟨rfl, _, (Or.inr rfl), rfl, rfl, dX10_isUnlike_83⟩)) ⟨_, rfl, Or.inr ⟨rfl, (fun q => absurd (hfin.mpr q) (by decide)), hf2⟩⟩ hP hD hS
        · refine lv_aload_n hex hby dX10_isUnlike_19 rfl (lv_at hl 2 rfl) ?_
          refine lv_iload_n hex hby dX10_isUnlike_20 rfl (lv_at hl 3 rfl) ?_
          refine lv_iload_n hex hby dX10_isUnlike_21 rfl (lv_at hl 0 rfl) ?_
          refine mu_Vv (As := [.int (nI k), .int (nI s)]) (rest := []) (wr := []) CFx (c_X10_findBeside (h := h) (aB := aB) (aC := aC) (aI := aI) (aS := aS) (aL := aL) (aO := aO) (m := m) (v1 := v1) (v2 := v2) (v3 := v3) (v4 := v4) (v5 := v5) (v6 := v6) (v7 := v7) (v8 := v8) (v9 := v9) (v10 := v10) (v13 := v13) (v14 := v14) (v15 := v15) (v16 := v16) (v17 := v17) (v18 := v18) (v19 := v19) (v20 := v20) (v23 := v23) (v24 := v24) (v25 := v25) (v28 := .int (nI b2)) (fa := f2) (g := g) (ix := ix) (S := S) (Lv := Lv) (O := O) (k := k) (s := s) (T := T) (ns := ns) (st := st) (lv := lv) (c := c) hf2 hg hSb hLb hgc hV hL hag hm6 hk hix hOb hN hO (by omega)) 2 gX10_isUnlike_X10_findBeside rfl nd_X10_findBeside ⟨Nat.le_of_ble_eq_true rfl, Nat.le_of_ble_eq_true rfl⟩ hK hP hD hS hA [0, 1, 2, 3, 4, 5, 6] [] rfl rfl (by decide) (by decide) (by decide) TR.nil rfl rfl rfl hl.1 rfl (Nat.le_of_ble_eq_true rfl) dX10_isUnlike_22 ⟨Nat.le_refl _, Nat.le_refl _⟩ (fun u H locs hr_4 hP hD hS => ?_)
          obtain ⟨b1, f1⟩ := u
          dsimp only at hr_4 hP hD
          have hP : va_P (dC, dI) vwCl [(h, .inr (10, [.int (nI m), v1, v2, v3, v4, v5, v6, v7, v8, v9, v10, .ref aS, .ref aL, v13, v14, v15, v16, v17, v18, v19, v20, .ref aI, .ref aC, v23, v24, v25, .ref aO, .ref aB, .int (nI b1)])), (aB, .inl (cI, 64, .inl (nA f1))), (aC, .inl (cI, 4096, .inl (nA g))), (aI, .inl (cI, 4096, .inl (nA ix))), (aS, .inl (cI, 4096, .inl (nA S))), (aL, .inl (cI, 4096, .inl (nA Lv))), (aO, .inl (cI, 4096, .inl (nA O)))] H := hP
          have hD : va_D A [(h, .inr (10, [.int (nI m), v1, v2, v3, v4, v5, v6, v7, v8, v9, v10, .ref aS, .ref aL, v13, v14, v15, v16, v17, v18, v19, v20, .ref aI, .ref aC, v23, v24, v25, .ref aO, .ref aB, .int (nI b1)])), (aB, .inl (cI, 64, .inl (nA f1))), (aC, .inl (cI, 4096, .inl (nA g))), (aI, .inl (cI, 4096, .inl (nA ix))), (aS, .inl (cI, 4096, .inl (nA S))), (aL, .inl (cI, 4096, .inl (nA Lv))), (aO, .inl (cI, 4096, .inl (nA O)))] := hD
          obtain ⟨hss, hfb1, hb64⟩ := hr_4
          refine lv_iconst (v := nI 0) hex hby dX10_isUnlike_25 rfl ?_
          refine lv_istore (lv' := [(4, .int (nI 0)), (3, .int (nI s)), (2, .int (nI b)), (0, .ref h), (1, .int (nI k))]) hex hby dX10_isUnlike_26 hl (by decide) rfl (fun ls hl => ?_)
          have loop28 : ∀ (nn : Nat) (b4 : Nat) (i : Nat), (b1 - i) < nn → (i ≤ b1) → (b4 ≤ 1) → (b4 = 1 ↔ TLa T m c st lv f1 k s i) → ∀ (H : Heap) (locs : List Loc), va_P (dC, dI) vwCl [(h, .inr (10, [.int (nI m), v1, v2, v3, v4, v5, v6, v7, v8, v9, v10, .ref aS, .ref aL, v13, v14, v15, v16, v17, v18, v19, v20, .ref aI, .ref aC, v23, v24, v25, .ref aO, .ref aB, .int (nI b1)])), (aB, .inl (cI, 64, .inl (nA f1))), (aC, .inl (cI, 4096, .inl (nA g))), (aI, .inl (cI, 4096, .inl (nA ix))), (aS, .inl (cI, 4096, .inl (nA S))), (aL, .inl (cI, 4096, .inl (nA Lv))), (aO, .inl (cI, 4096, .inl (nA O)))] H → va_D A [(h, .inr (10, [.int (nI m), v1, v2, v3, v4, v5, v6, v7, v8, v9, v10, .ref aS, .ref aL, v13, v14, v15, v16, v17, v18, v19, v20, .ref aI, .ref aC, v23, v24, v25, .ref aO, .ref aB, .int (nI b1)])), (aB, .inl (cI, 64, .inl (nA f1))), (aC, .inl (cI, 4096, .inl (nA g))), (aI, .inl (cI, 4096, .inl (nA ix))), (aS, .inl (cI, 4096, .inl (nA S))), (aL, .inl (cI, 4096, .inl (nA Lv))), (aO, .inl (cI, 4096, .inl (nA O)))] → va_S A ss.heap H locs → ∀ ls : Array Slot, lv_has ls 5 [(4, .int (nI i)), (3, .int (nI s)), (2, .int (nI b4)), (0, .ref h), (1, .int (nI k))] → W pp l ee (rmO 3 72) ss mm ([.ref h, .int (nI k)] : List Value).toArray bb mt cd H locs 0 0 Q (F0 mm 28 ls []) := by
            intro nn
            induction nn with
            | zero => intro b4 i hms28; exact absurd hms28 (Nat.not_lt_zero _)
            | succ nn ih28 =>
              intro b4 i hms28 hi hbi1 hbi H locs hP hD hS ls hl
              refine lv_iload hex hby dX10_isUnlike_28 (lv_at hl 0 rfl) ?_
              refine lv_aload_n hex hby dX10_isUnlike_30 rfl (lv_at hl 3 rfl) ?_
              refine nv_get (v := .int (nI b1)) CFx in_X10_isUnlike_X10 hK hP 0 rfl rfl 28 (by decide) (List.mem_of_getElem? (i := 2) rfl) rfl dX10_isUnlike_31 ?_
              refine nv_icmp_ge (tgt := 76) hex hby dX10_isUnlike_34 (by decide) (by omega) (by omega) (fun c_7 => ?_) (fun c_7 => ?_)
              · refine lv_iinc (v := nI (s + 1)) (lv' := [(3, .int (nI (s + 1))), (4, .int (nI i)), (2, .int (nI b4)), (0, .ref h), (1, .int (nI k))]) hex hby dX10_isUnlike_76 hl (k := 1) rfl (ni_inc _) (by decide) rfl (fun ls hl => ?_)
                refine lv_goto (tgt := 4) hex hby dX10_isUnlike_79 (by decide) ?_
                have pf_8 : b4 = 1 ↔ TLs T m c st lv k (s + 1) := by
                  rw [TLs.next hss, show b1 = i by omega]
                  exact hbi
                exact ih4 b4 (s + 1) b1 f1 (by omega) (by omega) hbi1 pf_8 hfb1 _ _ hP hD hS _ (lv_sub hl [0, 2, 3, 4] rfl)
              · have j70 : ∀ (b3 : Nat), (b3 ≤ 1) → (b3 = 1 ↔ TLa T m c st lv f1 k s (i + 1)) → ∀ (H : Heap) (locs : List Loc), va_P (dC, dI) vwCl [(h, .inr (10, [.int (nI m), v1, v2, v3, v4, v5, v6, v7, v8, v9, v10, .ref aS, .ref aL, v13, v14, v15, v16, v17, v18, v19, v20, .ref aI, .ref aC, v23, v24, v25, .ref aO, .ref aB, .int (nI b1)])), (aB, .inl (cI, 64, .inl (nA f1))), (aC, .inl (cI, 4096, .inl (nA g))), (aI, .inl (cI, 4096, .inl (nA ix))), (aS, .inl (cI, 4096, .inl (nA S))), (aL, .inl (cI, 4096, .inl (nA Lv))), (aO, .inl (cI, 4096, .inl (nA O)))] H → va_D A [(h, .inr (10, [.int (nI m), v1, v2, v3, v4, v5, v6, v7, v8, v9, v10, .ref aS, .ref aL, v13, v14, v15, v16, v17, v18, v19, v20, .ref aI, .ref aC, v23, v24, v25, .ref aO, .ref aB, .int (nI b1)])), (aB, .inl (cI, 64, .inl (nA f1))), (aC, .inl (cI, 4096, .inl (nA g))), (aI, .inl (cI, 4096, .inl (nA ix))), (aS, .inl (cI, 4096, .inl (nA S))), (aL, .inl (cI, 4096, .inl (nA Lv))), (aO, .inl (cI, 4096, .inl (nA O)))] → va_S A ss.heap H locs → ∀ ls : Array Slot, lv_has ls 5 [(4, .int (nI i)), (3, .int (nI s)), (2, .int (nI b3)), (0, .ref h), (1, .int (nI k))] → W pp l ee (rmO 3 72) ss mm ([.ref h, .int (nI k)] : List Value).toArray bb mt cd H locs 0 0 Q (F0 mm 70 ls []) := by
                  intro b3 hb31 hb3 H locs hP hD hS ls hl
                  refine lv_iinc (v := nI (i + 1)) (lv' := [(4, .int (nI (i + 1))), (3, .int (nI s)), (2, .int (nI b3)), (0, .ref h), (1, .int (nI k))]) hex hby dX10_isUnlike_70 hl (k := 0) rfl (ni_inc _) (by decide) rfl (fun ls hl => ?_)
                  refine lv_goto (tgt := 28) hex hby dX10_isUnlike_73 (by decide) ?_
                  exact ih28 b3 (i + 1) (by omega) (by omega) hb31 hb3 _ _ hP hD hS _ (lv_sub hl [0, 1, 2, 3, 4] rfl)
                refine lv_iload_n hex hby dX10_isUnlike_37 rfl (lv_at hl 2 rfl) ?_
                refine nv_if_ne (tgt := 64) hex hby dX10_isUnlike_38 (by decide) (by omega) (fun c_9 => ?_) (fun c_9 => ?_)
                · refine lv_iconst (v := nI 1) hex hby dX10_isUnlike_64 rfl ?_
                  refine lv_goto (tgt := 69) hex hby dX10_isUnlike_65 (by decide) ?_
                  refine lv_istore_n (lv' := [(2, .int (nI 1)), (4, .int (nI i)), (3, .int (nI s)), (0, .ref h), (1, .int (nI k))]) hex hby dX10_isUnlike_69 rfl hl (by decide) rfl (fun ls hl => ?_)
                  have pf_10 : 1 = 1 ↔ TLa T m c st lv f1 k s (i + 1) := by
                    rw [TLa.one]
                    exact ⟨fun _ => Or.inl (hbi.mp (by omega)), fun _ => rfl⟩
                  exact j70 1 (by omega) pf_10 _ _ hP hD hS _ (lv_sub hl [1, 2, 0, 3, 4] rfl)
                · have hfi := (hss.2 (f1 i)).mpr ⟨i, by omega, rfl⟩
                  have hfc := hfi.2.1
                  have hgf := hag (f1 i) hfc
                  have hlf7 := hLb (f1 i)
                  have hlk7b := hLb k
                  refine lv_aload_n hex hby dX10_isUnlike_41 rfl (lv_at hl 3 rfl) ?_
                  refine nv_get (v := .ref aL) CFx in_X10_isUnlike_X10 hK hP 0 rfl rfl 12 (by decide) (List.mem_of_getElem? (i := 1) rfl) rfl dX10_isUnlike_42 ?_
                  refine lv_aload_n hex hby dX10_isUnlike_45 rfl (lv_at hl 3 rfl) ?_
                  refine nv_get (v := .ref aB) CFx in_X10_isUnlike_X10 hK hP 0 rfl rfl 27 (by decide) (List.mem_of_getElem? (i := 3) rfl) rfl dX10_isUnlike_46 ?_
                  refine lv_iload hex hby dX10_isUnlike_49 (lv_at hl 0 rfl) ?_
                  refine nv_iald hex hby hK hP 1 0 rfl rfl (by omega) (by omega) dX10_isUnlike_51 ?_
                  have hb_11 := hfb1 i
                  refine nv_iald hex hby hK hP 5 0 rfl rfl (by omega) (by omega) dX10_isUnlike_52 ?_
                  have hb_12 := hLb (f1 i)
                  refine lv_aload_n hex hby dX10_isUnlike_53 rfl (lv_at hl 3 rfl) ?_
                  refine nv_get (v := .ref aL) CFx in_X10_isUnlike_X10 hK hP 0 rfl rfl 12 (by decide) (List.mem_of_getElem? (i := 1) rfl) rfl dX10_isUnlike_54 ?_
                  refine lv_iload_n hex hby dX10_isUnlike_57 rfl (lv_at hl 4 rfl) ?_
                  refine nv_iald hex hby hK hP 5 0 rfl rfl (by omega) (by omega) dX10_isUnlike_58 ?_
                  have hb_13 := hLb k
                  refine lv_iconst (v := nI 1) hex hby dX10_isUnlike_59 rfl ?_
                  refine nv_isub hex hby dX10_isUnlike_60 (by omega) ?_
                  refine nv_icmp_ge (tgt := 68) hex hby dX10_isUnlike_61 (by decide) (by omega) (by omega) (fun c_14 => ?_) (fun c_14 => ?_)
                  · refine lv_iconst (v := nI 0) hex hby dX10_isUnlike_68 rfl ?_
                    refine lv_istore_n (lv' := [(2, .int (nI 0)), (4, .int (nI i)), (3, .int (nI s)), (0, .ref h), (1, .int (nI k))]) hex hby dX10_isUnlike_69 rfl hl (by decide) rfl (fun ls hl => ?_)
                    have pf_15 : 0 = 1 ↔ TLa T m c st lv f1 k s (i + 1) := by
                      rw [TLa.one]
                      exact ⟨fun q => absurd q (by decide), fun q => by rcases q with z | z; (have := hbi.mpr z; omega); omega⟩
                    exact j70 0 (by omega) pf_15 _ _ hP hD hS _ (lv_sub hl [1, 2, 0, 3, 4] rfl)
                  · refine lv_iconst (v := nI 1) hex hby dX10_isUnlike_64 rfl ?_
                    refine lv_goto (tgt := 69) hex hby dX10_isUnlike_65 (by decide) ?_
                    refine lv_istore_n (lv' := [(2, .int (nI 1)), (4, .int (nI i)), (3, .int (nI s)), (0, .ref h), (1, .int (nI k))]) hex hby dX10_isUnlike_69 rfl hl (by decide) rfl (fun ls hl => ?_)
                    have pf_16 : 1 = 1 ↔ TLa T m c st lv f1 k s (i + 1) := by
                      rw [TLa.one]
                      exact ⟨fun _ => Or.inr (by omega), fun _ => rfl⟩
                    exact j70 1 (by omega) pf_16 _ _ hP hD hS _ (lv_sub hl [1, 2, 0, 3, 4] rfl)
          have pf_17 : b = 1 ↔ TLa T m c st lv f1 k s 0 := by
            rw [TLa.zero]
            exact hbs
          exact loop28 _ b 0 (Nat.lt_succ_self _) (by omega) hb1 pf_17 _ _ hP hD hS _ (lv_sub hl [0, 1, 2, 3, 4] rfl)
  have pf_18 : 0 = 1 ↔ TLs T m c st lv k 0 := by
    constructor
    · intro q; exact absurd q (by decide)
    · rintro ⟨j, hj, _⟩; exact absurd hj (Nat.not_lt_zero _)
  exact loop4 _ 0 0 bs f (Nat.lt_succ_self _) (by omega) (by omega) pf_18 hfb _ _ hP hD hS _ (lv_sub hl [0, 1, 2, 3] rfl)
theorem nd_X10_quarters : ndV yX10_quarters RX10 1 := by decide +kernel
theorem in_X10_quarters_X10 : ∀ w ∈ wsX100, w ∈ wsX10_quarters := fun _ h => List.mem_cons_of_mem _ (List.mem_append_right _ (h))
set_option maxHeartbeats 4000000 in
set_option maxRecDepth 100000 in
theorem c_X10_quarters {h : Nat} {aS : Nat} {aL : Nat} {aO : Nat} {v0 : Value} {v1 : Value} {v2 : Value} {v3 : Value} {v4 : Value} {v5 : Value} {v6 : Value} {v7 : Value} {v8 : Value} {v9 : Value} {v10 : Value} {c : Nat} {v14 : Value} {v15 : Value} {v16 : Value} {v17 : Value} {v18 : Value} {v19 : Value} {v20 : Value} {v21 : Value} {v22 : Value} {v23 : Value} {v24 : Value} {v25 : Value} {v27 : Value} {v28 : Value} {S : Nat → Nat} {Lv : Nat → Nat} {O : Nat → Nat} {k : Nat} {m : Nat} {st : Nat → Nat} {lv : Nat → Nat} (hSb : ∀ j, S j < 4096) (hLb : ∀ j, Lv j < 7) (hOb : ∀ j, O j < 4096) (hm6 : m ≤ 6) (hL : LvL m c st lv) (hag : AG c st lv S Lv) (hk : k < c) (hl1 : 1 ≤ lv k) : MU l yX10_quarters wsX10_quarters 1 22 (dC, dI) (tyK cI cZ cS) [(h, .inr (10, [v0, v1, v2, v3, v4, v5, v6, v7, v8, v9, v10, .ref aS, .ref aL, .int (nI c), v14, v15, v16, v17, v18, v19, v20, v21, v22, v23, v24, v25, .ref aO, v27, v28])), (aS, .inl (cI, 4096, .inl (nA S))), (aL, .inl (cI, 4096, .inl (nA Lv))), (aO, .inl (cI, 4096, .inl (nA O)))] [] [.ref h, .int (nI k)] (fun rv_ (u_ : (Nat → Nat) × (Nat → Nat) × (Nat → Nat)) => rV (AG (c + 3) (dst st lv k) (dlv lv k) u_.1 u_.2.1 ∧ LfOK (c + 3) (dst st lv k) u_.2.2 ∧ (∀ j, u_.1 j < 4096) ∧ (∀ j, u_.2.1 j < 7) ∧ (∀ j, u_.2.2 j < 4096)) rv_) (fun (u_ : (Nat → Nat) × (Nat → Nat) × (Nat → Nat)) => [(h, .inr (10, [v0, v1, v2, v3, v4, v5, v6, v7, v8, v9, v10, .ref aS, .ref aL, .int (nI (c + 3)), v14, v15, v16, v17, v18, v19, v20, v21, v22, v23, v24, v25, .ref aO, v27, v28])), (aS, .inl (cI, 4096, .inl (nA u_.1))), (aL, .inl (cI, 4096, .inl (nA u_.2.1))), (aO, .inl (cI, 4096, .inl (nA u_.2.2)))]) := by
  refine mu_of (by decide) rfl (Nat.le_of_ble_eq_true rfl) ?_
  intro pp ee ss mm bb mt cd Q A CFx hP hK hD hS hA hTr hret ls hl
  obtain ⟨hex, hby, hml, hown, hts⟩ := id CFx
  have hl : lv_has ls 4 [(0, .ref h), (1, .int (nI k))] := hl
  have hLn := hL.div hk hl1
  have hcle := hLn.le (Nat.le_refl (c + 3))
  have hstc := hLn.2.2.1
  have h46 := p4_6 hm6
  have hk3 := hL.2.2.2 k hk
  have hgk := hag k hk
  have htop := hL.top hk
  have hpw := lv_pow hl1
  have h24 := p24 (lv k - 1)
  have hp1 := p4_pos (lv k - 1)
  have hSk := hSb k
  refine lv_aload_n hex hby dX10_quarters_0 rfl (lv_at hl 0 rfl) ?_
  refine nv_get (v := .int (nI c)) CFx in_X10_quarters_X10 hK hP 0 rfl rfl 13 (by decide) (List.mem_of_getElem? (i := 1) rfl) rfl dX10_quarters_1 ?_
  refine lv_iconst (v := nI 1) hex hby dX10_quarters_4 rfl ?_
  refine nv_isub hex hby dX10_quarters_5 (by omega) ?_
  refine lv_istore_n (lv' := [(2, .int (nI (c - 1))), (0, .ref h), (1, .int (nI k))]) hex hby dX10_quarters_6 rfl hl (by decide) rfl (fun ls hl => ?_)
  have loop7 : ∀ (nn : Nat) (i : Nat) (SS : Nat → Nat) (LL : Nat → Nat), i < nn → (k ≤ i) → (i < c) → (∀ j, SS j < 4096) → (∀ j, LL j < 7) → (∀ j, j ≤ i → SS j = S j ∧ LL j = Lv j) → (∀ j, i < j → j < c → SS (j + 3) = S j ∧ LL (j + 3) = Lv j) → ∀ (H : Heap) (locs : List Loc), va_P (dC, dI) vwCl [(h, .inr (10, [v0, v1, v2, v3, v4, v5, v6, v7, v8, v9, v10, .ref aS, .ref aL, .int (nI c), v14, v15, v16, v17, v18, v19, v20, v21, v22, v23, v24, v25, .ref aO, v27, v28])), (aS, .inl (cI, 4096, .inl (nA SS))), (aL, .inl (cI, 4096, .inl (nA LL))), (aO, .inl (cI, 4096, .inl (nA O)))] H → va_D A [(h, .inr (10, [v0, v1, v2, v3, v4, v5, v6, v7, v8, v9, v10, .ref aS, .ref aL, .int (nI c), v14, v15, v16, v17, v18, v19, v20, v21, v22, v23, v24, v25, .ref aO, v27, v28])), (aS, .inl (cI, 4096, .inl (nA SS))), (aL, .inl (cI, 4096, .inl (nA LL))), (aO, .inl (cI, 4096, .inl (nA O)))] → va_S A ss.heap H locs → ∀ ls : Array Slot, lv_has ls 4 [(2, .int (nI i)), (0, .ref h), (1, .int (nI k))] → W pp l ee (rmO 1 22) ss mm ([.ref h, .int (nI k)] : List Value).toArray bb mt cd H locs 0 0 Q (F0 mm 7 ls []) := by
    intro nn
    induction nn with
    | zero => intro i SS LL hms7; exact absurd hms7 (Nat.not_lt_zero _)
    | succ nn ih7 =>
      intro i SS LL hms7 hik hic hsb hlb hlo hhi H locs hP hD hS ls hl
      refine lv_iload_n hex hby dX10_quarters_7 rfl (lv_at hl 0 rfl) ?_
      refine lv_iload_n hex hby dX10_quarters_8 rfl (lv_at hl 2 rfl) ?_
      refine nv_icmp_le (tgt := 46) hex hby dX10_quarters_9 (by decide) (by omega) (by omega) (fun c_1 => ?_) (fun c_1 => ?_)
      · refine lv_aload_n hex hby dX10_quarters_46 rfl (lv_at hl 1 rfl) ?_
        refine nv_get (v := .ref aL) CFx in_X10_quarters_X10 hK hP 0 rfl rfl 12 (by decide) (List.mem_of_getElem? (i := 3) rfl) rfl dX10_quarters_47 ?_
        refine lv_iload_n hex hby dX10_quarters_50 rfl (lv_at hl 2 rfl) ?_
        refine nv_iald hex hby hK hP 2 0 rfl rfl (by omega) (by omega) dX10_quarters_51 ?_
        have hb_2 := hlb k
        have hlk := (hlo k hik).2
        refine lv_iconst (v := nI 1) hex hby dX10_quarters_52 rfl ?_
        refine nv_isub hex hby dX10_quarters_53 (by omega) ?_
        refine nv_top (y := nI (lv k - 1)) (congrArg nI (by rw [hlk, hgk.2])) ?_
        refine lv_istore_n (lv' := [(2, .int (nI (lv k - 1))), (0, .ref h), (1, .int (nI k))]) hex hby dX10_quarters_54 rfl hl (by decide) rfl (fun ls hl => ?_)
        refine lv_iconst (v := nI 3) hex hby dX10_quarters_55 rfl ?_
        refine lv_istore_n (lv' := [(3, .int (nI 3)), (2, .int (nI (lv k - 1))), (0, .ref h), (1, .int (nI k))]) hex hby dX10_quarters_56 rfl hl (by decide) rfl (fun ls hl => ?_)
        have loop57 : ∀ (nn : Nat) (z : Int) (r_ : Nat) (SP : Nat → Nat) (LP : Nat → Nat), r_ < nn → (z = (r_ : Int) - 1) → (r_ ≤ 4) → (∀ j, SP j < 4096) → (∀ j, LP j < 7) → (∀ j, j < k → SP j = S j ∧ LP j = Lv j) → (SP k = S k) → (∀ t, r_ ≤ t → t < 4 → SP (k + t) = S k + t * 4 ^ (lv k - 1) ∧ LP (k + t) = lv k - 1) → (∀ j, k < j → j < c → SP (j + 3) = S j ∧ LP (j + 3) = Lv j) → ∀ (H : Heap) (locs : List Loc), va_P (dC, dI) vwCl [(h, .inr (10, [v0, v1, v2, v3, v4, v5, v6, v7, v8, v9, v10, .ref aS, .ref aL, .int (nI c), v14, v15, v16, v17, v18, v19, v20, v21, v22, v23, v24, v25, .ref aO, v27, v28])), (aS, .inl (cI, 4096, .inl (nA SP))), (aL, .inl (cI, 4096, .inl (nA LP))), (aO, .inl (cI, 4096, .inl (nA O)))] H → va_D A [(h, .inr (10, [v0, v1, v2, v3, v4, v5, v6, v7, v8, v9, v10, .ref aS, .ref aL, .int (nI c), v14, v15, v16, v17, v18, v19, v20, v21, v22, v23, v24, v25, .ref aO, v27, v28])), (aS, .inl (cI, 4096, .inl (nA SP))), (aL, .inl (cI, 4096, .inl (nA LP))), (aO, .inl (cI, 4096, .inl (nA O)))] → va_S A ss.heap H locs → ∀ ls : Array Slot, lv_has ls 4 [(3, .int (zI z)), (2, .int (nI (lv k - 1))), (0, .ref h), (1, .int (nI k))] → W pp l ee (rmO 1 22) ss mm ([.ref h, .int (nI k)] : List Value).toArray bb mt cd H locs 0 0 Q (F0 mm 57 ls []) := by
          intro nn
          induction nn with
          | zero => intro z r_ SP LP hms57; exact absurd hms57 (Nat.not_lt_zero _)
          | succ nn ih57 =>
            intro z r_ SP LP hms57 hz hr4 hpb hplb hp1_ hpk hp2 hp3 H locs hP hD hS ls hl
            refine lv_iload_n hex hby dX10_quarters_57 rfl (lv_at hl 0 rfl) ?_
            refine ni_if_lt (tgt := 96) (a := z) hex hby dX10_quarters_58 (by decide) (zI_toInt (by omega) (by omega)) (fun c_3 => ?_) (fun c_3 => ?_)
            · have hAG := AG_q hag hk hp1_ (fun t ht => hp2 t (by omega) ht) hp3
              refine lv_aload_n hex hby dX10_quarters_96 rfl (lv_at hl 2 rfl) ?_
              refine lv_dup hex hby dX10_quarters_97 rfl ?_
              refine nv_get (v := .int (nI c)) CFx in_X10_quarters_X10 hK hP 0 rfl rfl 13 (by decide) (List.mem_of_getElem? (i := 1) rfl) rfl dX10_quarters_98 ?_
              refine lv_iconst (v := nI 3) hex hby dX10_quarters_101 rfl ?_
              refine nv_iadd hex hby dX10_quarters_102 ?_
              refine nv_put CFx in_X10_quarters_X10 tyX10 tyX10_ok nmX10 hK hP hD hS 0 rfl rfl 13 (by decide) (List.mem_of_getElem? (i := 1) rfl) rfl (by decide +kernel) (Nat.le_of_ble_eq_true rfl) dX10_quarters_103 (fun H locs hP hD hS => ?_)
              have hP : va_P (dC, dI) vwCl [(h, .inr (10, [v0, v1, v2, v3, v4, v5, v6, v7, v8, v9, v10, .ref aS, .ref aL, .int (nI (c + 3)), v14, v15, v16, v17, v18, v19, v20, v21, v22, v23, v24, v25, .ref aO, v27, v28])), (aS, .inl (cI, 4096, .inl (nA SP))), (aL, .inl (cI, 4096, .inl (nA LP))), (aO, .inl (cI, 4096, .inl (nA O)))] H := hP
              have hD : va_D A [(h, .inr (10, [v0, v1, v2, v3, v4, v5, v6, v7, v8, v9, v10, .ref aS, .ref aL, .int (nI (c + 3)), v14, v15, v16, v17, v18, v19, v20, v21, v22, v23, v24, v25, .ref aO, v27, v28])), (aS, .inl (cI, 4096, .inl (nA SP))), (aL, .inl (cI, 4096, .inl (nA LP))), (aO, .inl (cI, 4096, .inl (nA O)))] := hD
              refine lv_aload_n hex hby dX10_quarters_106 rfl (lv_at hl 2 rfl) ?_
              refine mu_Vv (As := []) (rest := []) (wr := []) CFx (c_X10_maps (h := h) (aS := aS) (aL := aL) (aO := aO) (fs := [v0, v1, v2, v3, v4, v5, v6, v7, v8, v9, v10, .ref aS, .ref aL, .int (nI (c + 3)), v14, v15, v16, v17, v18, v19, v20, v21, v22, v23, v24, v25, .ref aO, v27, v28]) (c := c + 3) (S := SP) (Lv := LP) (O := O) (m := m) (st := dst st lv k) (lv := dlv lv k) rfl rfl rfl rfl hpb hplb hOb hm6 hLn hAG) 0 gX10_quarters_X10_maps rfl nd_X10_maps ⟨Nat.le_of_ble_eq_true rfl, Nat.le_of_ble_eq_true rfl⟩ hK hP hD hS hA [0, 1, 2, 3] [] rfl rfl (by decide) (by decide) (by decide) TR.nil rfl rfl rfl hl.1 rfl (Nat.le_of_ble_eq_true rfl) dX10_quarters_107 ⟨Nat.le_refl _, Nat.le_refl _⟩ (fun u H locs hr_4 hP hD hS => ?_)
              obtain ⟨O_5, rfl⟩ : ∃ z, z = u := ⟨_, rfl⟩
              have hP : va_P (dC, dI) vwCl [(h, .inr (10, [v0, v1, v2, v3, v4, v5, v6, v7, v8, v9, v10, .ref aS, .ref aL, .int (nI (c + 3)), v14, v15, v16, v17, v18, v19, v20, v21, v22, v23, v24, v25, .ref aO, v27, v28])), (aS, .inl (cI, 4096, .inl (nA SP))), (aL, .inl (cI, 4096, .inl (nA LP))), (aO, .inl (cI, 4096, .inl (nA O_5)))] H := hP
              have hD : va_D A [(h, .inr (10, [v0, v1, v2, v3, v4, v5, v6, v7, v8, v9, v10, .ref aS, .ref aL, .int (nI (c + 3)), v14, v15, v16, v17, v18, v19, v20, v21, v22, v23, v24, v25, .ref aO, v27, v28])), (aS, .inl (cI, 4096, .inl (nA SP))), (aL, .inl (cI, 4096, .inl (nA LP))), (aO, .inl (cI, 4096, .inl (nA O_5)))] := hD
              obtain ⟨ho1, ho2⟩ := hr_4
              exact hret _ (SP, LP, O_5) _ _ _ _ _ (Or.inr (Or.inr (Or.inl ⟨rfl, rfl, rfl, dX10_quarters_110⟩))) ⟨rfl, ⟨hAG, ho1, hpb, hplb, ho2⟩⟩ hP hD hS
            · obtain ⟨q, rfl⟩ : ∃ i : Nat, z = (i : Int) := ⟨z.toNat, by omega⟩
              rw [zI_nat] at hl
              have hq3 : q ≤ 3 := by omega
              have hqw : q * 4 ^ (lv k - 1) ≤ 3 * 4 ^ (lv k - 1) := Nat.mul_le_mul_right _ hq3
              have hqs : q * 2 ^ (2 * (lv k - 1)) ≤ 3 * 4 ^ (lv k - 1) := by rw [h24]; exact hqw
              refine lv_aload_n hex hby dX10_quarters_61 rfl (lv_at hl 2 rfl) ?_
              refine nv_get (v := .ref aS) CFx in_X10_quarters_X10 hK hP 0 rfl rfl 11 (by decide) (List.mem_of_getElem? (i := 2) rfl) rfl dX10_quarters_62 ?_
              refine lv_iload_n hex hby dX10_quarters_65 rfl (lv_at hl 3 rfl) ?_
              refine lv_iload_n hex hby dX10_quarters_66 rfl (lv_at hl 0 rfl) ?_
              refine nv_iadd hex hby dX10_quarters_67 ?_
              refine lv_aload_n hex hby dX10_quarters_68 rfl (lv_at hl 2 rfl) ?_
              refine nv_get (v := .ref aS) CFx in_X10_quarters_X10 hK hP 0 rfl rfl 11 (by decide) (List.mem_of_getElem? (i := 2) rfl) rfl dX10_quarters_69 ?_
              refine lv_iload_n hex hby dX10_quarters_72 rfl (lv_at hl 3 rfl) ?_
              refine nv_iald hex hby hK hP 1 0 rfl rfl (by omega) (by omega) dX10_quarters_73 ?_
              have hb_6 := hpb k
              refine lv_iload_n hex hby dX10_quarters_74 rfl (lv_at hl 0 rfl) ?_
              refine lv_iconst (v := nI 2) hex hby dX10_quarters_75 rfl ?_
              refine lv_iload_n hex hby dX10_quarters_76 rfl (lv_at hl 1 rfl) ?_
              refine nv_imul hex hby dX10_quarters_77 ?_
              refine nv_ishl hex hby dX10_quarters_78 (by omega) (by omega) ?_
              refine nv_top (y := nI (q * 4 ^ (lv k - 1))) (congrArg nI (by rw [h24])) ?_
              refine nv_iadd hex hby dX10_quarters_79 ?_
              refine nv_iast hex hby hK hP hD hS 1 0 rfl rfl (by omega) (by omega) dX10_quarters_80 (fun H locs hP hD hS => ?_)
              have hP : va_P (dC, dI) vwCl [(h, .inr (10, [v0, v1, v2, v3, v4, v5, v6, v7, v8, v9, v10, .ref aS, .ref aL, .int (nI c), v14, v15, v16, v17, v18, v19, v20, v21, v22, v23, v24, v25, .ref aO, v27, v28])), (aS, .inl (cI, 4096, .inl (nA (upN SP (k + q) (SP k + q * 4 ^ (lv k - 1)))))), (aL, .inl (cI, 4096, .inl (nA LP))), (aO, .inl (cI, 4096, .inl (nA O)))] H := hP
              have hD : va_D A [(h, .inr (10, [v0, v1, v2, v3, v4, v5, v6, v7, v8, v9, v10, .ref aS, .ref aL, .int (nI c), v14, v15, v16, v17, v18, v19, v20, v21, v22, v23, v24, v25, .ref aO, v27, v28])), (aS, .inl (cI, 4096, .inl (nA (upN SP (k + q) (SP k + q * 4 ^ (lv k - 1)))))), (aL, .inl (cI, 4096, .inl (nA LP))), (aO, .inl (cI, 4096, .inl (nA O)))] := hD
              have hB_7 := upN_lt (k := k + q) (x := SP k + q * 4 ^ (lv k - 1)) hpb (by omega)
              refine lv_aload_n hex hby dX10_quarters_81 rfl (lv_at hl 2 rfl) ?_
              refine nv_get (v := .ref aL) CFx in_X10_quarters_X10 hK hP 0 rfl rfl 12 (by decide) (List.mem_of_getElem? (i := 3) rfl) rfl dX10_quarters_82 ?_
              refine lv_iload_n hex hby dX10_quarters_85 rfl (lv_at hl 3 rfl) ?_
              refine lv_iload_n hex hby dX10_quarters_86 rfl (lv_at hl 0 rfl) ?_
              refine nv_iadd hex hby dX10_quarters_87 ?_
              refine lv_iload_n hex hby dX10_quarters_88 rfl (lv_at hl 1 rfl) ?_
              refine nv_iast hex hby hK hP hD hS 2 0 rfl rfl (by omega) (by omega) dX10_quarters_89 (fun H locs hP hD hS => ?_)
              have hP : va_P (dC, dI) vwCl [(h, .inr (10, [v0, v1, v2, v3, v4, v5, v6, v7, v8, v9, v10, .ref aS, .ref aL, .int (nI c), v14, v15, v16, v17, v18, v19, v20, v21, v22, v23, v24, v25, .ref aO, v27, v28])), (aS, .inl (cI, 4096, .inl (nA (upN SP (k + q) (SP k + q * 4 ^ (lv k - 1)))))), (aL, .inl (cI, 4096, .inl (nA (upN LP (k + q) (lv k - 1))))), (aO, .inl (cI, 4096, .inl (nA O)))] H := hP
              have hD : va_D A [(h, .inr (10, [v0, v1, v2, v3, v4, v5, v6, v7, v8, v9, v10, .ref aS, .ref aL, .int (nI c), v14, v15, v16, v17, v18, v19, v20, v21, v22, v23, v24, v25, .ref aO, v27, v28])), (aS, .inl (cI, 4096, .inl (nA (upN SP (k + q) (SP k + q * 4 ^ (lv k - 1)))))), (aL, .inl (cI, 4096, .inl (nA (upN LP (k + q) (lv k - 1))))), (aO, .inl (cI, 4096, .inl (nA O)))] := hD
              have hB_8 := upN_lt (k := k + q) (x := lv k - 1) hplb (by omega)
              refine lv_iinc (v := zI ((q : Int) - 1)) (lv' := [(3, .int (zI ((q : Int) - 1))), (2, .int (nI (lv k - 1))), (0, .ref h), (1, .int (nI k))]) hex hby dX10_quarters_90 hl (k := 0) rfl (by rw [ni_nz]; exact ni_decz _) (by decide) rfl (fun ls hl => ?_)
              refine lv_goto (tgt := 57) hex hby dX10_quarters_93 (by decide) ?_
              have pf_9 : (upN SP (k + q) (SP k + q * 4 ^ (lv k - 1))) k = S k := by
                rcases Nat.eq_zero_or_pos q with y | y
                · rw [y, Nat.add_zero, Nat.zero_mul, Nat.add_zero, upN_s]; exact hpk
                · rw [upN_n (by omega)]; exact hpk
              have pf_10 : ∀ t, q ≤ t → t < 4 → (upN SP (k + q) (SP k + q * 4 ^ (lv k - 1))) (k + t) = S k + t * 4 ^ (lv k - 1) ∧ (upN LP (k + q) (lv k - 1)) (k + t) = lv k - 1 := by
                intro t h1 h2
                rcases Nat.lt_or_ge q t with y | y
                · rw [upN_n (by omega), upN_n (by omega)]; exact hp2 t (by omega) h2
                · rw [show t = q by omega, upN_s, upN_s, hpk]; exact ⟨rfl, rfl⟩
              exact ih57 ((q : Int) - 1) q (upN SP (k + q) (SP k + q * 4 ^ (lv k - 1))) (upN LP (k + q) (lv k - 1)) (by omega) (by omega) (by omega) hB_7 hB_8 (fun j hj => by rw [upN_n (by omega), upN_n (by omega)]; exact hp1_ j hj) pf_9 pf_10 (fun j h1 h2 => by rw [upN_n (by omega), upN_n (by omega)]; exact hp3 j h1 h2) _ _ hP hD hS _ (lv_sub hl [0, 1, 2, 3] rfl)
        exact loop57 _ (3 : Int) 4 SS LL (Nat.lt_succ_self _) (by omega) (by omega) hsb hlb (fun j hj => hlo j (by omega)) ((hlo k hik).1) (fun t h1 h2 => absurd h1 (by omega)) (fun j h1 h2 => hhi j (by omega) h2) _ _ hP hD hS _ (lv_sub hl [0, 1, 2, 3] rfl)
      · have hsi := hSb i
        have hli := hLb i
        refine lv_aload_n hex hby dX10_quarters_12 rfl (lv_at hl 1 rfl) ?_
        refine nv_get (v := .ref aS) CFx in_X10_quarters_X10 hK hP 0 rfl rfl 11 (by decide) (List.mem_of_getElem? (i := 2) rfl) rfl dX10_quarters_13 ?_
        refine lv_iload_n hex hby dX10_quarters_16 rfl (lv_at hl 0 rfl) ?_
        refine lv_iconst (v := nI 3) hex hby dX10_quarters_17 rfl ?_
        refine nv_iadd hex hby dX10_quarters_18 ?_
        refine lv_aload_n hex hby dX10_quarters_19 rfl (lv_at hl 1 rfl) ?_
        refine nv_get (v := .ref aS) CFx in_X10_quarters_X10 hK hP 0 rfl rfl 11 (by decide) (List.mem_of_getElem? (i := 2) rfl) rfl dX10_quarters_20 ?_
        refine lv_iload_n hex hby dX10_quarters_23 rfl (lv_at hl 0 rfl) ?_
        refine nv_iald hex hby hK hP 1 0 rfl rfl (by omega) (by omega) dX10_quarters_24 ?_
        have hb_11 := hsb i
        refine nv_iast hex hby hK hP hD hS 1 0 rfl rfl (by omega) (by omega) dX10_quarters_25 (fun H locs hP hD hS => ?_)
        have hP : va_P (dC, dI) vwCl [(h, .inr (10, [v0, v1, v2, v3, v4, v5, v6, v7, v8, v9, v10, .ref aS, .ref aL, .int (nI c), v14, v15, v16, v17, v18, v19, v20, v21, v22, v23, v24, v25, .ref aO, v27, v28])), (aS, .inl (cI, 4096, .inl (nA (upN SS (i + 3) (SS i))))), (aL, .inl (cI, 4096, .inl (nA LL))), (aO, .inl (cI, 4096, .inl (nA O)))] H := hP
        have hD : va_D A [(h, .inr (10, [v0, v1, v2, v3, v4, v5, v6, v7, v8, v9, v10, .ref aS, .ref aL, .int (nI c), v14, v15, v16, v17, v18, v19, v20, v21, v22, v23, v24, v25, .ref aO, v27, v28])), (aS, .inl (cI, 4096, .inl (nA (upN SS (i + 3) (SS i))))), (aL, .inl (cI, 4096, .inl (nA LL))), (aO, .inl (cI, 4096, .inl (nA O)))] := hD
        have hB_12 := upN_lt (k := i + 3) (x := SS i) hsb (by omega)
        refine lv_aload_n hex hby dX10_quarters_26 rfl (lv_at hl 1 rfl) ?_
        refine nv_get (v := .ref aL) CFx in_X10_quarters_X10 hK hP 0 rfl rfl 12 (by decide) (List.mem_of_getElem? (i := 3) rfl) rfl dX10_quarters_27 ?_
        refine lv_iload_n hex hby dX10_quarters_30 rfl (lv_at hl 0 rfl) ?_
        refine lv_iconst (v := nI 3) hex hby dX10_quarters_31 rfl ?_
        refine nv_iadd hex hby dX10_quarters_32 ?_
        refine lv_aload_n hex hby dX10_quarters_33 rfl (lv_at hl 1 rfl) ?_
        refine nv_get (v := .ref aL) CFx in_X10_quarters_X10 hK hP 0 rfl rfl 12 (by decide) (List.mem_of_getElem? (i := 3) rfl) rfl dX10_quarters_34 ?_
        refine lv_iload_n hex hby dX10_quarters_37 rfl (lv_at hl 0 rfl) ?_
        refine nv_iald hex hby hK hP 2 0 rfl rfl (by omega) (by omega) dX10_quarters_38 ?_
        have hb_13 := hlb i
        refine nv_iast hex hby hK hP hD hS 2 0 rfl rfl (by omega) (by omega) dX10_quarters_39 (fun H locs hP hD hS => ?_)
        have hP : va_P (dC, dI) vwCl [(h, .inr (10, [v0, v1, v2, v3, v4, v5, v6, v7, v8, v9, v10, .ref aS, .ref aL, .int (nI c), v14, v15, v16, v17, v18, v19, v20, v21, v22, v23, v24, v25, .ref aO, v27, v28])), (aS, .inl (cI, 4096, .inl (nA (upN SS (i + 3) (SS i))))), (aL, .inl (cI, 4096, .inl (nA (upN LL (i + 3) (LL i))))), (aO, .inl (cI, 4096, .inl (nA O)))] H := hP
        have hD : va_D A [(h, .inr (10, [v0, v1, v2, v3, v4, v5, v6, v7, v8, v9, v10, .ref aS, .ref aL, .int (nI c), v14, v15, v16, v17, v18, v19, v20, v21, v22, v23, v24, v25, .ref aO, v27, v28])), (aS, .inl (cI, 4096, .inl (nA (upN SS (i + 3) (SS i))))), (aL, .inl (cI, 4096, .inl (nA (upN LL (i + 3) (LL i))))), (aO, .inl (cI, 4096, .inl (nA O)))] := hD
        have hB_14 := upN_lt (k := i + 3) (x := LL i) hlb (by omega)
        refine lv_iinc (v := nI (i - 1)) (lv' := [(2, .int (nI (i - 1))), (0, .ref h), (1, .int (nI k))]) hex hby dX10_quarters_40 hl (k := 0) rfl (ni_dec (by omega)) (by decide) rfl (fun ls hl => ?_)
        refine lv_goto (tgt := 7) hex hby dX10_quarters_43 (by decide) ?_
        have pf_15 : ∀ j, (i - 1) < j → j < c → (upN SS (i + 3) (SS i)) (j + 3) = S j ∧ (upN LL (i + 3) (LL i)) (j + 3) = Lv j := by
          intro j h1 h2
          rcases Nat.lt_or_ge i j with q | q
          · rw [upN_n (by omega), upN_n (by omega)]; exact hhi j q h2
          · rw [show j = i by omega, upN_s, upN_s]; exact hlo i (Nat.le_refl _)
        exact ih7 (i - 1) (upN SS (i + 3) (SS i)) (upN LL (i + 3) (LL i)) (by omega) (by omega) (by omega) hB_12 hB_14 (fun j hj => by rw [upN_n (by omega), upN_n (by omega)]; exact hlo j (by omega)) pf_15 _ _ hP hD hS _ (lv_sub hl [0, 1, 2] rfl)
  exact loop7 _ (c - 1) S Lv (Nat.lt_succ_self _) (by omega) (by omega) hSb hLb (fun _ _ => ⟨rfl, rfl⟩) (fun j h1 h2 => absurd h1 (by omega)) _ _ hP hD hS _ (lv_sub hl [0, 1, 2] rfl)
theorem nd_X10_balance : ndV yX10_balance RX10 0 := by decide +kernel
theorem in_X10_balance_X10 : ∀ w ∈ wsX100, w ∈ wsX10_balance := fun _ h => List.mem_cons_of_mem _ (List.mem_append_right _ (h))
set_option maxHeartbeats 4000000 in
set_option maxRecDepth 100000 in
theorem c_X10_balance {h : Nat} {aB : Nat} {aC : Nat} {aI : Nat} {aS : Nat} {aL : Nat} {aO : Nat} {m : Nat} {v1 : Value} {v2 : Value} {v3 : Value} {v4 : Value} {v5 : Value} {v6 : Value} {v7 : Value} {v8 : Value} {v9 : Value} {v10 : Value} {c : Nat} {v14 : Value} {v15 : Value} {v16 : Value} {v17 : Value} {v18 : Value} {v19 : Value} {v20 : Value} {v23 : Value} {v24 : Value} {v25 : Value} {bs : Nat} {f : Nat → Nat} {g : Nat → Nat} {ix : Nat → Nat} {S : Nat → Nat} {Lv : Nat → Nat} {O : Nat → Nat} {T : Nat → Nat} {ns : Nat} {st : Nat → Nat} {lv : Nat → Nat} (hfb : ∀ j, f j < 4096) (hg : ∀ j, g j < 4096) (hSb : ∀ j, S j < 4096) (hLb : ∀ j, Lv j < 7) (hgc : ∀ i, i < 4 ^ m → g i = cvc T m i) (hV : VT T ns) (hL : LvL m c st lv) (hag : AG c st lv S Lv) (hm6 : m ≤ 6) (hix : ∀ j, ix j < 4096) (hOb : ∀ j, O j < 4096) (hN : NumOK T m g ix) (hO : LfOK c st O) : MU l yX10_balance wsX10_balance 4 96 (dC, dI) (tyK cI cZ cS) [(h, .inr (10, [.int (nI m), v1, v2, v3, v4, v5, v6, v7, v8, v9, v10, .ref aS, .ref aL, .int (nI c), v14, v15, v16, v17, v18, v19, v20, .ref aI, .ref aC, v23, v24, v25, .ref aO, .ref aB, .int (nI bs)])), (aB, .inl (cI, 64, .inl (nA f))), (aC, .inl (cI, 4096, .inl (nA g))), (aI, .inl (cI, 4096, .inl (nA ix))), (aS, .inl (cI, 4096, .inl (nA S))), (aL, .inl (cI, 4096, .inl (nA Lv))), (aO, .inl (cI, 4096, .inl (nA O)))] [] [.ref h] (fun rv_ (u_ : Nat × (Nat → Nat) × Nat × (Nat → Nat) × (Nat → Nat) × (Nat → Nat)) => rI (fun r => ∃ n : Nat, ∃ st' : Nat → Nat, ∃ lv' : Nat → Nat, r = nI n ∧ BalN T m n c st lv u_.2.2.1 st' lv' ∧ LvL m u_.2.2.1 st' lv' ∧ AG u_.2.2.1 st' lv' u_.2.2.2.1 u_.2.2.2.2.1 ∧ LfOK u_.2.2.1 st' u_.2.2.2.2.2 ∧ (∀ j, u_.2.2.2.1 j < 4096) ∧ (∀ j, u_.2.2.2.2.1 j < 7) ∧ (∀ j, u_.2.2.2.2.2 j < 4096) ∧ (∀ j, u_.2.1 j < 4096)) rv_) (fun (u_ : Nat × (Nat → Nat) × Nat × (Nat → Nat) × (Nat → Nat) × (Nat → Nat)) => [(h, .inr (10, [.int (nI m), v1, v2, v3, v4, v5, v6, v7, v8, v9, v10, .ref aS, .ref aL, .int (nI u_.2.2.1), v14, v15, v16, v17, v18, v19, v20, .ref aI, .ref aC, v23, v24, v25, .ref aO, .ref aB, .int (nI u_.1)])), (aB, .inl (cI, 64, .inl (nA u_.2.1))), (aC, .inl (cI, 4096, .inl (nA g))), (aI, .inl (cI, 4096, .inl (nA ix))), (aS, .inl (cI, 4096, .inl (nA u_.2.2.2.1))), (aL, .inl (cI, 4096, .inl (nA u_.2.2.2.2.1))), (aO, .inl (cI, 4096, .inl (nA u_.2.2.2.2.2)))]) := by
  refine mu_of (by decide) rfl (Nat.le_of_ble_eq_true rfl) ?_
  intro pp ee ss mm bb mt cd Q A CFx hP hK hD hS hA hTr hret ls hl
  obtain ⟨hex, hby, hml, hown, hts⟩ := id CFx
  have hl : lv_has ls 3 [(0, .ref h)] := hl
  have h46 := p4_6 hm6
  refine lv_iconst (v := nI 0) hex hby dX10_balance_0 rfl ?_
  refine lv_istore_n (lv' := [(1, .int (nI 0)), (0, .ref h)]) hex hby dX10_balance_1 rfl hl (by decide) rfl (fun ls hl => ?_)
  refine lv_iconst (v := nI 0) hex hby dX10_balance_2 rfl ?_
  refine lv_istore_n (lv' := [(2, .int (nI 0)), (1, .int (nI 0)), (0, .ref h)]) hex hby dX10_balance_3 rfl hl (by decide) rfl (fun ls hl => ?_)
  have loop4 : ∀ (nn : Nat) (n : Nat) (k : Nat) (c1 : Nat) (SS : Nat → Nat) (LL : Nat → Nat) (OO : Nat → Nat) (b2 : Nat) (f2 : Nat → Nat) (st1 : Nat → Nat) (lv1 : Nat → Nat), ((4096 - c1) * 4097 + (c1 - k)) < nn → (∀ N2 c2 st2 lv2, BalN T m N2 c1 st1 lv1 c2 st2 lv2 → BalN T m (n + N2) c st lv c2 st2 lv2) → (LvL m c1 st1 lv1) → (AG c1 st1 lv1 SS LL) → (LfOK c1 st1 OO) → (∀ j, SS j < 4096) → (∀ j, LL j < 7) → (∀ j, OO j < 4096) → (∀ j, f2 j < 4096) → (∀ j, j < k → ¬ TLf T m c1 st1 lv1 j) → (k ≤ c1) → ∀ (H : Heap) (locs : List Loc), va_P (dC, dI) vwCl [(h, .inr (10, [.int (nI m), v1, v2, v3, v4, v5, v6, v7, v8, v9, v10, .ref aS, .ref aL, .int (nI c1), v14, v15, v16, v17, v18, v19, v20, .ref aI, .ref aC, v23, v24, v25, .ref aO, .ref aB, .int (nI b2)])), (aB, .inl (cI, 64, .inl (nA f2))), (aC, .inl (cI, 4096, .inl (nA g))), (aI, .inl (cI, 4096, .inl (nA ix))), (aS, .inl (cI, 4096, .inl (nA SS))), (aL, .inl (cI, 4096, .inl (nA LL))), (aO, .inl (cI, 4096, .inl (nA OO)))] H → va_D A [(h, .inr (10, [.int (nI m), v1, v2, v3, v4, v5, v6, v7, v8, v9, v10, .ref aS, .ref aL, .int (nI c1), v14, v15, v16, v17, v18, v19, v20, .ref aI, .ref aC, v23, v24, v25, .ref aO, .ref aB, .int (nI b2)])), (aB, .inl (cI, 64, .inl (nA f2))), (aC, .inl (cI, 4096, .inl (nA g))), (aI, .inl (cI, 4096, .inl (nA ix))), (aS, .inl (cI, 4096, .inl (nA SS))), (aL, .inl (cI, 4096, .inl (nA LL))), (aO, .inl (cI, 4096, .inl (nA OO)))] → va_S A ss.heap H locs → ∀ ls : Array Slot, lv_has ls 3 [(2, .int (nI k)), (1, .int (nI n)), (0, .ref h)] → W pp l ee (rmO 4 96) ss mm ([.ref h] : List Value).toArray bb mt cd H locs 0 0 Q (F0 mm 4 ls []) := by
    intro nn
    induction nn with
    | zero => intro n k c1 SS LL OO b2 f2 st1 lv1 hms4; exact absurd hms4 (Nat.not_lt_zero _)
    | succ nn ih4 =>
      intro n k c1 SS LL OO b2 f2 st1 lv1 hms4 hBal hL1 hag1 hO1 hsb hlb hob hf2 hlow hkc H locs hP hD hS ls hl
      have hcle := hL1.le (Nat.le_refl c1)
      have hctop := hL1.2.2.1
      refine lv_iload_n hex hby dX10_balance_4 rfl (lv_at hl 0 rfl) ?_
      refine lv_aload_n hex hby dX10_balance_5 rfl (lv_at hl 2 rfl) ?_
      refine nv_get (v := .int (nI c1)) CFx in_X10_balance_X10 hK hP 0 rfl rfl 13 (by decide) (List.mem_of_getElem? (i := 1) rfl) rfl dX10_balance_6 ?_
      refine nv_icmp_ge (tgt := 39) hex hby dX10_balance_9 (by decide) (by omega) (by omega) (fun c_1 => ?_) (fun c_1 => ?_)
      · refine lv_iload_n hex hby dX10_balance_39 rfl (lv_at hl 1 rfl) ?_
        have pf_2 : BalN T m n c st lv c1 st1 lv1 := by
          skip
          exact hBal 0 c1 st1 lv1 ⟨fun k hk => hlow k (by omega), rfl, rfl, rfl⟩
        exact hret _ (b2, f2, c1, SS, LL, OO) _ _ _ _ _ (Or.inl ⟨rfl, _, rfl, rfl, dX10_balance_40⟩) ⟨_, rfl, ⟨n, st1, lv1, rfl, pf_2, hL1, hag1, hO1, hsb, hlb, hob, hf2⟩⟩ hP hD hS
      · refine lv_aload_n hex hby dX10_balance_12 rfl (lv_at hl 2 rfl) ?_
        refine lv_iload_n hex hby dX10_balance_13 rfl (lv_at hl 0 rfl) ?_
        refine mu_Vi (As := [.int (nI k)]) (rest := []) (wr := []) CFx (c_X10_isUnlike (h := h) (aB := aB) (aC := aC) (aI := aI) (aS := aS) (aL := aL) (aO := aO) (m := m) (v1 := v1) (v2 := v2) (v3 := v3) (v4 := v4) (v5 := v5) (v6 := v6) (v7 := v7) (v8 := v8) (v9 := v9) (v10 := v10) (v13 := .int (nI c1)) (v14 := v14) (v15 := v15) (v16 := v16) (v17 := v17) (v18 := v18) (v19 := v19) (v20 := v20) (v23 := v23) (v24 := v24) (v25 := v25) (bs := b2) (f := f2) (g := g) (ix := ix) (S := SS) (Lv := LL) (O := OO) (k := k) (T := T) (ns := ns) (st := st1) (lv := lv1) (c := c1) hf2 hg hsb hlb hgc hV hL1 hag1 hm6 (by omega) hix hob hN hO1) 1 gX10_balance_X10_isUnlike rfl nd_X10_isUnlike ⟨Nat.le_of_ble_eq_true rfl, Nat.le_of_ble_eq_true rfl⟩ hK hP hD hS hA [0, 1, 2, 3, 4, 5, 6] [] rfl rfl (by decide) (by decide) (by decide) TR.nil rfl rfl rfl hl.1 rfl (Nat.le_of_ble_eq_true rfl) dX10_balance_14 ⟨Nat.le_refl _, Nat.le_refl _⟩ (fun r_3 u H locs hr_3 hP hD hS => ?_)
        obtain ⟨b1, f1⟩ := u
        dsimp only at hr_3 hP hD
        have hP : va_P (dC, dI) vwCl [(h, .inr (10, [.int (nI m), v1, v2, v3, v4, v5, v6, v7, v8, v9, v10, .ref aS, .ref aL, .int (nI c1), v14, v15, v16, v17, v18, v19, v20, .ref aI, .ref aC, v23, v24, v25, .ref aO, .ref aB, .int (nI b1)])), (aB, .inl (cI, 64, .inl (nA f1))), (aC, .inl (cI, 4096, .inl (nA g))), (aI, .inl (cI, 4096, .inl (nA ix))), (aS, .inl (cI, 4096, .inl (nA SS))), (aL, .inl (cI, 4096, .inl (nA LL))), (aO, .inl (cI, 4096, .inl (nA OO)))] H := hP
        have hD : va_D A [(h, .inr (10, [.int (nI m), v1, v2, v3, v4, v5, v6, v7, v8, v9, v10, .ref aS, .ref aL, .int (nI c1), v14, v15, v16, v17, v18, v19, v20, .ref aI, .ref aC, v23, v24, v25, .ref aO, .ref aB, .int (nI b1)])), (aB, .inl (cI, 64, .inl (nA f1))), (aC, .inl (cI, 4096, .inl (nA g))), (aI, .inl (cI, 4096, .inl (nA ix))), (aS, .inl (cI, 4096, .inl (nA SS))), (aL, .inl (cI, 4096, .inl (nA LL))), (aO, .inl (cI, 4096, .inl (nA OO)))] := hD
        rcases hr_3 with ⟨rfl, htl, hfb1⟩ | ⟨rfl, hntl, hfb1⟩
        · have hl2 := TL_lv htl
          have hLn := hL1.div (k := k) (by omega) (by omega)
          have hLnc := hLn.le (Nat.le_refl (c1 + 3))
          have hLnt := hLn.2.2.1
          refine nv_if_eq (tgt := 33) hex hby dX10_balance_17 (by decide) (by omega) (fun c => absurd c (by omega)) (fun _ => ?_)
          refine lv_aload_n hex hby dX10_balance_20 rfl (lv_at hl 2 rfl) ?_
          refine lv_iload_n hex hby dX10_balance_21 rfl (lv_at hl 0 rfl) ?_
          refine mu_Vv (As := [.int (nI k)]) (rest := []) (wr := [(aB, .inl (cI, 64, .inl (nA f1))), (aC, .inl (cI, 4096, .inl (nA g))), (aI, .inl (cI, 4096, .inl (nA ix)))]) CFx (c_X10_quarters (h := h) (aS := aS) (aL := aL) (aO := aO) (v0 := .int (nI m)) (v1 := v1) (v2 := v2) (v3 := v3) (v4 := v4) (v5 := v5) (v6 := v6) (v7 := v7) (v8 := v8) (v9 := v9) (v10 := v10) (c := c1) (v14 := v14) (v15 := v15) (v16 := v16) (v17 := v17) (v18 := v18) (v19 := v19) (v20 := v20) (v21 := .ref aI) (v22 := .ref aC) (v23 := v23) (v24 := v24) (v25 := v25) (v27 := .ref aB) (v28 := .int (nI b1)) (S := SS) (Lv := LL) (O := OO) (k := k) (m := m) (st := st1) (lv := lv1) hsb hlb hob hm6 hL1 hag1 (by omega) (by omega)) 1 gX10_balance_X10_quarters rfl nd_X10_quarters ⟨Nat.le_of_ble_eq_true rfl, Nat.le_of_ble_eq_true rfl⟩ hK hP hD hS hA [0, 4, 5, 6] [1, 2, 3] rfl rfl (by decide) (by decide) (by decide) TR.nil rfl rfl rfl hl.1 rfl (Nat.le_of_ble_eq_true rfl) dX10_balance_22 ⟨Nat.le_refl _, Nat.le_refl _⟩ (fun u H locs hr_6 hP hD hS => ?_)
          obtain ⟨Sq, Lq, Oq⟩ := u
          dsimp only at hr_6 hP hD
          have hP : va_P (dC, dI) vwCl [(aB, .inl (cI, 64, .inl (nA f1))), (aC, .inl (cI, 4096, .inl (nA g))), (aI, .inl (cI, 4096, .inl (nA ix))), (h, .inr (10, [.int (nI m), v1, v2, v3, v4, v5, v6, v7, v8, v9, v10, .ref aS, .ref aL, .int (nI (c1 + 3)), v14, v15, v16, v17, v18, v19, v20, .ref aI, .ref aC, v23, v24, v25, .ref aO, .ref aB, .int (nI b1)])), (aS, .inl (cI, 4096, .inl (nA Sq))), (aL, .inl (cI, 4096, .inl (nA Lq))), (aO, .inl (cI, 4096, .inl (nA Oq)))] H := hP
          have hD : va_D A [(aB, .inl (cI, 64, .inl (nA f1))), (aC, .inl (cI, 4096, .inl (nA g))), (aI, .inl (cI, 4096, .inl (nA ix))), (h, .inr (10, [.int (nI m), v1, v2, v3, v4, v5, v6, v7, v8, v9, v10, .ref aS, .ref aL, .int (nI (c1 + 3)), v14, v15, v16, v17, v18, v19, v20, .ref aI, .ref aC, v23, v24, v25, .ref aO, .ref aB, .int (nI b1)])), (aS, .inl (cI, 4096, .inl (nA Sq))), (aL, .inl (cI, 4096, .inl (nA Lq))), (aO, .inl (cI, 4096, .inl (nA Oq)))] := hD
          obtain ⟨hq0, hq1, hq2, hq3, hq4⟩ := hr_6
          refine lv_iinc (v := nI (n + 1)) (lv' := [(1, .int (nI (n + 1))), (2, .int (nI k)), (0, .ref h)]) hex hby dX10_balance_25 hl (k := 1) rfl (ni_inc _) (by decide) rfl (fun ls hl => ?_)
          refine lv_iconst (v := nI 0) hex hby dX10_balance_28 rfl ?_
          refine lv_istore_n (lv' := [(2, .int (nI 0)), (1, .int (nI (n + 1))), (0, .ref h)]) hex hby dX10_balance_29 rfl hl (by decide) rfl (fun ls hl => ?_)
          refine lv_goto (tgt := 4) hex hby dX10_balance_30 (by decide) ?_
          exact ih4 (n + 1) 0 (c1 + 3) Sq Lq Oq b1 f1 (dst st1 lv1 k) (dlv lv1 k) (by omega) (fun N2 c2 st2 lv2 h => by rw [show n + 1 + N2 = n + (N2 + 1) by omega]; exact hBal (N2 + 1) c2 st2 lv2 ⟨k, by omega, htl, hlow, h⟩) hLn hq0 hq1 hq2 hq3 hq4 hfb1 (fun j h => absurd h (by omega)) (by omega) _ _ (hP.sub [3, 0, 1, 2, 4, 5, 6] rfl) (hD.sub [3, 0, 1, 2, 4, 5, 6] (by decide) rfl) hS _ (lv_sub hl [0, 1, 2] rfl)
        · refine nv_if_eq (tgt := 33) hex hby dX10_balance_17 (by decide) (by omega) (fun _ => ?_) (fun c => absurd c (by omega))
          refine lv_iinc (v := nI (k + 1)) (lv' := [(2, .int (nI (k + 1))), (1, .int (nI n)), (0, .ref h)]) hex hby dX10_balance_33 hl (k := 0) rfl (ni_inc _) (by decide) rfl (fun ls hl => ?_)
          refine lv_goto (tgt := 4) hex hby dX10_balance_36 (by decide) ?_
          have pf_10 : ∀ j, j < (k + 1) → ¬ TLf T m c1 st1 lv1 j := by
            intro j h
            rcases Nat.lt_or_ge j k with q | q
            · exact hlow j q
            · rw [show j = k by omega]; exact hntl
          exact ih4 n (k + 1) c1 SS LL OO b1 f1 st1 lv1 (by omega) hBal hL1 hag1 hO1 hsb hlb hob hfb1 pf_10 (by omega) _ _ hP hD hS _ (lv_sub hl [0, 1, 2] rfl)
  exact loop4 _ 0 0 c S Lv O bs f st lv (Nat.lt_succ_self _) (fun N2 c2 st2 lv2 h => by rw [Nat.zero_add]; exact h) hL hag hO hSb hLb hOb hfb (fun j h => absurd h (by omega)) (by omega) _ _ hP hD hS _ (lv_sub hl [0, 1, 2] rfl)
end MBAL
