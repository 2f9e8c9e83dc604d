section MNB
variable {l : Launch} {dC : Nat → ClassId} {dI : Nat → Nat → Nat} {cI cZ cS : ClassId}
def HasV (f : Nat → Nat) (j v : Nat) : Prop := ∃ a, a < j ∧ f a = v
theorem fnd_one {T : Nat → Nat} {n m c : Nat} {st lv : Nat → Nat} (hV : VT T n) (hL : LvL m c st lv) {s k v t : Nat} (hk : k < c) (hv : v < c) (hb : byd T m st lv s k) (ht : t < 2 ^ lv k) (hin : inLf T m st lv v (bcx T m st lv s k t) (bcy T m st lv s k t)) (w : Nat) : (byd T m st lv s k ∧ FndT T m c st lv s k (t + 1) w) ↔ ((byd T m st lv s k ∧ FndT T m c st lv s k t w) ∨ w = v) := by
  constructor
  · rintro ⟨_, w1, j, j1, j2, j3⟩
    rcases Nat.lt_or_ge j t with z | z
    · exact Or.inl ⟨hb, w1, j, z, j2, j3⟩
    · right
      have e : j = t := by omega
      subst e
      have hg := bc_in hV hL hk hb j2
      exact inLf.uniq hV hL w1 hv hg.1 hg.2 j3 hin
  · rintro (⟨_, w1, j, j1, j2, j3⟩ | e)
    · exact ⟨hb, w1, j, by omega, j2, j3⟩
    · subst e; exact ⟨hb, hv, t, by omega, ht, hin⟩
theorem lx_eq {T : Nat → Nat} {m k : Nat} {st lv : Nat → Nat} {x : Nat} (h : x = cvx T m (st k)) : x / 2 ^ lv k * 2 ^ lv k = lxv T m st lv k := by rw [h]; rfl
theorem ly_eq {T : Nat → Nat} {m k : Nat} {st lv : Nat → Nat} {y : Nat} (h : y = cvy T m (st k)) : y / 2 ^ lv k * 2 ^ lv k = lyv T m st lv k := by rw [h]; rfl
theorem nd_X10_leftOf : ndV yX10_leftOf RX10 1 := by decide +kernel
theorem in_X10_leftOf_X10 : ∀ w ∈ wsX100, w ∈ wsX10_leftOf := fun _ h => List.mem_cons_of_mem _ (List.mem_append_right _ (h))
set_option maxHeartbeats 4000000 in
set_option maxRecDepth 100000 in
theorem c_X10_leftOf {h : Nat} {aC : Nat} {aS : Nat} {aL : Nat} {fs : List Value} {g : Nat → Nat} {S : Nat → Nat} {Lv : Nat → Nat} {k : Nat} {m : Nat} {T : Nat → Nat} {ns : Nat} {st : Nat → Nat} {lv : Nat → Nat} {c : Nat} (f_starts : fs[11]? = some (.ref aS)) (f_levels : fs[12]? = some (.ref aL)) (f_cellOf : fs[22]? = some (.ref aC)) (hg : ∀ j, g j < 4096) (hSb : ∀ j, S j < 4096) (hLb : ∀ j, Lv j < 7) (hgc : ∀ i, i < 4 ^ m → g i = cvc T m i) (hV : VT T ns) (hL : LvL m c st lv) (hag : AG c st lv S Lv) (hm6 : m ≤ 6) (hk : k < c) : RO l yX10_leftOf wsX10_leftOf 0 0 (dC, dI) (tyK cI cZ cS) [(h, .inr (10, fs)), (aC, .inl (cI, 4096, .inl (nA g))), (aS, .inl (cI, 4096, .inl (nA S))), (aL, .inl (cI, 4096, .inl (nA Lv)))] [.ref h, .int (nI k)] (rI (fun r => r = nI (lxv T m st lv k))) := by
  refine ro_of (by decide) rfl (Nat.le_of_ble_eq_true rfl) ?_
  intro pp ee ss mm bb mt cd Q CFx hP hK hret ls hl
  obtain ⟨hex, hby, hml, hown, hts⟩ := id CFx
  have hl : lv_has ls 2 [(0, .ref h), (1, .int (nI k))] := hl
  have hk3 := hL.2.2.2 k hk
  have hgk := hag k hk
  have htop := hL.top hk
  have h46 := p4_6 hm6
  have h26 := p2_6 hm6
  have hp4k := p4_pos (lv k)
  have hgc_ := hgc (st k) (by omega)
  have hcm := cvc_mod (T := T) (k := m) (st k) hm6
  have hcle := hL.le (Nat.le_refl c)
  have hstc := hL.2.2.1
  have hcxl := cvx_lt T m (st k)
  have hcyl := cvy_lt hV m (st k)
  have h2k := p2_6 (show lv k ≤ 6 by omega)
  have h2kp := p2_pos (lv k)
  refine lv_aload_n hex hby dX10_leftOf_0 rfl (lv_at hl 0 rfl) ?_
  refine nv_get (v := .ref aC) CFx in_X10_leftOf_X10 hK hP 0 rfl rfl 22 (by decide) (List.mem_of_getElem? (i := 1) rfl) f_cellOf dX10_leftOf_1 ?_
  refine lv_aload_n hex hby dX10_leftOf_4 rfl (lv_at hl 0 rfl) ?_
  refine nv_get (v := .ref aS) CFx in_X10_leftOf_X10 hK hP 0 rfl rfl 11 (by decide) (List.mem_of_getElem? (i := 2) rfl) f_starts dX10_leftOf_5 ?_
  refine lv_iload_n hex hby dX10_leftOf_8 rfl (lv_at hl 1 rfl) ?_
  refine nv_iald hex hby hK hP 2 0 rfl rfl (by omega) (by omega) dX10_leftOf_9 ?_
  have hb_1 := hSb k
  refine nv_iald hex hby hK hP 1 0 rfl rfl (by rw [hgk.1]; omega) (by omega) dX10_leftOf_10 ?_
  have hb_2 := hg (S k)
  refine lv_bipush (v := nI 64) hex hby dX10_leftOf_11 rfl ?_
  refine nv_irem hex hby dX10_leftOf_13 (by omega) (by omega) (by omega) ?_
  refine lv_aload_n hex hby dX10_leftOf_14 rfl (lv_at hl 0 rfl) ?_
  refine nv_get (v := .ref aL) CFx in_X10_leftOf_X10 hK hP 0 rfl rfl 12 (by decide) (List.mem_of_getElem? (i := 3) rfl) f_levels dX10_leftOf_15 ?_
  refine lv_iload_n hex hby dX10_leftOf_18 rfl (lv_at hl 1 rfl) ?_
  refine nv_iald hex hby hK hP 3 0 rfl rfl (by omega) (by omega) dX10_leftOf_19 ?_
  have hb_3 := hLb k
  have hdl := Nat.div_le_self (g (S k) % 64) (2 ^ Lv k)
  have hl_ := hLb k
  refine nv_ishr hex hby dX10_leftOf_20 (by omega) (by omega) ?_
  refine lv_aload_n hex hby dX10_leftOf_21 rfl (lv_at hl 0 rfl) ?_
  refine nv_get (v := .ref aL) CFx in_X10_leftOf_X10 hK hP 0 rfl rfl 12 (by decide) (List.mem_of_getElem? (i := 3) rfl) f_levels dX10_leftOf_22 ?_
  refine lv_iload_n hex hby dX10_leftOf_25 rfl (lv_at hl 1 rfl) ?_
  refine nv_iald hex hby hK hP 3 0 rfl rfl (by omega) (by omega) dX10_leftOf_26 ?_
  have hb_4 := hLb k
  refine nv_ishl hex hby dX10_leftOf_27 (by omega) (by rw [hgk.1, hgk.2, hgc_]; have := Nat.div_mul_le_self (cvc T m (st k) % 64) (2 ^ lv k); omega) ?_
  refine nv_top (y := nI (lxv T m st lv k)) (congrArg nI (by rw [hgk.1, hgk.2, hgc_]; exact lx_eq hcm.1)) ?_
  exact hret _ _ _ _ (Or.inl ⟨rfl, _, rfl, rfl, dX10_leftOf_28⟩) ⟨_, rfl, rfl⟩
theorem nd_X10_belowOf : ndV yX10_belowOf RX10 1 := by decide +kernel
theorem in_X10_belowOf_X10 : ∀ w ∈ wsX100, w ∈ wsX10_belowOf := fun _ h => List.mem_cons_of_mem _ (List.mem_append_right _ (h))
set_option maxHeartbeats 4000000 in
set_option maxRecDepth 100000 in
theorem c_X10_belowOf {h : Nat} {aC : Nat} {aS : Nat} {aL : Nat} {fs : List Value} {g : Nat → Nat} {S : Nat → Nat} {Lv : Nat → Nat} {k : Nat} {m : Nat} {T : Nat → Nat} {ns : Nat} {st : Nat → Nat} {lv : Nat → Nat} {c : Nat} (f_starts : fs[11]? = some (.ref aS)) (f_levels : fs[12]? = some (.ref aL)) (f_cellOf : fs[22]? = some (.ref aC)) (hg : ∀ j, g j < 4096) (hSb : ∀ j, S j < 4096) (hLb : ∀ j, Lv j < 7) (hgc : ∀ i, i < 4 ^ m → g i = cvc T m i) (hV : VT T ns) (hL : LvL m c st lv) (hag : AG c st lv S Lv) (hm6 : m ≤ 6) (hk : k < c) : RO l yX10_belowOf wsX10_belowOf 0 0 (dC, dI) (tyK cI cZ cS) [(h, .inr (10, fs)), (aC, .inl (cI, 4096, .inl (nA g))), (aS, .inl (cI, 4096, .inl (nA S))), (aL, .inl (cI, 4096, .inl (nA Lv)))] [.ref h, .int (nI k)] (rI (fun r => r = nI (lyv T m st lv k))) := by
  refine ro_of (by decide) rfl (Nat.le_of_ble_eq_true rfl) ?_
  intro pp ee ss mm bb mt cd Q CFx hP hK hret ls hl
  obtain ⟨hex, hby, hml, hown, hts⟩ := id CFx
  have hl : lv_has ls 2 [(0, .ref h), (1, .int (nI k))] := hl
  have hk3 := hL.2.2.2 k hk
  have hgk := hag k hk
  have htop := hL.top hk
  have h46 := p4_6 hm6
  have h26 := p2_6 hm6
  have hp4k := p4_pos (lv k)
  have hgc_ := hgc (st k) (by omega)
  have hcm := cvc_mod (T := T) (k := m) (st k) hm6
  have hcle := hL.le (Nat.le_refl c)
  have hstc := hL.2.2.1
  have hcxl := cvx_lt T m (st k)
  have hcyl := cvy_lt hV m (st k)
  have h2k := p2_6 (show lv k ≤ 6 by omega)
  have h2kp := p2_pos (lv k)
  refine lv_aload_n hex hby dX10_belowOf_0 rfl (lv_at hl 0 rfl) ?_
  refine nv_get (v := .ref aC) CFx in_X10_belowOf_X10 hK hP 0 rfl rfl 22 (by decide) (List.mem_of_getElem? (i := 1) rfl) f_cellOf dX10_belowOf_1 ?_
  refine lv_aload_n hex hby dX10_belowOf_4 rfl (lv_at hl 0 rfl) ?_
  refine nv_get (v := .ref aS) CFx in_X10_belowOf_X10 hK hP 0 rfl rfl 11 (by decide) (List.mem_of_getElem? (i := 2) rfl) f_starts dX10_belowOf_5 ?_
  refine lv_iload_n hex hby dX10_belowOf_8 rfl (lv_at hl 1 rfl) ?_
  refine nv_iald hex hby hK hP 2 0 rfl rfl (by omega) (by omega) dX10_belowOf_9 ?_
  have hb_1 := hSb k
  refine nv_iald hex hby hK hP 1 0 rfl rfl (by rw [hgk.1]; omega) (by omega) dX10_belowOf_10 ?_
  have hb_2 := hg (S k)
  refine lv_bipush (v := nI 64) hex hby dX10_belowOf_11 rfl ?_
  refine nv_idiv hex hby dX10_belowOf_13 (by omega) (by omega) (by omega) ?_
  refine lv_aload_n hex hby dX10_belowOf_14 rfl (lv_at hl 0 rfl) ?_
  refine nv_get (v := .ref aL) CFx in_X10_belowOf_X10 hK hP 0 rfl rfl 12 (by decide) (List.mem_of_getElem? (i := 3) rfl) f_levels dX10_belowOf_15 ?_
  refine lv_iload_n hex hby dX10_belowOf_18 rfl (lv_at hl 1 rfl) ?_
  refine nv_iald hex hby hK hP 3 0 rfl rfl (by omega) (by omega) dX10_belowOf_19 ?_
  have hb_3 := hLb k
  have hdl := Nat.div_le_self (g (S k) / 64) (2 ^ Lv k)
  have hl_ := hLb k
  refine nv_ishr hex hby dX10_belowOf_20 (by omega) (by omega) ?_
  refine lv_aload_n hex hby dX10_belowOf_21 rfl (lv_at hl 0 rfl) ?_
  refine nv_get (v := .ref aL) CFx in_X10_belowOf_X10 hK hP 0 rfl rfl 12 (by decide) (List.mem_of_getElem? (i := 3) rfl) f_levels dX10_belowOf_22 ?_
  refine lv_iload_n hex hby dX10_belowOf_25 rfl (lv_at hl 1 rfl) ?_
  refine nv_iald hex hby hK hP 3 0 rfl rfl (by omega) (by omega) dX10_belowOf_26 ?_
  have hb_4 := hLb k
  refine nv_ishl hex hby dX10_belowOf_27 (by omega) (by rw [hgk.1, hgk.2, hgc_]; have := Nat.div_mul_le_self (cvc T m (st k) / 64) (2 ^ lv k); omega) ?_
  refine nv_top (y := nI (lyv T m st lv k)) (congrArg nI (by rw [hgk.1, hgk.2, hgc_]; exact ly_eq hcm.2)) ?_
  exact hret _ _ _ _ (Or.inl ⟨rfl, _, rfl, rfl, dX10_belowOf_28⟩) ⟨_, rfl, rfl⟩
theorem nd_X10_comesBeside : ndV yX10_comesBeside RX10 1 := by decide +kernel
theorem in_X10_comesBeside_X10 : ∀ w ∈ wsX100, w ∈ wsX10_comesBeside := fun _ h => List.mem_cons_of_mem _ (List.mem_append_right _ (h))
set_option maxHeartbeats 4000000 in
set_option maxRecDepth 100000 in
theorem c_X10_comesBeside {h : Nat} {aB : Nat} {v0 : Value} {v1 : Value} {v2 : Value} {v3 : Value} {v4 : Value} {v5 : Value} {v6 : Value} {v7 : Value} {v8 : Value} {v9 : Value} {v10 : Value} {v11 : Value} {v12 : Value} {v13 : Value} {v14 : Value} {v15 : Value} {v16 : Value} {v17 : Value} {v18 : Value} {v19 : Value} {v20 : Value} {v21 : Value} {v22 : Value} {v23 : Value} {v24 : Value} {v25 : Value} {v26 : Value} {bs : Nat} {f : Nat → Nat} {v : Nat} {P : Nat → Prop} (hfb : ∀ j, f j < 4096) (hss : SSt bs f P) (hbs : bs < 64) (hv : v < 4096) : MU l yX10_comesBeside wsX10_comesBeside 0 0 (dC, dI) (tyK cI cZ cS) [(h, .inr (10, [v0, v1, v2, v3, v4, v5, v6, v7, v8, v9, v10, v11, v12, v13, v14, v15, v16, v17, v18, v19, v20, v21, v22, v23, v24, v25, v26, .ref aB, .int (nI bs)])), (aB, .inl (cI, 64, .inl (nA f)))] [] [.ref h, .int (nI v)] (fun rv_ (u_ : Nat × (Nat → Nat)) => rV ((SSt u_.1 u_.2 (fun w => P w ∨ w = v)) ∧ u_.1 ≤ bs + 1 ∧ (∀ j, u_.2 j < 4096)) rv_) (fun (u_ : Nat × (Nat → Nat)) => [(h, .inr (10, [v0, v1, v2, v3, v4, v5, v6, v7, v8, v9, v10, v11, v12, v13, v14, v15, v16, v17, v18, v19, v20, v21, v22, v23, v24, v25, v26, .ref aB, .int (nI u_.1)])), (aB, .inl (cI, 64, .inl (nA u_.2)))]) := by
  refine mu_of (by decide) rfl (Nat.le_of_ble_eq_true rfl) ?_
  intro pp ee ss mm bb mt cd Q A CFx hP hK hD hS hA hTr hret ls hl
  obtain ⟨hex, hby, hml, hown, hts⟩ := id CFx
  have hl : lv_has ls 5 [(0, .ref h), (1, .int (nI v))] := hl
  refine lv_aload_n hex hby dX10_comesBeside_0 rfl (lv_at hl 0 rfl) ?_
  refine nv_get (v := .int (nI bs)) CFx in_X10_comesBeside_X10 hK hP 0 rfl rfl 28 (by decide) (List.mem_of_getElem? (i := 1) rfl) rfl dX10_comesBeside_1 ?_
  refine lv_istore_n (lv' := [(2, .int (nI bs)), (0, .ref h), (1, .int (nI v))]) hex hby dX10_comesBeside_4 rfl hl (by decide) rfl (fun ls hl => ?_)
  refine lv_iconst (v := nI 0) hex hby dX10_comesBeside_5 rfl ?_
  refine lv_istore_n (lv' := [(3, .int (nI 0)), (2, .int (nI bs)), (0, .ref h), (1, .int (nI v))]) hex hby dX10_comesBeside_6 rfl hl (by decide) rfl (fun ls hl => ?_)
  refine lv_iconst (v := nI 0) hex hby dX10_comesBeside_7 rfl ?_
  refine lv_istore (lv' := [(4, .int (nI 0)), (3, .int (nI 0)), (2, .int (nI bs)), (0, .ref h), (1, .int (nI v))]) hex hby dX10_comesBeside_8 hl (by decide) rfl (fun ls hl => ?_)
  have loop10 : ∀ (nn : Nat) (ha : Nat) (j : Nat), (bs - j) < nn → (j ≤ bs) → (ha ≤ 1) → (ha = 1 ↔ HasV f j v) → ∀ (H : Heap) (locs : List Loc), va_P (dC, dI) vwCl [(h, .inr (10, [v0, v1, v2, v3, v4, v5, v6, v7, v8, v9, v10, v11, v12, v13, v14, v15, v16, v17, v18, v19, v20, v21, v22, v23, v24, v25, v26, .ref aB, .int (nI bs)])), (aB, .inl (cI, 64, .inl (nA f)))] H → va_D A [(h, .inr (10, [v0, v1, v2, v3, v4, v5, v6, v7, v8, v9, v10, v11, v12, v13, v14, v15, v16, v17, v18, v19, v20, v21, v22, v23, v24, v25, v26, .ref aB, .int (nI bs)])), (aB, .inl (cI, 64, .inl (nA f)))] → va_S A ss.heap H locs → ∀ ls : Array Slot, lv_has ls 5 [(4, .int (nI j)), (3, .int (nI ha)), (2, .int (nI bs)), (0, .ref h), (1, .int (nI v))] → W pp l ee (rmO 0 0) ss mm ([.ref h, .int (nI v)] : List Value).toArray bb mt cd H locs 0 0 Q (F0 mm 10 ls []) := by
    intro nn
    induction nn with
    | zero => intro ha j hms10; exact absurd hms10 (Nat.not_lt_zero _)
    | succ nn ih10 =>
      intro ha j hms10 hj hh1 hh2 H locs hP hD hS ls hl
      refine lv_iload hex hby dX10_comesBeside_10 (lv_at hl 0 rfl) ?_
      refine lv_aload_n hex hby dX10_comesBeside_12 rfl (lv_at hl 3 rfl) ?_
      refine nv_get (v := .int (nI bs)) CFx in_X10_comesBeside_X10 hK hP 0 rfl rfl 28 (by decide) (List.mem_of_getElem? (i := 1) rfl) rfl dX10_comesBeside_13 ?_
      refine nv_icmp_ge (tgt := 46) hex hby dX10_comesBeside_16 (by decide) (by omega) (by omega) (fun c_1 => ?_) (fun c_1 => ?_)
      · have loop46 : ∀ (nn : Nat) (i : Nat) (ff : Nat → Nat), i < nn → (i ≤ bs) → (ha = 1 → ff = f) → (∀ j, ff j < 4096) → (∀ a, a < i → ff a = f a) → (∀ a, i < a → a ≤ bs → ff a = f (a - 1)) → (∀ a, i ≤ a → a < bs → v < f a) → ∀ (H : Heap) (locs : List Loc), va_P (dC, dI) vwCl [(h, .inr (10, [v0, v1, v2, v3, v4, v5, v6, v7, v8, v9, v10, v11, v12, v13, v14, v15, v16, v17, v18, v19, v20, v21, v22, v23, v24, v25, v26, .ref aB, .int (nI bs)])), (aB, .inl (cI, 64, .inl (nA ff)))] H → va_D A [(h, .inr (10, [v0, v1, v2, v3, v4, v5, v6, v7, v8, v9, v10, v11, v12, v13, v14, v15, v16, v17, v18, v19, v20, v21, v22, v23, v24, v25, v26, .ref aB, .int (nI bs)])), (aB, .inl (cI, 64, .inl (nA ff)))] → va_S A ss.heap H locs → ∀ ls : Array Slot, lv_has ls 5 [(4, .int (nI j)), (3, .int (nI ha)), (2, .int (nI i)), (0, .ref h), (1, .int (nI v))] → W pp l ee (rmO 0 0) ss mm ([.ref h, .int (nI v)] : List Value).toArray bb mt cd H locs 0 0 Q (F0 mm 46 ls []) := by
          intro nn
          induction nn with
          | zero => intro i ff hms46; exact absurd hms46 (Nat.not_lt_zero _)
          | succ nn ih46 =>
            intro i ff hms46 hi hha hffb q1 q3 q4 H locs hP hD hS ls hl
            refine lv_iload_n hex hby dX10_comesBeside_46 rfl (lv_at hl 1 rfl) ?_
            refine nv_if_ne (tgt := 86) hex hby dX10_comesBeside_47 (by decide) (by omega) (fun c_2 => ?_) (fun c_2 => ?_)
            · refine lv_iload_n hex hby dX10_comesBeside_86 rfl (lv_at hl 1 rfl) ?_
              refine nv_if_ne (tgt := 107) hex hby dX10_comesBeside_87 (by decide) (by omega) (fun c_3 => ?_) (fun c_3 => absurd c_3 (by omega))
              have pf_4 : SSt bs ff (fun w => P w ∨ w = v) := by
                have e := hha (by omega)
                subst e
                obtain ⟨a, h1, h2⟩ := hh2.mp (by omega)
                exact hss.congr (fun w => ⟨Or.inl, fun q => q.elim id (fun z => by rw [z]; exact (hss.2 v).mpr ⟨a, by omega, h2⟩)⟩)
              exact hret _ (bs, ff) _ _ _ _ _ (Or.inr (Or.inr (Or.inl ⟨rfl, rfl, rfl, dX10_comesBeside_107⟩))) ⟨rfl, ⟨pf_4, (by omega), hffb⟩⟩ hP hD hS
            · refine lv_iload_n hex hby dX10_comesBeside_50 rfl (lv_at hl 2 rfl) ?_
              refine nv_if_le (tgt := 86) hex hby dX10_comesBeside_51 (by decide) (by omega) (fun c_5 => ?_) (fun c_5 => ?_)
              · refine lv_iload_n hex hby dX10_comesBeside_86 rfl (lv_at hl 1 rfl) ?_
                refine nv_if_ne (tgt := 107) hex hby dX10_comesBeside_87 (by decide) (by omega) (fun c_6 => absurd c_6 (by omega)) (fun c_6 => ?_)
                have hnp : ¬ HasV f bs v := fun q => by have := hh2.mpr (by rw [show j = bs by omega]; exact q); omega
                have hlo : ∀ a, a < i → f a < v := by
                  intro a ha
                  have h1 := q1 (i - 1) (by omega)
                  have h2 : f (i - 1) ≠ v := fun e => hnp ⟨i - 1, by omega, e⟩
                  rcases Nat.lt_or_ge a (i - 1) with z | z
                  · have := hss.1 a (i - 1) z (by omega)
                    omega
                  · rw [show a = i - 1 by omega]; omega
                refine lv_aload_n hex hby dX10_comesBeside_90 rfl (lv_at hl 3 rfl) ?_
                refine nv_get (v := .ref aB) CFx in_X10_comesBeside_X10 hK hP 0 rfl rfl 27 (by decide) (List.mem_of_getElem? (i := 2) rfl) rfl dX10_comesBeside_91 ?_
                refine lv_iload_n hex hby dX10_comesBeside_94 rfl (lv_at hl 2 rfl) ?_
                refine lv_iload_n hex hby dX10_comesBeside_95 rfl (lv_at hl 4 rfl) ?_
                refine nv_iast hex hby hK hP hD hS 1 0 rfl rfl (by omega) (by omega) dX10_comesBeside_96 (fun H locs hP hD hS => ?_)
                have hP : va_P (dC, dI) vwCl [(h, .inr (10, [v0, v1, v2, v3, v4, v5, v6, v7, v8, v9, v10, v11, v12, v13, v14, v15, v16, v17, v18, v19, v20, v21, v22, v23, v24, v25, v26, .ref aB, .int (nI bs)])), (aB, .inl (cI, 64, .inl (nA (upN ff i v))))] H := hP
                have hD : va_D A [(h, .inr (10, [v0, v1, v2, v3, v4, v5, v6, v7, v8, v9, v10, v11, v12, v13, v14, v15, v16, v17, v18, v19, v20, v21, v22, v23, v24, v25, v26, .ref aB, .int (nI bs)])), (aB, .inl (cI, 64, .inl (nA (upN ff i v))))] := hD
                have hB_7 := upN_lt (k := i) (x := v) hffb (by omega)
                refine lv_aload_n hex hby dX10_comesBeside_97 rfl (lv_at hl 3 rfl) ?_
                refine lv_dup hex hby dX10_comesBeside_98 rfl ?_
                refine nv_get (v := .int (nI bs)) CFx in_X10_comesBeside_X10 hK hP 0 rfl rfl 28 (by decide) (List.mem_of_getElem? (i := 1) rfl) rfl dX10_comesBeside_99 ?_
                refine lv_iconst (v := nI 1) hex hby dX10_comesBeside_102 rfl ?_
                refine nv_iadd hex hby dX10_comesBeside_103 ?_
                refine nv_put CFx in_X10_comesBeside_X10 tyX10 tyX10_ok nmX10 hK hP hD hS 0 rfl rfl 28 (by decide) (List.mem_of_getElem? (i := 1) rfl) rfl (by decide +kernel) (Nat.le_of_ble_eq_true rfl) dX10_comesBeside_104 (fun H locs hP hD hS => ?_)
                have hP : va_P (dC, dI) vwCl [(h, .inr (10, [v0, v1, v2, v3, v4, v5, v6, v7, v8, v9, v10, v11, v12, v13, v14, v15, v16, v17, v18, v19, v20, v21, v22, v23, v24, v25, v26, .ref aB, .int (nI (bs + 1))])), (aB, .inl (cI, 64, .inl (nA (upN ff i v))))] H := hP
                have hD : va_D A [(h, .inr (10, [v0, v1, v2, v3, v4, v5, v6, v7, v8, v9, v10, v11, v12, v13, v14, v15, v16, v17, v18, v19, v20, v21, v22, v23, v24, v25, v26, .ref aB, .int (nI (bs + 1))])), (aB, .inl (cI, 64, .inl (nA (upN ff i v))))] := hD
                have pf_8 : SSt (bs + 1) (upN ff i v) (fun w => P w ∨ w = v) := by
                  skip
                  exact hss.ins hi hlo q4 (fun a ha => by rw [upN_n (by omega)]; exact q1 a ha) (upN_s _ _ _) (fun a h1 h2 => by rw [upN_n (by omega)]; exact q3 a h1 h2)
                exact hret _ (bs + 1, upN ff i v) _ _ _ _ _ (Or.inr (Or.inr (Or.inl ⟨rfl, rfl, rfl, dX10_comesBeside_107⟩))) ⟨rfl, ⟨pf_8, (by omega), hB_7⟩⟩ hP hD hS
              · refine lv_aload_n hex hby dX10_comesBeside_54 rfl (lv_at hl 3 rfl) ?_
                refine nv_get (v := .ref aB) CFx in_X10_comesBeside_X10 hK hP 0 rfl rfl 27 (by decide) (List.mem_of_getElem? (i := 2) rfl) rfl dX10_comesBeside_55 ?_
                refine lv_iload_n hex hby dX10_comesBeside_58 rfl (lv_at hl 2 rfl) ?_
                refine lv_iconst (v := nI 1) hex hby dX10_comesBeside_59 rfl ?_
                refine nv_isub hex hby dX10_comesBeside_60 (by omega) ?_
                refine nv_iald hex hby hK hP 1 0 rfl rfl (by omega) (by omega) dX10_comesBeside_61 ?_
                have hb_9 := hffb (i - 1)
                refine lv_iload_n hex hby dX10_comesBeside_62 rfl (lv_at hl 4 rfl) ?_
                refine nv_icmp_le (tgt := 86) hex hby dX10_comesBeside_63 (by decide) (by omega) (by omega) (fun c_10 => ?_) (fun c_10 => ?_)
                · refine lv_iload_n hex hby dX10_comesBeside_86 rfl (lv_at hl 1 rfl) ?_
                  refine nv_if_ne (tgt := 107) hex hby dX10_comesBeside_87 (by decide) (by omega) (fun c_11 => absurd c_11 (by omega)) (fun c_11 => ?_)
                  have hnp : ¬ HasV f bs v := fun q => by have := hh2.mpr (by rw [show j = bs by omega]; exact q); omega
                  have hlo : ∀ a, a < i → f a < v := by
                    intro a ha
                    have h1 := q1 (i - 1) (by omega)
                    have h2 : f (i - 1) ≠ v := fun e => hnp ⟨i - 1, by omega, e⟩
                    rcases Nat.lt_or_ge a (i - 1) with z | z
                    · have := hss.1 a (i - 1) z (by omega)
                      omega
                    · rw [show a = i - 1 by omega]; omega
                  refine lv_aload_n hex hby dX10_comesBeside_90 rfl (lv_at hl 3 rfl) ?_
                  refine nv_get (v := .ref aB) CFx in_X10_comesBeside_X10 hK hP 0 rfl rfl 27 (by decide) (List.mem_of_getElem? (i := 2) rfl) rfl dX10_comesBeside_91 ?_
                  refine lv_iload_n hex hby dX10_comesBeside_94 rfl (lv_at hl 2 rfl) ?_
                  refine lv_iload_n hex hby dX10_comesBeside_95 rfl (lv_at hl 4 rfl) ?_
                  refine nv_iast hex hby hK hP hD hS 1 0 rfl rfl (by omega) (by omega) dX10_comesBeside_96 (fun H locs hP hD hS => ?_)
                  have hP : va_P (dC, dI) vwCl [(h, .inr (10, [v0, v1, v2, v3, v4, v5, v6, v7, v8, v9, v10, v11, v12, v13, v14, v15, v16, v17, v18, v19, v20, v21, v22, v23, v24, v25, v26, .ref aB, .int (nI bs)])), (aB, .inl (cI, 64, .inl (nA (upN ff i v))))] H := hP
                  have hD : va_D A [(h, .inr (10, [v0, v1, v2, v3, v4, v5, v6, v7, v8, v9, v10, v11, v12, v13, v14, v15, v16, v17, v18, v19, v20, v21, v22, v23, v24, v25, v26, .ref aB, .int (nI bs)])), (aB, .inl (cI, 64, .inl (nA (upN ff i v))))] := hD
                  have hB_12 := upN_lt (k := i) (x := v) hffb (by omega)
                  refine lv_aload_n hex hby dX10_comesBeside_97 rfl (lv_at hl 3 rfl) ?_
                  refine lv_dup hex hby dX10_comesBeside_98 rfl ?_
                  refine nv_get (v := .int (nI bs)) CFx in_X10_comesBeside_X10 hK hP 0 rfl rfl 28 (by decide) (List.mem_of_getElem? (i := 1) rfl) rfl dX10_comesBeside_99 ?_
                  refine lv_iconst (v := nI 1) hex hby dX10_comesBeside_102 rfl ?_
                  refine nv_iadd hex hby dX10_comesBeside_103 ?_
                  refine nv_put CFx in_X10_comesBeside_X10 tyX10 tyX10_ok nmX10 hK hP hD hS 0 rfl rfl 28 (by decide) (List.mem_of_getElem? (i := 1) rfl) rfl (by decide +kernel) (Nat.le_of_ble_eq_true rfl) dX10_comesBeside_104 (fun H locs hP hD hS => ?_)
                  have hP : va_P (dC, dI) vwCl [(h, .inr (10, [v0, v1, v2, v3, v4, v5, v6, v7, v8, v9, v10, v11, v12, v13, v14, v15, v16, v17, v18, v19, v20, v21, v22, v23, v24, v25, v26, .ref aB, .int (nI (bs + 1))])), (aB, .inl (cI, 64, .inl (nA (upN ff i v))))] H := hP
                  have hD : va_D A [(h, .inr (10, [v0, v1, v2, v3, v4, v5, v6, v7, v8, v9, v10, v11, v12, v13, v14, v15, v16, v17, v18, v19, v20, v21, v22, v23, v24, v25, v26, .ref aB, .int (nI (bs + 1))])), (aB, .inl (cI, 64, .inl (nA (upN ff i v))))] := hD
                  have pf_13 : SSt (bs + 1) (upN ff i v) (fun w => P w ∨ w = v) := by
                    skip
                    exact hss.ins hi hlo q4 (fun a ha => by rw [upN_n (by omega)]; exact q1 a ha) (upN_s _ _ _) (fun a h1 h2 => by rw [upN_n (by omega)]; exact q3 a h1 h2)
                  exact hret _ (bs + 1, upN ff i v) _ _ _ _ _ (Or.inr (Or.inr (Or.inl ⟨rfl, rfl, rfl, dX10_comesBeside_107⟩))) ⟨rfl, ⟨pf_13, (by omega), hB_12⟩⟩ hP hD hS
                · have hgt := c_10
                  refine lv_aload_n hex hby dX10_comesBeside_66 rfl (lv_at hl 3 rfl) ?_
                  refine nv_get (v := .ref aB) CFx in_X10_comesBeside_X10 hK hP 0 rfl rfl 27 (by decide) (List.mem_of_getElem? (i := 2) rfl) rfl dX10_comesBeside_67 ?_
                  refine lv_iload_n hex hby dX10_comesBeside_70 rfl (lv_at hl 2 rfl) ?_
                  refine lv_aload_n hex hby dX10_comesBeside_71 rfl (lv_at hl 3 rfl) ?_
                  refine nv_get (v := .ref aB) CFx in_X10_comesBeside_X10 hK hP 0 rfl rfl 27 (by decide) (List.mem_of_getElem? (i := 2) rfl) rfl dX10_comesBeside_72 ?_
                  refine lv_iload_n hex hby dX10_comesBeside_75 rfl (lv_at hl 2 rfl) ?_
                  refine lv_iconst (v := nI 1) hex hby dX10_comesBeside_76 rfl ?_
                  refine nv_isub hex hby dX10_comesBeside_77 (by omega) ?_
                  refine nv_iald hex hby hK hP 1 0 rfl rfl (by omega) (by omega) dX10_comesBeside_78 ?_
                  have hb_14 := hffb (i - 1)
                  refine nv_iast hex hby hK hP hD hS 1 0 rfl rfl (by omega) (by omega) dX10_comesBeside_79 (fun H locs hP hD hS => ?_)
                  have hP : va_P (dC, dI) vwCl [(h, .inr (10, [v0, v1, v2, v3, v4, v5, v6, v7, v8, v9, v10, v11, v12, v13, v14, v15, v16, v17, v18, v19, v20, v21, v22, v23, v24, v25, v26, .ref aB, .int (nI bs)])), (aB, .inl (cI, 64, .inl (nA (upN ff i (ff (i - 1))))))] H := hP
                  have hD : va_D A [(h, .inr (10, [v0, v1, v2, v3, v4, v5, v6, v7, v8, v9, v10, v11, v12, v13, v14, v15, v16, v17, v18, v19, v20, v21, v22, v23, v24, v25, v26, .ref aB, .int (nI bs)])), (aB, .inl (cI, 64, .inl (nA (upN ff i (ff (i - 1))))))] := hD
                  have hB_15 := upN_lt (k := i) (x := ff (i - 1)) hffb (by omega)
                  refine lv_iinc (v := nI (i - 1)) (lv' := [(2, .int (nI (i - 1))), (4, .int (nI j)), (3, .int (nI ha)), (0, .ref h), (1, .int (nI v))]) hex hby dX10_comesBeside_80 hl (k := 2) rfl (ni_dec (by omega)) (by decide) rfl (fun ls hl => ?_)
                  refine lv_goto (tgt := 46) hex hby dX10_comesBeside_83 (by decide) ?_
                  have pf_16 : ∀ a, (i - 1) < a → a ≤ bs → (upN ff i (ff (i - 1))) a = f (a - 1) := by
                    intro a h1 h2
                    rcases Nat.lt_or_ge i a with z | z
                    · rw [upN_n (by omega)]; exact q3 a z h2
                    · rw [show a = i by omega, upN_s]; exact q1 _ (by omega)
                  have pf_17 : ∀ a, (i - 1) ≤ a → a < bs → v < f a := by
                    intro a h1 h2
                    rcases Nat.lt_or_ge a i with z | z
                    · rw [show a = i - 1 by omega, ← q1 (i - 1) (by omega)]; exact hgt
                    · exact q4 a z h2
                  exact ih46 (i - 1) (upN ff i (ff (i - 1))) (by omega) (by omega) (fun q => absurd q (by omega)) hB_15 (fun a ha => by rw [upN_n (by omega)]; exact q1 a (by omega)) pf_16 pf_17 _ _ hP hD hS _ (lv_sub hl [1, 2, 0, 3, 4] rfl)
        exact loop46 _ bs f (Nat.lt_succ_self _) (by omega) (fun _ => rfl) hfb (fun _ _ => rfl) (fun a h1 h2 => absurd h1 (by omega)) (fun a h1 h2 => absurd h1 (by omega)) _ _ hP hD hS _ (lv_sub hl [0, 1, 2, 3, 4] rfl)
      · refine lv_iload_n hex hby dX10_comesBeside_19 rfl (lv_at hl 1 rfl) ?_
        refine nv_if_ne (tgt := 34) hex hby dX10_comesBeside_20 (by decide) (by omega) (fun c_18 => ?_) (fun c_18 => ?_)
        · refine lv_iconst (v := nI 1) hex hby dX10_comesBeside_34 rfl ?_
          refine lv_goto (tgt := 39) hex hby dX10_comesBeside_35 (by decide) ?_
          refine lv_istore_n (lv' := [(3, .int (nI 1)), (4, .int (nI j)), (2, .int (nI bs)), (0, .ref h), (1, .int (nI v))]) hex hby dX10_comesBeside_39 rfl hl (by decide) rfl (fun ls hl => ?_)
          refine lv_iinc (v := nI (j + 1)) (lv' := [(4, .int (nI (j + 1))), (3, .int (nI 1)), (2, .int (nI bs)), (0, .ref h), (1, .int (nI v))]) hex hby dX10_comesBeside_40 hl (k := 1) rfl (ni_inc _) (by decide) rfl (fun ls hl => ?_)
          refine lv_goto (tgt := 10) hex hby dX10_comesBeside_43 (by decide) ?_
          have pf_19 : 1 = 1 ↔ HasV f (j + 1) v := by
            constructor
            · intro q; obtain ⟨a, h1, h2⟩ := hh2.mp (by omega); exact ⟨a, by omega, h2⟩
            · intro q; rfl
          exact ih10 1 (j + 1) (by omega) (by omega) (by omega) pf_19 _ _ hP hD hS _ (lv_sub hl [0, 1, 2, 3, 4] rfl)
        · refine lv_aload_n hex hby dX10_comesBeside_23 rfl (lv_at hl 3 rfl) ?_
          refine nv_get (v := .ref aB) CFx in_X10_comesBeside_X10 hK hP 0 rfl rfl 27 (by decide) (List.mem_of_getElem? (i := 2) rfl) rfl dX10_comesBeside_24 ?_
          refine lv_iload hex hby dX10_comesBeside_27 (lv_at hl 0 rfl) ?_
          refine nv_iald hex hby hK hP 1 0 rfl rfl (by omega) (by omega) dX10_comesBeside_29 ?_
          have hb_20 := hfb j
          refine lv_iload_n hex hby dX10_comesBeside_30 rfl (lv_at hl 4 rfl) ?_
          refine nv_icmp_ne (tgt := 38) hex hby dX10_comesBeside_31 (by decide) (by omega) (by omega) (fun c_21 => ?_) (fun c_21 => ?_)
          · have hne := c_21
            refine lv_iconst (v := nI 0) hex hby dX10_comesBeside_38 rfl ?_
            refine lv_istore_n (lv' := [(3, .int (nI 0)), (4, .int (nI j)), (2, .int (nI bs)), (0, .ref h), (1, .int (nI v))]) hex hby dX10_comesBeside_39 rfl hl (by decide) rfl (fun ls hl => ?_)
            refine lv_iinc (v := nI (j + 1)) (lv' := [(4, .int (nI (j + 1))), (3, .int (nI 0)), (2, .int (nI bs)), (0, .ref h), (1, .int (nI v))]) hex hby dX10_comesBeside_40 hl (k := 1) rfl (ni_inc _) (by decide) rfl (fun ls hl => ?_)
            refine lv_goto (tgt := 10) hex hby dX10_comesBeside_43 (by decide) ?_
            have pf_22 : 0 = 1 ↔ HasV f (j + 1) v := by
              constructor
              · intro q; exact absurd q (by decide)
              · rintro ⟨a, h1, h2⟩
                rcases Nat.lt_or_ge a j with z | z
                · have := hh2.mpr ⟨a, z, h2⟩; omega
                · rw [show a = j by omega] at h2; exact absurd h2 hne
            exact ih10 0 (j + 1) (by omega) (by omega) (by omega) pf_22 _ _ hP hD hS _ (lv_sub hl [0, 1, 2, 3, 4] rfl)
          · have heq := c_21
            refine lv_iconst (v := nI 1) hex hby dX10_comesBeside_34 rfl ?_
            refine lv_goto (tgt := 39) hex hby dX10_comesBeside_35 (by decide) ?_
            refine lv_istore_n (lv' := [(3, .int (nI 1)), (4, .int (nI j)), (2, .int (nI bs)), (0, .ref h), (1, .int (nI v))]) hex hby dX10_comesBeside_39 rfl hl (by decide) rfl (fun ls hl => ?_)
            refine lv_iinc (v := nI (j + 1)) (lv' := [(4, .int (nI (j + 1))), (3, .int (nI 1)), (2, .int (nI bs)), (0, .ref h), (1, .int (nI v))]) hex hby dX10_comesBeside_40 hl (k := 1) rfl (ni_inc _) (by decide) rfl (fun ls hl => ?_)
            refine lv_goto (tgt := 10) hex hby dX10_comesBeside_43 (by decide) ?_
            have pf_23 : 1 = 1 ↔ HasV f (j + 1) v := by
              constructor
              · intro q; exact ⟨j, by omega, heq⟩
              · intro q; rfl
            exact ih10 1 (j + 1) (by omega) (by omega) (by omega) pf_23 _ _ hP hD hS _ (lv_sub hl [0, 1, 2, 3, 4] rfl)
  have pf_24 : 0 = 1 ↔ HasV f 0 v := by
    constructor
    · intro q; exact absurd q (by decide)
    · rintro ⟨a, ha, _⟩; exact absurd ha (Nat.not_lt_zero _)
  exact loop10 _ 0 0 (Nat.lt_succ_self _) (by omega) (by omega) pf_24 _ _ hP hD hS _ (lv_sub hl [0, 1, 2, 3, 4] rfl)
theorem nd_X10_findBeside : ndV yX10_findBeside RX10 2 := by decide +kernel
theorem in_X10_findBeside_X10 : ∀ w ∈ wsX100, w ∈ wsX10_findBeside := fun _ h => List.mem_cons_of_mem _ (List.mem_append_right _ (h))
set_option maxHeartbeats 4000000 in
set_option maxRecDepth 100000 in
theorem c_X10_findBeside {h : Nat} {aB : Nat} {aC : Nat} {aI : Nat} {aS : Nat} {aL : Nat} {aO : Nat} {m : Nat} {v1 : Value} {v2 : Value} {v3 : Value} {v4 : Value} {v5 : Value} {v6 : Value} {v7 : Value} {v8 : Value} {v9 : Value} {v10 : Value} {v13 : Value} {v14 : Value} {v15 : Value} {v16 : Value} {v17 : Value} {v18 : Value} {v19 : Value} {v20 : Value} {v23 : Value} {v24 : Value} {v25 : Value} {v28 : Value} {fa : Nat → Nat} {g : Nat → Nat} {ix : Nat → Nat} {S : Nat → Nat} {Lv : Nat → Nat} {O : Nat → Nat} {k : Nat} {s : Nat} {T : Nat → Nat} {ns : Nat} {st : Nat → Nat} {lv : Nat → Nat} {c : Nat} (hfa : ∀ j, fa j < 4096) (hg : ∀ j, g j < 4096) (hSb : ∀ j, S j < 4096) (hLb : ∀ j, Lv j < 7) (hgc : ∀ i, i < 4 ^ m → g i = cvc T m i) (hV : VT T ns) (hL : LvL m c st lv) (hag : AG c st lv S Lv) (hm6 : m ≤ 6) (hk : k < c) (hix : ∀ j, ix j < 4096) (hOb : ∀ j, O j < 4096) (hN : NumOK T m g ix) (hO : LfOK c st O) (hs4 : s < 4) : MU l yX10_findBeside wsX10_findBeside 2 44 (dC, dI) (tyK cI cZ cS) [(h, .inr (10, [.int (nI m), v1, v2, v3, v4, v5, v6, v7, v8, v9, v10, .ref aS, .ref aL, v13, v14, v15, v16, v17, v18, v19, v20, .ref aI, .ref aC, v23, v24, v25, .ref aO, .ref aB, v28])), (aB, .inl (cI, 64, .inl (nA fa))), (aC, .inl (cI, 4096, .inl (nA g))), (aI, .inl (cI, 4096, .inl (nA ix))), (aS, .inl (cI, 4096, .inl (nA S))), (aL, .inl (cI, 4096, .inl (nA Lv))), (aO, .inl (cI, 4096, .inl (nA O)))] [] [.ref h, .int (nI k), .int (nI s)] (fun rv_ (u_ : Nat × (Nat → Nat)) => rV (SSt u_.1 u_.2 (Nbr T m c st lv s k) ∧ (∀ j, u_.2 j < 4096) ∧ u_.1 ≤ 64) rv_) (fun (u_ : Nat × (Nat → Nat)) => [(h, .inr (10, [.int (nI m), v1, v2, v3, v4, v5, v6, v7, v8, v9, v10, .ref aS, .ref aL, v13, v14, v15, v16, v17, v18, v19, v20, .ref aI, .ref aC, v23, v24, v25, .ref aO, .ref aB, .int (nI u_.1)])), (aB, .inl (cI, 64, .inl (nA u_.2))), (aC, .inl (cI, 4096, .inl (nA g))), (aI, .inl (cI, 4096, .inl (nA ix))), (aS, .inl (cI, 4096, .inl (nA S))), (aL, .inl (cI, 4096, .inl (nA Lv))), (aO, .inl (cI, 4096, .inl (nA O)))]) := by
  refine mu_of (by decide) rfl (Nat.le_of_ble_eq_true rfl) ?_
  intro pp ee ss mm bb mt cd Q A CFx hP hK hD hS hA hTr hret ls hl
  obtain ⟨hex, hby, hml, hown, hts⟩ := id CFx
  have hl : lv_has ls 9 [(0, .ref h), (1, .int (nI k)), (2, .int (nI s))] := hl
  have hk3 := hL.2.2.2 k hk
  have hgk := hag k hk
  have htop := hL.top hk
  have h46 := p4_6 hm6
  have h26 := p2_6 hm6
  have hp4k := p4_pos (lv k)
  have hgc_ := hgc (st k) (by omega)
  have hcm := cvc_mod (T := T) (k := m) (st k) hm6
  have hcle := hL.le (Nat.le_refl c)
  have hstc := hL.2.2.1
  have hcxl := cvx_lt T m (st k)
  have hcyl := cvy_lt hV m (st k)
  have h2k := p2_6 (show lv k ≤ 6 by omega)
  have h2kp := p2_pos (lv k)
  have hlt_ := lxv_top hV hL hk
  have hlv7 := hLb k
  rcases (show s = 0 ∨ s = 1 ∨ s = 2 ∨ s = 3 by omega) with rfl | rfl | rfl | rfl
  · refine lv_aload_n hex hby dX10_findBeside_0 rfl (lv_at hl 0 rfl) ?_
    refine lv_iconst (v := nI 0) hex hby dX10_findBeside_1 rfl ?_
    refine nv_put CFx in_X10_findBeside_X10 tyX10 tyX10_ok nmX10 hK hP hD hS 0 rfl rfl 28 (by decide) (List.mem_of_getElem? (i := 1) rfl) rfl (by decide +kernel) (Nat.le_of_ble_eq_true rfl) dX10_findBeside_2 (fun H locs hP hD hS => ?_)
    have hP : va_P (dC, dI) vwCl [(h, .inr (10, [.int (nI m), v1, v2, v3, v4, v5, v6, v7, v8, v9, v10, .ref aS, .ref aL, v13, v14, v15, v16, v17, v18, v19, v20, .ref aI, .ref aC, v23, v24, v25, .ref aO, .ref aB, .int (nI 0)])), (aB, .inl (cI, 64, .inl (nA fa))), (aC, .inl (cI, 4096, .inl (nA g))), (aI, .inl (cI, 4096, .inl (nA ix))), (aS, .inl (cI, 4096, .inl (nA S))), (aL, .inl (cI, 4096, .inl (nA Lv))), (aO, .inl (cI, 4096, .inl (nA O)))] H := hP
    have hD : va_D A [(h, .inr (10, [.int (nI m), v1, v2, v3, v4, v5, v6, v7, v8, v9, v10, .ref aS, .ref aL, v13, v14, v15, v16, v17, v18, v19, v20, .ref aI, .ref aC, v23, v24, v25, .ref aO, .ref aB, .int (nI 0)])), (aB, .inl (cI, 64, .inl (nA fa))), (aC, .inl (cI, 4096, .inl (nA g))), (aI, .inl (cI, 4096, .inl (nA ix))), (aS, .inl (cI, 4096, .inl (nA S))), (aL, .inl (cI, 4096, .inl (nA Lv))), (aO, .inl (cI, 4096, .inl (nA O)))] := hD
    refine lv_iconst (v := nI 1) hex hby dX10_findBeside_5 rfl ?_
    refine lv_aload_n hex hby dX10_findBeside_6 rfl (lv_at hl 0 rfl) ?_
    refine nv_get (v := .ref aL) CFx in_X10_findBeside_X10 hK hP 0 rfl rfl 12 (by decide) (List.mem_of_getElem? (i := 2) rfl) rfl dX10_findBeside_7 ?_
    refine lv_iload_n hex hby dX10_findBeside_10 rfl (lv_at hl 1 rfl) ?_
    refine nv_iald hex hby hK hP 5 0 rfl rfl (by omega) (by omega) dX10_findBeside_11 ?_
    have hb_1 := hLb k
    refine nv_ishl hex hby dX10_findBeside_12 (by omega) (by rw [hgk.2]; omega) ?_
    refine nv_top (y := nI (2 ^ (Lv k))) (congrArg nI (Nat.one_mul _)) ?_
    refine nv_top (y := nI (2 ^ lv k)) (congrArg nI (by rw [hgk.2])) ?_
    refine lv_istore_n (lv' := [(3, .int (nI (2 ^ lv k))), (0, .ref h), (1, .int (nI k)), (2, .int (nI 0))]) hex hby dX10_findBeside_13 rfl hl (by decide) rfl (fun ls hl => ?_)
    refine lv_iload_n hex hby dX10_findBeside_14 rfl (lv_at hl 3 rfl) ?_
    refine nv_if_ne (tgt := 28) hex hby dX10_findBeside_15 (by decide) (by omega) (fun c => absurd c (by omega)) (fun _ => ?_)
    refine lv_aload_n hex hby dX10_findBeside_18 rfl (lv_at hl 1 rfl) ?_
    refine lv_iload_n hex hby dX10_findBeside_19 rfl (lv_at hl 2 rfl) ?_
    refine ro_Vi (As := [.int (nI k)]) (rest := []) CFx (c_X10_leftOf (h := h) (aC := aC) (aS := aS) (aL := aL) (fs := [.int (nI m), v1, v2, v3, v4, v5, v6, v7, v8, v9, v10, .ref aS, .ref aL, v13, v14, v15, v16, v17, v18, v19, v20, .ref aI, .ref aC, v23, v24, v25, .ref aO, .ref aB, .int (nI 0)]) (g := g) (S := S) (Lv := Lv) (k := k) (m := m) (T := T) (ns := ns) (st := st) (lv := lv) (c := c) rfl rfl rfl hg hSb hLb hgc hV hL hag hm6 hk) 1 gX10_findBeside_X10_leftOf rfl nd_X10_leftOf ⟨Nat.le_of_ble_eq_true rfl, Nat.le_of_ble_eq_true rfl⟩ hK hP [0, 2, 4, 5] rfl rfl rfl rfl hl.1 rfl (Nat.le_of_ble_eq_true rfl) dX10_findBeside_20 ⟨Nat.le_refl _, Nat.le_refl _⟩ (fun r_2 hr_2 => ?_)
    obtain rfl := hr_2
    refine lv_iconst (v := nI 1) hex hby dX10_findBeside_23 rfl ?_
    refine nz_isub (a := ((lxv T m st lv k : Nat) : Int)) (b := (1 : Int)) hex hby dX10_findBeside_24 (ni_nz _) rfl ?_
    refine lv_goto (tgt := 48) hex hby dX10_findBeside_25 (by decide) ?_
    refine lv_istore (lv' := [(4, .int (zI (((lxv T m st lv k : Nat) : Int) - (1 : Int)))), (3, .int (nI (2 ^ lv k))), (0, .ref h), (1, .int (nI k)), (2, .int (nI 0))]) hex hby dX10_findBeside_48 hl (by decide) rfl (fun ls hl => ?_)
    refine lv_iload_n hex hby dX10_findBeside_50 rfl (lv_at hl 4 rfl) ?_
    refine lv_iconst (v := nI 2) hex hby dX10_findBeside_51 rfl ?_
    refine nv_icmp_ne (tgt := 65) hex hby dX10_findBeside_52 (by decide) (by omega) (by omega) (fun _ => ?_) (fun c => absurd c (by omega))
    refine lv_iload_n hex hby dX10_findBeside_65 rfl (lv_at hl 4 rfl) ?_
    refine lv_iconst (v := nI 3) hex hby dX10_findBeside_66 rfl ?_
    refine nv_icmp_ne (tgt := 80) hex hby dX10_findBeside_67 (by decide) (by omega) (by omega) (fun _ => ?_) (fun c => absurd c (by omega))
    refine lv_aload_n hex hby dX10_findBeside_80 rfl (lv_at hl 2 rfl) ?_
    refine lv_iload_n hex hby dX10_findBeside_81 rfl (lv_at hl 3 rfl) ?_
    refine ro_Vi (As := [.int (nI k)]) (rest := []) CFx (c_X10_belowOf (h := h) (aC := aC) (aS := aS) (aL := aL) (fs := [.int (nI m), v1, v2, v3, v4, v5, v6, v7, v8, v9, v10, .ref aS, .ref aL, v13, v14, v15, v16, v17, v18, v19, v20, .ref aI, .ref aC, v23, v24, v25, .ref aO, .ref aB, .int (nI 0)]) (g := g) (S := S) (Lv := Lv) (k := k) (m := m) (T := T) (ns := ns) (st := st) (lv := lv) (c := c) rfl rfl rfl hg hSb hLb hgc hV hL hag hm6 hk) 1 gX10_findBeside_X10_belowOf rfl nd_X10_belowOf ⟨Nat.le_of_ble_eq_true rfl, Nat.le_of_ble_eq_true rfl⟩ hK hP [0, 2, 4, 5] rfl rfl rfl rfl hl.1 rfl (Nat.le_of_ble_eq_true rfl) dX10_findBeside_82 ⟨Nat.le_refl _, Nat.le_refl _⟩ (fun r_3 hr_3 => ?_)
    obtain rfl := hr_3
    refine lv_istore (lv' := [(5, .int (nI (lyv T m st lv k))), (4, .int (zI (((lxv T m st lv k : Nat) : Int) - (1 : Int)))), (3, .int (nI (2 ^ lv k))), (0, .ref h), (1, .int (nI k)), (2, .int (nI 0))]) hex hby dX10_findBeside_85 hl (by decide) rfl (fun ls hl => ?_)
    refine lv_iconst (v := nI 0) hex hby dX10_findBeside_87 rfl ?_
    refine lv_istore (lv' := [(6, .int (nI 0)), (5, .int (nI (lyv T m st lv k))), (4, .int (zI (((lxv T m st lv k : Nat) : Int) - (1 : Int)))), (3, .int (nI (2 ^ lv k))), (0, .ref h), (1, .int (nI k)), (2, .int (nI 0))]) hex hby dX10_findBeside_88 hl (by decide) rfl (fun ls hl => ?_)
    have loop90 : ∀ (nn : Nat) (i : Nat) (bs : Nat) (f : Nat → Nat), (2 ^ lv k - i) < nn → (i ≤ 2 ^ lv k) → (bs ≤ i) → (∀ j, f j < 4096) → (SSt bs f (fun w => byd T m st lv 0 k ∧ FndT T m c st lv 0 k i w)) → ∀ (H : Heap) (locs : List Loc), va_P (dC, dI) vwCl [(h, .inr (10, [.int (nI m), v1, v2, v3, v4, v5, v6, v7, v8, v9, v10, .ref aS, .ref aL, v13, v14, v15, v16, v17, v18, v19, v20, .ref aI, .ref aC, v23, v24, v25, .ref aO, .ref aB, .int (nI bs)])), (aB, .inl (cI, 64, .inl (nA f))), (aC, .inl (cI, 4096, .inl (nA g))), (aI, .inl (cI, 4096, .inl (nA ix))), (aS, .inl (cI, 4096, .inl (nA S))), (aL, .inl (cI, 4096, .inl (nA Lv))), (aO, .inl (cI, 4096, .inl (nA O)))] H → va_D A [(h, .inr (10, [.int (nI m), v1, v2, v3, v4, v5, v6, v7, v8, v9, v10, .ref aS, .ref aL, v13, v14, v15, v16, v17, v18, v19, v20, .ref aI, .ref aC, v23, v24, v25, .ref aO, .ref aB, .int (nI bs)])), (aB, .inl (cI, 64, .inl (nA f))), (aC, .inl (cI, 4096, .inl (nA g))), (aI, .inl (cI, 4096, .inl (nA ix))), (aS, .inl (cI, 4096, .inl (nA S))), (aL, .inl (cI, 4096, .inl (nA Lv))), (aO, .inl (cI, 4096, .inl (nA O)))] → va_S A ss.heap H locs → ∀ ls : Array Slot, lv_has ls 9 [(6, .int (nI i)), (5, .int (nI (lyv T m st lv k))), (4, .int (zI (((lxv T m st lv k : Nat) : Int) - (1 : Int)))), (3, .int (nI (2 ^ lv k))), (0, .ref h), (1, .int (nI k)), (2, .int (nI 0))] → W pp l ee (rmO 2 44) ss mm ([.ref h, .int (nI k), .int (nI 0)] : List Value).toArray bb mt cd H locs 0 0 Q (F0 mm 90 ls []) := by
      intro nn
      induction nn with
      | zero => intro i bs f hms90; exact absurd hms90 (Nat.not_lt_zero _)
      | succ nn ih90 =>
        intro i bs f hms90 hi hba hfb hss H locs hP hD hS ls hl
        refine lv_iload hex hby dX10_findBeside_90 (lv_at hl 0 rfl) ?_
        refine lv_iload_n hex hby dX10_findBeside_92 rfl (lv_at hl 3 rfl) ?_
        refine nv_icmp_ge (tgt := 169) hex hby dX10_findBeside_93 (by decide) (by omega) (by omega) (fun c_4 => ?_) (fun c_4 => ?_)
        · exact hret _ (bs, f) _ _ _ _ _ (Or.inr (Or.inr (Or.inl ⟨rfl, rfl, rfl, dX10_findBeside_169⟩))) ⟨rfl, ⟨(hss.congr (fun v => ⟨fun q => (fnd_all q.1 (by omega) v).mp q.2, fun q => ⟨q.1, (fnd_all q.1 (by omega) v).mpr q⟩⟩)), hfb, (by omega)⟩⟩ hP hD hS
        · refine lv_iload_n hex hby dX10_findBeside_96 rfl (lv_at hl 6 rfl) ?_
          refine lv_iconst (v := nI 2) hex hby dX10_findBeside_97 rfl ?_
          refine nv_icmp_ge (tgt := 106) hex hby dX10_findBeside_98 (by decide) (by omega) (by omega) (fun c => absurd c (by omega)) (fun _ => ?_)
          refine lv_iload hex hby dX10_findBeside_101 (lv_at hl 2 rfl) ?_
          refine lv_goto (tgt := 111) hex hby dX10_findBeside_103 (by decide) ?_
          refine lv_istore (lv' := [(7, .int (zI (((lxv T m st lv k : Nat) : Int) - (1 : Int)))), (6, .int (nI i)), (5, .int (nI (lyv T m st lv k))), (4, .int (zI (((lxv T m st lv k : Nat) : Int) - (1 : Int)))), (3, .int (nI (2 ^ lv k))), (0, .ref h), (1, .int (nI k)), (2, .int (nI 0))]) hex hby dX10_findBeside_111 hl (by decide) rfl (fun ls hl => ?_)
          refine lv_iload_n hex hby dX10_findBeside_113 rfl (lv_at hl 7 rfl) ?_
          refine lv_iconst (v := nI 2) hex hby dX10_findBeside_114 rfl ?_
          refine nv_icmp_ge (tgt := 126) hex hby dX10_findBeside_115 (by decide) (by omega) (by omega) (fun c => absurd c (by omega)) (fun _ => ?_)
          refine lv_iload hex hby dX10_findBeside_118 (lv_at hl 2 rfl) ?_
          refine lv_iload hex hby dX10_findBeside_120 (lv_at hl 1 rfl) ?_
          refine nv_iadd hex hby dX10_findBeside_122 ?_
          refine lv_goto (tgt := 128) hex hby dX10_findBeside_123 (by decide) ?_
          refine lv_istore (lv' := [(8, .int (nI (lyv T m st lv k + i))), (7, .int (zI (((lxv T m st lv k : Nat) : Int) - (1 : Int)))), (6, .int (nI i)), (5, .int (nI (lyv T m st lv k))), (4, .int (zI (((lxv T m st lv k : Nat) : Int) - (1 : Int)))), (3, .int (nI (2 ^ lv k))), (0, .ref h), (1, .int (nI k)), (2, .int (nI 0))]) hex hby dX10_findBeside_128 hl (by decide) rfl (fun ls hl => ?_)
          refine lv_aload_n hex hby dX10_findBeside_130 rfl (lv_at hl 6 rfl) ?_
          refine lv_iload hex hby dX10_findBeside_131 (lv_at hl 1 rfl) ?_
          refine lv_iload hex hby dX10_findBeside_133 (lv_at hl 0 rfl) ?_
          refine ro_Vi (As := [.int (zI (((lxv T m st lv k : Nat) : Int) - (1 : Int))), .int (nI (lyv T m st lv k + i))]) (rest := []) CFx (c_X10_isCell (h := h) (fs := [.int (nI m), v1, v2, v3, v4, v5, v6, v7, v8, v9, v10, .ref aS, .ref aL, v13, v14, v15, v16, v17, v18, v19, v20, .ref aI, .ref aC, v23, v24, v25, .ref aO, .ref aB, .int (nI bs)]) (m := m) (x := zI (((lxv T m st lv k : Nat) : Int) - (1 : Int))) (xz := ((lxv T m st lv k : Nat) : Int) - (1 : Int)) (y := nI (lyv T m st lv k + i)) (yz := ((lyv T m st lv k + i : Nat) : Int)) rfl (zI_toInt (by omega) (by omega)) (ni_toInt (by omega)) hm6) 2 gX10_findBeside_X10_isCell rfl nd_X10_isCell ⟨Nat.le_of_ble_eq_true rfl, Nat.le_of_ble_eq_true rfl⟩ hK hP [0] rfl rfl rfl rfl hl.1 rfl (Nat.le_of_ble_eq_true rfl) dX10_findBeside_135 ⟨Nat.le_refl _, Nat.le_refl _⟩ (fun r_5 hr_5 => ?_)
          rcases hr_5 with ⟨rfl, hh1⟩ | ⟨rfl, hh0⟩
          · refine nv_if_eq (tgt := 163) hex hby dX10_findBeside_138 (by decide) (by omega) (fun c => absurd c (by omega)) (fun _ => ?_)
            have hb : byd T m st lv 0 k := by unfold byd; simp; omega
            have hgr := bc_in hV hL (s := 0) hk hb (t := i) (by omega)
            have hna := num_at hV hN hgr.1 hgr.2
            obtain ⟨v, hv1, hv2, hv3⟩ := hL.at hna.1
            have hg1 := (geo hV hL hv1 hna.1).mp ⟨hv2, hv3⟩
            rw [hna.2.1, hna.2.2] at hg1
            refine lv_aload_n hex hby dX10_findBeside_141 rfl (lv_at hl 6 rfl) ?_
            refine lv_aload_n hex hby dX10_findBeside_142 rfl (lv_at hl 6 rfl) ?_
            refine nv_get (v := .ref aO) CFx in_X10_findBeside_X10 hK hP 0 rfl rfl 26 (by decide) (List.mem_of_getElem? (i := 3) rfl) rfl dX10_findBeside_143 ?_
            refine lv_aload_n hex hby dX10_findBeside_146 rfl (lv_at hl 6 rfl) ?_
            refine nv_get (v := .ref aI) CFx in_X10_findBeside_X10 hK hP 0 rfl rfl 21 (by decide) (List.mem_of_getElem? (i := 4) rfl) rfl dX10_findBeside_147 ?_
            refine lv_bipush (v := nI 64) hex hby dX10_findBeside_150 rfl ?_
            refine lv_iload hex hby dX10_findBeside_152 (lv_at hl 0 rfl) ?_
            refine nv_top (y := nI (bcy T m st lv 0 k i)) (congrArg nI (by unfold bcy; simp <;> omega)) ?_
            refine nv_imul hex hby dX10_findBeside_154 ?_
            refine lv_iload hex hby dX10_findBeside_155 (lv_at hl 1 rfl) ?_
            refine nv_top (y := nI (bcx T m st lv 0 k i)) (by rw [ni_nz]; exact congrArg zI (by unfold bcx; simp <;> omega)) ?_
            refine nv_iadd hex hby dX10_findBeside_157 ?_
            refine nv_iald hex hby hK hP 3 0 rfl rfl (by omega) (by omega) dX10_findBeside_158 ?_
            have hb_6 := hix (64 * bcy T m st lv 0 k i + bcx T m st lv 0 k i)
            refine nv_top (y := nI (ix (bcy T m st lv 0 k i * 64 + bcx T m st lv 0 k i))) (congrArg nI (congrArg ix (by omega))) ?_
            refine nv_iald hex hby hK hP 6 0 rfl rfl (by omega) (by omega) dX10_findBeside_159 ?_
            have hb_7 := hOb (ix (bcy T m st lv 0 k i * 64 + bcx T m st lv 0 k i))
            refine nv_top (y := nI v) (congrArg nI (hO v hv1 _ hv2 hv3)) ?_
            refine mu_Vv (As := [.int (nI v)]) (rest := []) (wr := [(aC, .inl (cI, 4096, .inl (nA g))), (aI, .inl (cI, 4096, .inl (nA ix))), (aS, .inl (cI, 4096, .inl (nA S))), (aL, .inl (cI, 4096, .inl (nA Lv))), (aO, .inl (cI, 4096, .inl (nA O)))]) CFx (c_X10_comesBeside (h := h) (aB := aB) (v0 := .int (nI m)) (v1 := v1) (v2 := v2) (v3 := v3) (v4 := v4) (v5 := v5) (v6 := v6) (v7 := v7) (v8 := v8) (v9 := v9) (v10 := v10) (v11 := .ref aS) (v12 := .ref aL) (v13 := v13) (v14 := v14) (v15 := v15) (v16 := v16) (v17 := v17) (v18 := v18) (v19 := v19) (v20 := v20) (v21 := .ref aI) (v22 := .ref aC) (v23 := v23) (v24 := v24) (v25 := v25) (v26 := .ref aO) (bs := bs) (f := f) (v := v) (P := fun w => byd T m st lv 0 k ∧ FndT T m c st lv 0 k i w) hfb hss (by omega) (by omega)) 1 gX10_findBeside_X10_comesBeside rfl nd_X10_comesBeside ⟨Nat.le_of_ble_eq_true rfl, Nat.le_of_ble_eq_true rfl⟩ hK hP hD hS hA [0, 1] [2, 3, 4, 5, 6] rfl rfl (by decide) (by decide) (by decide) TR.nil rfl rfl rfl hl.1 rfl (Nat.le_of_ble_eq_true rfl) dX10_findBeside_160 ⟨Nat.le_refl _, Nat.le_refl _⟩ (fun u H locs hr_8 hP hD hS => ?_)
            obtain ⟨bi, fi⟩ := u
            dsimp only at hr_8 hP hD
            have hP : va_P (dC, dI) vwCl [(aC, .inl (cI, 4096, .inl (nA g))), (aI, .inl (cI, 4096, .inl (nA ix))), (aS, .inl (cI, 4096, .inl (nA S))), (aL, .inl (cI, 4096, .inl (nA Lv))), (aO, .inl (cI, 4096, .inl (nA O))), (h, .inr (10, [.int (nI m), v1, v2, v3, v4, v5, v6, v7, v8, v9, v10, .ref aS, .ref aL, v13, v14, v15, v16, v17, v18, v19, v20, .ref aI, .ref aC, v23, v24, v25, .ref aO, .ref aB, .int (nI bi)])), (aB, .inl (cI, 64, .inl (nA fi)))] H := hP
            have hD : va_D A [(aC, .inl (cI, 4096, .inl (nA g))), (aI, .inl (cI, 4096, .inl (nA ix))), (aS, .inl (cI, 4096, .inl (nA S))), (aL, .inl (cI, 4096, .inl (nA Lv))), (aO, .inl (cI, 4096, .inl (nA O))), (h, .inr (10, [.int (nI m), v1, v2, v3, v4, v5, v6, v7, v8, v9, v10, .ref aS, .ref aL, v13, v14, v15, v16, v17, v18, v19, v20, .ref aI, .ref aC, v23, v24, v25, .ref aO, .ref aB, .int (nI bi)])), (aB, .inl (cI, 64, .inl (nA fi)))] := hD
            obtain ⟨hi1, hi2, hi3⟩ := hr_8
            refine lv_iinc (v := nI (i + 1)) (lv' := [(6, .int (nI (i + 1))), (8, .int (nI (lyv T m st lv k + i))), (7, .int (zI (((lxv T m st lv k : Nat) : Int) - (1 : Int)))), (5, .int (nI (lyv T m st lv k))), (4, .int (zI (((lxv T m st lv k : Nat) : Int) - (1 : Int)))), (3, .int (nI (2 ^ lv k))), (0, .ref h), (1, .int (nI k)), (2, .int (nI 0))]) hex hby dX10_findBeside_163 hl (k := 2) rfl (ni_inc _) (by decide) rfl (fun ls hl => ?_)
            refine lv_goto (tgt := 90) hex hby dX10_findBeside_166 (by decide) ?_
            exact ih90 (i + 1) bi fi (by omega) (by omega) (by omega) hi3 (hi1.congr (fun w => (fnd_one hV hL hk hv1 hb (by omega) hg1 w).symm)) _ _ (hP.sub [5, 6, 0, 1, 2, 3, 4] rfl) (hD.sub [5, 6, 0, 1, 2, 3, 4] (by decide) rfl) hS _ (lv_sub hl [0, 3, 4, 5, 6, 7, 8] rfl)
          · refine nv_if_eq (tgt := 163) hex hby dX10_findBeside_138 (by decide) (by omega) (fun _ => ?_) (fun c => absurd c (by omega))
            refine lv_iinc (v := nI (i + 1)) (lv' := [(6, .int (nI (i + 1))), (8, .int (nI (lyv T m st lv k + i))), (7, .int (zI (((lxv T m st lv k : Nat) : Int) - (1 : Int)))), (5, .int (nI (lyv T m st lv k))), (4, .int (zI (((lxv T m st lv k : Nat) : Int) - (1 : Int)))), (3, .int (nI (2 ^ lv k))), (0, .ref h), (1, .int (nI k)), (2, .int (nI 0))]) hex hby dX10_findBeside_163 hl (k := 2) rfl (ni_inc _) (by decide) rfl (fun ls hl => ?_)
            refine lv_goto (tgt := 90) hex hby dX10_findBeside_166 (by decide) ?_
            have pf_11 : SSt bs f (fun w => byd T m st lv 0 k ∧ FndT T m c st lv 0 k (i + 1) w) := by
              have hnb : ¬ byd T m st lv 0 k := by
                intro z
                unfold byd at z
                simp at z
                omega
              exact hss.congr (fun w => ⟨fun q => absurd q.1 hnb, fun q => absurd q.1 hnb⟩)
            exact ih90 (i + 1) bs f (by omega) (by omega) (by omega) hfb pf_11 _ _ hP hD hS _ (lv_sub hl [0, 3, 4, 5, 6, 7, 8] rfl)
    exact loop90 _ 0 0 fa (Nat.lt_succ_self _) (by omega) (by omega) hfa (SSt.zero _ (fun v q => by obtain ⟨_, _, j, hj, _⟩ := q; exact absurd hj (Nat.not_lt_zero _))) _ _ hP hD hS _ (lv_sub hl [0, 1, 2, 3, 4, 5, 6] rfl)
  · refine lv_aload_n hex hby dX10_findBeside_0 rfl (lv_at hl 0 rfl) ?_
    refine lv_iconst (v := nI 0) hex hby dX10_findBeside_1 rfl ?_
    refine nv_put CFx in_X10_findBeside_X10 tyX10 tyX10_ok nmX10 hK hP hD hS 0 rfl rfl 28 (by decide) (List.mem_of_getElem? (i := 1) rfl) rfl (by decide +kernel) (Nat.le_of_ble_eq_true rfl) dX10_findBeside_2 (fun H locs hP hD hS => ?_)
    have hP : va_P (dC, dI) vwCl [(h, .inr (10, [.int (nI m), v1, v2, v3, v4, v5, v6, v7, v8, v9, v10, .ref aS, .ref aL, v13, v14, v15, v16, v17, v18, v19, v20, .ref aI, .ref aC, v23, v24, v25, .ref aO, .ref aB, .int (nI 0)])), (aB, .inl (cI, 64, .inl (nA fa))), (aC, .inl (cI, 4096, .inl (nA g))), (aI, .inl (cI, 4096, .inl (nA ix))), (aS, .inl (cI, 4096, .inl (nA S))), (aL, .inl (cI, 4096, .inl (nA Lv))), (aO, .inl (cI, 4096, .inl (nA O)))] H := hP
    have hD : va_D A [(h, .inr (10, [.int (nI m), v1, v2, v3, v4, v5, v6, v7, v8, v9, v10, .ref aS, .ref aL, v13, v14, v15, v16, v17, v18, v19, v20, .ref aI, .ref aC, v23, v24, v25, .ref aO, .ref aB, .int (nI 0)])), (aB, .inl (cI, 64, .inl (nA fa))), (aC, .inl (cI, 4096, .inl (nA g))), (aI, .inl (cI, 4096, .inl (nA ix))), (aS, .inl (cI, 4096, .inl (nA S))), (aL, .inl (cI, 4096, .inl (nA Lv))), (aO, .inl (cI, 4096, .inl (nA O)))] := hD
    refine lv_iconst (v := nI 1) hex hby dX10_findBeside_5 rfl ?_
    refine lv_aload_n hex hby dX10_findBeside_6 rfl (lv_at hl 0 rfl) ?_
    refine nv_get (v := .ref aL) CFx in_X10_findBeside_X10 hK hP 0 rfl rfl 12 (by decide) (List.mem_of_getElem? (i := 2) rfl) rfl dX10_findBeside_7 ?_
    refine lv_iload_n hex hby dX10_findBeside_10 rfl (lv_at hl 1 rfl) ?_
    refine nv_iald hex hby hK hP 5 0 rfl rfl (by omega) (by omega) dX10_findBeside_11 ?_
    have hb_12 := hLb k
    refine nv_ishl hex hby dX10_findBeside_12 (by omega) (by rw [hgk.2]; omega) ?_
    refine nv_top (y := nI (2 ^ (Lv k))) (congrArg nI (Nat.one_mul _)) ?_
    refine nv_top (y := nI (2 ^ lv k)) (congrArg nI (by rw [hgk.2])) ?_
    refine lv_istore_n (lv' := [(3, .int (nI (2 ^ lv k))), (0, .ref h), (1, .int (nI k)), (2, .int (nI 1))]) hex hby dX10_findBeside_13 rfl hl (by decide) rfl (fun ls hl => ?_)
    refine lv_iload_n hex hby dX10_findBeside_14 rfl (lv_at hl 3 rfl) ?_
    refine nv_if_ne (tgt := 28) hex hby dX10_findBeside_15 (by decide) (by omega) (fun _ => ?_) (fun c => absurd c (by omega))
    refine lv_iload_n hex hby dX10_findBeside_28 rfl (lv_at hl 3 rfl) ?_
    refine lv_iconst (v := nI 1) hex hby dX10_findBeside_29 rfl ?_
    refine nv_icmp_ne (tgt := 43) hex hby dX10_findBeside_30 (by decide) (by omega) (by omega) (fun c => absurd c (by omega)) (fun _ => ?_)
    refine lv_aload_n hex hby dX10_findBeside_33 rfl (lv_at hl 1 rfl) ?_
    refine lv_iload_n hex hby dX10_findBeside_34 rfl (lv_at hl 2 rfl) ?_
    refine ro_Vi (As := [.int (nI k)]) (rest := []) CFx (c_X10_leftOf (h := h) (aC := aC) (aS := aS) (aL := aL) (fs := [.int (nI m), v1, v2, v3, v4, v5, v6, v7, v8, v9, v10, .ref aS, .ref aL, v13, v14, v15, v16, v17, v18, v19, v20, .ref aI, .ref aC, v23, v24, v25, .ref aO, .ref aB, .int (nI 0)]) (g := g) (S := S) (Lv := Lv) (k := k) (m := m) (T := T) (ns := ns) (st := st) (lv := lv) (c := c) rfl rfl rfl hg hSb hLb hgc hV hL hag hm6 hk) 1 gX10_findBeside_X10_leftOf rfl nd_X10_leftOf ⟨Nat.le_of_ble_eq_true rfl, Nat.le_of_ble_eq_true rfl⟩ hK hP [0, 2, 4, 5] rfl rfl rfl rfl hl.1 rfl (Nat.le_of_ble_eq_true rfl) dX10_findBeside_35 ⟨Nat.le_refl _, Nat.le_refl _⟩ (fun r_13 hr_13 => ?_)
    obtain rfl := hr_13
    refine lv_iload_n hex hby dX10_findBeside_38 rfl (lv_at hl 0 rfl) ?_
    refine nv_iadd hex hby dX10_findBeside_39 ?_
    refine lv_goto (tgt := 48) hex hby dX10_findBeside_40 (by decide) ?_
    refine lv_istore (lv' := [(4, .int (nI (lxv T m st lv k + 2 ^ lv k))), (3, .int (nI (2 ^ lv k))), (0, .ref h), (1, .int (nI k)), (2, .int (nI 1))]) hex hby dX10_findBeside_48 hl (by decide) rfl (fun ls hl => ?_)
    refine lv_iload_n hex hby dX10_findBeside_50 rfl (lv_at hl 4 rfl) ?_
    refine lv_iconst (v := nI 2) hex hby dX10_findBeside_51 rfl ?_
    refine nv_icmp_ne (tgt := 65) hex hby dX10_findBeside_52 (by decide) (by omega) (by omega) (fun _ => ?_) (fun c => absurd c (by omega))
    refine lv_iload_n hex hby dX10_findBeside_65 rfl (lv_at hl 4 rfl) ?_
    refine lv_iconst (v := nI 3) hex hby dX10_findBeside_66 rfl ?_
    refine nv_icmp_ne (tgt := 80) hex hby dX10_findBeside_67 (by decide) (by omega) (by omega) (fun _ => ?_) (fun c => absurd c (by omega))
    refine lv_aload_n hex hby dX10_findBeside_80 rfl (lv_at hl 2 rfl) ?_
    refine lv_iload_n hex hby dX10_findBeside_81 rfl (lv_at hl 3 rfl) ?_
    refine ro_Vi (As := [.int (nI k)]) (rest := []) CFx (c_X10_belowOf (h := h) (aC := aC) (aS := aS) (aL := aL) (fs := [.int (nI m), v1, v2, v3, v4, v5, v6, v7, v8, v9, v10, .ref aS, .ref aL, v13, v14, v15, v16, v17, v18, v19, v20, .ref aI, .ref aC, v23, v24, v25, .ref aO, .ref aB, .int (nI 0)]) (g := g) (S := S) (Lv := Lv) (k := k) (m := m) (T := T) (ns := ns) (st := st) (lv := lv) (c := c) rfl rfl rfl hg hSb hLb hgc hV hL hag hm6 hk) 1 gX10_findBeside_X10_belowOf rfl nd_X10_belowOf ⟨Nat.le_of_ble_eq_true rfl, Nat.le_of_ble_eq_true rfl⟩ hK hP [0, 2, 4, 5] rfl rfl rfl rfl hl.1 rfl (Nat.le_of_ble_eq_true rfl) dX10_findBeside_82 ⟨Nat.le_refl _, Nat.le_refl _⟩ (fun r_14 hr_14 => ?_)
    obtain rfl := hr_14
    refine lv_istore (lv' := [(5, .int (nI (lyv T m st lv k))), (4, .int (nI (lxv T m st lv k + 2 ^ lv k))), (3, .int (nI (2 ^ lv k))), (0, .ref h), (1, .int (nI k)), (2, .int (nI 1))]) hex hby dX10_findBeside_85 hl (by decide) rfl (fun ls hl => ?_)
    refine lv_iconst (v := nI 0) hex hby dX10_findBeside_87 rfl ?_
    refine lv_istore (lv' := [(6, .int (nI 0)), (5, .int (nI (lyv T m st lv k))), (4, .int (nI (lxv T m st lv k + 2 ^ lv k))), (3, .int (nI (2 ^ lv k))), (0, .ref h), (1, .int (nI k)), (2, .int (nI 1))]) hex hby dX10_findBeside_88 hl (by decide) rfl (fun ls hl => ?_)
    have loop90 : ∀ (nn : Nat) (i : Nat) (bs : Nat) (f : Nat → Nat), (2 ^ lv k - i) < nn → (i ≤ 2 ^ lv k) → (bs ≤ i) → (∀ j, f j < 4096) → (SSt bs f (fun w => byd T m st lv 1 k ∧ FndT T m c st lv 1 k i w)) → ∀ (H : Heap) (locs : List Loc), va_P (dC, dI) vwCl [(h, .inr (10, [.int (nI m), v1, v2, v3, v4, v5, v6, v7, v8, v9, v10, .ref aS, .ref aL, v13, v14, v15, v16, v17, v18, v19, v20, .ref aI, .ref aC, v23, v24, v25, .ref aO, .ref aB, .int (nI bs)])), (aB, .inl (cI, 64, .inl (nA f))), (aC, .inl (cI, 4096, .inl (nA g))), (aI, .inl (cI, 4096, .inl (nA ix))), (aS, .inl (cI, 4096, .inl (nA S))), (aL, .inl (cI, 4096, .inl (nA Lv))), (aO, .inl (cI, 4096, .inl (nA O)))] H → va_D A [(h, .inr (10, [.int (nI m), v1, v2, v3, v4, v5, v6, v7, v8, v9, v10, .ref aS, .ref aL, v13, v14, v15, v16, v17, v18, v19, v20, .ref aI, .ref aC, v23, v24, v25, .ref aO, .ref aB, .int (nI bs)])), (aB, .inl (cI, 64, .inl (nA f))), (aC, .inl (cI, 4096, .inl (nA g))), (aI, .inl (cI, 4096, .inl (nA ix))), (aS, .inl (cI, 4096, .inl (nA S))), (aL, .inl (cI, 4096, .inl (nA Lv))), (aO, .inl (cI, 4096, .inl (nA O)))] → va_S A ss.heap H locs → ∀ ls : Array Slot, lv_has ls 9 [(6, .int (nI i)), (5, .int (nI (lyv T m st lv k))), (4, .int (nI (lxv T m st lv k + 2 ^ lv k))), (3, .int (nI (2 ^ lv k))), (0, .ref h), (1, .int (nI k)), (2, .int (nI 1))] → W pp l ee (rmO 2 44) ss mm ([.ref h, .int (nI k), .int (nI 1)] : List Value).toArray bb mt cd H locs 0 0 Q (F0 mm 90 ls []) := by
      intro nn
      induction nn with
      | zero => intro i bs f hms90; exact absurd hms90 (Nat.not_lt_zero _)
      | succ nn ih90 =>
        intro i bs f hms90 hi hba hfb hss H locs hP hD hS ls hl
        refine lv_iload hex hby dX10_findBeside_90 (lv_at hl 0 rfl) ?_
        refine lv_iload_n hex hby dX10_findBeside_92 rfl (lv_at hl 3 rfl) ?_
        refine nv_icmp_ge (tgt := 169) hex hby dX10_findBeside_93 (by decide) (by omega) (by omega) (fun c_15 => ?_) (fun c_15 => ?_)
        · exact hret _ (bs, f) _ _ _ _ _ (Or.inr (Or.inr (Or.inl ⟨rfl, rfl, rfl, dX10_findBeside_169⟩))) ⟨rfl, ⟨(hss.congr (fun v => ⟨fun q => (fnd_all q.1 (by omega) v).mp q.2, fun q => ⟨q.1, (fnd_all q.1 (by omega) v).mpr q⟩⟩)), hfb, (by omega)⟩⟩ hP hD hS
        · refine lv_iload_n hex hby dX10_findBeside_96 rfl (lv_at hl 6 rfl) ?_
          refine lv_iconst (v := nI 2) hex hby dX10_findBeside_97 rfl ?_
          refine nv_icmp_ge (tgt := 106) hex hby dX10_findBeside_98 (by decide) (by omega) (by omega) (fun c => absurd c (by omega)) (fun _ => ?_)
          refine lv_iload hex hby dX10_findBeside_101 (lv_at hl 2 rfl) ?_
          refine lv_goto (tgt := 111) hex hby dX10_findBeside_103 (by decide) ?_
          refine lv_istore (lv' := [(7, .int (nI (lxv T m st lv k + 2 ^ lv k))), (6, .int (nI i)), (5, .int (nI (lyv T m st lv k))), (4, .int (nI (lxv T m st lv k + 2 ^ lv k))), (3, .int (nI (2 ^ lv k))), (0, .ref h), (1, .int (nI k)), (2, .int (nI 1))]) hex hby dX10_findBeside_111 hl (by decide) rfl (fun ls hl => ?_)
          refine lv_iload_n hex hby dX10_findBeside_113 rfl (lv_at hl 7 rfl) ?_
          refine lv_iconst (v := nI 2) hex hby dX10_findBeside_114 rfl ?_
          refine nv_icmp_ge (tgt := 126) hex hby dX10_findBeside_115 (by decide) (by omega) (by omega) (fun c => absurd c (by omega)) (fun _ => ?_)
          refine lv_iload hex hby dX10_findBeside_118 (lv_at hl 2 rfl) ?_
          refine lv_iload hex hby dX10_findBeside_120 (lv_at hl 1 rfl) ?_
          refine nv_iadd hex hby dX10_findBeside_122 ?_
          refine lv_goto (tgt := 128) hex hby dX10_findBeside_123 (by decide) ?_
          refine lv_istore (lv' := [(8, .int (nI (lyv T m st lv k + i))), (7, .int (nI (lxv T m st lv k + 2 ^ lv k))), (6, .int (nI i)), (5, .int (nI (lyv T m st lv k))), (4, .int (nI (lxv T m st lv k + 2 ^ lv k))), (3, .int (nI (2 ^ lv k))), (0, .ref h), (1, .int (nI k)), (2, .int (nI 1))]) hex hby dX10_findBeside_128 hl (by decide) rfl (fun ls hl => ?_)
          refine lv_aload_n hex hby dX10_findBeside_130 rfl (lv_at hl 6 rfl) ?_
          refine lv_iload hex hby dX10_findBeside_131 (lv_at hl 1 rfl) ?_
          refine lv_iload hex hby dX10_findBeside_133 (lv_at hl 0 rfl) ?_
          refine ro_Vi (As := [.int (nI (lxv T m st lv k + 2 ^ lv k)), .int (nI (lyv T m st lv k + i))]) (rest := []) CFx (c_X10_isCell (h := h) (fs := [.int (nI m), v1, v2, v3, v4, v5, v6, v7, v8, v9, v10, .ref aS, .ref aL, v13, v14, v15, v16, v17, v18, v19, v20, .ref aI, .ref aC, v23, v24, v25, .ref aO, .ref aB, .int (nI bs)]) (m := m) (x := nI (lxv T m st lv k + 2 ^ lv k)) (xz := ((lxv T m st lv k + 2 ^ lv k : Nat) : Int)) (y := nI (lyv T m st lv k + i)) (yz := ((lyv T m st lv k + i : Nat) : Int)) rfl (ni_toInt (by omega)) (ni_toInt (by omega)) hm6) 2 gX10_findBeside_X10_isCell rfl nd_X10_isCell ⟨Nat.le_of_ble_eq_true rfl, Nat.le_of_ble_eq_true rfl⟩ hK hP [0] rfl rfl rfl rfl hl.1 rfl (Nat.le_of_ble_eq_true rfl) dX10_findBeside_135 ⟨Nat.le_refl _, Nat.le_refl _⟩ (fun r_16 hr_16 => ?_)
          rcases hr_16 with ⟨rfl, hh1⟩ | ⟨rfl, hh0⟩
          · refine nv_if_eq (tgt := 163) hex hby dX10_findBeside_138 (by decide) (by omega) (fun c => absurd c (by omega)) (fun _ => ?_)
            have hb : byd T m st lv 1 k := by unfold byd; simp; omega
            have hgr := bc_in hV hL (s := 1) hk hb (t := i) (by omega)
            have hna := num_at hV hN hgr.1 hgr.2
            obtain ⟨v, hv1, hv2, hv3⟩ := hL.at hna.1
            have hg1 := (geo hV hL hv1 hna.1).mp ⟨hv2, hv3⟩
            rw [hna.2.1, hna.2.2] at hg1
            refine lv_aload_n hex hby dX10_findBeside_141 rfl (lv_at hl 6 rfl) ?_
            refine lv_aload_n hex hby dX10_findBeside_142 rfl (lv_at hl 6 rfl) ?_
            refine nv_get (v := .ref aO) CFx in_X10_findBeside_X10 hK hP 0 rfl rfl 26 (by decide) (List.mem_of_getElem? (i := 3) rfl) rfl dX10_findBeside_143 ?_
            refine lv_aload_n hex hby dX10_findBeside_146 rfl (lv_at hl 6 rfl) ?_
            refine nv_get (v := .ref aI) CFx in_X10_findBeside_X10 hK hP 0 rfl rfl 21 (by decide) (List.mem_of_getElem? (i := 4) rfl) rfl dX10_findBeside_147 ?_
            refine lv_bipush (v := nI 64) hex hby dX10_findBeside_150 rfl ?_
            refine lv_iload hex hby dX10_findBeside_152 (lv_at hl 0 rfl) ?_
            refine nv_top (y := nI (bcy T m st lv 1 k i)) (congrArg nI (by unfold bcy; simp <;> omega)) ?_
            refine nv_imul hex hby dX10_findBeside_154 ?_
            refine lv_iload hex hby dX10_findBeside_155 (lv_at hl 1 rfl) ?_
            refine nv_top (y := nI (bcx T m st lv 1 k i)) (congrArg nI (by unfold bcx; simp <;> omega)) ?_
            refine nv_iadd hex hby dX10_findBeside_157 ?_
            refine nv_iald hex hby hK hP 3 0 rfl rfl (by omega) (by omega) dX10_findBeside_158 ?_
            have hb_17 := hix (64 * bcy T m st lv 1 k i + bcx T m st lv 1 k i)
            refine nv_top (y := nI (ix (bcy T m st lv 1 k i * 64 + bcx T m st lv 1 k i))) (congrArg nI (congrArg ix (by omega))) ?_
            refine nv_iald hex hby hK hP 6 0 rfl rfl (by omega) (by omega) dX10_findBeside_159 ?_
            have hb_18 := hOb (ix (bcy T m st lv 1 k i * 64 + bcx T m st lv 1 k i))
            refine nv_top (y := nI v) (congrArg nI (hO v hv1 _ hv2 hv3)) ?_
            refine mu_Vv (As := [.int (nI v)]) (rest := []) (wr := [(aC, .inl (cI, 4096, .inl (nA g))), (aI, .inl (cI, 4096, .inl (nA ix))), (aS, .inl (cI, 4096, .inl (nA S))), (aL, .inl (cI, 4096, .inl (nA Lv))), (aO, .inl (cI, 4096, .inl (nA O)))]) CFx (c_X10_comesBeside (h := h) (aB := aB) (v0 := .int (nI m)) (v1 := v1) (v2 := v2) (v3 := v3) (v4 := v4) (v5 := v5) (v6 := v6) (v7 := v7) (v8 := v8) (v9 := v9) (v10 := v10) (v11 := .ref aS) (v12 := .ref aL) (v13 := v13) (v14 := v14) (v15 := v15) (v16 := v16) (v17 := v17) (v18 := v18) (v19 := v19) (v20 := v20) (v21 := .ref aI) (v22 := .ref aC) (v23 := v23) (v24 := v24) (v25 := v25) (v26 := .ref aO) (bs := bs) (f := f) (v := v) (P := fun w => byd T m st lv 1 k ∧ FndT T m c st lv 1 k i w) hfb hss (by omega) (by omega)) 1 gX10_findBeside_X10_comesBeside rfl nd_X10_comesBeside ⟨Nat.le_of_ble_eq_true rfl, Nat.le_of_ble_eq_true rfl⟩ hK hP hD hS hA [0, 1] [2, 3, 4, 5, 6] rfl rfl (by decide) (by decide) (by decide) TR.nil rfl rfl rfl hl.1 rfl (Nat.le_of_ble_eq_true rfl) dX10_findBeside_160 ⟨Nat.le_refl _, Nat.le_refl _⟩ (fun u H locs hr_19 hP hD hS => ?_)
            obtain ⟨bi, fi⟩ := u
            dsimp only at hr_19 hP hD
            have hP : va_P (dC, dI) vwCl [(aC, .inl (cI, 4096, .inl (nA g))), (aI, .inl (cI, 4096, .inl (nA ix))), (aS, .inl (cI, 4096, .inl (nA S))), (aL, .inl (cI, 4096, .inl (nA Lv))), (aO, .inl (cI, 4096, .inl (nA O))), (h, .inr (10, [.int (nI m), v1, v2, v3, v4, v5, v6, v7, v8, v9, v10, .ref aS, .ref aL, v13, v14, v15, v16, v17, v18, v19, v20, .ref aI, .ref aC, v23, v24, v25, .ref aO, .ref aB, .int (nI bi)])), (aB, .inl (cI, 64, .inl (nA fi)))] H := hP
            have hD : va_D A [(aC, .inl (cI, 4096, .inl (nA g))), (aI, .inl (cI, 4096, .inl (nA ix))), (aS, .inl (cI, 4096, .inl (nA S))), (aL, .inl (cI, 4096, .inl (nA Lv))), (aO, .inl (cI, 4096, .inl (nA O))), (h, .inr (10, [.int (nI m), v1, v2, v3, v4, v5, v6, v7, v8, v9, v10, .ref aS, .ref aL, v13, v14, v15, v16, v17, v18, v19, v20, .ref aI, .ref aC, v23, v24, v25, .ref aO, .ref aB, .int (nI bi)])), (aB, .inl (cI, 64, .inl (nA fi)))] := hD
            obtain ⟨hi1, hi2, hi3⟩ := hr_19
            refine lv_iinc (v := nI (i + 1)) (lv' := [(6, .int (nI (i + 1))), (8, .int (nI (lyv T m st lv k + i))), (7, .int (nI (lxv T m st lv k + 2 ^ lv k))), (5, .int (nI (lyv T m st lv k))), (4, .int (nI (lxv T m st lv k + 2 ^ lv k))), (3, .int (nI (2 ^ lv k))), (0, .ref h), (1, .int (nI k)), (2, .int (nI 1))]) hex hby dX10_findBeside_163 hl (k := 2) rfl (ni_inc _) (by decide) rfl (fun ls hl => ?_)
            refine lv_goto (tgt := 90) hex hby dX10_findBeside_166 (by decide) ?_
            exact ih90 (i + 1) bi fi (by omega) (by omega) (by omega) hi3 (hi1.congr (fun w => (fnd_one hV hL hk hv1 hb (by omega) hg1 w).symm)) _ _ (hP.sub [5, 6, 0, 1, 2, 3, 4] rfl) (hD.sub [5, 6, 0, 1, 2, 3, 4] (by decide) rfl) hS _ (lv_sub hl [0, 3, 4, 5, 6, 7, 8] rfl)
          · refine nv_if_eq (tgt := 163) hex hby dX10_findBeside_138 (by decide) (by omega) (fun _ => ?_) (fun c => absurd c (by omega))
            refine lv_iinc (v := nI (i + 1)) (lv' := [(6, .int (nI (i + 1))), (8, .int (nI (lyv T m st lv k + i))), (7, .int (nI (lxv T m st lv k + 2 ^ lv k))), (5, .int (nI (lyv T m st lv k))), (4, .int (nI (lxv T m st lv k + 2 ^ lv k))), (3, .int (nI (2 ^ lv k))), (0, .ref h), (1, .int (nI k)), (2, .int (nI 1))]) hex hby dX10_findBeside_163 hl (k := 2) rfl (ni_inc _) (by decide) rfl (fun ls hl => ?_)
            refine lv_goto (tgt := 90) hex hby dX10_findBeside_166 (by decide) ?_
            have pf_22 : SSt bs f (fun w => byd T m st lv 1 k ∧ FndT T m c st lv 1 k (i + 1) w) := by
              have hnb : ¬ byd T m st lv 1 k := by
                intro z
                unfold byd at z
                simp at z
                omega
              exact hss.congr (fun w => ⟨fun q => absurd q.1 hnb, fun q => absurd q.1 hnb⟩)
            exact ih90 (i + 1) bs f (by omega) (by omega) (by omega) hfb pf_22 _ _ hP hD hS _ (lv_sub hl [0, 3, 4, 5, 6, 7, 8] rfl)
    exact loop90 _ 0 0 fa (Nat.lt_succ_self _) (by omega) (by omega) hfa (SSt.zero _ (fun v q => by obtain ⟨_, _, j, hj, _⟩ := q; exact absurd hj (Nat.not_lt_zero _))) _ _ hP hD hS _ (lv_sub hl [0, 1, 2, 3, 4, 5, 6] rfl)
  · refine lv_aload_n hex hby dX10_findBeside_0 rfl (lv_at hl 0 rfl) ?_
    refine lv_iconst (v := nI 0) hex hby dX10_findBeside_1 rfl ?_
    refine nv_put CFx in_X10_findBeside_X10 tyX10 tyX10_ok nmX10 hK hP hD hS 0 rfl rfl 28 (by decide) (List.mem_of_getElem? (i := 1) rfl) rfl (by decide +kernel) (Nat.le_of_ble_eq_true rfl) dX10_findBeside_2 (fun H locs hP hD hS => ?_)
    have hP : va_P (dC, dI) vwCl [(h, .inr (10, [.int (nI m), v1, v2, v3, v4, v5, v6, v7, v8, v9, v10, .ref aS, .ref aL, v13, v14, v15, v16, v17, v18, v19, v20, .ref aI, .ref aC, v23, v24, v25, .ref aO, .ref aB, .int (nI 0)])), (aB, .inl (cI, 64, .inl (nA fa))), (aC, .inl (cI, 4096, .inl (nA g))), (aI, .inl (cI, 4096, .inl (nA ix))), (aS, .inl (cI, 4096, .inl (nA S))), (aL, .inl (cI, 4096, .inl (nA Lv))), (aO, .inl (cI, 4096, .inl (nA O)))] H := hP
    have hD : va_D A [(h, .inr (10, [.int (nI m), v1, v2, v3, v4, v5, v6, v7, v8, v9, v10, .ref aS, .ref aL, v13, v14, v15, v16, v17, v18, v19, v20, .ref aI, .ref aC, v23, v24, v25, .ref aO, .ref aB, .int (nI 0)])), (aB, .inl (cI, 64, .inl (nA fa))), (aC, .inl (cI, 4096, .inl (nA g))), (aI, .inl (cI, 4096, .inl (nA ix))), (aS, .inl (cI, 4096, .inl (nA S))), (aL, .inl (cI, 4096, .inl (nA Lv))), (aO, .inl (cI, 4096, .inl (nA O)))] := hD
    refine lv_iconst (v := nI 1) hex hby dX10_findBeside_5 rfl ?_
    refine lv_aload_n hex hby dX10_findBeside_6 rfl (lv_at hl 0 rfl) ?_
    refine nv_get (v := .ref aL) CFx in_X10_findBeside_X10 hK hP 0 rfl rfl 12 (by decide) (List.mem_of_getElem? (i := 2) rfl) rfl dX10_findBeside_7 ?_
    refine lv_iload_n hex hby dX10_findBeside_10 rfl (lv_at hl 1 rfl) ?_
    refine nv_iald hex hby hK hP 5 0 rfl rfl (by omega) (by omega) dX10_findBeside_11 ?_
    have hb_23 := hLb k
    refine nv_ishl hex hby dX10_findBeside_12 (by omega) (by rw [hgk.2]; omega) ?_
    refine nv_top (y := nI (2 ^ (Lv k))) (congrArg nI (Nat.one_mul _)) ?_
    refine nv_top (y := nI (2 ^ lv k)) (congrArg nI (by rw [hgk.2])) ?_
    refine lv_istore_n (lv' := [(3, .int (nI (2 ^ lv k))), (0, .ref h), (1, .int (nI k)), (2, .int (nI 2))]) hex hby dX10_findBeside_13 rfl hl (by decide) rfl (fun ls hl => ?_)
    refine lv_iload_n hex hby dX10_findBeside_14 rfl (lv_at hl 3 rfl) ?_
    refine nv_if_ne (tgt := 28) hex hby dX10_findBeside_15 (by decide) (by omega) (fun _ => ?_) (fun c => absurd c (by omega))
    refine lv_iload_n hex hby dX10_findBeside_28 rfl (lv_at hl 3 rfl) ?_
    refine lv_iconst (v := nI 1) hex hby dX10_findBeside_29 rfl ?_
    refine nv_icmp_ne (tgt := 43) hex hby dX10_findBeside_30 (by decide) (by omega) (by omega) (fun _ => ?_) (fun c => absurd c (by omega))
    refine lv_aload_n hex hby dX10_findBeside_43 rfl (lv_at hl 1 rfl) ?_
    refine lv_iload_n hex hby dX10_findBeside_44 rfl (lv_at hl 2 rfl) ?_
    refine ro_Vi (As := [.int (nI k)]) (rest := []) CFx (c_X10_leftOf (h := h) (aC := aC) (aS := aS) (aL := aL) (fs := [.int (nI m), v1, v2, v3, v4, v5, v6, v7, v8, v9, v10, .ref aS, .ref aL, v13, v14, v15, v16, v17, v18, v19, v20, .ref aI, .ref aC, v23, v24, v25, .ref aO, .ref aB, .int (nI 0)]) (g := g) (S := S) (Lv := Lv) (k := k) (m := m) (T := T) (ns := ns) (st := st) (lv := lv) (c := c) rfl rfl rfl hg hSb hLb hgc hV hL hag hm6 hk) 1 gX10_findBeside_X10_leftOf rfl nd_X10_leftOf ⟨Nat.le_of_ble_eq_true rfl, Nat.le_of_ble_eq_true rfl⟩ hK hP [0, 2, 4, 5] rfl rfl rfl rfl hl.1 rfl (Nat.le_of_ble_eq_true rfl) dX10_findBeside_45 ⟨Nat.le_refl _, Nat.le_refl _⟩ (fun r_24 hr_24 => ?_)
    obtain rfl := hr_24
    refine lv_istore (lv' := [(4, .int (nI (lxv T m st lv k))), (3, .int (nI (2 ^ lv k))), (0, .ref h), (1, .int (nI k)), (2, .int (nI 2))]) hex hby dX10_findBeside_48 hl (by decide) rfl (fun ls hl => ?_)
    refine lv_iload_n hex hby dX10_findBeside_50 rfl (lv_at hl 4 rfl) ?_
    refine lv_iconst (v := nI 2) hex hby dX10_findBeside_51 rfl ?_
    refine nv_icmp_ne (tgt := 65) hex hby dX10_findBeside_52 (by decide) (by omega) (by omega) (fun c => absurd c (by omega)) (fun _ => ?_)
    refine lv_aload_n hex hby dX10_findBeside_55 rfl (lv_at hl 2 rfl) ?_
    refine lv_iload_n hex hby dX10_findBeside_56 rfl (lv_at hl 3 rfl) ?_
    refine ro_Vi (As := [.int (nI k)]) (rest := []) CFx (c_X10_belowOf (h := h) (aC := aC) (aS := aS) (aL := aL) (fs := [.int (nI m), v1, v2, v3, v4, v5, v6, v7, v8, v9, v10, .ref aS, .ref aL, v13, v14, v15, v16, v17, v18, v19, v20, .ref aI, .ref aC, v23, v24, v25, .ref aO, .ref aB, .int (nI 0)]) (g := g) (S := S) (Lv := Lv) (k := k) (m := m) (T := T) (ns := ns) (st := st) (lv := lv) (c := c) rfl rfl rfl hg hSb hLb hgc hV hL hag hm6 hk) 1 gX10_findBeside_X10_belowOf rfl nd_X10_belowOf ⟨Nat.le_of_ble_eq_true rfl, Nat.le_of_ble_eq_true rfl⟩ hK hP [0, 2, 4, 5] rfl rfl rfl rfl hl.1 rfl (Nat.le_of_ble_eq_true rfl) dX10_findBeside_57 ⟨Nat.le_refl _, Nat.le_refl _⟩ (fun r_25 hr_25 => ?_)
    obtain rfl := hr_25
    refine lv_iconst (v := nI 1) hex hby dX10_findBeside_60 rfl ?_
    refine nz_isub (a := ((lyv T m st lv k : Nat) : Int)) (b := (1 : Int)) hex hby dX10_findBeside_61 (ni_nz _) rfl ?_
    refine lv_goto (tgt := 85) hex hby dX10_findBeside_62 (by decide) ?_
    refine lv_istore (lv' := [(5, .int (zI (((lyv T m st lv k : Nat) : Int) - (1 : Int)))), (4, .int (nI (lxv T m st lv k))), (3, .int (nI (2 ^ lv k))), (0, .ref h), (1, .int (nI k)), (2, .int (nI 2))]) hex hby dX10_findBeside_85 hl (by decide) rfl (fun ls hl => ?_)
    refine lv_iconst (v := nI 0) hex hby dX10_findBeside_87 rfl ?_
    refine lv_istore (lv' := [(6, .int (nI 0)), (5, .int (zI (((lyv T m st lv k : Nat) : Int) - (1 : Int)))), (4, .int (nI (lxv T m st lv k))), (3, .int (nI (2 ^ lv k))), (0, .ref h), (1, .int (nI k)), (2, .int (nI 2))]) hex hby dX10_findBeside_88 hl (by decide) rfl (fun ls hl => ?_)
    have loop90 : ∀ (nn : Nat) (i : Nat) (bs : Nat) (f : Nat → Nat), (2 ^ lv k - i) < nn → (i ≤ 2 ^ lv k) → (bs ≤ i) → (∀ j, f j < 4096) → (SSt bs f (fun w => byd T m st lv 2 k ∧ FndT T m c st lv 2 k i w)) → ∀ (H : Heap) (locs : List Loc), va_P (dC, dI) vwCl [(h, .inr (10, [.int (nI m), v1, v2, v3, v4, v5, v6, v7, v8, v9, v10, .ref aS, .ref aL, v13, v14, v15, v16, v17, v18, v19, v20, .ref aI, .ref aC, v23, v24, v25, .ref aO, .ref aB, .int (nI bs)])), (aB, .inl (cI, 64, .inl (nA f))), (aC, .inl (cI, 4096, .inl (nA g))), (aI, .inl (cI, 4096, .inl (nA ix))), (aS, .inl (cI, 4096, .inl (nA S))), (aL, .inl (cI, 4096, .inl (nA Lv))), (aO, .inl (cI, 4096, .inl (nA O)))] H → va_D A [(h, .inr (10, [.int (nI m), v1, v2, v3, v4, v5, v6, v7, v8, v9, v10, .ref aS, .ref aL, v13, v14, v15, v16, v17, v18, v19, v20, .ref aI, .ref aC, v23, v24, v25, .ref aO, .ref aB, .int (nI bs)])), (aB, .inl (cI, 64, .inl (nA f))), (aC, .inl (cI, 4096, .inl (nA g))), (aI, .inl (cI, 4096, .inl (nA ix))), (aS, .inl (cI, 4096, .inl (nA S))), (aL, .inl (cI, 4096, .inl (nA Lv))), (aO, .inl (cI, 4096, .inl (nA O)))] → va_S A ss.heap H locs → ∀ ls : Array Slot, lv_has ls 9 [(6, .int (nI i)), (5, .int (zI (((lyv T m st lv k : Nat) : Int) - (1 : Int)))), (4, .int (nI (lxv T m st lv k))), (3, .int (nI (2 ^ lv k))), (0, .ref h), (1, .int (nI k)), (2, .int (nI 2))] → W pp l ee (rmO 2 44) ss mm ([.ref h, .int (nI k), .int (nI 2)] : List Value).toArray bb mt cd H locs 0 0 Q (F0 mm 90 ls []) := by
      intro nn
      induction nn with
      | zero => intro i bs f hms90; exact absurd hms90 (Nat.not_lt_zero _)
      | succ nn ih90 =>
        intro i bs f hms90 hi hba hfb hss H locs hP hD hS ls hl
        refine lv_iload hex hby dX10_findBeside_90 (lv_at hl 0 rfl) ?_
        refine lv_iload_n hex hby dX10_findBeside_92 rfl (lv_at hl 3 rfl) ?_
        refine nv_icmp_ge (tgt := 169) hex hby dX10_findBeside_93 (by decide) (by omega) (by omega) (fun c_26 => ?_) (fun c_26 => ?_)
        · exact hret _ (bs, f) _ _ _ _ _ (Or.inr (Or.inr (Or.inl ⟨rfl, rfl, rfl, dX10_findBeside_169⟩))) ⟨rfl, ⟨(hss.congr (fun v => ⟨fun q => (fnd_all q.1 (by omega) v).mp q.2, fun q => ⟨q.1, (fnd_all q.1 (by omega) v).mpr q⟩⟩)), hfb, (by omega)⟩⟩ hP hD hS
        · refine lv_iload_n hex hby dX10_findBeside_96 rfl (lv_at hl 6 rfl) ?_
          refine lv_iconst (v := nI 2) hex hby dX10_findBeside_97 rfl ?_
          refine nv_icmp_ge (tgt := 106) hex hby dX10_findBeside_98 (by decide) (by omega) (by omega) (fun _ => ?_) (fun c => absurd c (by omega))
          refine lv_iload hex hby dX10_findBeside_106 (lv_at hl 2 rfl) ?_
          refine lv_iload hex hby dX10_findBeside_108 (lv_at hl 0 rfl) ?_
          refine nv_iadd hex hby dX10_findBeside_110 ?_
          refine lv_istore (lv' := [(7, .int (nI (lxv T m st lv k + i))), (6, .int (nI i)), (5, .int (zI (((lyv T m st lv k : Nat) : Int) - (1 : Int)))), (4, .int (nI (lxv T m st lv k))), (3, .int (nI (2 ^ lv k))), (0, .ref h), (1, .int (nI k)), (2, .int (nI 2))]) hex hby dX10_findBeside_111 hl (by decide) rfl (fun ls hl => ?_)
          refine lv_iload_n hex hby dX10_findBeside_113 rfl (lv_at hl 7 rfl) ?_
          refine lv_iconst (v := nI 2) hex hby dX10_findBeside_114 rfl ?_
          refine nv_icmp_ge (tgt := 126) hex hby dX10_findBeside_115 (by decide) (by omega) (by omega) (fun _ => ?_) (fun c => absurd c (by omega))
          refine lv_iload hex hby dX10_findBeside_126 (lv_at hl 2 rfl) ?_
          refine lv_istore (lv' := [(8, .int (zI (((lyv T m st lv k : Nat) : Int) - (1 : Int)))), (7, .int (nI (lxv T m st lv k + i))), (6, .int (nI i)), (5, .int (zI (((lyv T m st lv k : Nat) : Int) - (1 : Int)))), (4, .int (nI (lxv T m st lv k))), (3, .int (nI (2 ^ lv k))), (0, .ref h), (1, .int (nI k)), (2, .int (nI 2))]) hex hby dX10_findBeside_128 hl (by decide) rfl (fun ls hl => ?_)
          refine lv_aload_n hex hby dX10_findBeside_130 rfl (lv_at hl 6 rfl) ?_
          refine lv_iload hex hby dX10_findBeside_131 (lv_at hl 1 rfl) ?_
          refine lv_iload hex hby dX10_findBeside_133 (lv_at hl 0 rfl) ?_
          refine ro_Vi (As := [.int (nI (lxv T m st lv k + i)), .int (zI (((lyv T m st lv k : Nat) : Int) - (1 : Int)))]) (rest := []) CFx (c_X10_isCell (h := h) (fs := [.int (nI m), v1, v2, v3, v4, v5, v6, v7, v8, v9, v10, .ref aS, .ref aL, v13, v14, v15, v16, v17, v18, v19, v20, .ref aI, .ref aC, v23, v24, v25, .ref aO, .ref aB, .int (nI bs)]) (m := m) (x := nI (lxv T m st lv k + i)) (xz := ((lxv T m st lv k + i : Nat) : Int)) (y := zI (((lyv T m st lv k : Nat) : Int) - (1 : Int))) (yz := ((lyv T m st lv k : Nat) : Int) - (1 : Int)) rfl (ni_toInt (by omega)) (zI_toInt (by omega) (by omega)) hm6) 2 gX10_findBeside_X10_isCell rfl nd_X10_isCell ⟨Nat.le_of_ble_eq_true rfl, Nat.le_of_ble_eq_true rfl⟩ hK hP [0] rfl rfl rfl rfl hl.1 rfl (Nat.le_of_ble_eq_true rfl) dX10_findBeside_135 ⟨Nat.le_refl _, Nat.le_refl _⟩ (fun r_27 hr_27 => ?_)
          rcases hr_27 with ⟨rfl, hh1⟩ | ⟨rfl, hh0⟩
          · refine nv_if_eq (tgt := 163) hex hby dX10_findBeside_138 (by decide) (by omega) (fun c => absurd c (by omega)) (fun _ => ?_)
            have hb : byd T m st lv 2 k := by unfold byd; simp; omega
            have hgr := bc_in hV hL (s := 2) hk hb (t := i) (by omega)
            have hna := num_at hV hN hgr.1 hgr.2
            obtain ⟨v, hv1, hv2, hv3⟩ := hL.at hna.1
            have hg1 := (geo hV hL hv1 hna.1).mp ⟨hv2, hv3⟩
            rw [hna.2.1, hna.2.2] at hg1
            refine lv_aload_n hex hby dX10_findBeside_141 rfl (lv_at hl 6 rfl) ?_
            refine lv_aload_n hex hby dX10_findBeside_142 rfl (lv_at hl 6 rfl) ?_
            refine nv_get (v := .ref aO) CFx in_X10_findBeside_X10 hK hP 0 rfl rfl 26 (by decide) (List.mem_of_getElem? (i := 3) rfl) rfl dX10_findBeside_143 ?_
            refine lv_aload_n hex hby dX10_findBeside_146 rfl (lv_at hl 6 rfl) ?_
            refine nv_get (v := .ref aI) CFx in_X10_findBeside_X10 hK hP 0 rfl rfl 21 (by decide) (List.mem_of_getElem? (i := 4) rfl) rfl dX10_findBeside_147 ?_
            refine lv_bipush (v := nI 64) hex hby dX10_findBeside_150 rfl ?_
            refine lv_iload hex hby dX10_findBeside_152 (lv_at hl 0 rfl) ?_
            refine nv_top (y := nI (bcy T m st lv 2 k i)) (by rw [ni_nz]; exact congrArg zI (by unfold bcy; simp <;> omega)) ?_
            refine nv_imul hex hby dX10_findBeside_154 ?_
            refine lv_iload hex hby dX10_findBeside_155 (lv_at hl 1 rfl) ?_
            refine nv_top (y := nI (bcx T m st lv 2 k i)) (congrArg nI (by unfold bcx; simp <;> omega)) ?_
            refine nv_iadd hex hby dX10_findBeside_157 ?_
            refine nv_iald hex hby hK hP 3 0 rfl rfl (by omega) (by omega) dX10_findBeside_158 ?_
            have hb_28 := hix (64 * bcy T m st lv 2 k i + bcx T m st lv 2 k i)
            refine nv_top (y := nI (ix (bcy T m st lv 2 k i * 64 + bcx T m st lv 2 k i))) (congrArg nI (congrArg ix (by omega))) ?_
            refine nv_iald hex hby hK hP 6 0 rfl rfl (by omega) (by omega) dX10_findBeside_159 ?_
            have hb_29 := hOb (ix (bcy T m st lv 2 k i * 64 + bcx T m st lv 2 k i))
            refine nv_top (y := nI v) (congrArg nI (hO v hv1 _ hv2 hv3)) ?_
            refine mu_Vv (As := [.int (nI v)]) (rest := []) (wr := [(aC, .inl (cI, 4096, .inl (nA g))), (aI, .inl (cI, 4096, .inl (nA ix))), (aS, .inl (cI, 4096, .inl (nA S))), (aL, .inl (cI, 4096, .inl (nA Lv))), (aO, .inl (cI, 4096, .inl (nA O)))]) CFx (c_X10_comesBeside (h := h) (aB := aB) (v0 := .int (nI m)) (v1 := v1) (v2 := v2) (v3 := v3) (v4 := v4) (v5 := v5) (v6 := v6) (v7 := v7) (v8 := v8) (v9 := v9) (v10 := v10) (v11 := .ref aS) (v12 := .ref aL) (v13 := v13) (v14 := v14) (v15 := v15) (v16 := v16) (v17 := v17) (v18 := v18) (v19 := v19) (v20 := v20) (v21 := .ref aI) (v22 := .ref aC) (v23 := v23) (v24 := v24) (v25 := v25) (v26 := .ref aO) (bs := bs) (f := f) (v := v) (P := fun w => byd T m st lv 2 k ∧ FndT T m c st lv 2 k i w) hfb hss (by omega) (by omega)) 1 gX10_findBeside_X10_comesBeside rfl nd_X10_comesBeside ⟨Nat.le_of_ble_eq_true rfl, Nat.le_of_ble_eq_true rfl⟩ hK hP hD hS hA [0, 1] [2, 3, 4, 5, 6] rfl rfl (by decide) (by decide) (by decide) TR.nil rfl rfl rfl hl.1 rfl (Nat.le_of_ble_eq_true rfl) dX10_findBeside_160 ⟨Nat.le_refl _, Nat.le_refl _⟩ (fun u H locs hr_30 hP hD hS => ?_)
            obtain ⟨bi, fi⟩ := u
            dsimp only at hr_30 hP hD
            have hP : va_P (dC, dI) vwCl [(aC, .inl (cI, 4096, .inl (nA g))), (aI, .inl (cI, 4096, .inl (nA ix))), (aS, .inl (cI, 4096, .inl (nA S))), (aL, .inl (cI, 4096, .inl (nA Lv))), (aO, .inl (cI, 4096, .inl (nA O))), (h, .inr (10, [.int (nI m), v1, v2, v3, v4, v5, v6, v7, v8, v9, v10, .ref aS, .ref aL, v13, v14, v15, v16, v17, v18, v19, v20, .ref aI, .ref aC, v23, v24, v25, .ref aO, .ref aB, .int (nI bi)])), (aB, .inl (cI, 64, .inl (nA fi)))] H := hP
            have hD : va_D A [(aC, .inl (cI, 4096, .inl (nA g))), (aI, .inl (cI, 4096, .inl (nA ix))), (aS, .inl (cI, 4096, .inl (nA S))), (aL, .inl (cI, 4096, .inl (nA Lv))), (aO, .inl (cI, 4096, .inl (nA O))), (h, .inr (10, [.int (nI m), v1, v2, v3, v4, v5, v6, v7, v8, v9, v10, .ref aS, .ref aL, v13, v14, v15, v16, v17, v18, v19, v20, .ref aI, .ref aC, v23, v24, v25, .ref aO, .ref aB, .int (nI bi)])), (aB, .inl (cI, 64, .inl (nA fi)))] := hD
            obtain ⟨hi1, hi2, hi3⟩ := hr_30
            refine lv_iinc (v := nI (i + 1)) (lv' := [(6, .int (nI (i + 1))), (8, .int (zI (((lyv T m st lv k : Nat) : Int) - (1 : Int)))), (7, .int (nI (lxv T m st lv k + i))), (5, .int (zI (((lyv T m st lv k : Nat) : Int) - (1 : Int)))), (4, .int (nI (lxv T m st lv k))), (3, .int (nI (2 ^ lv k))), (0, .ref h), (1, .int (nI k)), (2, .int (nI 2))]) hex hby dX10_findBeside_163 hl (k := 2) rfl (ni_inc _) (by decide) rfl (fun ls hl => ?_)
            refine lv_goto (tgt := 90) hex hby dX10_findBeside_166 (by decide) ?_
            exact ih90 (i + 1) bi fi (by omega) (by omega) (by omega) hi3 (hi1.congr (fun w => (fnd_one hV hL hk hv1 hb (by omega) hg1 w).symm)) _ _ (hP.sub [5, 6, 0, 1, 2, 3, 4] rfl) (hD.sub [5, 6, 0, 1, 2, 3, 4] (by decide) rfl) hS _ (lv_sub hl [0, 3, 4, 5, 6, 7, 8] rfl)
          · refine nv_if_eq (tgt := 163) hex hby dX10_findBeside_138 (by decide) (by omega) (fun _ => ?_) (fun c => absurd c (by omega))
            refine lv_iinc (v := nI (i + 1)) (lv' := [(6, .int (nI (i + 1))), (8, .int (zI (((lyv T m st lv k : Nat) : Int) - (1 : Int)))), (7, .int (nI (lxv T m st lv k + i))), (5, .int (zI (((lyv T m st lv k : Nat) : Int) - (1 : Int)))), (4, .int (nI (lxv T m st lv k))), (3, .int (nI (2 ^ lv k))), (0, .ref h), (1, .int (nI k)), (2, .int (nI 2))]) hex hby dX10_findBeside_163 hl (k := 2) rfl (ni_inc _) (by decide) rfl (fun ls hl => ?_)
            refine lv_goto (tgt := 90) hex hby dX10_findBeside_166 (by decide) ?_
            have pf_33 : SSt bs f (fun w => byd T m st lv 2 k ∧ FndT T m c st lv 2 k (i + 1) w) := by
              have hnb : ¬ byd T m st lv 2 k := by
                intro z
                unfold byd at z
                simp at z
                omega
              exact hss.congr (fun w => ⟨fun q => absurd q.1 hnb, fun q => absurd q.1 hnb⟩)
            exact ih90 (i + 1) bs f (by omega) (by omega) (by omega) hfb pf_33 _ _ hP hD hS _ (lv_sub hl [0, 3, 4, 5, 6, 7, 8] rfl)
    exact loop90 _ 0 0 fa (Nat.lt_succ_self _) (by omega) (by omega) hfa (SSt.zero _ (fun v q => by obtain ⟨_, _, j, hj, _⟩ := q; exact absurd hj (Nat.not_lt_zero _))) _ _ hP hD hS _ (lv_sub hl [0, 1, 2, 3, 4, 5, 6] rfl)
  · refine lv_aload_n hex hby dX10_findBeside_0 rfl (lv_at hl 0 rfl) ?_
    refine lv_iconst (v := nI 0) hex hby dX10_findBeside_1 rfl ?_
    refine nv_put CFx in_X10_findBeside_X10 tyX10 tyX10_ok nmX10 hK hP hD hS 0 rfl rfl 28 (by decide) (List.mem_of_getElem? (i := 1) rfl) rfl (by decide +kernel) (Nat.le_of_ble_eq_true rfl) dX10_findBeside_2 (fun H locs hP hD hS => ?_)
    have hP : va_P (dC, dI) vwCl [(h, .inr (10, [.int (nI m), v1, v2, v3, v4, v5, v6, v7, v8, v9, v10, .ref aS, .ref aL, v13, v14, v15, v16, v17, v18, v19, v20, .ref aI, .ref aC, v23, v24, v25, .ref aO, .ref aB, .int (nI 0)])), (aB, .inl (cI, 64, .inl (nA fa))), (aC, .inl (cI, 4096, .inl (nA g))), (aI, .inl (cI, 4096, .inl (nA ix))), (aS, .inl (cI, 4096, .inl (nA S))), (aL, .inl (cI, 4096, .inl (nA Lv))), (aO, .inl (cI, 4096, .inl (nA O)))] H := hP
    have hD : va_D A [(h, .inr (10, [.int (nI m), v1, v2, v3, v4, v5, v6, v7, v8, v9, v10, .ref aS, .ref aL, v13, v14, v15, v16, v17, v18, v19, v20, .ref aI, .ref aC, v23, v24, v25, .ref aO, .ref aB, .int (nI 0)])), (aB, .inl (cI, 64, .inl (nA fa))), (aC, .inl (cI, 4096, .inl (nA g))), (aI, .inl (cI, 4096, .inl (nA ix))), (aS, .inl (cI, 4096, .inl (nA S))), (aL, .inl (cI, 4096, .inl (nA Lv))), (aO, .inl (cI, 4096, .inl (nA O)))] := hD
    refine lv_iconst (v := nI 1) hex hby dX10_findBeside_5 rfl ?_
    refine lv_aload_n hex hby dX10_findBeside_6 rfl (lv_at hl 0 rfl) ?_
    refine nv_get (v := .ref aL) CFx in_X10_findBeside_X10 hK hP 0 rfl rfl 12 (by decide) (List.mem_of_getElem? (i := 2) rfl) rfl dX10_findBeside_7 ?_
    refine lv_iload_n hex hby dX10_findBeside_10 rfl (lv_at hl 1 rfl) ?_
    refine nv_iald hex hby hK hP 5 0 rfl rfl (by omega) (by omega) dX10_findBeside_11 ?_
    have hb_34 := hLb k
    refine nv_ishl hex hby dX10_findBeside_12 (by omega) (by rw [hgk.2]; omega) ?_
    refine nv_top (y := nI (2 ^ (Lv k))) (congrArg nI (Nat.one_mul _)) ?_
    refine nv_top (y := nI (2 ^ lv k)) (congrArg nI (by rw [hgk.2])) ?_
    refine lv_istore_n (lv' := [(3, .int (nI (2 ^ lv k))), (0, .ref h), (1, .int (nI k)), (2, .int (nI 3))]) hex hby dX10_findBeside_13 rfl hl (by decide) rfl (fun ls hl => ?_)
    refine lv_iload_n hex hby dX10_findBeside_14 rfl (lv_at hl 3 rfl) ?_
    refine nv_if_ne (tgt := 28) hex hby dX10_findBeside_15 (by decide) (by omega) (fun _ => ?_) (fun c => absurd c (by omega))
    refine lv_iload_n hex hby dX10_findBeside_28 rfl (lv_at hl 3 rfl) ?_
    refine lv_iconst (v := nI 1) hex hby dX10_findBeside_29 rfl ?_
    refine nv_icmp_ne (tgt := 43) hex hby dX10_findBeside_30 (by decide) (by omega) (by omega) (fun _ => ?_) (fun c => absurd c (by omega))
    refine lv_aload_n hex hby dX10_findBeside_43 rfl (lv_at hl 1 rfl) ?_
    refine lv_iload_n hex hby dX10_findBeside_44 rfl (lv_at hl 2 rfl) ?_
    refine ro_Vi (As := [.int (nI k)]) (rest := []) CFx (c_X10_leftOf (h := h) (aC := aC) (aS := aS) (aL := aL) (fs := [.int (nI m), v1, v2, v3, v4, v5, v6, v7, v8, v9, v10, .ref aS, .ref aL, v13, v14, v15, v16, v17, v18, v19, v20, .ref aI, .ref aC, v23, v24, v25, .ref aO, .ref aB, .int (nI 0)]) (g := g) (S := S) (Lv := Lv) (k := k) (m := m) (T := T) (ns := ns) (st := st) (lv := lv) (c := c) rfl rfl rfl hg hSb hLb hgc hV hL hag hm6 hk) 1 gX10_findBeside_X10_leftOf rfl nd_X10_leftOf ⟨Nat.le_of_ble_eq_true rfl, Nat.le_of_ble_eq_true rfl⟩ hK hP [0, 2, 4, 5] rfl rfl rfl rfl hl.1 rfl (Nat.le_of_ble_eq_true rfl) dX10_findBeside_45 ⟨Nat.le_refl _, Nat.le_refl _⟩ (fun r_35 hr_35 => ?_)
    obtain rfl := hr_35
    refine lv_istore (lv' := [(4, .int (nI (lxv T m st lv k))), (3, .int (nI (2 ^ lv k))), (0, .ref h), (1, .int (nI k)), (2, .int (nI 3))]) hex hby dX10_findBeside_48 hl (by decide) rfl (fun ls hl => ?_)
    refine lv_iload_n hex hby dX10_findBeside_50 rfl (lv_at hl 4 rfl) ?_
    refine lv_iconst (v := nI 2) hex hby dX10_findBeside_51 rfl ?_
    refine nv_icmp_ne (tgt := 65) hex hby dX10_findBeside_52 (by decide) (by omega) (by omega) (fun _ => ?_) (fun c => absurd c (by omega))
    refine lv_iload_n hex hby dX10_findBeside_65 rfl (lv_at hl 4 rfl) ?_
    refine lv_iconst (v := nI 3) hex hby dX10_findBeside_66 rfl ?_
    refine nv_icmp_ne (tgt := 80) hex hby dX10_findBeside_67 (by decide) (by omega) (by omega) (fun c => absurd c (by omega)) (fun _ => ?_)
    refine lv_aload_n hex hby dX10_findBeside_70 rfl (lv_at hl 2 rfl) ?_
    refine lv_iload_n hex hby dX10_findBeside_71 rfl (lv_at hl 3 rfl) ?_
    refine ro_Vi (As := [.int (nI k)]) (rest := []) CFx (c_X10_belowOf (h := h) (aC := aC) (aS := aS) (aL := aL) (fs := [.int (nI m), v1, v2, v3, v4, v5, v6, v7, v8, v9, v10, .ref aS, .ref aL, v13, v14, v15, v16, v17, v18, v19, v20, .ref aI, .ref aC, v23, v24, v25, .ref aO, .ref aB, .int (nI 0)]) (g := g) (S := S) (Lv := Lv) (k := k) (m := m) (T := T) (ns := ns) (st := st) (lv := lv) (c := c) rfl rfl rfl hg hSb hLb hgc hV hL hag hm6 hk) 1 gX10_findBeside_X10_belowOf rfl nd_X10_belowOf ⟨Nat.le_of_ble_eq_true rfl, Nat.le_of_ble_eq_true rfl⟩ hK hP [0, 2, 4, 5] rfl rfl rfl rfl hl.1 rfl (Nat.le_of_ble_eq_true rfl) dX10_findBeside_72 ⟨Nat.le_refl _, Nat.le_refl _⟩ (fun r_36 hr_36 => ?_)
    obtain rfl := hr_36
    refine lv_iload_n hex hby dX10_findBeside_75 rfl (lv_at hl 1 rfl) ?_
    refine nv_iadd hex hby dX10_findBeside_76 ?_
    refine lv_goto (tgt := 85) hex hby dX10_findBeside_77 (by decide) ?_
    refine lv_istore (lv' := [(5, .int (nI (lyv T m st lv k + 2 ^ lv k))), (4, .int (nI (lxv T m st lv k))), (3, .int (nI (2 ^ lv k))), (0, .ref h), (1, .int (nI k)), (2, .int (nI 3))]) hex hby dX10_findBeside_85 hl (by decide) rfl (fun ls hl => ?_)
    refine lv_iconst (v := nI 0) hex hby dX10_findBeside_87 rfl ?_
    refine lv_istore (lv' := [(6, .int (nI 0)), (5, .int (nI (lyv T m st lv k + 2 ^ lv k))), (4, .int (nI (lxv T m st lv k))), (3, .int (nI (2 ^ lv k))), (0, .ref h), (1, .int (nI k)), (2, .int (nI 3))]) hex hby dX10_findBeside_88 hl (by decide) rfl (fun ls hl => ?_)
    have loop90 : ∀ (nn : Nat) (i : Nat) (bs : Nat) (f : Nat → Nat), (2 ^ lv k - i) < nn → (i ≤ 2 ^ lv k) → (bs ≤ i) → (∀ j, f j < 4096) → (SSt bs f (fun w => byd T m st lv 3 k ∧ FndT T m c st lv 3 k i w)) → ∀ (H : Heap) (locs : List Loc), va_P (dC, dI) vwCl [(h, .inr (10, [.int (nI m), v1, v2, v3, v4, v5, v6, v7, v8, v9, v10, .ref aS, .ref aL, v13, v14, v15, v16, v17, v18, v19, v20, .ref aI, .ref aC, v23, v24, v25, .ref aO, .ref aB, .int (nI bs)])), (aB, .inl (cI, 64, .inl (nA f))), (aC, .inl (cI, 4096, .inl (nA g))), (aI, .inl (cI, 4096, .inl (nA ix))), (aS, .inl (cI, 4096, .inl (nA S))), (aL, .inl (cI, 4096, .inl (nA Lv))), (aO, .inl (cI, 4096, .inl (nA O)))] H → va_D A [(h, .inr (10, [.int (nI m), v1, v2, v3, v4, v5, v6, v7, v8, v9, v10, .ref aS, .ref aL, v13, v14, v15, v16, v17, v18, v19, v20, .ref aI, .ref aC, v23, v24, v25, .ref aO, .ref aB, .int (nI bs)])), (aB, .inl (cI, 64, .inl (nA f))), (aC, .inl (cI, 4096, .inl (nA g))), (aI, .inl (cI, 4096, .inl (nA ix))), (aS, .inl (cI, 4096, .inl (nA S))), (aL, .inl (cI, 4096, .inl (nA Lv))), (aO, .inl (cI, 4096, .inl (nA O)))] → va_S A ss.heap H locs → ∀ ls : Array Slot, lv_has ls 9 [(6, .int (nI i)), (5, .int (nI (lyv T m st lv k + 2 ^ lv k))), (4, .int (nI (lxv T m st lv k))), (3, .int (nI (2 ^ lv k))), (0, .ref h), (1, .int (nI k)), (2, .int (nI 3))] → W pp l ee (rmO 2 44) ss mm ([.ref h, .int (nI k), .int (nI 3)] : List Value).toArray bb mt cd H locs 0 0 Q (F0 mm 90 ls []) := by
      intro nn
      induction nn with
      | zero => intro i bs f hms90; exact absurd hms90 (Nat.not_lt_zero _)
      | succ nn ih90 =>
        intro i bs f hms90 hi hba hfb hss H locs hP hD hS ls hl
        refine lv_iload hex hby dX10_findBeside_90 (lv_at hl 0 rfl) ?_
        refine lv_iload_n hex hby dX10_findBeside_92 rfl (lv_at hl 3 rfl) ?_
        refine nv_icmp_ge (tgt := 169) hex hby dX10_findBeside_93 (by decide) (by omega) (by omega) (fun c_37 => ?_) (fun c_37 => ?_)
        · exact hret _ (bs, f) _ _ _ _ _ (Or.inr (Or.inr (Or.inl ⟨rfl, rfl, rfl, dX10_findBeside_169⟩))) ⟨rfl, ⟨(hss.congr (fun v => ⟨fun q => (fnd_all q.1 (by omega) v).mp q.2, fun q => ⟨q.1, (fnd_all q.1 (by omega) v).mpr q⟩⟩)), hfb, (by omega)⟩⟩ hP hD hS
        · refine lv_iload_n hex hby dX10_findBeside_96 rfl (lv_at hl 6 rfl) ?_
          refine lv_iconst (v := nI 2) hex hby dX10_findBeside_97 rfl ?_
          refine nv_icmp_ge (tgt := 106) hex hby dX10_findBeside_98 (by decide) (by omega) (by omega) (fun _ => ?_) (fun c => absurd c (by omega))
          refine lv_iload hex hby dX10_findBeside_106 (lv_at hl 2 rfl) ?_
          refine lv_iload hex hby dX10_findBeside_108 (lv_at hl 0 rfl) ?_
          refine nv_iadd hex hby dX10_findBeside_110 ?_
          refine lv_istore (lv' := [(7, .int (nI (lxv T m st lv k + i))), (6, .int (nI i)), (5, .int (nI (lyv T m st lv k + 2 ^ lv k))), (4, .int (nI (lxv T m st lv k))), (3, .int (nI (2 ^ lv k))), (0, .ref h), (1, .int (nI k)), (2, .int (nI 3))]) hex hby dX10_findBeside_111 hl (by decide) rfl (fun ls hl => ?_)
          refine lv_iload_n hex hby dX10_findBeside_113 rfl (lv_at hl 7 rfl) ?_
          refine lv_iconst (v := nI 2) hex hby dX10_findBeside_114 rfl ?_
          refine nv_icmp_ge (tgt := 126) hex hby dX10_findBeside_115 (by decide) (by omega) (by omega) (fun _ => ?_) (fun c => absurd c (by omega))
          refine lv_iload hex hby dX10_findBeside_126 (lv_at hl 2 rfl) ?_
          refine lv_istore (lv' := [(8, .int (nI (lyv T m st lv k + 2 ^ lv k))), (7, .int (nI (lxv T m st lv k + i))), (6, .int (nI i)), (5, .int (nI (lyv T m st lv k + 2 ^ lv k))), (4, .int (nI (lxv T m st lv k))), (3, .int (nI (2 ^ lv k))), (0, .ref h), (1, .int (nI k)), (2, .int (nI 3))]) hex hby dX10_findBeside_128 hl (by decide) rfl (fun ls hl => ?_)
          refine lv_aload_n hex hby dX10_findBeside_130 rfl (lv_at hl 6 rfl) ?_
          refine lv_iload hex hby dX10_findBeside_131 (lv_at hl 1 rfl) ?_
          refine lv_iload hex hby dX10_findBeside_133 (lv_at hl 0 rfl) ?_
          refine ro_Vi (As := [.int (nI (lxv T m st lv k + i)), .int (nI (lyv T m st lv k + 2 ^ lv k))]) (rest := []) CFx (c_X10_isCell (h := h) (fs := [.int (nI m), v1, v2, v3, v4, v5, v6, v7, v8, v9, v10, .ref aS, .ref aL, v13, v14, v15, v16, v17, v18, v19, v20, .ref aI, .ref aC, v23, v24, v25, .ref aO, .ref aB, .int (nI bs)]) (m := m) (x := nI (lxv T m st lv k + i)) (xz := ((lxv T m st lv k + i : Nat) : Int)) (y := nI (lyv T m st lv k + 2 ^ lv k)) (yz := ((lyv T m st lv k + 2 ^ lv k : Nat) : Int)) rfl (ni_toInt (by omega)) (ni_toInt (by omega)) hm6) 2 gX10_findBeside_X10_isCell rfl nd_X10_isCell ⟨Nat.le_of_ble_eq_true rfl, Nat.le_of_ble_eq_true rfl⟩ hK hP [0] rfl rfl rfl rfl hl.1 rfl (Nat.le_of_ble_eq_true rfl) dX10_findBeside_135 ⟨Nat.le_refl _, Nat.le_refl _⟩ (fun r_38 hr_38 => ?_)
          rcases hr_38 with ⟨rfl, hh1⟩ | ⟨rfl, hh0⟩
          · refine nv_if_eq (tgt := 163) hex hby dX10_findBeside_138 (by decide) (by omega) (fun c => absurd c (by omega)) (fun _ => ?_)
            have hb : byd T m st lv 3 k := by unfold byd; simp; omega
            have hgr := bc_in hV hL (s := 3) hk hb (t := i) (by omega)
            have hna := num_at hV hN hgr.1 hgr.2
            obtain ⟨v, hv1, hv2, hv3⟩ := hL.at hna.1
            have hg1 := (geo hV hL hv1 hna.1).mp ⟨hv2, hv3⟩
            rw [hna.2.1, hna.2.2] at hg1
            refine lv_aload_n hex hby dX10_findBeside_141 rfl (lv_at hl 6 rfl) ?_
            refine lv_aload_n hex hby dX10_findBeside_142 rfl (lv_at hl 6 rfl) ?_
            refine nv_get (v := .ref aO) CFx in_X10_findBeside_X10 hK hP 0 rfl rfl 26 (by decide) (List.mem_of_getElem? (i := 3) rfl) rfl dX10_findBeside_143 ?_
            refine lv_aload_n hex hby dX10_findBeside_146 rfl (lv_at hl 6 rfl) ?_
            refine nv_get (v := .ref aI) CFx in_X10_findBeside_X10 hK hP 0 rfl rfl 21 (by decide) (List.mem_of_getElem? (i := 4) rfl) rfl dX10_findBeside_147 ?_
            refine lv_bipush (v := nI 64) hex hby dX10_findBeside_150 rfl ?_
            refine lv_iload hex hby dX10_findBeside_152 (lv_at hl 0 rfl) ?_
            refine nv_top (y := nI (bcy T m st lv 3 k i)) (congrArg nI (by unfold bcy; simp <;> omega)) ?_
            refine nv_imul hex hby dX10_findBeside_154 ?_
            refine lv_iload hex hby dX10_findBeside_155 (lv_at hl 1 rfl) ?_
            refine nv_top (y := nI (bcx T m st lv 3 k i)) (congrArg nI (by unfold bcx; simp <;> omega)) ?_
            refine nv_iadd hex hby dX10_findBeside_157 ?_
            refine nv_iald hex hby hK hP 3 0 rfl rfl (by omega) (by omega) dX10_findBeside_158 ?_
            have hb_39 := hix (64 * bcy T m st lv 3 k i + bcx T m st lv 3 k i)
            refine nv_top (y := nI (ix (bcy T m st lv 3 k i * 64 + bcx T m st lv 3 k i))) (congrArg nI (congrArg ix (by omega))) ?_
            refine nv_iald hex hby hK hP 6 0 rfl rfl (by omega) (by omega) dX10_findBeside_159 ?_
            have hb_40 := hOb (ix (bcy T m st lv 3 k i * 64 + bcx T m st lv 3 k i))
            refine nv_top (y := nI v) (congrArg nI (hO v hv1 _ hv2 hv3)) ?_
            refine mu_Vv (As := [.int (nI v)]) (rest := []) (wr := [(aC, .inl (cI, 4096, .inl (nA g))), (aI, .inl (cI, 4096, .inl (nA ix))), (aS, .inl (cI, 4096, .inl (nA S))), (aL, .inl (cI, 4096, .inl (nA Lv))), (aO, .inl (cI, 4096, .inl (nA O)))]) CFx (c_X10_comesBeside (h := h) (aB := aB) (v0 := .int (nI m)) (v1 := v1) (v2 := v2) (v3 := v3) (v4 := v4) (v5 := v5) (v6 := v6) (v7 := v7) (v8 := v8) (v9 := v9) (v10 := v10) (v11 := .ref aS) (v12 := .ref aL) (v13 := v13) (v14 := v14) (v15 := v15) (v16 := v16) (v17 := v17) (v18 := v18) (v19 := v19) (v20 := v20) (v21 := .ref aI) (v22 := .ref aC) (v23 := v23) (v24 := v24) (v25 := v25) (v26 := .ref aO) (bs := bs) (f := f) (v := v) (P := fun w => byd T m st lv 3 k ∧ FndT T m c st lv 3 k i w) hfb hss (by omega) (by omega)) 1 gX10_findBeside_X10_comesBeside rfl nd_X10_comesBeside ⟨Nat.le_of_ble_eq_true rfl, Nat.le_of_ble_eq_true rfl⟩ hK hP hD hS hA [0, 1] [2, 3, 4, 5, 6] rfl rfl (by decide) (by decide) (by decide) TR.nil rfl rfl rfl hl.1 rfl (Nat.le_of_ble_eq_true rfl) dX10_findBeside_160 ⟨Nat.le_refl _, Nat.le_refl _⟩ (fun u H locs hr_41 hP hD hS => ?_)
            obtain ⟨bi, fi⟩ := u
            dsimp only at hr_41 hP hD
            have hP : va_P (dC, dI) vwCl [(aC, .inl (cI, 4096, .inl (nA g))), (aI, .inl (cI, 4096, .inl (nA ix))), (aS, .inl (cI, 4096, .inl (nA S))), (aL, .inl (cI, 4096, .inl (nA Lv))), (aO, .inl (cI, 4096, .inl (nA O))), (h, .inr (10, [.int (nI m), v1, v2, v3, v4, v5, v6, v7, v8, v9, v10, .ref aS, .ref aL, v13, v14, v15, v16, v17, v18, v19, v20, .ref aI, .ref aC, v23, v24, v25, .ref aO, .ref aB, .int (nI bi)])), (aB, .inl (cI, 64, .inl (nA fi)))] H := hP
            have hD : va_D A [(aC, .inl (cI, 4096, .inl (nA g))), (aI, .inl (cI, 4096, .inl (nA ix))), (aS, .inl (cI, 4096, .inl (nA S))), (aL, .inl (cI, 4096, .inl (nA Lv))), (aO, .inl (cI, 4096, .inl (nA O))), (h, .inr (10, [.int (nI m), v1, v2, v3, v4, v5, v6, v7, v8, v9, v10, .ref aS, .ref aL, v13, v14, v15, v16, v17, v18, v19, v20, .ref aI, .ref aC, v23, v24, v25, .ref aO, .ref aB, .int (nI bi)])), (aB, .inl (cI, 64, .inl (nA fi)))] := hD
            obtain ⟨hi1, hi2, hi3⟩ := hr_41
            refine lv_iinc (v := nI (i + 1)) (lv' := [(6, .int (nI (i + 1))), (8, .int (nI (lyv T m st lv k + 2 ^ lv k))), (7, .int (nI (lxv T m st lv k + i))), (5, .int (nI (lyv T m st lv k + 2 ^ lv k))), (4, .int (nI (lxv T m st lv k))), (3, .int (nI (2 ^ lv k))), (0, .ref h), (1, .int (nI k)), (2, .int (nI 3))]) hex hby dX10_findBeside_163 hl (k := 2) rfl (ni_inc _) (by decide) rfl (fun ls hl => ?_)
            refine lv_goto (tgt := 90) hex hby dX10_findBeside_166 (by decide) ?_
            exact ih90 (i + 1) bi fi (by omega) (by omega) (by omega) hi3 (hi1.congr (fun w => (fnd_one hV hL hk hv1 hb (by omega) hg1 w).symm)) _ _ (hP.sub [5, 6, 0, 1, 2, 3, 4] rfl) (hD.sub [5, 6, 0, 1, 2, 3, 4] (by decide) rfl) hS _ (lv_sub hl [0, 3, 4, 5, 6, 7, 8] rfl)
          · refine nv_if_eq (tgt := 163) hex hby dX10_findBeside_138 (by decide) (by omega) (fun _ => ?_) (fun c => absurd c (by omega))
            refine lv_iinc (v := nI (i + 1)) (lv' := [(6, .int (nI (i + 1))), (8, .int (nI (lyv T m st lv k + 2 ^ lv k))), (7, .int (nI (lxv T m st lv k + i))), (5, .int (nI (lyv T m st lv k + 2 ^ lv k))), (4, .int (nI (lxv T m st lv k))), (3, .int (nI (2 ^ lv k))), (0, .ref h), (1, .int (nI k)), (2, .int (nI 3))]) hex hby dX10_findBeside_163 hl (k := 2) rfl (ni_inc _) (by decide) rfl (fun ls hl => ?_)
            refine lv_goto (tgt := 90) hex hby dX10_findBeside_166 (by decide) ?_
            have pf_44 : SSt bs f (fun w => byd T m st lv 3 k ∧ FndT T m c st lv 3 k (i + 1) w) := by
              have hnb : ¬ byd T m st lv 3 k := by
                intro z
                unfold byd at z
                simp at z
                omega
              exact hss.congr (fun w => ⟨fun q => absurd q.1 hnb, fun q => absurd q.1 hnb⟩)
            exact ih90 (i + 1) bs f (by omega) (by omega) (by omega) hfb pf_44 _ _ hP hD hS _ (lv_sub hl [0, 3, 4, 5, 6, 7, 8] rfl)
    exact loop90 _ 0 0 fa (Nat.lt_succ_self _) (by omega) (by omega) hfa (SSt.zero _ (fun v q => by obtain ⟨_, _, j, hj, _⟩ := q; exact absurd hj (Nat.not_lt_zero _))) _ _ hP hD hS _ (lv_sub hl [0, 1, 2, 3, 4, 5, 6] rfl)
end MNB
