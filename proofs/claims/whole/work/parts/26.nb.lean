section NBR
variable {l : Launch} {dC : Nat → ClassId} {dI : Nat → Nat → Nat} {cI cZ cS : ClassId}
theorem ni_negm : ∀ x, x < 64 → ∀ L, L < 7 → nI x &&& (- nI (2 ^ L)) = nI (x / 2 ^ L * 2 ^ L) := by decide +kernel
theorem num_at {T : Nat → Nat} {n m : Nat} {g ix : Nat → Nat} (hV : VT T n) (hN : NumOK T m g ix) {x y : Nat} (hx : x < 2 ^ m) (hy : y < 2 ^ m) : ix (y * 64 + x) < 4 ^ m ∧ cvx T m (ix (y * 64 + x)) = x ∧ cvy T m (ix (y * 64 + x)) = y := by
  obtain ⟨i, hi, e1, e2⟩ := cv_sur hV m x y hx hy
  have h := hN.2 i hi
  have e : cvc T m i = y * 64 + x := by unfold cvc; omega
  rw [e] at h
  rw [h]
  exact ⟨hi, e1, e2⟩
theorem nd_X7_leftOf : ndV yX7_leftOf RX7 1 := by decide +kernel
theorem in_X7_leftOf_X1 : ∀ w ∈ wsX10, w ∈ wsX7_leftOf := fun _ h => List.mem_cons_of_mem _ (List.mem_append_left _ (List.mem_append_right _ (h)))
theorem in_X7_leftOf_X7 : ∀ w ∈ wsX70, w ∈ wsX7_leftOf := fun _ h => List.mem_cons_of_mem _ (List.mem_append_left _ (List.mem_append_left _ (List.mem_append_right _ (h))))
set_option maxHeartbeats 4000000 in
set_option maxRecDepth 100000 in
theorem c_X7_leftOf {hz : Nat} {hn : Nat} {aC : Nat} {hd : Nat} {aS : Nat} {fz : List Value} {fn : List Value} {g : Nat → Nat} {fd : List Value} {S : Nat → Nat} {k : Nat} {T : Nat → Nat} {ns : Nat} {m : Nat} {st : Nat → Nat} {lv : Nat → Nat} {c : Nat} (fzn : fz[0]? = some (.ref hn)) (fzd : fz[1]? = some (.ref hd)) (faC : fn[2]? = some (.ref aC)) (faS : fd[1]? = some (.ref aS)) (hg : ∀ j, g j < 4096) (hSb : ∀ j, S j < 4097) (hgc : ∀ i, i < 4 ^ m → g i = cvc T m i) (hV : VT T ns) (hL : LvL m c st lv) (hag : ∀ j, j ≤ c → S j = st j) (hc : c ≤ 496) (hm6 : m ≤ 6) (hk : k < c) : RO l yX7_leftOf wsX7_leftOf 1 23 (dC, dI) (tyK cI cZ cS) [(hz, .inr (7, fz)), (hn, .inr (2, fn)), (aC, .inl (cI, 4096, .inl (nA g))), (hd, .inr (1, fd)), (aS, .inl (cI, 497, .inl (nA S)))] [.ref hz, .int (nI k)] (rI (fun r => r = nI (lxv T m st lv k))) := by
  refine ro_of (by decide) rfl (Nat.le_of_ble_eq_true rfl) ?_
  intro pp ee ss mm bb mt cd Q CFx hP hK hret ls hl
  obtain ⟨hex, hby, hml, hown, hts⟩ := id CFx
  have hl : lv_has ls 2 [(0, .ref hz), (1, .int (nI k))] := hl
  have hk3 := hL.2.2.2 k hk
  have hS1 := hag k (by omega)
  have hS2 := hag (k + 1) (by omega)
  have htop := hL.top hk
  have h46 := p4_6 hm6
  have h26 := p2_6 hm6
  have hp4k := p4_pos (lv k)
  have hgk := hgc (st k) (by omega)
  have hcm := cvc_mod (T := T) (k := m) (st k) hm6
  refine lv_aload_n hex hby dX7_leftOf_0 rfl (lv_at hl 0 rfl) ?_
  refine nv_get (v := .ref hn) CFx in_X7_leftOf_X7 hK hP 0 rfl rfl 0 (by decide) (List.mem_of_getElem? (i := 1) rfl) fzn dX7_leftOf_1 ?_
  refine lv_aload_n hex hby dX7_leftOf_4 rfl (lv_at hl 0 rfl) ?_
  refine nv_get (v := .ref hd) CFx in_X7_leftOf_X7 hK hP 0 rfl rfl 1 (by decide) (List.mem_of_getElem? (i := 2) rfl) fzd dX7_leftOf_5 ?_
  refine nv_get (v := .ref aS) CFx in_X7_leftOf_X1 hK hP 3 rfl rfl 1 (by decide) (List.mem_of_getElem? (i := 3) rfl) faS dX7_leftOf_8 ?_
  refine lv_iload_n hex hby dX7_leftOf_11 rfl (lv_at hl 1 rfl) ?_
  refine nv_iald hex hby hK hP 4 0 rfl rfl (by omega) (by omega) dX7_leftOf_12 ?_
  have hb_1 := hSb k
  refine ro_Vi (As := [.int (nI (S k))]) (rest := []) CFx (c_X2_xAt (h := hn) (aC := aC) (fs := fn) (g := g) (i := S k) faC hg (by rw [hS1]; omega)) 1 gX7_leftOf_X2_xAt rfl nd_X2_xAt ⟨Nat.le_of_ble_eq_true rfl, Nat.le_of_ble_eq_true rfl⟩ hK hP [1, 2] rfl rfl rfl rfl hl.1 rfl (Nat.le_of_ble_eq_true rfl) dX7_leftOf_13 ⟨Nat.le_refl _, Nat.le_refl _⟩ (fun r_2 hr_2 => ?_)
  obtain rfl := hr_2
  refine lv_aload_n hex hby dX7_leftOf_16 rfl (lv_at hl 0 rfl) ?_
  refine nv_get (v := .ref hd) CFx in_X7_leftOf_X7 hK hP 0 rfl rfl 1 (by decide) (List.mem_of_getElem? (i := 2) rfl) fzd dX7_leftOf_17 ?_
  refine lv_iload_n hex hby dX7_leftOf_20 rfl (lv_at hl 1 rfl) ?_
  refine ro_Vi (As := [.int (nI k)]) (rest := [.int (nI (g (S k) % 64))]) CFx (c_X1_sideOf (hd := hd) (aS := aS) (fd := fd) (S := S) (k := k) (L := lv k) faS hSb (by omega) (by rw [hS2, hS1]; exact hk3.1) (by omega)) 1 gX7_leftOf_X1_sideOf rfl nd_X1_sideOf ⟨Nat.le_of_ble_eq_true rfl, Nat.le_of_ble_eq_true rfl⟩ hK hP [3, 4] rfl rfl rfl rfl hl.1 rfl (Nat.le_of_ble_eq_true rfl) dX7_leftOf_21 ⟨Nat.le_refl _, Nat.le_refl _⟩ (fun r_3 hr_3 => ?_)
  obtain rfl := hr_3
  refine lv_ineg hex hby dX7_leftOf_24 ?_
  refine lv_iand hex hby dX7_leftOf_25 ?_
  refine nv_top (y := nI (lxv T m st lv k)) (by rw [hS1, hgk, hcm.1, ni_negm _ (by have := cvx_lt T m (st k); have := cvy_lt hV m (st k); omega) _ (by omega)]; rfl) ?_
  exact hret _ _ _ _ (Or.inl ⟨rfl, _, rfl, rfl, dX7_leftOf_26⟩) ⟨_, rfl, rfl⟩
theorem nd_X7_belowOf : ndV yX7_belowOf RX7 1 := by decide +kernel
theorem in_X7_belowOf_X1 : ∀ w ∈ wsX10, w ∈ wsX7_belowOf := fun _ h => List.mem_cons_of_mem _ (List.mem_append_left _ (List.mem_append_right _ (h)))
theorem in_X7_belowOf_X7 : ∀ w ∈ wsX70, w ∈ wsX7_belowOf := fun _ h => List.mem_cons_of_mem _ (List.mem_append_left _ (List.mem_append_left _ (List.mem_append_right _ (h))))
set_option maxHeartbeats 4000000 in
set_option maxRecDepth 100000 in
theorem c_X7_belowOf {hz : Nat} {hn : Nat} {aC : Nat} {hd : Nat} {aS : Nat} {fz : List Value} {fn : List Value} {g : Nat → Nat} {fd : List Value} {S : Nat → Nat} {k : Nat} {T : Nat → Nat} {ns : Nat} {m : Nat} {st : Nat → Nat} {lv : Nat → Nat} {c : Nat} (fzn : fz[0]? = some (.ref hn)) (fzd : fz[1]? = some (.ref hd)) (faC : fn[2]? = some (.ref aC)) (faS : fd[1]? = some (.ref aS)) (hg : ∀ j, g j < 4096) (hSb : ∀ j, S j < 4097) (hgc : ∀ i, i < 4 ^ m → g i = cvc T m i) (hV : VT T ns) (hL : LvL m c st lv) (hag : ∀ j, j ≤ c → S j = st j) (hc : c ≤ 496) (hm6 : m ≤ 6) (hk : k < c) : RO l yX7_belowOf wsX7_belowOf 1 23 (dC, dI) (tyK cI cZ cS) [(hz, .inr (7, fz)), (hn, .inr (2, fn)), (aC, .inl (cI, 4096, .inl (nA g))), (hd, .inr (1, fd)), (aS, .inl (cI, 497, .inl (nA S)))] [.ref hz, .int (nI k)] (rI (fun r => r = nI (lyv T m st lv k))) := by
  refine ro_of (by decide) rfl (Nat.le_of_ble_eq_true rfl) ?_
  intro pp ee ss mm bb mt cd Q CFx hP hK hret ls hl
  obtain ⟨hex, hby, hml, hown, hts⟩ := id CFx
  have hl : lv_has ls 2 [(0, .ref hz), (1, .int (nI k))] := hl
  have hk3 := hL.2.2.2 k hk
  have hS1 := hag k (by omega)
  have hS2 := hag (k + 1) (by omega)
  have htop := hL.top hk
  have h46 := p4_6 hm6
  have h26 := p2_6 hm6
  have hp4k := p4_pos (lv k)
  have hgk := hgc (st k) (by omega)
  have hcm := cvc_mod (T := T) (k := m) (st k) hm6
  refine lv_aload_n hex hby dX7_belowOf_0 rfl (lv_at hl 0 rfl) ?_
  refine nv_get (v := .ref hn) CFx in_X7_belowOf_X7 hK hP 0 rfl rfl 0 (by decide) (List.mem_of_getElem? (i := 1) rfl) fzn dX7_belowOf_1 ?_
  refine lv_aload_n hex hby dX7_belowOf_4 rfl (lv_at hl 0 rfl) ?_
  refine nv_get (v := .ref hd) CFx in_X7_belowOf_X7 hK hP 0 rfl rfl 1 (by decide) (List.mem_of_getElem? (i := 2) rfl) fzd dX7_belowOf_5 ?_
  refine nv_get (v := .ref aS) CFx in_X7_belowOf_X1 hK hP 3 rfl rfl 1 (by decide) (List.mem_of_getElem? (i := 3) rfl) faS dX7_belowOf_8 ?_
  refine lv_iload_n hex hby dX7_belowOf_11 rfl (lv_at hl 1 rfl) ?_
  refine nv_iald hex hby hK hP 4 0 rfl rfl (by omega) (by omega) dX7_belowOf_12 ?_
  have hb_1 := hSb k
  refine ro_Vi (As := [.int (nI (S k))]) (rest := []) CFx (c_X2_yAt (h := hn) (aC := aC) (fs := fn) (g := g) (i := S k) faC hg (by rw [hS1]; omega)) 1 gX7_belowOf_X2_yAt rfl nd_X2_yAt ⟨Nat.le_of_ble_eq_true rfl, Nat.le_of_ble_eq_true rfl⟩ hK hP [1, 2] rfl rfl rfl rfl hl.1 rfl (Nat.le_of_ble_eq_true rfl) dX7_belowOf_13 ⟨Nat.le_refl _, Nat.le_refl _⟩ (fun r_2 hr_2 => ?_)
  obtain rfl := hr_2
  refine lv_aload_n hex hby dX7_belowOf_16 rfl (lv_at hl 0 rfl) ?_
  refine nv_get (v := .ref hd) CFx in_X7_belowOf_X7 hK hP 0 rfl rfl 1 (by decide) (List.mem_of_getElem? (i := 2) rfl) fzd dX7_belowOf_17 ?_
  refine lv_iload_n hex hby dX7_belowOf_20 rfl (lv_at hl 1 rfl) ?_
  refine ro_Vi (As := [.int (nI k)]) (rest := [.int (nI (g (S k) / 64))]) CFx (c_X1_sideOf (hd := hd) (aS := aS) (fd := fd) (S := S) (k := k) (L := lv k) faS hSb (by omega) (by rw [hS2, hS1]; exact hk3.1) (by omega)) 1 gX7_belowOf_X1_sideOf rfl nd_X1_sideOf ⟨Nat.le_of_ble_eq_true rfl, Nat.le_of_ble_eq_true rfl⟩ hK hP [3, 4] rfl rfl rfl rfl hl.1 rfl (Nat.le_of_ble_eq_true rfl) dX7_belowOf_21 ⟨Nat.le_refl _, Nat.le_refl _⟩ (fun r_3 hr_3 => ?_)
  obtain rfl := hr_3
  refine lv_ineg hex hby dX7_belowOf_24 ?_
  refine lv_iand hex hby dX7_belowOf_25 ?_
  refine nv_top (y := nI (lyv T m st lv k)) (by rw [hS1, hgk, hcm.2, ni_negm _ (by have := cvx_lt T m (st k); have := cvy_lt hV m (st k); omega) _ (by omega)]; rfl) ?_
  exact hret _ _ _ _ (Or.inl ⟨rfl, _, rfl, rfl, dX7_belowOf_26⟩) ⟨_, rfl, rfl⟩
theorem nd_X7_stepAcross : ndV yX7_stepAcross RX7 3 := by decide +kernel
set_option maxHeartbeats 4000000 in
set_option maxRecDepth 100000 in
theorem c_X7_stepAcross {a : Nat} {b : Nat} {len : Nat} (ha : a ≤ 1) (hb : b ≤ 1) : RO l yX7_stepAcross wsX7_stepAcross 0 0 (dC, dI) (tyK cI cZ cS) [] [.int (nI a), .int (nI b), .int (nI len)] (rI (fun r => (r = zI (-1) ∧ a ≠ 0) ∨ (r = nI len ∧ a = 0 ∧ b ≠ 0) ∨ (r = nI 0 ∧ a = 0 ∧ b = 0))) := by
  refine ro_of (by decide) rfl (Nat.le_of_ble_eq_true rfl) ?_
  intro pp ee ss mm bb mt cd Q CFx hP hK hret ls hl
  obtain ⟨hex, hby, hml, hown, hts⟩ := id CFx
  have hl : lv_has ls 3 [(0, .int (nI a)), (1, .int (nI b)), (2, .int (nI len))] := hl
  refine lv_iload_n hex hby dX7_stepAcross_0 rfl (lv_at hl 0 rfl) ?_
  refine nv_if_eq (tgt := 6) hex hby dX7_stepAcross_1 (by decide) (by omega) (fun c_1 => ?_) (fun c_1 => ?_)
  · refine lv_iload_n hex hby dX7_stepAcross_6 rfl (lv_at hl 1 rfl) ?_
    refine nv_if_eq (tgt := 14) hex hby dX7_stepAcross_7 (by decide) (by omega) (fun c_2 => ?_) (fun c_2 => ?_)
    · refine lv_iconst (v := nI 0) hex hby dX7_stepAcross_14 rfl ?_
      exact hret _ _ _ _ (Or.inl ⟨rfl, _, rfl, rfl, dX7_stepAcross_15⟩) ⟨_, rfl, Or.inr (Or.inr (⟨rfl, (by omega), (by omega)⟩))⟩
    · refine lv_iload_n hex hby dX7_stepAcross_10 rfl (lv_at hl 2 rfl) ?_
      refine lv_goto (tgt := 15) hex hby dX7_stepAcross_11 (by decide) ?_
      exact hret _ _ _ _ (Or.inl ⟨rfl, _, rfl, rfl, dX7_stepAcross_15⟩) ⟨_, rfl, Or.inr (Or.inl ⟨rfl, (by omega), (by omega)⟩)⟩
  · refine lv_iconst (v := zI (-1)) hex hby dX7_stepAcross_4 rfl ?_
    exact hret _ _ _ _ (Or.inl ⟨rfl, _, rfl, rfl, dX7_stepAcross_5⟩) ⟨_, rfl, Or.inl ⟨rfl, (by omega)⟩⟩
theorem nd_X7_insert : ndV yX7_insert RX7 1 := by decide +kernel
theorem in_X7_insert_X7 : ∀ w ∈ wsX70, w ∈ wsX7_insert := fun _ h => List.mem_cons_of_mem _ (List.mem_append_right _ (h))
set_option maxHeartbeats 4000000 in
set_option maxRecDepth 100000 in
theorem c_X7_insert {hz : Nat} {aB : Nat} {v0 : Value} {v1 : Value} {bs : Nat} {f : Nat → Nat} {v : Nat} {P : Nat → Prop} (hfb : ∀ j, f j < 4096) (hss : SSt bs f P) (hnp : ¬ P v) (hbs : bs < 64) (hv : v < 4096) : MU l yX7_insert wsX7_insert 0 0 (dC, dI) (tyK cI cZ cS) [(hz, .inr (7, [v0, v1, .int (nI bs), .ref aB])), (aB, .inl (cI, 64, .inl (nA f)))] [] [.ref hz, .int (nI v)] (fun rv_ (u_ : (Nat → Nat)) => rV ((SSt (bs + 1) u_ (fun w => P w ∨ w = v)) ∧ (∀ j, u_ j < 4096)) rv_) (fun (u_ : (Nat → Nat)) => [(hz, .inr (7, [v0, v1, .int (nI (bs + 1)), .ref aB])), (aB, .inl (cI, 64, .inl (nA u_)))]) := by
  refine mu_of (by decide) rfl (Nat.le_of_ble_eq_true rfl) ?_
  intro pp ee ss mm bb mt cd Q A CFx hP hK hD hS hA hTr hret ls hl
  obtain ⟨hex, hby, hml, hown, hts⟩ := id CFx
  have hl : lv_has ls 3 [(0, .ref hz), (1, .int (nI v))] := hl
  refine lv_aload_n hex hby dX7_insert_0 rfl (lv_at hl 0 rfl) ?_
  refine nv_get (v := .int (nI bs)) CFx in_X7_insert_X7 hK hP 0 rfl rfl 2 (by decide) (List.mem_of_getElem? (i := 1) rfl) rfl dX7_insert_1 ?_
  refine lv_istore_n (lv' := [(2, .int (nI bs)), (0, .ref hz), (1, .int (nI v))]) hex hby dX7_insert_4 rfl hl (by decide) rfl (fun ls hl => ?_)
  have loop5 : ∀ (nn : Nat) (i : Nat) (ff : Nat → Nat), i < nn → (i ≤ bs) → (∀ j, ff j < 4096) → (∀ a, a < i → ff a = f a) → (∀ a, i < a → a ≤ bs → ff a = f (a - 1)) → (∀ a, i ≤ a → a < bs → v < f a) → ∀ (H : Heap) (locs : List Loc), va_P (dC, dI) vwCl [(hz, .inr (7, [v0, v1, .int (nI bs), .ref aB])), (aB, .inl (cI, 64, .inl (nA ff)))] H → va_D A [(hz, .inr (7, [v0, v1, .int (nI bs), .ref aB])), (aB, .inl (cI, 64, .inl (nA ff)))] → va_S A ss.heap H locs → ∀ ls : Array Slot, lv_has ls 3 [(2, .int (nI i)), (0, .ref hz), (1, .int (nI v))] → W pp l ee (rmO 0 0) ss mm ([.ref hz, .int (nI v)] : List Value).toArray bb mt cd H locs 0 0 Q (F0 mm 5 ls []) := by
    intro nn
    induction nn with
    | zero => intro i ff hms5; exact absurd hms5 (Nat.not_lt_zero _)
    | succ nn ih5 =>
      intro i ff hms5 hi hffb q1 q3 q4 H locs hP hD hS ls hl
      refine lv_iload_n hex hby dX7_insert_5 rfl (lv_at hl 0 rfl) ?_
      refine nv_if_le (tgt := 41) hex hby dX7_insert_6 (by decide) (by omega) (fun c_1 => ?_) (fun c_1 => ?_)
      · have hlo : ∀ a, a < i → f a < v := by
          intro a ha
          have h1 := q1 (i - 1) (by omega)
          have h2 : f (i - 1) ≠ v := fun e => hnp ((hss.2 v).mpr ⟨i - 1, by omega, e⟩)
          rcases Nat.lt_or_ge a (i - 1) with z | z
          · have := hss.1 a (i - 1) z (by omega)
            omega
          · rw [show a = i - 1 by omega]; omega
        refine lv_aload_n hex hby dX7_insert_41 rfl (lv_at hl 1 rfl) ?_
        refine nv_get (v := .ref aB) CFx in_X7_insert_X7 hK hP 0 rfl rfl 3 (by decide) (List.mem_of_getElem? (i := 2) rfl) rfl dX7_insert_42 ?_
        refine lv_iload_n hex hby dX7_insert_45 rfl (lv_at hl 0 rfl) ?_
        refine lv_iload_n hex hby dX7_insert_46 rfl (lv_at hl 2 rfl) ?_
        refine nv_iast hex hby hK hP hD hS 1 0 rfl rfl (by omega) (by omega) dX7_insert_47 (fun H locs hP hD hS => ?_)
        have hP : va_P (dC, dI) vwCl [(hz, .inr (7, [v0, v1, .int (nI bs), .ref aB])), (aB, .inl (cI, 64, .inl (nA (upN ff i v))))] H := hP
        have hD : va_D A [(hz, .inr (7, [v0, v1, .int (nI bs), .ref aB])), (aB, .inl (cI, 64, .inl (nA (upN ff i v))))] := hD
        have hB_2 := upN_lt (k := i) (x := v) hffb (by omega)
        refine lv_aload_n hex hby dX7_insert_48 rfl (lv_at hl 1 rfl) ?_
        refine lv_dup hex hby dX7_insert_49 rfl ?_
        refine nv_get (v := .int (nI bs)) CFx in_X7_insert_X7 hK hP 0 rfl rfl 2 (by decide) (List.mem_of_getElem? (i := 1) rfl) rfl dX7_insert_50 ?_
        refine lv_iconst (v := nI 1) hex hby dX7_insert_53 rfl ?_
        refine nv_iadd hex hby dX7_insert_54 ?_
        refine nv_put CFx in_X7_insert_X7 tyX7 tyX7_ok nmX7 hK hP hD hS 0 rfl rfl 2 (by decide) (List.mem_of_getElem? (i := 1) rfl) rfl (by decide +kernel) (Nat.le_of_ble_eq_true rfl) dX7_insert_55 (fun H locs hP hD hS => ?_)
        have hP : va_P (dC, dI) vwCl [(hz, .inr (7, [v0, v1, .int (nI (bs + 1)), .ref aB])), (aB, .inl (cI, 64, .inl (nA (upN ff i v))))] H := hP
        have hD : va_D A [(hz, .inr (7, [v0, v1, .int (nI (bs + 1)), .ref aB])), (aB, .inl (cI, 64, .inl (nA (upN ff i v))))] := hD
        exact hret _ (upN ff i v) _ _ _ _ _ (Or.inr (Or.inr (Or.inl ⟨rfl, rfl, rfl, dX7_insert_58⟩))) ⟨rfl, ⟨(hss.ins hi hlo q4 (fun a ha => by rw [upN_n (by omega)]; exact q1 a ha) (upN_s _ _ _) (fun a h1 h2 => by rw [upN_n (by omega)]; exact q3 a h1 h2)), hB_2⟩⟩ hP hD hS
      · refine lv_aload_n hex hby dX7_insert_9 rfl (lv_at hl 1 rfl) ?_
        refine nv_get (v := .ref aB) CFx in_X7_insert_X7 hK hP 0 rfl rfl 3 (by decide) (List.mem_of_getElem? (i := 2) rfl) rfl dX7_insert_10 ?_
        refine lv_iload_n hex hby dX7_insert_13 rfl (lv_at hl 0 rfl) ?_
        refine lv_iconst (v := nI 1) hex hby dX7_insert_14 rfl ?_
        refine nv_isub hex hby dX7_insert_15 (by omega) ?_
        refine nv_iald hex hby hK hP 1 0 rfl rfl (by omega) (by omega) dX7_insert_16 ?_
        have hb_3 := hffb (i - 1)
        refine lv_iload_n hex hby dX7_insert_17 rfl (lv_at hl 2 rfl) ?_
        refine nv_icmp_le (tgt := 41) hex hby dX7_insert_18 (by decide) (by omega) (by omega) (fun c_4 => ?_) (fun c_4 => ?_)
        · have hlo : ∀ a, a < i → f a < v := by
            intro a ha
            have h1 := q1 (i - 1) (by omega)
            have h2 : f (i - 1) ≠ v := fun e => hnp ((hss.2 v).mpr ⟨i - 1, by omega, e⟩)
            rcases Nat.lt_or_ge a (i - 1) with z | z
            · have := hss.1 a (i - 1) z (by omega)
              omega
            · rw [show a = i - 1 by omega]; omega
          refine lv_aload_n hex hby dX7_insert_41 rfl (lv_at hl 1 rfl) ?_
          refine nv_get (v := .ref aB) CFx in_X7_insert_X7 hK hP 0 rfl rfl 3 (by decide) (List.mem_of_getElem? (i := 2) rfl) rfl dX7_insert_42 ?_
          refine lv_iload_n hex hby dX7_insert_45 rfl (lv_at hl 0 rfl) ?_
          refine lv_iload_n hex hby dX7_insert_46 rfl (lv_at hl 2 rfl) ?_
          refine nv_iast hex hby hK hP hD hS 1 0 rfl rfl (by omega) (by omega) dX7_insert_47 (fun H locs hP hD hS => ?_)
          have hP : va_P (dC, dI) vwCl [(hz, .inr (7, [v0, v1, .int (nI bs), .ref aB])), (aB, .inl (cI, 64, .inl (nA (upN ff i v))))] H := hP
          have hD : va_D A [(hz, .inr (7, [v0, v1, .int (nI bs), .ref aB])), (aB, .inl (cI, 64, .inl (nA (upN ff i v))))] := hD
          have hB_5 := upN_lt (k := i) (x := v) hffb (by omega)
          refine lv_aload_n hex hby dX7_insert_48 rfl (lv_at hl 1 rfl) ?_
          refine lv_dup hex hby dX7_insert_49 rfl ?_
          refine nv_get (v := .int (nI bs)) CFx in_X7_insert_X7 hK hP 0 rfl rfl 2 (by decide) (List.mem_of_getElem? (i := 1) rfl) rfl dX7_insert_50 ?_
          refine lv_iconst (v := nI 1) hex hby dX7_insert_53 rfl ?_
          refine nv_iadd hex hby dX7_insert_54 ?_
          refine nv_put CFx in_X7_insert_X7 tyX7 tyX7_ok nmX7 hK hP hD hS 0 rfl rfl 2 (by decide) (List.mem_of_getElem? (i := 1) rfl) rfl (by decide +kernel) (Nat.le_of_ble_eq_true rfl) dX7_insert_55 (fun H locs hP hD hS => ?_)
          have hP : va_P (dC, dI) vwCl [(hz, .inr (7, [v0, v1, .int (nI (bs + 1)), .ref aB])), (aB, .inl (cI, 64, .inl (nA (upN ff i v))))] H := hP
          have hD : va_D A [(hz, .inr (7, [v0, v1, .int (nI (bs + 1)), .ref aB])), (aB, .inl (cI, 64, .inl (nA (upN ff i v))))] := hD
          exact hret _ (upN ff i v) _ _ _ _ _ (Or.inr (Or.inr (Or.inl ⟨rfl, rfl, rfl, dX7_insert_58⟩))) ⟨rfl, ⟨(hss.ins hi hlo q4 (fun a ha => by rw [upN_n (by omega)]; exact q1 a ha) (upN_s _ _ _) (fun a h1 h2 => by rw [upN_n (by omega)]; exact q3 a h1 h2)), hB_5⟩⟩ hP hD hS
        · have hgt := c_4
          refine lv_aload_n hex hby dX7_insert_21 rfl (lv_at hl 1 rfl) ?_
          refine nv_get (v := .ref aB) CFx in_X7_insert_X7 hK hP 0 rfl rfl 3 (by decide) (List.mem_of_getElem? (i := 2) rfl) rfl dX7_insert_22 ?_
          refine lv_iload_n hex hby dX7_insert_25 rfl (lv_at hl 0 rfl) ?_
          refine lv_aload_n hex hby dX7_insert_26 rfl (lv_at hl 1 rfl) ?_
          refine nv_get (v := .ref aB) CFx in_X7_insert_X7 hK hP 0 rfl rfl 3 (by decide) (List.mem_of_getElem? (i := 2) rfl) rfl dX7_insert_27 ?_
          refine lv_iload_n hex hby dX7_insert_30 rfl (lv_at hl 0 rfl) ?_
          refine lv_iconst (v := nI 1) hex hby dX7_insert_31 rfl ?_
          refine nv_isub hex hby dX7_insert_32 (by omega) ?_
          refine nv_iald hex hby hK hP 1 0 rfl rfl (by omega) (by omega) dX7_insert_33 ?_
          have hb_6 := hffb (i - 1)
          refine nv_iast hex hby hK hP hD hS 1 0 rfl rfl (by omega) (by omega) dX7_insert_34 (fun H locs hP hD hS => ?_)
          have hP : va_P (dC, dI) vwCl [(hz, .inr (7, [v0, v1, .int (nI bs), .ref aB])), (aB, .inl (cI, 64, .inl (nA (upN ff i (ff (i - 1))))))] H := hP
          have hD : va_D A [(hz, .inr (7, [v0, v1, .int (nI bs), .ref aB])), (aB, .inl (cI, 64, .inl (nA (upN ff i (ff (i - 1))))))] := hD
          have hB_7 := upN_lt (k := i) (x := ff (i - 1)) hffb (by omega)
          refine lv_iinc (v := nI (i - 1)) (lv' := [(2, .int (nI (i - 1))), (0, .ref hz), (1, .int (nI v))]) hex hby dX7_insert_35 hl (k := 0) rfl (ni_dec (by omega)) (by decide) rfl (fun ls hl => ?_)
          refine lv_goto (tgt := 5) hex hby dX7_insert_38 (by decide) ?_
          have pf_8 : ∀ a, (i - 1) < a → a ≤ bs → (upN ff i (ff (i - 1))) a = f (a - 1) := by
            intro a h1 h2
            rcases Nat.lt_or_ge i a with z | z
            · rw [upN_n (by omega)]; exact q3 a z h2
            · rw [show a = i by omega, upN_s]; exact q1 _ (by omega)
          have pf_9 : ∀ a, (i - 1) ≤ a → a < bs → v < f a := by
            intro a h1 h2
            rcases Nat.lt_or_ge a i with z | z
            · rw [show a = i - 1 by omega, ← q1 (i - 1) (by omega)]; exact hgt
            · exact q4 a z h2
          exact ih5 (i - 1) (upN ff i (ff (i - 1))) (by omega) (by omega) hB_7 (fun a ha => by rw [upN_n (by omega)]; exact q1 a (by omega)) pf_8 pf_9 _ _ hP hD hS _ (lv_sub hl [0, 1, 2] rfl)
  exact loop5 _ bs f (Nat.lt_succ_self _) (by omega) hfb (fun _ _ => rfl) (fun a h1 h2 => absurd h1 (by omega)) (fun a h1 h2 => absurd h1 (by omega)) _ _ hP hD hS _ (lv_sub hl [0, 1, 2] rfl)
theorem nd_X7_findBeyond : ndV yX7_findBeyond RX7 2 := by decide +kernel
theorem in_X7_findBeyond_X7 : ∀ w ∈ wsX70, w ∈ wsX7_findBeyond := fun _ h => List.mem_cons_of_mem _ (List.mem_append_left _ (List.mem_append_left _ (List.mem_append_right _ (h))))
set_option maxHeartbeats 4000000 in
set_option maxRecDepth 100000 in
theorem c_X7_findBeyond {hz : Nat} {aB : Nat} {hn : Nat} {aC : Nat} {aI : Nat} {hd : Nat} {aS : Nat} {v2 : Value} {fa : Nat → Nat} {fn : List Value} {sd : Nat} {g : Nat → Nat} {ix : Nat → Nat} {fd : List Value} {c : Nat} {S : Nat → Nat} {k : Nat} {s : Nat} {T : Nat → Nat} {ns : Nat} {m : Nat} {st : Nat → Nat} {lv : Nat → Nat} (fsd : fn[0]? = some (.int (nI sd))) (faC : fn[2]? = some (.ref aC)) (faI : fn[3]? = some (.ref aI)) (fdc : fd[0]? = some (.int (nI c))) (faS : fd[1]? = some (.ref aS)) (hfa : ∀ j, fa j < 4096) (hg : ∀ j, g j < 4096) (hSb : ∀ j, S j < 4097) (hgc : ∀ i, i < 4 ^ m → g i = cvc T m i) (hV : VT T ns) (hL : LvL m c st lv) (hag : ∀ j, j ≤ c → S j = st j) (hc : c ≤ 496) (hm6 : m ≤ 6) (hk : k < c) (hix : ∀ j, ix j < 4096) (hsd : sd = 2 ^ m) (hN : NumOK T m g ix) (hs4 : s < 4) : MU l yX7_findBeyond wsX7_findBeyond 2 44 (dC, dI) (tyK cI cZ cS) [(hz, .inr (7, [.ref hn, .ref hd, v2, .ref aB])), (aB, .inl (cI, 64, .inl (nA fa))), (hn, .inr (2, fn)), (aC, .inl (cI, 4096, .inl (nA g))), (aI, .inl (cI, 4096, .inl (nA ix))), (hd, .inr (1, fd)), (aS, .inl (cI, 497, .inl (nA S)))] [] [.ref hz, .int (nI k), .int (nI s)] (fun rv_ (u_ : Nat × (Nat → Nat)) => rV (SSt u_.1 u_.2 (Nbr T m c st lv s k) ∧ (∀ j, u_.2 j < 4096) ∧ u_.1 ≤ 64) rv_) (fun (u_ : Nat × (Nat → Nat)) => [(hz, .inr (7, [.ref hn, .ref hd, .int (nI u_.1), .ref aB])), (aB, .inl (cI, 64, .inl (nA u_.2))), (hn, .inr (2, fn)), (aC, .inl (cI, 4096, .inl (nA g))), (aI, .inl (cI, 4096, .inl (nA ix))), (hd, .inr (1, fd)), (aS, .inl (cI, 497, .inl (nA S)))]) := by
  refine mu_of (by decide) rfl (Nat.le_of_ble_eq_true rfl) ?_
  intro pp ee ss mm bb mt cd Q A CFx hP hK hD hS hA hTr hret ls hl
  obtain ⟨hex, hby, hml, hown, hts⟩ := id CFx
  have hl : lv_has ls 9 [(0, .ref hz), (1, .int (nI k)), (2, .int (nI s))] := hl
  have hk3 := hL.2.2.2 k hk
  have hS1 := hag k (by omega)
  have hS2 := hag (k + 1) (by omega)
  have htop := hL.top hk
  have h46 := p4_6 hm6
  have h26 := p2_6 hm6
  have hp4k := p4_pos (lv k)
  have hgk := hgc (st k) (by omega)
  have hcm := cvc_mod (T := T) (k := m) (st k) hm6
  have hlt_ := lxv_top hV hL hk
  have h2kp := p2_pos (lv k)
  rcases (show s = 0 ∨ s = 1 ∨ s = 2 ∨ s = 3 by omega) with rfl | rfl | rfl | rfl
  · refine lv_aload_n hex hby dX7_findBeyond_0 rfl (lv_at hl 0 rfl) ?_
    refine nv_get (v := .ref hd) CFx in_X7_findBeyond_X7 hK hP 0 rfl rfl 1 (by decide) (List.mem_of_getElem? (i := 1) rfl) rfl dX7_findBeyond_1 ?_
    refine lv_iload_n hex hby dX7_findBeyond_4 rfl (lv_at hl 1 rfl) ?_
    refine ro_Vi (As := [.int (nI k)]) (rest := []) CFx (c_X1_sideOf (hd := hd) (aS := aS) (fd := fd) (S := S) (k := k) (L := lv k) faS hSb (by omega) (by rw [hS2, hS1]; exact hk3.1) (by omega)) 1 gX7_findBeyond_X1_sideOf rfl nd_X1_sideOf ⟨Nat.le_of_ble_eq_true rfl, Nat.le_of_ble_eq_true rfl⟩ hK hP [5, 6] rfl rfl rfl rfl hl.1 rfl (Nat.le_of_ble_eq_true rfl) dX7_findBeyond_5 ⟨Nat.le_refl _, Nat.le_refl _⟩ (fun r_1 hr_1 => ?_)
    obtain rfl := hr_1
    refine lv_istore_n (lv' := [(3, .int (nI (2 ^ (lv k)))), (0, .ref hz), (1, .int (nI k)), (2, .int (nI 0))]) hex hby dX7_findBeyond_8 rfl hl (by decide) rfl (fun ls hl => ?_)
    refine lv_aload_n hex hby dX7_findBeyond_9 rfl (lv_at hl 1 rfl) ?_
    refine lv_iload_n hex hby dX7_findBeyond_10 rfl (lv_at hl 2 rfl) ?_
    refine ro_Vi (As := [.int (nI k)]) (rest := []) CFx (c_X7_leftOf (hz := hz) (hn := hn) (aC := aC) (hd := hd) (aS := aS) (fz := [.ref hn, .ref hd, v2, .ref aB]) (fn := fn) (g := g) (fd := fd) (S := S) (k := k) (T := T) (ns := ns) (m := m) (st := st) (lv := lv) (c := c) rfl rfl faC faS hg hSb hgc hV hL hag hc hm6 hk) 1 gX7_findBeyond_X7_leftOf rfl nd_X7_leftOf ⟨Nat.le_of_ble_eq_true rfl, Nat.le_of_ble_eq_true rfl⟩ hK hP [0, 2, 3, 5, 6] rfl rfl rfl rfl hl.1 rfl (Nat.le_of_ble_eq_true rfl) dX7_findBeyond_11 ⟨Nat.le_refl _, Nat.le_refl _⟩ (fun r_2 hr_2 => ?_)
    obtain rfl := hr_2
    refine lv_iload_n hex hby dX7_findBeyond_14 rfl (lv_at hl 3 rfl) ?_
    refine nv_if_ne (tgt := 22) hex hby dX7_findBeyond_15 (by decide) (by omega) (fun c => absurd c (by omega)) (fun _ => ?_)
    refine lv_iconst (v := nI 1) hex hby dX7_findBeyond_18 rfl ?_
    refine lv_goto (tgt := 23) hex hby dX7_findBeyond_19 (by decide) ?_
    refine lv_iload_n hex hby dX7_findBeyond_23 rfl (lv_at hl 3 rfl) ?_
    refine lv_iconst (v := nI 1) hex hby dX7_findBeyond_24 rfl ?_
    refine nv_icmp_ne (tgt := 32) hex hby dX7_findBeyond_25 (by decide) (by omega) (by omega) (fun _ => ?_) (fun c => absurd c (by omega))
    refine lv_iconst (v := nI 0) hex hby dX7_findBeyond_32 rfl ?_
    refine lv_iload_n hex hby dX7_findBeyond_33 rfl (lv_at hl 0 rfl) ?_
    refine ro_Si (As := [.int (nI 1), .int (nI 0), .int (nI (2 ^ (lv k)))]) (rest := [.int (nI (lxv T m st lv k))]) (C := RX7) CFx (c_X7_stepAcross (a := 1) (b := 0) (len := 2 ^ (lv k)) (by omega) (by omega)) 3 gX7_findBeyond_X7_stepAcross rfl nd_X7_stepAcross ⟨Nat.le_of_ble_eq_true rfl, Nat.le_of_ble_eq_true rfl⟩ hK hP [] rfl rfl hl.1 rfl (Nat.le_of_ble_eq_true rfl) dX7_findBeyond_34 ⟨Nat.le_refl _, Nat.le_refl _⟩ (fun r_3 hr_3 => ?_)
    rcases hr_3 with ⟨rfl, h_4⟩ | ⟨rfl, h_5, h_6⟩ | ⟨rfl, h_7, h_8⟩
    · refine nz_iadd (a := ((lxv T m st lv k : Nat) : Int)) (b := -1) hex hby dX7_findBeyond_37 (ni_nz _) rfl ?_
      refine lv_istore (lv' := [(4, .int (zI (((lxv T m st lv k : Nat) : Int) + (-1)))), (3, .int (nI (2 ^ (lv k)))), (0, .ref hz), (1, .int (nI k)), (2, .int (nI 0))]) hex hby dX7_findBeyond_38 hl (by decide) rfl (fun ls hl => ?_)
      refine lv_aload_n hex hby dX7_findBeyond_40 rfl (lv_at hl 2 rfl) ?_
      refine lv_iload_n hex hby dX7_findBeyond_41 rfl (lv_at hl 3 rfl) ?_
      refine ro_Vi (As := [.int (nI k)]) (rest := []) CFx (c_X7_belowOf (hz := hz) (hn := hn) (aC := aC) (hd := hd) (aS := aS) (fz := [.ref hn, .ref hd, v2, .ref aB]) (fn := fn) (g := g) (fd := fd) (S := S) (k := k) (T := T) (ns := ns) (m := m) (st := st) (lv := lv) (c := c) rfl rfl faC faS hg hSb hgc hV hL hag hc hm6 hk) 1 gX7_findBeyond_X7_belowOf rfl nd_X7_belowOf ⟨Nat.le_of_ble_eq_true rfl, Nat.le_of_ble_eq_true rfl⟩ hK hP [0, 2, 3, 5, 6] rfl rfl rfl rfl hl.1 rfl (Nat.le_of_ble_eq_true rfl) dX7_findBeyond_42 ⟨Nat.le_refl _, Nat.le_refl _⟩ (fun r_9 hr_9 => ?_)
      obtain rfl := hr_9
      refine lv_iload_n hex hby dX7_findBeyond_45 rfl (lv_at hl 4 rfl) ?_
      refine lv_iconst (v := nI 2) hex hby dX7_findBeyond_46 rfl ?_
      refine nv_icmp_ne (tgt := 54) hex hby dX7_findBeyond_47 (by decide) (by omega) (by omega) (fun _ => ?_) (fun c => absurd c (by omega))
      refine lv_iconst (v := nI 0) hex hby dX7_findBeyond_54 rfl ?_
      refine lv_iload_n hex hby dX7_findBeyond_55 rfl (lv_at hl 4 rfl) ?_
      refine lv_iconst (v := nI 3) hex hby dX7_findBeyond_56 rfl ?_
      refine nv_icmp_ne (tgt := 64) hex hby dX7_findBeyond_57 (by decide) (by omega) (by omega) (fun _ => ?_) (fun c => absurd c (by omega))
      refine lv_iconst (v := nI 0) hex hby dX7_findBeyond_64 rfl ?_
      refine lv_iload_n hex hby dX7_findBeyond_65 rfl (lv_at hl 1 rfl) ?_
      refine ro_Si (As := [.int (nI 0), .int (nI 0), .int (nI (2 ^ (lv k)))]) (rest := [.int (nI (lyv T m st lv k))]) (C := RX7) CFx (c_X7_stepAcross (a := 0) (b := 0) (len := 2 ^ (lv k)) (by omega) (by omega)) 3 gX7_findBeyond_X7_stepAcross rfl nd_X7_stepAcross ⟨Nat.le_of_ble_eq_true rfl, Nat.le_of_ble_eq_true rfl⟩ hK hP [] rfl rfl hl.1 rfl (Nat.le_of_ble_eq_true rfl) dX7_findBeyond_66 ⟨Nat.le_refl _, Nat.le_refl _⟩ (fun r_10 hr_10 => ?_)
      rcases hr_10 with ⟨rfl, h_11⟩ | ⟨rfl, h_12, h_13⟩ | ⟨rfl, h_14, h_15⟩
      · omega
      · omega
      · refine nv_iadd hex hby dX7_findBeyond_69 ?_
        refine lv_istore (lv' := [(5, .int (nI (lyv T m st lv k + 0))), (4, .int (zI (((lxv T m st lv k : Nat) : Int) + (-1)))), (3, .int (nI (2 ^ (lv k)))), (0, .ref hz), (1, .int (nI k)), (2, .int (nI 0))]) hex hby dX7_findBeyond_70 hl (by decide) rfl (fun ls hl => ?_)
        refine lv_iconst (v := nI 0) hex hby dX7_findBeyond_72 rfl ?_
        refine lv_istore (lv' := [(6, .int (nI 0)), (5, .int (nI (lyv T m st lv k + 0))), (4, .int (zI (((lxv T m st lv k : Nat) : Int) + (-1)))), (3, .int (nI (2 ^ (lv k)))), (0, .ref hz), (1, .int (nI k)), (2, .int (nI 0))]) hex hby dX7_findBeyond_73 hl (by decide) rfl (fun ls hl => ?_)
        refine lv_aload_n hex hby dX7_findBeyond_75 rfl (lv_at hl 4 rfl) ?_
        refine lv_iconst (v := nI 0) hex hby dX7_findBeyond_76 rfl ?_
        refine nv_put CFx in_X7_findBeyond_X7 tyX7 tyX7_ok nmX7 hK hP hD hS 0 rfl rfl 2 (by decide) (List.mem_of_getElem? (i := 2) rfl) rfl (by decide +kernel) (Nat.le_of_ble_eq_true rfl) dX7_findBeyond_77 (fun H locs hP hD hS => ?_)
        have hP : va_P (dC, dI) vwCl [(hz, .inr (7, [.ref hn, .ref hd, .int (nI 0), .ref aB])), (aB, .inl (cI, 64, .inl (nA fa))), (hn, .inr (2, fn)), (aC, .inl (cI, 4096, .inl (nA g))), (aI, .inl (cI, 4096, .inl (nA ix))), (hd, .inr (1, fd)), (aS, .inl (cI, 497, .inl (nA S)))] H := hP
        have hD : va_D A [(hz, .inr (7, [.ref hn, .ref hd, .int (nI 0), .ref aB])), (aB, .inl (cI, 64, .inl (nA fa))), (hn, .inr (2, fn)), (aC, .inl (cI, 4096, .inl (nA g))), (aI, .inl (cI, 4096, .inl (nA ix))), (hd, .inr (1, fd)), (aS, .inl (cI, 497, .inl (nA S)))] := hD
        have loop80 : ∀ (nn : Nat) (x : Int) (y : Int) (al : Nat) (bs : Nat) (f : Nat → Nat), (2 ^ lv k - al) < nn → (byd T m st lv 0 k → x = ((bcx T m st lv 0 k al : Nat) : Int) ∧ y = ((bcy T m st lv 0 k al : Nat) : Int)) → (¬ byd T m st lv 0 k → ¬ (0 ≤ x ∧ x < sd ∧ 0 ≤ y ∧ y < sd)) → (¬ byd T m st lv 0 k → al = 0) → (-1 ≤ x ∧ x ≤ 130 + (al : Int)) → (-1 ≤ y ∧ y ≤ 130 + (al : Int)) → (al ≤ 128) → (bs ≤ al) → (bs ≤ 64) → (∀ j, f j < 4096) → (SSt bs f (FndT T m c st lv 0 k al)) → (al < 2 ^ lv k → ∀ w, FndT T m c st lv 0 k al w → axv T m st lv 0 w + 2 ^ lv w ≤ axv T m st lv 0 k + al) → ∀ (H : Heap) (locs : List Loc), va_P (dC, dI) vwCl [(hz, .inr (7, [.ref hn, .ref hd, .int (nI bs), .ref aB])), (aB, .inl (cI, 64, .inl (nA f))), (hn, .inr (2, fn)), (aC, .inl (cI, 4096, .inl (nA g))), (aI, .inl (cI, 4096, .inl (nA ix))), (hd, .inr (1, fd)), (aS, .inl (cI, 497, .inl (nA S)))] H → va_D A [(hz, .inr (7, [.ref hn, .ref hd, .int (nI bs), .ref aB])), (aB, .inl (cI, 64, .inl (nA f))), (hn, .inr (2, fn)), (aC, .inl (cI, 4096, .inl (nA g))), (aI, .inl (cI, 4096, .inl (nA ix))), (hd, .inr (1, fd)), (aS, .inl (cI, 497, .inl (nA S)))] → va_S A ss.heap H locs → ∀ ls : Array Slot, lv_has ls 9 [(6, .int (nI al)), (5, .int (zI y)), (4, .int (zI x)), (3, .int (nI (2 ^ (lv k)))), (0, .ref hz), (1, .int (nI k)), (2, .int (nI 0))] → W pp l ee (rmO 2 44) ss mm ([.ref hz, .int (nI k), .int (nI 0)] : List Value).toArray bb mt cd H locs 0 0 Q (F0 mm 80 ls []) := by
          intro nn
          induction nn with
          | zero => intro x y al bs f hms80; exact absurd hms80 (Nat.not_lt_zero _)
          | succ nn ih80 =>
            intro x y al bs f hms80 hxy hnb hnb2 hxr hyr hal hba hb64 hfb hss hend H locs hP hD hS ls hl
            have h2k := p2_6 (show lv k ≤ 6 by omega)
            refine lv_iload hex hby dX7_findBeyond_80 (lv_at hl 0 rfl) ?_
            refine lv_iload_n hex hby dX7_findBeyond_82 rfl (lv_at hl 3 rfl) ?_
            refine nv_icmp_ge (tgt := 186) hex hby dX7_findBeyond_83 (by decide) (by omega) (by omega) (fun c_16 => ?_) (fun c_16 => ?_)
            · exact hret _ (bs, f) _ _ _ _ _ (Or.inr (Or.inr (Or.inl ⟨rfl, rfl, rfl, dX7_findBeyond_186⟩))) ⟨rfl, ⟨(hss.congr (fun v => fnd_all (Classical.byContradiction (fun z => by have := hnb2 z; omega)) (by omega) v)), hfb, (by omega)⟩⟩ hP hD hS
            · refine lv_aload_n hex hby dX7_findBeyond_86 rfl (lv_at hl 4 rfl) ?_
              refine nv_get (v := .int (nI bs)) CFx in_X7_findBeyond_X7 hK hP 0 rfl rfl 2 (by decide) (List.mem_of_getElem? (i := 2) rfl) rfl dX7_findBeyond_87 ?_
              refine lv_bipush (v := nI 64) hex hby dX7_findBeyond_90 rfl ?_
              refine nv_icmp_ge (tgt := 186) hex hby dX7_findBeyond_92 (by decide) (by omega) (by omega) (fun c_17 => absurd c_17 (by omega)) (fun c_17 => ?_)
              refine lv_aload_n hex hby dX7_findBeyond_95 rfl (lv_at hl 4 rfl) ?_
              refine nv_get (v := .ref hn) CFx in_X7_findBeyond_X7 hK hP 0 rfl rfl 0 (by decide) (List.mem_of_getElem? (i := 3) rfl) rfl dX7_findBeyond_96 ?_
              refine lv_iload hex hby dX7_findBeyond_99 (lv_at hl 2 rfl) ?_
              refine lv_iload hex hby dX7_findBeyond_101 (lv_at hl 1 rfl) ?_
              refine ro_Vi (As := [.int (zI x), .int (zI y)]) (rest := []) CFx (c_X2_holds (h := hn) (fs := fn) (sd := sd) (x := zI x) (xz := x) (y := zI y) (yz := y) fsd (zI_toInt (by omega) (by omega)) (zI_toInt (by omega) (by omega)) (by omega)) 2 gX7_findBeyond_X2_holds rfl nd_X2_holds ⟨Nat.le_of_ble_eq_true rfl, Nat.le_of_ble_eq_true rfl⟩ hK hP [2] rfl rfl rfl rfl hl.1 rfl (Nat.le_of_ble_eq_true rfl) dX7_findBeyond_103 ⟨Nat.le_refl _, Nat.le_refl _⟩ (fun r_18 hr_18 => ?_)
              rcases hr_18 with ⟨rfl, hh1⟩ | ⟨rfl, hh0⟩
              · refine nv_if_eq (tgt := 186) hex hby dX7_findBeyond_106 (by decide) (by omega) (fun c => absurd c (by omega)) (fun _ => ?_)
                have hb : byd T m st lv 0 k := by
                  apply Classical.byContradiction
                  intro z
                  exact hnb z (by omega)
                obtain ⟨ex_, ey_⟩ := hxy hb
                subst ex_; subst ey_
                rw [zI_nat, zI_nat] at hl
                have hgr := bc_in hV hL (s := 0) hk hb (t := al) (by omega)
                have hna := num_at hV hN hgr.1 hgr.2
                have hsp := p2_6 hm6
                refine lv_aload_n hex hby dX7_findBeyond_109 rfl (lv_at hl 4 rfl) ?_
                refine nv_get (v := .ref hd) CFx in_X7_findBeyond_X7 hK hP 0 rfl rfl 1 (by decide) (List.mem_of_getElem? (i := 1) rfl) rfl dX7_findBeyond_110 ?_
                refine lv_aload_n hex hby dX7_findBeyond_113 rfl (lv_at hl 4 rfl) ?_
                refine nv_get (v := .ref hn) CFx in_X7_findBeyond_X7 hK hP 0 rfl rfl 0 (by decide) (List.mem_of_getElem? (i := 3) rfl) rfl dX7_findBeyond_114 ?_
                refine lv_iload hex hby dX7_findBeyond_117 (lv_at hl 2 rfl) ?_
                refine lv_iload hex hby dX7_findBeyond_119 (lv_at hl 1 rfl) ?_
                refine ro_Vi (As := [.int (nI (bcx T m st lv 0 k al)), .int (nI (bcy T m st lv 0 k al))]) (rest := [.ref hd]) CFx (c_X2_indexOf (h := hn) (aI := aI) (fs := fn) (ix := ix) (x := bcx T m st lv 0 k al) (y := bcy T m st lv 0 k al) faI hix (by omega) (by omega)) 2 gX7_findBeyond_X2_indexOf rfl nd_X2_indexOf ⟨Nat.le_of_ble_eq_true rfl, Nat.le_of_ble_eq_true rfl⟩ hK hP [2, 4] rfl rfl rfl rfl hl.1 rfl (Nat.le_of_ble_eq_true rfl) dX7_findBeyond_121 ⟨Nat.le_refl _, Nat.le_refl _⟩ (fun r_19 hr_19 => ?_)
                obtain rfl := hr_19
                refine ro_Vi (As := [.int (nI (ix ((bcy T m st lv 0 k al) * 64 + (bcx T m st lv 0 k al))))]) (rest := []) CFx (c_X1_leafOfIndex (hd := hd) (aS := aS) (fd := fd) (c := c) (S := S) (i := ix ((bcy T m st lv 0 k al) * 64 + (bcx T m st lv 0 k al))) (m := m) (st := st) (lv := lv) fdc faS hSb hL hag hc hm6 hna.1) 1 gX7_findBeyond_X1_leafOfIndex rfl nd_X1_leafOfIndex ⟨Nat.le_of_ble_eq_true rfl, Nat.le_of_ble_eq_true rfl⟩ hK hP [5, 6] rfl rfl rfl rfl hl.1 rfl (Nat.le_of_ble_eq_true rfl) dX7_findBeyond_124 ⟨Nat.le_refl _, Nat.le_refl _⟩ (fun r_20 hr_20 => ?_)
                obtain ⟨v, rfl, hv1, hv2, hv3⟩ := hr_20
                refine lv_istore (lv' := [(7, .int (nI v)), (6, .int (nI al)), (5, .int (nI (bcy T m st lv 0 k al))), (4, .int (nI (bcx T m st lv 0 k al))), (3, .int (nI (2 ^ (lv k)))), (0, .ref hz), (1, .int (nI k)), (2, .int (nI 0))]) hex hby dX7_findBeyond_127 hl (by decide) rfl (fun ls hl => ?_)
                have hg1 := (geo hV hL hv1 hna.1).mp ⟨hv2, hv3⟩
                rw [hna.2.1, hna.2.2] at hg1
                obtain ⟨hf1, hf2, hf3⟩ := fnd_step hV hL (by omega) hk hv1 hb (by omega) hg1 (hend (by omega))
                have hv6 : lv v ≤ 6 := by have := (hL.2.2.2 v hv1).2.2; omega
                have h2v := p2_6 hv6
                have h2vp := p2_pos (lv v)
                refine lv_aload_n hex hby dX7_findBeyond_129 rfl (lv_at hl 5 rfl) ?_
                refine lv_iload hex hby dX7_findBeyond_130 (lv_at hl 0 rfl) ?_
                refine mu_Vv (As := [.int (nI v)]) (rest := []) (wr := [(hn, .inr (2, fn)), (aC, .inl (cI, 4096, .inl (nA g))), (aI, .inl (cI, 4096, .inl (nA ix))), (hd, .inr (1, fd)), (aS, .inl (cI, 497, .inl (nA S)))]) CFx (c_X7_insert (hz := hz) (aB := aB) (v0 := .ref hn) (v1 := .ref hd) (bs := bs) (f := f) (v := v) (P := FndT T m c st lv 0 k al) hfb hss hf1 (by omega) (by omega)) 1 gX7_findBeyond_X7_insert rfl nd_X7_insert ⟨Nat.le_of_ble_eq_true rfl, Nat.le_of_ble_eq_true rfl⟩ hK hP hD hS hA [0, 1] [2, 3, 4, 5, 6] rfl rfl (by decide) (by decide) (by decide) TR.nil rfl rfl rfl hl.1 rfl (Nat.le_of_ble_eq_true rfl) dX7_findBeyond_132 ⟨Nat.le_refl _, Nat.le_refl _⟩ (fun u H locs hr_21 hP hD hS => ?_)
                obtain ⟨fi, rfl⟩ : ∃ z, z = u := ⟨_, rfl⟩
                have hP : va_P (dC, dI) vwCl [(hn, .inr (2, fn)), (aC, .inl (cI, 4096, .inl (nA g))), (aI, .inl (cI, 4096, .inl (nA ix))), (hd, .inr (1, fd)), (aS, .inl (cI, 497, .inl (nA S))), (hz, .inr (7, [.ref hn, .ref hd, .int (nI (bs + 1)), .ref aB])), (aB, .inl (cI, 64, .inl (nA fi)))] H := hP
                have hD : va_D A [(hn, .inr (2, fn)), (aC, .inl (cI, 4096, .inl (nA g))), (aI, .inl (cI, 4096, .inl (nA ix))), (hd, .inr (1, fd)), (aS, .inl (cI, 497, .inl (nA S))), (hz, .inr (7, [.ref hn, .ref hd, .int (nI (bs + 1)), .ref aB])), (aB, .inl (cI, 64, .inl (nA fi)))] := hD
                obtain ⟨hi1, hi2⟩ := hr_21
                refine lv_iconst (v := nI 1) hex hby dX7_findBeyond_135 rfl ?_
                refine lv_aload_n hex hby dX7_findBeyond_136 rfl (lv_at hl 5 rfl) ?_
                refine nv_get (v := .ref hd) CFx in_X7_findBeyond_X7 hK hP 5 rfl rfl 1 (by decide) (List.mem_of_getElem? (i := 1) rfl) rfl dX7_findBeyond_137 ?_
                refine lv_iload hex hby dX7_findBeyond_140 (lv_at hl 0 rfl) ?_
                refine ro_Vi (As := [.int (nI v)]) (rest := [.int (nI 1)]) CFx (c_X1_sideOf (hd := hd) (aS := aS) (fd := fd) (S := S) (k := v) (L := lv v) faS hSb (by omega) (by have q1 := hL.2.2.2 v (by omega); rw [hag _ (by omega), hag _ (by omega)]; exact q1.1) hv6) 1 gX7_findBeyond_X1_sideOf rfl nd_X1_sideOf ⟨Nat.le_of_ble_eq_true rfl, Nat.le_of_ble_eq_true rfl⟩ hK hP [3, 4] rfl rfl rfl rfl hl.1 rfl (Nat.le_of_ble_eq_true rfl) dX7_findBeyond_142 ⟨Nat.le_refl _, Nat.le_refl _⟩ (fun r_23 hr_23 => ?_)
                obtain rfl := hr_23
                refine va_mmax hex hby (hml.trans hl.1.symm) hown (hts _ (List.mem_of_getElem? (i := 4) rfl)) (hts _ (List.mem_of_getElem? (i := 5) rfl)) (hts _ (List.mem_of_getElem? (i := 6) rfl)) (hts _ (List.mem_of_getElem? (i := 7) rfl)) (Nat.le_of_ble_eq_true rfl) (Nat.le_of_ble_eq_true rfl) (Nat.le_refl _) (Nat.le_refl _) dX7_findBeyond_145 ?_
                refine nv_top (nI_max (by omega) (by omega)) ?_
                refine nv_top (y := nI (2 ^ lv v)) (congrArg nI (Nat.max_eq_right (by omega))) ?_
                refine lv_istore (lv' := [(8, .int (nI (2 ^ lv v))), (7, .int (nI v)), (6, .int (nI al)), (5, .int (nI (bcy T m st lv 0 k al))), (4, .int (nI (bcx T m st lv 0 k al))), (3, .int (nI (2 ^ (lv k)))), (0, .ref hz), (1, .int (nI k)), (2, .int (nI 0))]) hex hby dX7_findBeyond_148 hl (by decide) rfl (fun ls hl => ?_)
                refine lv_iload hex hby dX7_findBeyond_150 (lv_at hl 2 rfl) ?_
                refine lv_iload hex hby dX7_findBeyond_152 (lv_at hl 0 rfl) ?_
                refine nv_iadd hex hby dX7_findBeyond_154 ?_
                refine lv_istore (lv' := [(6, .int (nI (al + 2 ^ lv v))), (8, .int (nI (2 ^ lv v))), (7, .int (nI v)), (5, .int (nI (bcy T m st lv 0 k al))), (4, .int (nI (bcx T m st lv 0 k al))), (3, .int (nI (2 ^ (lv k)))), (0, .ref hz), (1, .int (nI k)), (2, .int (nI 0))]) hex hby dX7_findBeyond_155 hl (by decide) rfl (fun ls hl => ?_)
                refine lv_iload_n hex hby dX7_findBeyond_157 rfl (lv_at hl 8 rfl) ?_
                refine nv_if_eq (tgt := 166) hex hby dX7_findBeyond_158 (by decide) (by omega) (fun _ => ?_) (fun c => absurd c (by omega))
                refine lv_iload hex hby dX7_findBeyond_166 (lv_at hl 3 rfl) ?_
                refine lv_iload hex hby dX7_findBeyond_168 (lv_at hl 1 rfl) ?_
                refine nv_iadd hex hby dX7_findBeyond_170 ?_
                refine lv_istore (lv' := [(5, .int (nI (bcy T m st lv 0 k al + 2 ^ lv v))), (6, .int (nI (al + 2 ^ lv v))), (8, .int (nI (2 ^ lv v))), (7, .int (nI v)), (4, .int (nI (bcx T m st lv 0 k al))), (3, .int (nI (2 ^ (lv k)))), (0, .ref hz), (1, .int (nI k)), (2, .int (nI 0))]) hex hby dX7_findBeyond_171 hl (by decide) rfl (fun ls hl => ?_)
                refine lv_goto (tgt := 183) hex hby dX7_findBeyond_173 (by decide) ?_
                refine lv_goto (tgt := 80) hex hby dX7_findBeyond_183 (by decide) ?_
                have pf_24 : byd T m st lv 0 k → ((bcx T m st lv 0 k al : Nat) : Int) = ((bcx T m st lv 0 k (al + 2 ^ lv v) : Nat) : Int) ∧ ((bcy T m st lv 0 k al + 2 ^ lv v : Nat) : Int) = ((bcy T m st lv 0 k (al + 2 ^ lv v) : Nat) : Int) := by
                  intro z
                  unfold bcx bcy
                  simp <;> omega
                rw [ni_nz (bcx T m st lv 0 k al)] at hl
                rw [ni_nz (bcy T m st lv 0 k al + 2 ^ lv v)] at hl
                exact ih80 ((bcx T m st lv 0 k al : Nat) : Int) ((bcy T m st lv 0 k al + 2 ^ lv v : Nat) : Int) (al + 2 ^ lv v) (bs + 1) fi (by omega) pf_24 (fun z => absurd hb z) (fun z => absurd hb z) (by omega) (by omega) (by omega) (by omega) (by omega) hi2 (hi1.congr (fun w => (hf2 w).symm)) hf3 _ _ (hP.sub [5, 6, 0, 1, 2, 3, 4] rfl) (hD.sub [5, 6, 0, 1, 2, 3, 4] (by decide) rfl) hS _ (lv_sub hl [1, 0, 4, 5, 6, 7, 8] rfl)
              · refine nv_if_eq (tgt := 186) hex hby dX7_findBeyond_106 (by decide) (by omega) (fun _ => ?_) (fun c => absurd c (by omega))
                have pf_25 : SSt bs f (Nbr T m c st lv 0 k) := by
                  have hz_ : ¬ byd T m st lv 0 k := by
                    intro z
                    obtain ⟨e1, e2⟩ := hxy z
                    have hgr := bc_in hV hL (s := 0) hk z (t := al) (by omega)
                    omega
                  have h0 := hnb2 hz_
                  subst h0
                  exact hss.congr (fun v => ⟨fun q => by obtain ⟨_, j, hj, _⟩ := q; exact absurd hj (Nat.not_lt_zero _), fun q => absurd q.1 hz_⟩)
                exact hret _ (bs, f) _ _ _ _ _ (Or.inr (Or.inr (Or.inl ⟨rfl, rfl, rfl, dX7_findBeyond_186⟩))) ⟨rfl, ⟨pf_25, hfb, (by omega)⟩⟩ hP hD hS
        have pf_26 : byd T m st lv 0 k → (((lxv T m st lv k : Nat) : Int) + (-1)) = ((bcx T m st lv 0 k 0 : Nat) : Int) ∧ ((lyv T m st lv k + 0 : Nat) : Int) = ((bcy T m st lv 0 k 0 : Nat) : Int) := by
          intro z
          unfold byd at z
          simp at z
          unfold bcx bcy
          simp <;> omega
        have pf_27 : ¬ byd T m st lv 0 k → ¬ (0 ≤ (((lxv T m st lv k : Nat) : Int) + (-1)) ∧ (((lxv T m st lv k : Nat) : Int) + (-1)) < sd ∧ 0 ≤ ((lyv T m st lv k + 0 : Nat) : Int) ∧ ((lyv T m st lv k + 0 : Nat) : Int) < sd) := by
          intro z
          unfold byd at z
          simp at z
          omega
        rw [ni_nz (lyv T m st lv k + 0)] at hl
        exact loop80 _ (((lxv T m st lv k : Nat) : Int) + (-1)) ((lyv T m st lv k + 0 : Nat) : Int) 0 0 fa (Nat.lt_succ_self _) pf_26 pf_27 (fun _ => rfl) (by omega) (by omega) (by omega) (by omega) (by omega) hfa (SSt.zero _ (fun v q => by obtain ⟨_, j, hj, _⟩ := q; exact absurd hj (Nat.not_lt_zero _))) (fun _ w q => by obtain ⟨_, j, hj, _⟩ := q; exact absurd hj (Nat.not_lt_zero _)) _ _ hP hD hS _ (lv_sub hl [0, 1, 2, 3, 4, 5, 6] rfl)
    · omega
    · omega
  · refine lv_aload_n hex hby dX7_findBeyond_0 rfl (lv_at hl 0 rfl) ?_
    refine nv_get (v := .ref hd) CFx in_X7_findBeyond_X7 hK hP 0 rfl rfl 1 (by decide) (List.mem_of_getElem? (i := 1) rfl) rfl dX7_findBeyond_1 ?_
    refine lv_iload_n hex hby dX7_findBeyond_4 rfl (lv_at hl 1 rfl) ?_
    refine ro_Vi (As := [.int (nI k)]) (rest := []) CFx (c_X1_sideOf (hd := hd) (aS := aS) (fd := fd) (S := S) (k := k) (L := lv k) faS hSb (by omega) (by rw [hS2, hS1]; exact hk3.1) (by omega)) 1 gX7_findBeyond_X1_sideOf rfl nd_X1_sideOf ⟨Nat.le_of_ble_eq_true rfl, Nat.le_of_ble_eq_true rfl⟩ hK hP [5, 6] rfl rfl rfl rfl hl.1 rfl (Nat.le_of_ble_eq_true rfl) dX7_findBeyond_5 ⟨Nat.le_refl _, Nat.le_refl _⟩ (fun r_28 hr_28 => ?_)
    obtain rfl := hr_28
    refine lv_istore_n (lv' := [(3, .int (nI (2 ^ (lv k)))), (0, .ref hz), (1, .int (nI k)), (2, .int (nI 1))]) hex hby dX7_findBeyond_8 rfl hl (by decide) rfl (fun ls hl => ?_)
    refine lv_aload_n hex hby dX7_findBeyond_9 rfl (lv_at hl 1 rfl) ?_
    refine lv_iload_n hex hby dX7_findBeyond_10 rfl (lv_at hl 2 rfl) ?_
    refine ro_Vi (As := [.int (nI k)]) (rest := []) CFx (c_X7_leftOf (hz := hz) (hn := hn) (aC := aC) (hd := hd) (aS := aS) (fz := [.ref hn, .ref hd, v2, .ref aB]) (fn := fn) (g := g) (fd := fd) (S := S) (k := k) (T := T) (ns := ns) (m := m) (st := st) (lv := lv) (c := c) rfl rfl faC faS hg hSb hgc hV hL hag hc hm6 hk) 1 gX7_findBeyond_X7_leftOf rfl nd_X7_leftOf ⟨Nat.le_of_ble_eq_true rfl, Nat.le_of_ble_eq_true rfl⟩ hK hP [0, 2, 3, 5, 6] rfl rfl rfl rfl hl.1 rfl (Nat.le_of_ble_eq_true rfl) dX7_findBeyond_11 ⟨Nat.le_refl _, Nat.le_refl _⟩ (fun r_29 hr_29 => ?_)
    obtain rfl := hr_29
    refine lv_iload_n hex hby dX7_findBeyond_14 rfl (lv_at hl 3 rfl) ?_
    refine nv_if_ne (tgt := 22) hex hby dX7_findBeyond_15 (by decide) (by omega) (fun _ => ?_) (fun c => absurd c (by omega))
    refine lv_iconst (v := nI 0) hex hby dX7_findBeyond_22 rfl ?_
    refine lv_iload_n hex hby dX7_findBeyond_23 rfl (lv_at hl 3 rfl) ?_
    refine lv_iconst (v := nI 1) hex hby dX7_findBeyond_24 rfl ?_
    refine nv_icmp_ne (tgt := 32) hex hby dX7_findBeyond_25 (by decide) (by omega) (by omega) (fun c => absurd c (by omega)) (fun _ => ?_)
    refine lv_iconst (v := nI 1) hex hby dX7_findBeyond_28 rfl ?_
    refine lv_goto (tgt := 33) hex hby dX7_findBeyond_29 (by decide) ?_
    refine lv_iload_n hex hby dX7_findBeyond_33 rfl (lv_at hl 0 rfl) ?_
    refine ro_Si (As := [.int (nI 0), .int (nI 1), .int (nI (2 ^ (lv k)))]) (rest := [.int (nI (lxv T m st lv k))]) (C := RX7) CFx (c_X7_stepAcross (a := 0) (b := 1) (len := 2 ^ (lv k)) (by omega) (by omega)) 3 gX7_findBeyond_X7_stepAcross rfl nd_X7_stepAcross ⟨Nat.le_of_ble_eq_true rfl, Nat.le_of_ble_eq_true rfl⟩ hK hP [] rfl rfl hl.1 rfl (Nat.le_of_ble_eq_true rfl) dX7_findBeyond_34 ⟨Nat.le_refl _, Nat.le_refl _⟩ (fun r_30 hr_30 => ?_)
    rcases hr_30 with ⟨rfl, h_31⟩ | ⟨rfl, h_32, h_33⟩ | ⟨rfl, h_34, h_35⟩
    · omega
    · refine nv_iadd hex hby dX7_findBeyond_37 ?_
      refine lv_istore (lv' := [(4, .int (nI (lxv T m st lv k + (2 ^ (lv k))))), (3, .int (nI (2 ^ (lv k)))), (0, .ref hz), (1, .int (nI k)), (2, .int (nI 1))]) hex hby dX7_findBeyond_38 hl (by decide) rfl (fun ls hl => ?_)
      refine lv_aload_n hex hby dX7_findBeyond_40 rfl (lv_at hl 2 rfl) ?_
      refine lv_iload_n hex hby dX7_findBeyond_41 rfl (lv_at hl 3 rfl) ?_
      refine ro_Vi (As := [.int (nI k)]) (rest := []) CFx (c_X7_belowOf (hz := hz) (hn := hn) (aC := aC) (hd := hd) (aS := aS) (fz := [.ref hn, .ref hd, v2, .ref aB]) (fn := fn) (g := g) (fd := fd) (S := S) (k := k) (T := T) (ns := ns) (m := m) (st := st) (lv := lv) (c := c) rfl rfl faC faS hg hSb hgc hV hL hag hc hm6 hk) 1 gX7_findBeyond_X7_belowOf rfl nd_X7_belowOf ⟨Nat.le_of_ble_eq_true rfl, Nat.le_of_ble_eq_true rfl⟩ hK hP [0, 2, 3, 5, 6] rfl rfl rfl rfl hl.1 rfl (Nat.le_of_ble_eq_true rfl) dX7_findBeyond_42 ⟨Nat.le_refl _, Nat.le_refl _⟩ (fun r_36 hr_36 => ?_)
      obtain rfl := hr_36
      refine lv_iload_n hex hby dX7_findBeyond_45 rfl (lv_at hl 4 rfl) ?_
      refine lv_iconst (v := nI 2) hex hby dX7_findBeyond_46 rfl ?_
      refine nv_icmp_ne (tgt := 54) hex hby dX7_findBeyond_47 (by decide) (by omega) (by omega) (fun _ => ?_) (fun c => absurd c (by omega))
      refine lv_iconst (v := nI 0) hex hby dX7_findBeyond_54 rfl ?_
      refine lv_iload_n hex hby dX7_findBeyond_55 rfl (lv_at hl 4 rfl) ?_
      refine lv_iconst (v := nI 3) hex hby dX7_findBeyond_56 rfl ?_
      refine nv_icmp_ne (tgt := 64) hex hby dX7_findBeyond_57 (by decide) (by omega) (by omega) (fun _ => ?_) (fun c => absurd c (by omega))
      refine lv_iconst (v := nI 0) hex hby dX7_findBeyond_64 rfl ?_
      refine lv_iload_n hex hby dX7_findBeyond_65 rfl (lv_at hl 1 rfl) ?_
      refine ro_Si (As := [.int (nI 0), .int (nI 0), .int (nI (2 ^ (lv k)))]) (rest := [.int (nI (lyv T m st lv k))]) (C := RX7) CFx (c_X7_stepAcross (a := 0) (b := 0) (len := 2 ^ (lv k)) (by omega) (by omega)) 3 gX7_findBeyond_X7_stepAcross rfl nd_X7_stepAcross ⟨Nat.le_of_ble_eq_true rfl, Nat.le_of_ble_eq_true rfl⟩ hK hP [] rfl rfl hl.1 rfl (Nat.le_of_ble_eq_true rfl) dX7_findBeyond_66 ⟨Nat.le_refl _, Nat.le_refl _⟩ (fun r_37 hr_37 => ?_)
      rcases hr_37 with ⟨rfl, h_38⟩ | ⟨rfl, h_39, h_40⟩ | ⟨rfl, h_41, h_42⟩
      · omega
      · omega
      · refine nv_iadd hex hby dX7_findBeyond_69 ?_
        refine lv_istore (lv' := [(5, .int (nI (lyv T m st lv k + 0))), (4, .int (nI (lxv T m st lv k + (2 ^ (lv k))))), (3, .int (nI (2 ^ (lv k)))), (0, .ref hz), (1, .int (nI k)), (2, .int (nI 1))]) hex hby dX7_findBeyond_70 hl (by decide) rfl (fun ls hl => ?_)
        refine lv_iconst (v := nI 0) hex hby dX7_findBeyond_72 rfl ?_
        refine lv_istore (lv' := [(6, .int (nI 0)), (5, .int (nI (lyv T m st lv k + 0))), (4, .int (nI (lxv T m st lv k + (2 ^ (lv k))))), (3, .int (nI (2 ^ (lv k)))), (0, .ref hz), (1, .int (nI k)), (2, .int (nI 1))]) hex hby dX7_findBeyond_73 hl (by decide) rfl (fun ls hl => ?_)
        refine lv_aload_n hex hby dX7_findBeyond_75 rfl (lv_at hl 4 rfl) ?_
        refine lv_iconst (v := nI 0) hex hby dX7_findBeyond_76 rfl ?_
        refine nv_put CFx in_X7_findBeyond_X7 tyX7 tyX7_ok nmX7 hK hP hD hS 0 rfl rfl 2 (by decide) (List.mem_of_getElem? (i := 2) rfl) rfl (by decide +kernel) (Nat.le_of_ble_eq_true rfl) dX7_findBeyond_77 (fun H locs hP hD hS => ?_)
        have hP : va_P (dC, dI) vwCl [(hz, .inr (7, [.ref hn, .ref hd, .int (nI 0), .ref aB])), (aB, .inl (cI, 64, .inl (nA fa))), (hn, .inr (2, fn)), (aC, .inl (cI, 4096, .inl (nA g))), (aI, .inl (cI, 4096, .inl (nA ix))), (hd, .inr (1, fd)), (aS, .inl (cI, 497, .inl (nA S)))] H := hP
        have hD : va_D A [(hz, .inr (7, [.ref hn, .ref hd, .int (nI 0), .ref aB])), (aB, .inl (cI, 64, .inl (nA fa))), (hn, .inr (2, fn)), (aC, .inl (cI, 4096, .inl (nA g))), (aI, .inl (cI, 4096, .inl (nA ix))), (hd, .inr (1, fd)), (aS, .inl (cI, 497, .inl (nA S)))] := hD
        have loop80 : ∀ (nn : Nat) (x : Int) (y : Int) (al : Nat) (bs : Nat) (f : Nat → Nat), (2 ^ lv k - al) < nn → (byd T m st lv 1 k → x = ((bcx T m st lv 1 k al : Nat) : Int) ∧ y = ((bcy T m st lv 1 k al : Nat) : Int)) → (¬ byd T m st lv 1 k → ¬ (0 ≤ x ∧ x < sd ∧ 0 ≤ y ∧ y < sd)) → (¬ byd T m st lv 1 k → al = 0) → (-1 ≤ x ∧ x ≤ 130 + (al : Int)) → (-1 ≤ y ∧ y ≤ 130 + (al : Int)) → (al ≤ 128) → (bs ≤ al) → (bs ≤ 64) → (∀ j, f j < 4096) → (SSt bs f (FndT T m c st lv 1 k al)) → (al < 2 ^ lv k → ∀ w, FndT T m c st lv 1 k al w → axv T m st lv 1 w + 2 ^ lv w ≤ axv T m st lv 1 k + al) → ∀ (H : Heap) (locs : List Loc), va_P (dC, dI) vwCl [(hz, .inr (7, [.ref hn, .ref hd, .int (nI bs), .ref aB])), (aB, .inl (cI, 64, .inl (nA f))), (hn, .inr (2, fn)), (aC, .inl (cI, 4096, .inl (nA g))), (aI, .inl (cI, 4096, .inl (nA ix))), (hd, .inr (1, fd)), (aS, .inl (cI, 497, .inl (nA S)))] H → va_D A [(hz, .inr (7, [.ref hn, .ref hd, .int (nI bs), .ref aB])), (aB, .inl (cI, 64, .inl (nA f))), (hn, .inr (2, fn)), (aC, .inl (cI, 4096, .inl (nA g))), (aI, .inl (cI, 4096, .inl (nA ix))), (hd, .inr (1, fd)), (aS, .inl (cI, 497, .inl (nA S)))] → va_S A ss.heap H locs → ∀ ls : Array Slot, lv_has ls 9 [(6, .int (nI al)), (5, .int (zI y)), (4, .int (zI x)), (3, .int (nI (2 ^ (lv k)))), (0, .ref hz), (1, .int (nI k)), (2, .int (nI 1))] → W pp l ee (rmO 2 44) ss mm ([.ref hz, .int (nI k), .int (nI 1)] : List Value).toArray bb mt cd H locs 0 0 Q (F0 mm 80 ls []) := by
          intro nn
          induction nn with
          | zero => intro x y al bs f hms80; exact absurd hms80 (Nat.not_lt_zero _)
          | succ nn ih80 =>
            intro x y al bs f hms80 hxy hnb hnb2 hxr hyr hal hba hb64 hfb hss hend H locs hP hD hS ls hl
            have h2k := p2_6 (show lv k ≤ 6 by omega)
            refine lv_iload hex hby dX7_findBeyond_80 (lv_at hl 0 rfl) ?_
            refine lv_iload_n hex hby dX7_findBeyond_82 rfl (lv_at hl 3 rfl) ?_
            refine nv_icmp_ge (tgt := 186) hex hby dX7_findBeyond_83 (by decide) (by omega) (by omega) (fun c_43 => ?_) (fun c_43 => ?_)
            · exact hret _ (bs, f) _ _ _ _ _ (Or.inr (Or.inr (Or.inl ⟨rfl, rfl, rfl, dX7_findBeyond_186⟩))) ⟨rfl, ⟨(hss.congr (fun v => fnd_all (Classical.byContradiction (fun z => by have := hnb2 z; omega)) (by omega) v)), hfb, (by omega)⟩⟩ hP hD hS
            · refine lv_aload_n hex hby dX7_findBeyond_86 rfl (lv_at hl 4 rfl) ?_
              refine nv_get (v := .int (nI bs)) CFx in_X7_findBeyond_X7 hK hP 0 rfl rfl 2 (by decide) (List.mem_of_getElem? (i := 2) rfl) rfl dX7_findBeyond_87 ?_
              refine lv_bipush (v := nI 64) hex hby dX7_findBeyond_90 rfl ?_
              refine nv_icmp_ge (tgt := 186) hex hby dX7_findBeyond_92 (by decide) (by omega) (by omega) (fun c_44 => absurd c_44 (by omega)) (fun c_44 => ?_)
              refine lv_aload_n hex hby dX7_findBeyond_95 rfl (lv_at hl 4 rfl) ?_
              refine nv_get (v := .ref hn) CFx in_X7_findBeyond_X7 hK hP 0 rfl rfl 0 (by decide) (List.mem_of_getElem? (i := 3) rfl) rfl dX7_findBeyond_96 ?_
              refine lv_iload hex hby dX7_findBeyond_99 (lv_at hl 2 rfl) ?_
              refine lv_iload hex hby dX7_findBeyond_101 (lv_at hl 1 rfl) ?_
              refine ro_Vi (As := [.int (zI x), .int (zI y)]) (rest := []) CFx (c_X2_holds (h := hn) (fs := fn) (sd := sd) (x := zI x) (xz := x) (y := zI y) (yz := y) fsd (zI_toInt (by omega) (by omega)) (zI_toInt (by omega) (by omega)) (by omega)) 2 gX7_findBeyond_X2_holds rfl nd_X2_holds ⟨Nat.le_of_ble_eq_true rfl, Nat.le_of_ble_eq_true rfl⟩ hK hP [2] rfl rfl rfl rfl hl.1 rfl (Nat.le_of_ble_eq_true rfl) dX7_findBeyond_103 ⟨Nat.le_refl _, Nat.le_refl _⟩ (fun r_45 hr_45 => ?_)
              rcases hr_45 with ⟨rfl, hh1⟩ | ⟨rfl, hh0⟩
              · refine nv_if_eq (tgt := 186) hex hby dX7_findBeyond_106 (by decide) (by omega) (fun c => absurd c (by omega)) (fun _ => ?_)
                have hb : byd T m st lv 1 k := by
                  apply Classical.byContradiction
                  intro z
                  exact hnb z (by omega)
                obtain ⟨ex_, ey_⟩ := hxy hb
                subst ex_; subst ey_
                rw [zI_nat, zI_nat] at hl
                have hgr := bc_in hV hL (s := 1) hk hb (t := al) (by omega)
                have hna := num_at hV hN hgr.1 hgr.2
                have hsp := p2_6 hm6
                refine lv_aload_n hex hby dX7_findBeyond_109 rfl (lv_at hl 4 rfl) ?_
                refine nv_get (v := .ref hd) CFx in_X7_findBeyond_X7 hK hP 0 rfl rfl 1 (by decide) (List.mem_of_getElem? (i := 1) rfl) rfl dX7_findBeyond_110 ?_
                refine lv_aload_n hex hby dX7_findBeyond_113 rfl (lv_at hl 4 rfl) ?_
                refine nv_get (v := .ref hn) CFx in_X7_findBeyond_X7 hK hP 0 rfl rfl 0 (by decide) (List.mem_of_getElem? (i := 3) rfl) rfl dX7_findBeyond_114 ?_
                refine lv_iload hex hby dX7_findBeyond_117 (lv_at hl 2 rfl) ?_
                refine lv_iload hex hby dX7_findBeyond_119 (lv_at hl 1 rfl) ?_
                refine ro_Vi (As := [.int (nI (bcx T m st lv 1 k al)), .int (nI (bcy T m st lv 1 k al))]) (rest := [.ref hd]) CFx (c_X2_indexOf (h := hn) (aI := aI) (fs := fn) (ix := ix) (x := bcx T m st lv 1 k al) (y := bcy T m st lv 1 k al) faI hix (by omega) (by omega)) 2 gX7_findBeyond_X2_indexOf rfl nd_X2_indexOf ⟨Nat.le_of_ble_eq_true rfl, Nat.le_of_ble_eq_true rfl⟩ hK hP [2, 4] rfl rfl rfl rfl hl.1 rfl (Nat.le_of_ble_eq_true rfl) dX7_findBeyond_121 ⟨Nat.le_refl _, Nat.le_refl _⟩ (fun r_46 hr_46 => ?_)
                obtain rfl := hr_46
                refine ro_Vi (As := [.int (nI (ix ((bcy T m st lv 1 k al) * 64 + (bcx T m st lv 1 k al))))]) (rest := []) CFx (c_X1_leafOfIndex (hd := hd) (aS := aS) (fd := fd) (c := c) (S := S) (i := ix ((bcy T m st lv 1 k al) * 64 + (bcx T m st lv 1 k al))) (m := m) (st := st) (lv := lv) fdc faS hSb hL hag hc hm6 hna.1) 1 gX7_findBeyond_X1_leafOfIndex rfl nd_X1_leafOfIndex ⟨Nat.le_of_ble_eq_true rfl, Nat.le_of_ble_eq_true rfl⟩ hK hP [5, 6] rfl rfl rfl rfl hl.1 rfl (Nat.le_of_ble_eq_true rfl) dX7_findBeyond_124 ⟨Nat.le_refl _, Nat.le_refl _⟩ (fun r_47 hr_47 => ?_)
                obtain ⟨v, rfl, hv1, hv2, hv3⟩ := hr_47
                refine lv_istore (lv' := [(7, .int (nI v)), (6, .int (nI al)), (5, .int (nI (bcy T m st lv 1 k al))), (4, .int (nI (bcx T m st lv 1 k al))), (3, .int (nI (2 ^ (lv k)))), (0, .ref hz), (1, .int (nI k)), (2, .int (nI 1))]) hex hby dX7_findBeyond_127 hl (by decide) rfl (fun ls hl => ?_)
                have hg1 := (geo hV hL hv1 hna.1).mp ⟨hv2, hv3⟩
                rw [hna.2.1, hna.2.2] at hg1
                obtain ⟨hf1, hf2, hf3⟩ := fnd_step hV hL (by omega) hk hv1 hb (by omega) hg1 (hend (by omega))
                have hv6 : lv v ≤ 6 := by have := (hL.2.2.2 v hv1).2.2; omega
                have h2v := p2_6 hv6
                have h2vp := p2_pos (lv v)
                refine lv_aload_n hex hby dX7_findBeyond_129 rfl (lv_at hl 5 rfl) ?_
                refine lv_iload hex hby dX7_findBeyond_130 (lv_at hl 0 rfl) ?_
                refine mu_Vv (As := [.int (nI v)]) (rest := []) (wr := [(hn, .inr (2, fn)), (aC, .inl (cI, 4096, .inl (nA g))), (aI, .inl (cI, 4096, .inl (nA ix))), (hd, .inr (1, fd)), (aS, .inl (cI, 497, .inl (nA S)))]) CFx (c_X7_insert (hz := hz) (aB := aB) (v0 := .ref hn) (v1 := .ref hd) (bs := bs) (f := f) (v := v) (P := FndT T m c st lv 1 k al) hfb hss hf1 (by omega) (by omega)) 1 gX7_findBeyond_X7_insert rfl nd_X7_insert ⟨Nat.le_of_ble_eq_true rfl, Nat.le_of_ble_eq_true rfl⟩ hK hP hD hS hA [0, 1] [2, 3, 4, 5, 6] rfl rfl (by decide) (by decide) (by decide) TR.nil rfl rfl rfl hl.1 rfl (Nat.le_of_ble_eq_true rfl) dX7_findBeyond_132 ⟨Nat.le_refl _, Nat.le_refl _⟩ (fun u H locs hr_48 hP hD hS => ?_)
                obtain ⟨fi, rfl⟩ : ∃ z, z = u := ⟨_, rfl⟩
                have hP : va_P (dC, dI) vwCl [(hn, .inr (2, fn)), (aC, .inl (cI, 4096, .inl (nA g))), (aI, .inl (cI, 4096, .inl (nA ix))), (hd, .inr (1, fd)), (aS, .inl (cI, 497, .inl (nA S))), (hz, .inr (7, [.ref hn, .ref hd, .int (nI (bs + 1)), .ref aB])), (aB, .inl (cI, 64, .inl (nA fi)))] H := hP
                have hD : va_D A [(hn, .inr (2, fn)), (aC, .inl (cI, 4096, .inl (nA g))), (aI, .inl (cI, 4096, .inl (nA ix))), (hd, .inr (1, fd)), (aS, .inl (cI, 497, .inl (nA S))), (hz, .inr (7, [.ref hn, .ref hd, .int (nI (bs + 1)), .ref aB])), (aB, .inl (cI, 64, .inl (nA fi)))] := hD
                obtain ⟨hi1, hi2⟩ := hr_48
                refine lv_iconst (v := nI 1) hex hby dX7_findBeyond_135 rfl ?_
                refine lv_aload_n hex hby dX7_findBeyond_136 rfl (lv_at hl 5 rfl) ?_
                refine nv_get (v := .ref hd) CFx in_X7_findBeyond_X7 hK hP 5 rfl rfl 1 (by decide) (List.mem_of_getElem? (i := 1) rfl) rfl dX7_findBeyond_137 ?_
                refine lv_iload hex hby dX7_findBeyond_140 (lv_at hl 0 rfl) ?_
                refine ro_Vi (As := [.int (nI v)]) (rest := [.int (nI 1)]) CFx (c_X1_sideOf (hd := hd) (aS := aS) (fd := fd) (S := S) (k := v) (L := lv v) faS hSb (by omega) (by have q1 := hL.2.2.2 v (by omega); rw [hag _ (by omega), hag _ (by omega)]; exact q1.1) hv6) 1 gX7_findBeyond_X1_sideOf rfl nd_X1_sideOf ⟨Nat.le_of_ble_eq_true rfl, Nat.le_of_ble_eq_true rfl⟩ hK hP [3, 4] rfl rfl rfl rfl hl.1 rfl (Nat.le_of_ble_eq_true rfl) dX7_findBeyond_142 ⟨Nat.le_refl _, Nat.le_refl _⟩ (fun r_50 hr_50 => ?_)
                obtain rfl := hr_50
                refine va_mmax hex hby (hml.trans hl.1.symm) hown (hts _ (List.mem_of_getElem? (i := 4) rfl)) (hts _ (List.mem_of_getElem? (i := 5) rfl)) (hts _ (List.mem_of_getElem? (i := 6) rfl)) (hts _ (List.mem_of_getElem? (i := 7) rfl)) (Nat.le_of_ble_eq_true rfl) (Nat.le_of_ble_eq_true rfl) (Nat.le_refl _) (Nat.le_refl _) dX7_findBeyond_145 ?_
                refine nv_top (nI_max (by omega) (by omega)) ?_
                refine nv_top (y := nI (2 ^ lv v)) (congrArg nI (Nat.max_eq_right (by omega))) ?_
                refine lv_istore (lv' := [(8, .int (nI (2 ^ lv v))), (7, .int (nI v)), (6, .int (nI al)), (5, .int (nI (bcy T m st lv 1 k al))), (4, .int (nI (bcx T m st lv 1 k al))), (3, .int (nI (2 ^ (lv k)))), (0, .ref hz), (1, .int (nI k)), (2, .int (nI 1))]) hex hby dX7_findBeyond_148 hl (by decide) rfl (fun ls hl => ?_)
                refine lv_iload hex hby dX7_findBeyond_150 (lv_at hl 2 rfl) ?_
                refine lv_iload hex hby dX7_findBeyond_152 (lv_at hl 0 rfl) ?_
                refine nv_iadd hex hby dX7_findBeyond_154 ?_
                refine lv_istore (lv' := [(6, .int (nI (al + 2 ^ lv v))), (8, .int (nI (2 ^ lv v))), (7, .int (nI v)), (5, .int (nI (bcy T m st lv 1 k al))), (4, .int (nI (bcx T m st lv 1 k al))), (3, .int (nI (2 ^ (lv k)))), (0, .ref hz), (1, .int (nI k)), (2, .int (nI 1))]) hex hby dX7_findBeyond_155 hl (by decide) rfl (fun ls hl => ?_)
                refine lv_iload_n hex hby dX7_findBeyond_157 rfl (lv_at hl 8 rfl) ?_
                refine nv_if_eq (tgt := 166) hex hby dX7_findBeyond_158 (by decide) (by omega) (fun c => absurd c (by omega)) (fun _ => ?_)
                refine lv_iload_n hex hby dX7_findBeyond_161 rfl (lv_at hl 8 rfl) ?_
                refine lv_iconst (v := nI 1) hex hby dX7_findBeyond_162 rfl ?_
                refine nv_icmp_ne (tgt := 176) hex hby dX7_findBeyond_163 (by decide) (by omega) (by omega) (fun c => absurd c (by omega)) (fun _ => ?_)
                refine lv_iload hex hby dX7_findBeyond_166 (lv_at hl 3 rfl) ?_
                refine lv_iload hex hby dX7_findBeyond_168 (lv_at hl 1 rfl) ?_
                refine nv_iadd hex hby dX7_findBeyond_170 ?_
                refine lv_istore (lv' := [(5, .int (nI (bcy T m st lv 1 k al + 2 ^ lv v))), (6, .int (nI (al + 2 ^ lv v))), (8, .int (nI (2 ^ lv v))), (7, .int (nI v)), (4, .int (nI (bcx T m st lv 1 k al))), (3, .int (nI (2 ^ (lv k)))), (0, .ref hz), (1, .int (nI k)), (2, .int (nI 1))]) hex hby dX7_findBeyond_171 hl (by decide) rfl (fun ls hl => ?_)
                refine lv_goto (tgt := 183) hex hby dX7_findBeyond_173 (by decide) ?_
                refine lv_goto (tgt := 80) hex hby dX7_findBeyond_183 (by decide) ?_
                have pf_51 : byd T m st lv 1 k → ((bcx T m st lv 1 k al : Nat) : Int) = ((bcx T m st lv 1 k (al + 2 ^ lv v) : Nat) : Int) ∧ ((bcy T m st lv 1 k al + 2 ^ lv v : Nat) : Int) = ((bcy T m st lv 1 k (al + 2 ^ lv v) : Nat) : Int) := by
                  intro z
                  unfold bcx bcy
                  simp <;> omega
                rw [ni_nz (bcx T m st lv 1 k al)] at hl
                rw [ni_nz (bcy T m st lv 1 k al + 2 ^ lv v)] at hl
                exact ih80 ((bcx T m st lv 1 k al : Nat) : Int) ((bcy T m st lv 1 k al + 2 ^ lv v : Nat) : Int) (al + 2 ^ lv v) (bs + 1) fi (by omega) pf_51 (fun z => absurd hb z) (fun z => absurd hb z) (by omega) (by omega) (by omega) (by omega) (by omega) hi2 (hi1.congr (fun w => (hf2 w).symm)) hf3 _ _ (hP.sub [5, 6, 0, 1, 2, 3, 4] rfl) (hD.sub [5, 6, 0, 1, 2, 3, 4] (by decide) rfl) hS _ (lv_sub hl [1, 0, 4, 5, 6, 7, 8] rfl)
              · refine nv_if_eq (tgt := 186) hex hby dX7_findBeyond_106 (by decide) (by omega) (fun _ => ?_) (fun c => absurd c (by omega))
                have pf_52 : SSt bs f (Nbr T m c st lv 1 k) := by
                  have hz_ : ¬ byd T m st lv 1 k := by
                    intro z
                    obtain ⟨e1, e2⟩ := hxy z
                    have hgr := bc_in hV hL (s := 1) hk z (t := al) (by omega)
                    omega
                  have h0 := hnb2 hz_
                  subst h0
                  exact hss.congr (fun v => ⟨fun q => by obtain ⟨_, j, hj, _⟩ := q; exact absurd hj (Nat.not_lt_zero _), fun q => absurd q.1 hz_⟩)
                exact hret _ (bs, f) _ _ _ _ _ (Or.inr (Or.inr (Or.inl ⟨rfl, rfl, rfl, dX7_findBeyond_186⟩))) ⟨rfl, ⟨pf_52, hfb, (by omega)⟩⟩ hP hD hS
        have pf_53 : byd T m st lv 1 k → ((lxv T m st lv k + (2 ^ (lv k)) : Nat) : Int) = ((bcx T m st lv 1 k 0 : Nat) : Int) ∧ ((lyv T m st lv k + 0 : Nat) : Int) = ((bcy T m st lv 1 k 0 : Nat) : Int) := by
          intro z
          unfold byd at z
          simp at z
          unfold bcx bcy
          simp <;> omega
        have pf_54 : ¬ byd T m st lv 1 k → ¬ (0 ≤ ((lxv T m st lv k + (2 ^ (lv k)) : Nat) : Int) ∧ ((lxv T m st lv k + (2 ^ (lv k)) : Nat) : Int) < sd ∧ 0 ≤ ((lyv T m st lv k + 0 : Nat) : Int) ∧ ((lyv T m st lv k + 0 : Nat) : Int) < sd) := by
          intro z
          unfold byd at z
          simp at z
          omega
        rw [ni_nz (lxv T m st lv k + (2 ^ (lv k)))] at hl
        rw [ni_nz (lyv T m st lv k + 0)] at hl
        exact loop80 _ ((lxv T m st lv k + (2 ^ (lv k)) : Nat) : Int) ((lyv T m st lv k + 0 : Nat) : Int) 0 0 fa (Nat.lt_succ_self _) pf_53 pf_54 (fun _ => rfl) (by omega) (by omega) (by omega) (by omega) (by omega) hfa (SSt.zero _ (fun v q => by obtain ⟨_, j, hj, _⟩ := q; exact absurd hj (Nat.not_lt_zero _))) (fun _ w q => by obtain ⟨_, j, hj, _⟩ := q; exact absurd hj (Nat.not_lt_zero _)) _ _ hP hD hS _ (lv_sub hl [0, 1, 2, 3, 4, 5, 6] rfl)
    · omega
  · refine lv_aload_n hex hby dX7_findBeyond_0 rfl (lv_at hl 0 rfl) ?_
    refine nv_get (v := .ref hd) CFx in_X7_findBeyond_X7 hK hP 0 rfl rfl 1 (by decide) (List.mem_of_getElem? (i := 1) rfl) rfl dX7_findBeyond_1 ?_
    refine lv_iload_n hex hby dX7_findBeyond_4 rfl (lv_at hl 1 rfl) ?_
    refine ro_Vi (As := [.int (nI k)]) (rest := []) CFx (c_X1_sideOf (hd := hd) (aS := aS) (fd := fd) (S := S) (k := k) (L := lv k) faS hSb (by omega) (by rw [hS2, hS1]; exact hk3.1) (by omega)) 1 gX7_findBeyond_X1_sideOf rfl nd_X1_sideOf ⟨Nat.le_of_ble_eq_true rfl, Nat.le_of_ble_eq_true rfl⟩ hK hP [5, 6] rfl rfl rfl rfl hl.1 rfl (Nat.le_of_ble_eq_true rfl) dX7_findBeyond_5 ⟨Nat.le_refl _, Nat.le_refl _⟩ (fun r_55 hr_55 => ?_)
    obtain rfl := hr_55
    refine lv_istore_n (lv' := [(3, .int (nI (2 ^ (lv k)))), (0, .ref hz), (1, .int (nI k)), (2, .int (nI 2))]) hex hby dX7_findBeyond_8 rfl hl (by decide) rfl (fun ls hl => ?_)
    refine lv_aload_n hex hby dX7_findBeyond_9 rfl (lv_at hl 1 rfl) ?_
    refine lv_iload_n hex hby dX7_findBeyond_10 rfl (lv_at hl 2 rfl) ?_
    refine ro_Vi (As := [.int (nI k)]) (rest := []) CFx (c_X7_leftOf (hz := hz) (hn := hn) (aC := aC) (hd := hd) (aS := aS) (fz := [.ref hn, .ref hd, v2, .ref aB]) (fn := fn) (g := g) (fd := fd) (S := S) (k := k) (T := T) (ns := ns) (m := m) (st := st) (lv := lv) (c := c) rfl rfl faC faS hg hSb hgc hV hL hag hc hm6 hk) 1 gX7_findBeyond_X7_leftOf rfl nd_X7_leftOf ⟨Nat.le_of_ble_eq_true rfl, Nat.le_of_ble_eq_true rfl⟩ hK hP [0, 2, 3, 5, 6] rfl rfl rfl rfl hl.1 rfl (Nat.le_of_ble_eq_true rfl) dX7_findBeyond_11 ⟨Nat.le_refl _, Nat.le_refl _⟩ (fun r_56 hr_56 => ?_)
    obtain rfl := hr_56
    refine lv_iload_n hex hby dX7_findBeyond_14 rfl (lv_at hl 3 rfl) ?_
    refine nv_if_ne (tgt := 22) hex hby dX7_findBeyond_15 (by decide) (by omega) (fun _ => ?_) (fun c => absurd c (by omega))
    refine lv_iconst (v := nI 0) hex hby dX7_findBeyond_22 rfl ?_
    refine lv_iload_n hex hby dX7_findBeyond_23 rfl (lv_at hl 3 rfl) ?_
    refine lv_iconst (v := nI 1) hex hby dX7_findBeyond_24 rfl ?_
    refine nv_icmp_ne (tgt := 32) hex hby dX7_findBeyond_25 (by decide) (by omega) (by omega) (fun _ => ?_) (fun c => absurd c (by omega))
    refine lv_iconst (v := nI 0) hex hby dX7_findBeyond_32 rfl ?_
    refine lv_iload_n hex hby dX7_findBeyond_33 rfl (lv_at hl 0 rfl) ?_
    refine ro_Si (As := [.int (nI 0), .int (nI 0), .int (nI (2 ^ (lv k)))]) (rest := [.int (nI (lxv T m st lv k))]) (C := RX7) CFx (c_X7_stepAcross (a := 0) (b := 0) (len := 2 ^ (lv k)) (by omega) (by omega)) 3 gX7_findBeyond_X7_stepAcross rfl nd_X7_stepAcross ⟨Nat.le_of_ble_eq_true rfl, Nat.le_of_ble_eq_true rfl⟩ hK hP [] rfl rfl hl.1 rfl (Nat.le_of_ble_eq_true rfl) dX7_findBeyond_34 ⟨Nat.le_refl _, Nat.le_refl _⟩ (fun r_57 hr_57 => ?_)
    rcases hr_57 with ⟨rfl, h_58⟩ | ⟨rfl, h_59, h_60⟩ | ⟨rfl, h_61, h_62⟩
    · omega
    · omega
    · refine nv_iadd hex hby dX7_findBeyond_37 ?_
      refine lv_istore (lv' := [(4, .int (nI (lxv T m st lv k + 0))), (3, .int (nI (2 ^ (lv k)))), (0, .ref hz), (1, .int (nI k)), (2, .int (nI 2))]) hex hby dX7_findBeyond_38 hl (by decide) rfl (fun ls hl => ?_)
      refine lv_aload_n hex hby dX7_findBeyond_40 rfl (lv_at hl 2 rfl) ?_
      refine lv_iload_n hex hby dX7_findBeyond_41 rfl (lv_at hl 3 rfl) ?_
      refine ro_Vi (As := [.int (nI k)]) (rest := []) CFx (c_X7_belowOf (hz := hz) (hn := hn) (aC := aC) (hd := hd) (aS := aS) (fz := [.ref hn, .ref hd, v2, .ref aB]) (fn := fn) (g := g) (fd := fd) (S := S) (k := k) (T := T) (ns := ns) (m := m) (st := st) (lv := lv) (c := c) rfl rfl faC faS hg hSb hgc hV hL hag hc hm6 hk) 1 gX7_findBeyond_X7_belowOf rfl nd_X7_belowOf ⟨Nat.le_of_ble_eq_true rfl, Nat.le_of_ble_eq_true rfl⟩ hK hP [0, 2, 3, 5, 6] rfl rfl rfl rfl hl.1 rfl (Nat.le_of_ble_eq_true rfl) dX7_findBeyond_42 ⟨Nat.le_refl _, Nat.le_refl _⟩ (fun r_63 hr_63 => ?_)
      obtain rfl := hr_63
      refine lv_iload_n hex hby dX7_findBeyond_45 rfl (lv_at hl 4 rfl) ?_
      refine lv_iconst (v := nI 2) hex hby dX7_findBeyond_46 rfl ?_
      refine nv_icmp_ne (tgt := 54) hex hby dX7_findBeyond_47 (by decide) (by omega) (by omega) (fun c => absurd c (by omega)) (fun _ => ?_)
      refine lv_iconst (v := nI 1) hex hby dX7_findBeyond_50 rfl ?_
      refine lv_goto (tgt := 55) hex hby dX7_findBeyond_51 (by decide) ?_
      refine lv_iload_n hex hby dX7_findBeyond_55 rfl (lv_at hl 4 rfl) ?_
      refine lv_iconst (v := nI 3) hex hby dX7_findBeyond_56 rfl ?_
      refine nv_icmp_ne (tgt := 64) hex hby dX7_findBeyond_57 (by decide) (by omega) (by omega) (fun _ => ?_) (fun c => absurd c (by omega))
      refine lv_iconst (v := nI 0) hex hby dX7_findBeyond_64 rfl ?_
      refine lv_iload_n hex hby dX7_findBeyond_65 rfl (lv_at hl 1 rfl) ?_
      refine ro_Si (As := [.int (nI 1), .int (nI 0), .int (nI (2 ^ (lv k)))]) (rest := [.int (nI (lyv T m st lv k))]) (C := RX7) CFx (c_X7_stepAcross (a := 1) (b := 0) (len := 2 ^ (lv k)) (by omega) (by omega)) 3 gX7_findBeyond_X7_stepAcross rfl nd_X7_stepAcross ⟨Nat.le_of_ble_eq_true rfl, Nat.le_of_ble_eq_true rfl⟩ hK hP [] rfl rfl hl.1 rfl (Nat.le_of_ble_eq_true rfl) dX7_findBeyond_66 ⟨Nat.le_refl _, Nat.le_refl _⟩ (fun r_64 hr_64 => ?_)
      rcases hr_64 with ⟨rfl, h_65⟩ | ⟨rfl, h_66, h_67⟩ | ⟨rfl, h_68, h_69⟩
      · refine nz_iadd (a := ((lyv T m st lv k : Nat) : Int)) (b := -1) hex hby dX7_findBeyond_69 (ni_nz _) rfl ?_
        refine lv_istore (lv' := [(5, .int (zI (((lyv T m st lv k : Nat) : Int) + (-1)))), (4, .int (nI (lxv T m st lv k + 0))), (3, .int (nI (2 ^ (lv k)))), (0, .ref hz), (1, .int (nI k)), (2, .int (nI 2))]) hex hby dX7_findBeyond_70 hl (by decide) rfl (fun ls hl => ?_)
        refine lv_iconst (v := nI 0) hex hby dX7_findBeyond_72 rfl ?_
        refine lv_istore (lv' := [(6, .int (nI 0)), (5, .int (zI (((lyv T m st lv k : Nat) : Int) + (-1)))), (4, .int (nI (lxv T m st lv k + 0))), (3, .int (nI (2 ^ (lv k)))), (0, .ref hz), (1, .int (nI k)), (2, .int (nI 2))]) hex hby dX7_findBeyond_73 hl (by decide) rfl (fun ls hl => ?_)
        refine lv_aload_n hex hby dX7_findBeyond_75 rfl (lv_at hl 4 rfl) ?_
        refine lv_iconst (v := nI 0) hex hby dX7_findBeyond_76 rfl ?_
        refine nv_put CFx in_X7_findBeyond_X7 tyX7 tyX7_ok nmX7 hK hP hD hS 0 rfl rfl 2 (by decide) (List.mem_of_getElem? (i := 2) rfl) rfl (by decide +kernel) (Nat.le_of_ble_eq_true rfl) dX7_findBeyond_77 (fun H locs hP hD hS => ?_)
        have hP : va_P (dC, dI) vwCl [(hz, .inr (7, [.ref hn, .ref hd, .int (nI 0), .ref aB])), (aB, .inl (cI, 64, .inl (nA fa))), (hn, .inr (2, fn)), (aC, .inl (cI, 4096, .inl (nA g))), (aI, .inl (cI, 4096, .inl (nA ix))), (hd, .inr (1, fd)), (aS, .inl (cI, 497, .inl (nA S)))] H := hP
        have hD : va_D A [(hz, .inr (7, [.ref hn, .ref hd, .int (nI 0), .ref aB])), (aB, .inl (cI, 64, .inl (nA fa))), (hn, .inr (2, fn)), (aC, .inl (cI, 4096, .inl (nA g))), (aI, .inl (cI, 4096, .inl (nA ix))), (hd, .inr (1, fd)), (aS, .inl (cI, 497, .inl (nA S)))] := hD
        have loop80 : ∀ (nn : Nat) (x : Int) (y : Int) (al : Nat) (bs : Nat) (f : Nat → Nat), (2 ^ lv k - al) < nn → (byd T m st lv 2 k → x = ((bcx T m st lv 2 k al : Nat) : Int) ∧ y = ((bcy T m st lv 2 k al : Nat) : Int)) → (¬ byd T m st lv 2 k → ¬ (0 ≤ x ∧ x < sd ∧ 0 ≤ y ∧ y < sd)) → (¬ byd T m st lv 2 k → al = 0) → (-1 ≤ x ∧ x ≤ 130 + (al : Int)) → (-1 ≤ y ∧ y ≤ 130 + (al : Int)) → (al ≤ 128) → (bs ≤ al) → (bs ≤ 64) → (∀ j, f j < 4096) → (SSt bs f (FndT T m c st lv 2 k al)) → (al < 2 ^ lv k → ∀ w, FndT T m c st lv 2 k al w → axv T m st lv 2 w + 2 ^ lv w ≤ axv T m st lv 2 k + al) → ∀ (H : Heap) (locs : List Loc), va_P (dC, dI) vwCl [(hz, .inr (7, [.ref hn, .ref hd, .int (nI bs), .ref aB])), (aB, .inl (cI, 64, .inl (nA f))), (hn, .inr (2, fn)), (aC, .inl (cI, 4096, .inl (nA g))), (aI, .inl (cI, 4096, .inl (nA ix))), (hd, .inr (1, fd)), (aS, .inl (cI, 497, .inl (nA S)))] H → va_D A [(hz, .inr (7, [.ref hn, .ref hd, .int (nI bs), .ref aB])), (aB, .inl (cI, 64, .inl (nA f))), (hn, .inr (2, fn)), (aC, .inl (cI, 4096, .inl (nA g))), (aI, .inl (cI, 4096, .inl (nA ix))), (hd, .inr (1, fd)), (aS, .inl (cI, 497, .inl (nA S)))] → va_S A ss.heap H locs → ∀ ls : Array Slot, lv_has ls 9 [(6, .int (nI al)), (5, .int (zI y)), (4, .int (zI x)), (3, .int (nI (2 ^ (lv k)))), (0, .ref hz), (1, .int (nI k)), (2, .int (nI 2))] → W pp l ee (rmO 2 44) ss mm ([.ref hz, .int (nI k), .int (nI 2)] : List Value).toArray bb mt cd H locs 0 0 Q (F0 mm 80 ls []) := by
          intro nn
          induction nn with
          | zero => intro x y al bs f hms80; exact absurd hms80 (Nat.not_lt_zero _)
          | succ nn ih80 =>
            intro x y al bs f hms80 hxy hnb hnb2 hxr hyr hal hba hb64 hfb hss hend H locs hP hD hS ls hl
            have h2k := p2_6 (show lv k ≤ 6 by omega)
            refine lv_iload hex hby dX7_findBeyond_80 (lv_at hl 0 rfl) ?_
            refine lv_iload_n hex hby dX7_findBeyond_82 rfl (lv_at hl 3 rfl) ?_
            refine nv_icmp_ge (tgt := 186) hex hby dX7_findBeyond_83 (by decide) (by omega) (by omega) (fun c_70 => ?_) (fun c_70 => ?_)
            · exact hret _ (bs, f) _ _ _ _ _ (Or.inr (Or.inr (Or.inl ⟨rfl, rfl, rfl, dX7_findBeyond_186⟩))) ⟨rfl, ⟨(hss.congr (fun v => fnd_all (Classical.byContradiction (fun z => by have := hnb2 z; omega)) (by omega) v)), hfb, (by omega)⟩⟩ hP hD hS
            · refine lv_aload_n hex hby dX7_findBeyond_86 rfl (lv_at hl 4 rfl) ?_
              refine nv_get (v := .int (nI bs)) CFx in_X7_findBeyond_X7 hK hP 0 rfl rfl 2 (by decide) (List.mem_of_getElem? (i := 2) rfl) rfl dX7_findBeyond_87 ?_
              refine lv_bipush (v := nI 64) hex hby dX7_findBeyond_90 rfl ?_
              refine nv_icmp_ge (tgt := 186) hex hby dX7_findBeyond_92 (by decide) (by omega) (by omega) (fun c_71 => absurd c_71 (by omega)) (fun c_71 => ?_)
              refine lv_aload_n hex hby dX7_findBeyond_95 rfl (lv_at hl 4 rfl) ?_
              refine nv_get (v := .ref hn) CFx in_X7_findBeyond_X7 hK hP 0 rfl rfl 0 (by decide) (List.mem_of_getElem? (i := 3) rfl) rfl dX7_findBeyond_96 ?_
              refine lv_iload hex hby dX7_findBeyond_99 (lv_at hl 2 rfl) ?_
              refine lv_iload hex hby dX7_findBeyond_101 (lv_at hl 1 rfl) ?_
              refine ro_Vi (As := [.int (zI x), .int (zI y)]) (rest := []) CFx (c_X2_holds (h := hn) (fs := fn) (sd := sd) (x := zI x) (xz := x) (y := zI y) (yz := y) fsd (zI_toInt (by omega) (by omega)) (zI_toInt (by omega) (by omega)) (by omega)) 2 gX7_findBeyond_X2_holds rfl nd_X2_holds ⟨Nat.le_of_ble_eq_true rfl, Nat.le_of_ble_eq_true rfl⟩ hK hP [2] rfl rfl rfl rfl hl.1 rfl (Nat.le_of_ble_eq_true rfl) dX7_findBeyond_103 ⟨Nat.le_refl _, Nat.le_refl _⟩ (fun r_72 hr_72 => ?_)
              rcases hr_72 with ⟨rfl, hh1⟩ | ⟨rfl, hh0⟩
              · refine nv_if_eq (tgt := 186) hex hby dX7_findBeyond_106 (by decide) (by omega) (fun c => absurd c (by omega)) (fun _ => ?_)
                have hb : byd T m st lv 2 k := by
                  apply Classical.byContradiction
                  intro z
                  exact hnb z (by omega)
                obtain ⟨ex_, ey_⟩ := hxy hb
                subst ex_; subst ey_
                rw [zI_nat, zI_nat] at hl
                have hgr := bc_in hV hL (s := 2) hk hb (t := al) (by omega)
                have hna := num_at hV hN hgr.1 hgr.2
                have hsp := p2_6 hm6
                refine lv_aload_n hex hby dX7_findBeyond_109 rfl (lv_at hl 4 rfl) ?_
                refine nv_get (v := .ref hd) CFx in_X7_findBeyond_X7 hK hP 0 rfl rfl 1 (by decide) (List.mem_of_getElem? (i := 1) rfl) rfl dX7_findBeyond_110 ?_
                refine lv_aload_n hex hby dX7_findBeyond_113 rfl (lv_at hl 4 rfl) ?_
                refine nv_get (v := .ref hn) CFx in_X7_findBeyond_X7 hK hP 0 rfl rfl 0 (by decide) (List.mem_of_getElem? (i := 3) rfl) rfl dX7_findBeyond_114 ?_
                refine lv_iload hex hby dX7_findBeyond_117 (lv_at hl 2 rfl) ?_
                refine lv_iload hex hby dX7_findBeyond_119 (lv_at hl 1 rfl) ?_
                refine ro_Vi (As := [.int (nI (bcx T m st lv 2 k al)), .int (nI (bcy T m st lv 2 k al))]) (rest := [.ref hd]) CFx (c_X2_indexOf (h := hn) (aI := aI) (fs := fn) (ix := ix) (x := bcx T m st lv 2 k al) (y := bcy T m st lv 2 k al) faI hix (by omega) (by omega)) 2 gX7_findBeyond_X2_indexOf rfl nd_X2_indexOf ⟨Nat.le_of_ble_eq_true rfl, Nat.le_of_ble_eq_true rfl⟩ hK hP [2, 4] rfl rfl rfl rfl hl.1 rfl (Nat.le_of_ble_eq_true rfl) dX7_findBeyond_121 ⟨Nat.le_refl _, Nat.le_refl _⟩ (fun r_73 hr_73 => ?_)
                obtain rfl := hr_73
                refine ro_Vi (As := [.int (nI (ix ((bcy T m st lv 2 k al) * 64 + (bcx T m st lv 2 k al))))]) (rest := []) CFx (c_X1_leafOfIndex (hd := hd) (aS := aS) (fd := fd) (c := c) (S := S) (i := ix ((bcy T m st lv 2 k al) * 64 + (bcx T m st lv 2 k al))) (m := m) (st := st) (lv := lv) fdc faS hSb hL hag hc hm6 hna.1) 1 gX7_findBeyond_X1_leafOfIndex rfl nd_X1_leafOfIndex ⟨Nat.le_of_ble_eq_true rfl, Nat.le_of_ble_eq_true rfl⟩ hK hP [5, 6] rfl rfl rfl rfl hl.1 rfl (Nat.le_of_ble_eq_true rfl) dX7_findBeyond_124 ⟨Nat.le_refl _, Nat.le_refl _⟩ (fun r_74 hr_74 => ?_)
                obtain ⟨v, rfl, hv1, hv2, hv3⟩ := hr_74
                refine lv_istore (lv' := [(7, .int (nI v)), (6, .int (nI al)), (5, .int (nI (bcy T m st lv 2 k al))), (4, .int (nI (bcx T m st lv 2 k al))), (3, .int (nI (2 ^ (lv k)))), (0, .ref hz), (1, .int (nI k)), (2, .int (nI 2))]) hex hby dX7_findBeyond_127 hl (by decide) rfl (fun ls hl => ?_)
                have hg1 := (geo hV hL hv1 hna.1).mp ⟨hv2, hv3⟩
                rw [hna.2.1, hna.2.2] at hg1
                obtain ⟨hf1, hf2, hf3⟩ := fnd_step hV hL (by omega) hk hv1 hb (by omega) hg1 (hend (by omega))
                have hv6 : lv v ≤ 6 := by have := (hL.2.2.2 v hv1).2.2; omega
                have h2v := p2_6 hv6
                have h2vp := p2_pos (lv v)
                refine lv_aload_n hex hby dX7_findBeyond_129 rfl (lv_at hl 5 rfl) ?_
                refine lv_iload hex hby dX7_findBeyond_130 (lv_at hl 0 rfl) ?_
                refine mu_Vv (As := [.int (nI v)]) (rest := []) (wr := [(hn, .inr (2, fn)), (aC, .inl (cI, 4096, .inl (nA g))), (aI, .inl (cI, 4096, .inl (nA ix))), (hd, .inr (1, fd)), (aS, .inl (cI, 497, .inl (nA S)))]) CFx (c_X7_insert (hz := hz) (aB := aB) (v0 := .ref hn) (v1 := .ref hd) (bs := bs) (f := f) (v := v) (P := FndT T m c st lv 2 k al) hfb hss hf1 (by omega) (by omega)) 1 gX7_findBeyond_X7_insert rfl nd_X7_insert ⟨Nat.le_of_ble_eq_true rfl, Nat.le_of_ble_eq_true rfl⟩ hK hP hD hS hA [0, 1] [2, 3, 4, 5, 6] rfl rfl (by decide) (by decide) (by decide) TR.nil rfl rfl rfl hl.1 rfl (Nat.le_of_ble_eq_true rfl) dX7_findBeyond_132 ⟨Nat.le_refl _, Nat.le_refl _⟩ (fun u H locs hr_75 hP hD hS => ?_)
                obtain ⟨fi, rfl⟩ : ∃ z, z = u := ⟨_, rfl⟩
                have hP : va_P (dC, dI) vwCl [(hn, .inr (2, fn)), (aC, .inl (cI, 4096, .inl (nA g))), (aI, .inl (cI, 4096, .inl (nA ix))), (hd, .inr (1, fd)), (aS, .inl (cI, 497, .inl (nA S))), (hz, .inr (7, [.ref hn, .ref hd, .int (nI (bs + 1)), .ref aB])), (aB, .inl (cI, 64, .inl (nA fi)))] H := hP
                have hD : va_D A [(hn, .inr (2, fn)), (aC, .inl (cI, 4096, .inl (nA g))), (aI, .inl (cI, 4096, .inl (nA ix))), (hd, .inr (1, fd)), (aS, .inl (cI, 497, .inl (nA S))), (hz, .inr (7, [.ref hn, .ref hd, .int (nI (bs + 1)), .ref aB])), (aB, .inl (cI, 64, .inl (nA fi)))] := hD
                obtain ⟨hi1, hi2⟩ := hr_75
                refine lv_iconst (v := nI 1) hex hby dX7_findBeyond_135 rfl ?_
                refine lv_aload_n hex hby dX7_findBeyond_136 rfl (lv_at hl 5 rfl) ?_
                refine nv_get (v := .ref hd) CFx in_X7_findBeyond_X7 hK hP 5 rfl rfl 1 (by decide) (List.mem_of_getElem? (i := 1) rfl) rfl dX7_findBeyond_137 ?_
                refine lv_iload hex hby dX7_findBeyond_140 (lv_at hl 0 rfl) ?_
                refine ro_Vi (As := [.int (nI v)]) (rest := [.int (nI 1)]) CFx (c_X1_sideOf (hd := hd) (aS := aS) (fd := fd) (S := S) (k := v) (L := lv v) faS hSb (by omega) (by have q1 := hL.2.2.2 v (by omega); rw [hag _ (by omega), hag _ (by omega)]; exact q1.1) hv6) 1 gX7_findBeyond_X1_sideOf rfl nd_X1_sideOf ⟨Nat.le_of_ble_eq_true rfl, Nat.le_of_ble_eq_true rfl⟩ hK hP [3, 4] rfl rfl rfl rfl hl.1 rfl (Nat.le_of_ble_eq_true rfl) dX7_findBeyond_142 ⟨Nat.le_refl _, Nat.le_refl _⟩ (fun r_77 hr_77 => ?_)
                obtain rfl := hr_77
                refine va_mmax hex hby (hml.trans hl.1.symm) hown (hts _ (List.mem_of_getElem? (i := 4) rfl)) (hts _ (List.mem_of_getElem? (i := 5) rfl)) (hts _ (List.mem_of_getElem? (i := 6) rfl)) (hts _ (List.mem_of_getElem? (i := 7) rfl)) (Nat.le_of_ble_eq_true rfl) (Nat.le_of_ble_eq_true rfl) (Nat.le_refl _) (Nat.le_refl _) dX7_findBeyond_145 ?_
                refine nv_top (nI_max (by omega) (by omega)) ?_
                refine nv_top (y := nI (2 ^ lv v)) (congrArg nI (Nat.max_eq_right (by omega))) ?_
                refine lv_istore (lv' := [(8, .int (nI (2 ^ lv v))), (7, .int (nI v)), (6, .int (nI al)), (5, .int (nI (bcy T m st lv 2 k al))), (4, .int (nI (bcx T m st lv 2 k al))), (3, .int (nI (2 ^ (lv k)))), (0, .ref hz), (1, .int (nI k)), (2, .int (nI 2))]) hex hby dX7_findBeyond_148 hl (by decide) rfl (fun ls hl => ?_)
                refine lv_iload hex hby dX7_findBeyond_150 (lv_at hl 2 rfl) ?_
                refine lv_iload hex hby dX7_findBeyond_152 (lv_at hl 0 rfl) ?_
                refine nv_iadd hex hby dX7_findBeyond_154 ?_
                refine lv_istore (lv' := [(6, .int (nI (al + 2 ^ lv v))), (8, .int (nI (2 ^ lv v))), (7, .int (nI v)), (5, .int (nI (bcy T m st lv 2 k al))), (4, .int (nI (bcx T m st lv 2 k al))), (3, .int (nI (2 ^ (lv k)))), (0, .ref hz), (1, .int (nI k)), (2, .int (nI 2))]) hex hby dX7_findBeyond_155 hl (by decide) rfl (fun ls hl => ?_)
                refine lv_iload_n hex hby dX7_findBeyond_157 rfl (lv_at hl 8 rfl) ?_
                refine nv_if_eq (tgt := 166) hex hby dX7_findBeyond_158 (by decide) (by omega) (fun c => absurd c (by omega)) (fun _ => ?_)
                refine lv_iload_n hex hby dX7_findBeyond_161 rfl (lv_at hl 8 rfl) ?_
                refine lv_iconst (v := nI 1) hex hby dX7_findBeyond_162 rfl ?_
                refine nv_icmp_ne (tgt := 176) hex hby dX7_findBeyond_163 (by decide) (by omega) (by omega) (fun _ => ?_) (fun c => absurd c (by omega))
                refine lv_iload hex hby dX7_findBeyond_176 (lv_at hl 4 rfl) ?_
                refine lv_iload hex hby dX7_findBeyond_178 (lv_at hl 1 rfl) ?_
                refine nv_iadd hex hby dX7_findBeyond_180 ?_
                refine lv_istore (lv' := [(4, .int (nI (bcx T m st lv 2 k al + 2 ^ lv v))), (6, .int (nI (al + 2 ^ lv v))), (8, .int (nI (2 ^ lv v))), (7, .int (nI v)), (5, .int (nI (bcy T m st lv 2 k al))), (3, .int (nI (2 ^ (lv k)))), (0, .ref hz), (1, .int (nI k)), (2, .int (nI 2))]) hex hby dX7_findBeyond_181 hl (by decide) rfl (fun ls hl => ?_)
                refine lv_goto (tgt := 80) hex hby dX7_findBeyond_183 (by decide) ?_
                have pf_78 : byd T m st lv 2 k → ((bcx T m st lv 2 k al + 2 ^ lv v : Nat) : Int) = ((bcx T m st lv 2 k (al + 2 ^ lv v) : Nat) : Int) ∧ ((bcy T m st lv 2 k al : Nat) : Int) = ((bcy T m st lv 2 k (al + 2 ^ lv v) : Nat) : Int) := by
                  intro z
                  unfold bcx bcy
                  simp <;> omega
                rw [ni_nz (bcx T m st lv 2 k al + 2 ^ lv v)] at hl
                rw [ni_nz (bcy T m st lv 2 k al)] at hl
                exact ih80 ((bcx T m st lv 2 k al + 2 ^ lv v : Nat) : Int) ((bcy T m st lv 2 k al : Nat) : Int) (al + 2 ^ lv v) (bs + 1) fi (by omega) pf_78 (fun z => absurd hb z) (fun z => absurd hb z) (by omega) (by omega) (by omega) (by omega) (by omega) hi2 (hi1.congr (fun w => (hf2 w).symm)) hf3 _ _ (hP.sub [5, 6, 0, 1, 2, 3, 4] rfl) (hD.sub [5, 6, 0, 1, 2, 3, 4] (by decide) rfl) hS _ (lv_sub hl [1, 4, 0, 5, 6, 7, 8] rfl)
              · refine nv_if_eq (tgt := 186) hex hby dX7_findBeyond_106 (by decide) (by omega) (fun _ => ?_) (fun c => absurd c (by omega))
                have pf_79 : SSt bs f (Nbr T m c st lv 2 k) := by
                  have hz_ : ¬ byd T m st lv 2 k := by
                    intro z
                    obtain ⟨e1, e2⟩ := hxy z
                    have hgr := bc_in hV hL (s := 2) hk z (t := al) (by omega)
                    omega
                  have h0 := hnb2 hz_
                  subst h0
                  exact hss.congr (fun v => ⟨fun q => by obtain ⟨_, j, hj, _⟩ := q; exact absurd hj (Nat.not_lt_zero _), fun q => absurd q.1 hz_⟩)
                exact hret _ (bs, f) _ _ _ _ _ (Or.inr (Or.inr (Or.inl ⟨rfl, rfl, rfl, dX7_findBeyond_186⟩))) ⟨rfl, ⟨pf_79, hfb, (by omega)⟩⟩ hP hD hS
        have pf_80 : byd T m st lv 2 k → ((lxv T m st lv k + 0 : Nat) : Int) = ((bcx T m st lv 2 k 0 : Nat) : Int) ∧ (((lyv T m st lv k : Nat) : Int) + (-1)) = ((bcy T m st lv 2 k 0 : Nat) : Int) := by
          intro z
          unfold byd at z
          simp at z
          unfold bcx bcy
          simp <;> omega
        have pf_81 : ¬ byd T m st lv 2 k → ¬ (0 ≤ ((lxv T m st lv k + 0 : Nat) : Int) ∧ ((lxv T m st lv k + 0 : Nat) : Int) < sd ∧ 0 ≤ (((lyv T m st lv k : Nat) : Int) + (-1)) ∧ (((lyv T m st lv k : Nat) : Int) + (-1)) < sd) := by
          intro z
          unfold byd at z
          simp at z
          omega
        rw [ni_nz (lxv T m st lv k + 0)] at hl
        exact loop80 _ ((lxv T m st lv k + 0 : Nat) : Int) (((lyv T m st lv k : Nat) : Int) + (-1)) 0 0 fa (Nat.lt_succ_self _) pf_80 pf_81 (fun _ => rfl) (by omega) (by omega) (by omega) (by omega) (by omega) hfa (SSt.zero _ (fun v q => by obtain ⟨_, j, hj, _⟩ := q; exact absurd hj (Nat.not_lt_zero _))) (fun _ w q => by obtain ⟨_, j, hj, _⟩ := q; exact absurd hj (Nat.not_lt_zero _)) _ _ hP hD hS _ (lv_sub hl [0, 1, 2, 3, 4, 5, 6] rfl)
      · omega
      · omega
  · refine lv_aload_n hex hby dX7_findBeyond_0 rfl (lv_at hl 0 rfl) ?_
    refine nv_get (v := .ref hd) CFx in_X7_findBeyond_X7 hK hP 0 rfl rfl 1 (by decide) (List.mem_of_getElem? (i := 1) rfl) rfl dX7_findBeyond_1 ?_
    refine lv_iload_n hex hby dX7_findBeyond_4 rfl (lv_at hl 1 rfl) ?_
    refine ro_Vi (As := [.int (nI k)]) (rest := []) CFx (c_X1_sideOf (hd := hd) (aS := aS) (fd := fd) (S := S) (k := k) (L := lv k) faS hSb (by omega) (by rw [hS2, hS1]; exact hk3.1) (by omega)) 1 gX7_findBeyond_X1_sideOf rfl nd_X1_sideOf ⟨Nat.le_of_ble_eq_true rfl, Nat.le_of_ble_eq_true rfl⟩ hK hP [5, 6] rfl rfl rfl rfl hl.1 rfl (Nat.le_of_ble_eq_true rfl) dX7_findBeyond_5 ⟨Nat.le_refl _, Nat.le_refl _⟩ (fun r_82 hr_82 => ?_)
    obtain rfl := hr_82
    refine lv_istore_n (lv' := [(3, .int (nI (2 ^ (lv k)))), (0, .ref hz), (1, .int (nI k)), (2, .int (nI 3))]) hex hby dX7_findBeyond_8 rfl hl (by decide) rfl (fun ls hl => ?_)
    refine lv_aload_n hex hby dX7_findBeyond_9 rfl (lv_at hl 1 rfl) ?_
    refine lv_iload_n hex hby dX7_findBeyond_10 rfl (lv_at hl 2 rfl) ?_
    refine ro_Vi (As := [.int (nI k)]) (rest := []) CFx (c_X7_leftOf (hz := hz) (hn := hn) (aC := aC) (hd := hd) (aS := aS) (fz := [.ref hn, .ref hd, v2, .ref aB]) (fn := fn) (g := g) (fd := fd) (S := S) (k := k) (T := T) (ns := ns) (m := m) (st := st) (lv := lv) (c := c) rfl rfl faC faS hg hSb hgc hV hL hag hc hm6 hk) 1 gX7_findBeyond_X7_leftOf rfl nd_X7_leftOf ⟨Nat.le_of_ble_eq_true rfl, Nat.le_of_ble_eq_true rfl⟩ hK hP [0, 2, 3, 5, 6] rfl rfl rfl rfl hl.1 rfl (Nat.le_of_ble_eq_true rfl) dX7_findBeyond_11 ⟨Nat.le_refl _, Nat.le_refl _⟩ (fun r_83 hr_83 => ?_)
    obtain rfl := hr_83
    refine lv_iload_n hex hby dX7_findBeyond_14 rfl (lv_at hl 3 rfl) ?_
    refine nv_if_ne (tgt := 22) hex hby dX7_findBeyond_15 (by decide) (by omega) (fun _ => ?_) (fun c => absurd c (by omega))
    refine lv_iconst (v := nI 0) hex hby dX7_findBeyond_22 rfl ?_
    refine lv_iload_n hex hby dX7_findBeyond_23 rfl (lv_at hl 3 rfl) ?_
    refine lv_iconst (v := nI 1) hex hby dX7_findBeyond_24 rfl ?_
    refine nv_icmp_ne (tgt := 32) hex hby dX7_findBeyond_25 (by decide) (by omega) (by omega) (fun _ => ?_) (fun c => absurd c (by omega))
    refine lv_iconst (v := nI 0) hex hby dX7_findBeyond_32 rfl ?_
    refine lv_iload_n hex hby dX7_findBeyond_33 rfl (lv_at hl 0 rfl) ?_
    refine ro_Si (As := [.int (nI 0), .int (nI 0), .int (nI (2 ^ (lv k)))]) (rest := [.int (nI (lxv T m st lv k))]) (C := RX7) CFx (c_X7_stepAcross (a := 0) (b := 0) (len := 2 ^ (lv k)) (by omega) (by omega)) 3 gX7_findBeyond_X7_stepAcross rfl nd_X7_stepAcross ⟨Nat.le_of_ble_eq_true rfl, Nat.le_of_ble_eq_true rfl⟩ hK hP [] rfl rfl hl.1 rfl (Nat.le_of_ble_eq_true rfl) dX7_findBeyond_34 ⟨Nat.le_refl _, Nat.le_refl _⟩ (fun r_84 hr_84 => ?_)
    rcases hr_84 with ⟨rfl, h_85⟩ | ⟨rfl, h_86, h_87⟩ | ⟨rfl, h_88, h_89⟩
    · omega
    · omega
    · refine nv_iadd hex hby dX7_findBeyond_37 ?_
      refine lv_istore (lv' := [(4, .int (nI (lxv T m st lv k + 0))), (3, .int (nI (2 ^ (lv k)))), (0, .ref hz), (1, .int (nI k)), (2, .int (nI 3))]) hex hby dX7_findBeyond_38 hl (by decide) rfl (fun ls hl => ?_)
      refine lv_aload_n hex hby dX7_findBeyond_40 rfl (lv_at hl 2 rfl) ?_
      refine lv_iload_n hex hby dX7_findBeyond_41 rfl (lv_at hl 3 rfl) ?_
      refine ro_Vi (As := [.int (nI k)]) (rest := []) CFx (c_X7_belowOf (hz := hz) (hn := hn) (aC := aC) (hd := hd) (aS := aS) (fz := [.ref hn, .ref hd, v2, .ref aB]) (fn := fn) (g := g) (fd := fd) (S := S) (k := k) (T := T) (ns := ns) (m := m) (st := st) (lv := lv) (c := c) rfl rfl faC faS hg hSb hgc hV hL hag hc hm6 hk) 1 gX7_findBeyond_X7_belowOf rfl nd_X7_belowOf ⟨Nat.le_of_ble_eq_true rfl, Nat.le_of_ble_eq_true rfl⟩ hK hP [0, 2, 3, 5, 6] rfl rfl rfl rfl hl.1 rfl (Nat.le_of_ble_eq_true rfl) dX7_findBeyond_42 ⟨Nat.le_refl _, Nat.le_refl _⟩ (fun r_90 hr_90 => ?_)
      obtain rfl := hr_90
      refine lv_iload_n hex hby dX7_findBeyond_45 rfl (lv_at hl 4 rfl) ?_
      refine lv_iconst (v := nI 2) hex hby dX7_findBeyond_46 rfl ?_
      refine nv_icmp_ne (tgt := 54) hex hby dX7_findBeyond_47 (by decide) (by omega) (by omega) (fun _ => ?_) (fun c => absurd c (by omega))
      refine lv_iconst (v := nI 0) hex hby dX7_findBeyond_54 rfl ?_
      refine lv_iload_n hex hby dX7_findBeyond_55 rfl (lv_at hl 4 rfl) ?_
      refine lv_iconst (v := nI 3) hex hby dX7_findBeyond_56 rfl ?_
      refine nv_icmp_ne (tgt := 64) hex hby dX7_findBeyond_57 (by decide) (by omega) (by omega) (fun c => absurd c (by omega)) (fun _ => ?_)
      refine lv_iconst (v := nI 1) hex hby dX7_findBeyond_60 rfl ?_
      refine lv_goto (tgt := 65) hex hby dX7_findBeyond_61 (by decide) ?_
      refine lv_iload_n hex hby dX7_findBeyond_65 rfl (lv_at hl 1 rfl) ?_
      refine ro_Si (As := [.int (nI 0), .int (nI 1), .int (nI (2 ^ (lv k)))]) (rest := [.int (nI (lyv T m st lv k))]) (C := RX7) CFx (c_X7_stepAcross (a := 0) (b := 1) (len := 2 ^ (lv k)) (by omega) (by omega)) 3 gX7_findBeyond_X7_stepAcross rfl nd_X7_stepAcross ⟨Nat.le_of_ble_eq_true rfl, Nat.le_of_ble_eq_true rfl⟩ hK hP [] rfl rfl hl.1 rfl (Nat.le_of_ble_eq_true rfl) dX7_findBeyond_66 ⟨Nat.le_refl _, Nat.le_refl _⟩ (fun r_91 hr_91 => ?_)
      rcases hr_91 with ⟨rfl, h_92⟩ | ⟨rfl, h_93, h_94⟩ | ⟨rfl, h_95, h_96⟩
      · omega
      · refine nv_iadd hex hby dX7_findBeyond_69 ?_
        refine lv_istore (lv' := [(5, .int (nI (lyv T m st lv k + (2 ^ (lv k))))), (4, .int (nI (lxv T m st lv k + 0))), (3, .int (nI (2 ^ (lv k)))), (0, .ref hz), (1, .int (nI k)), (2, .int (nI 3))]) hex hby dX7_findBeyond_70 hl (by decide) rfl (fun ls hl => ?_)
        refine lv_iconst (v := nI 0) hex hby dX7_findBeyond_72 rfl ?_
        refine lv_istore (lv' := [(6, .int (nI 0)), (5, .int (nI (lyv T m st lv k + (2 ^ (lv k))))), (4, .int (nI (lxv T m st lv k + 0))), (3, .int (nI (2 ^ (lv k)))), (0, .ref hz), (1, .int (nI k)), (2, .int (nI 3))]) hex hby dX7_findBeyond_73 hl (by decide) rfl (fun ls hl => ?_)
        refine lv_aload_n hex hby dX7_findBeyond_75 rfl (lv_at hl 4 rfl) ?_
        refine lv_iconst (v := nI 0) hex hby dX7_findBeyond_76 rfl ?_
        refine nv_put CFx in_X7_findBeyond_X7 tyX7 tyX7_ok nmX7 hK hP hD hS 0 rfl rfl 2 (by decide) (List.mem_of_getElem? (i := 2) rfl) rfl (by decide +kernel) (Nat.le_of_ble_eq_true rfl) dX7_findBeyond_77 (fun H locs hP hD hS => ?_)
        have hP : va_P (dC, dI) vwCl [(hz, .inr (7, [.ref hn, .ref hd, .int (nI 0), .ref aB])), (aB, .inl (cI, 64, .inl (nA fa))), (hn, .inr (2, fn)), (aC, .inl (cI, 4096, .inl (nA g))), (aI, .inl (cI, 4096, .inl (nA ix))), (hd, .inr (1, fd)), (aS, .inl (cI, 497, .inl (nA S)))] H := hP
        have hD : va_D A [(hz, .inr (7, [.ref hn, .ref hd, .int (nI 0), .ref aB])), (aB, .inl (cI, 64, .inl (nA fa))), (hn, .inr (2, fn)), (aC, .inl (cI, 4096, .inl (nA g))), (aI, .inl (cI, 4096, .inl (nA ix))), (hd, .inr (1, fd)), (aS, .inl (cI, 497, .inl (nA S)))] := hD
        have loop80 : ∀ (nn : Nat) (x : Int) (y : Int) (al : Nat) (bs : Nat) (f : Nat → Nat), (2 ^ lv k - al) < nn → (byd T m st lv 3 k → x = ((bcx T m st lv 3 k al : Nat) : Int) ∧ y = ((bcy T m st lv 3 k al : Nat) : Int)) → (¬ byd T m st lv 3 k → ¬ (0 ≤ x ∧ x < sd ∧ 0 ≤ y ∧ y < sd)) → (¬ byd T m st lv 3 k → al = 0) → (-1 ≤ x ∧ x ≤ 130 + (al : Int)) → (-1 ≤ y ∧ y ≤ 130 + (al : Int)) → (al ≤ 128) → (bs ≤ al) → (bs ≤ 64) → (∀ j, f j < 4096) → (SSt bs f (FndT T m c st lv 3 k al)) → (al < 2 ^ lv k → ∀ w, FndT T m c st lv 3 k al w → axv T m st lv 3 w + 2 ^ lv w ≤ axv T m st lv 3 k + al) → ∀ (H : Heap) (locs : List Loc), va_P (dC, dI) vwCl [(hz, .inr (7, [.ref hn, .ref hd, .int (nI bs), .ref aB])), (aB, .inl (cI, 64, .inl (nA f))), (hn, .inr (2, fn)), (aC, .inl (cI, 4096, .inl (nA g))), (aI, .inl (cI, 4096, .inl (nA ix))), (hd, .inr (1, fd)), (aS, .inl (cI, 497, .inl (nA S)))] H → va_D A [(hz, .inr (7, [.ref hn, .ref hd, .int (nI bs), .ref aB])), (aB, .inl (cI, 64, .inl (nA f))), (hn, .inr (2, fn)), (aC, .inl (cI, 4096, .inl (nA g))), (aI, .inl (cI, 4096, .inl (nA ix))), (hd, .inr (1, fd)), (aS, .inl (cI, 497, .inl (nA S)))] → va_S A ss.heap H locs → ∀ ls : Array Slot, lv_has ls 9 [(6, .int (nI al)), (5, .int (zI y)), (4, .int (zI x)), (3, .int (nI (2 ^ (lv k)))), (0, .ref hz), (1, .int (nI k)), (2, .int (nI 3))] → W pp l ee (rmO 2 44) ss mm ([.ref hz, .int (nI k), .int (nI 3)] : List Value).toArray bb mt cd H locs 0 0 Q (F0 mm 80 ls []) := by
          intro nn
          induction nn with
          | zero => intro x y al bs f hms80; exact absurd hms80 (Nat.not_lt_zero _)
          | succ nn ih80 =>
            intro x y al bs f hms80 hxy hnb hnb2 hxr hyr hal hba hb64 hfb hss hend H locs hP hD hS ls hl
            have h2k := p2_6 (show lv k ≤ 6 by omega)
            refine lv_iload hex hby dX7_findBeyond_80 (lv_at hl 0 rfl) ?_
            refine lv_iload_n hex hby dX7_findBeyond_82 rfl (lv_at hl 3 rfl) ?_
            refine nv_icmp_ge (tgt := 186) hex hby dX7_findBeyond_83 (by decide) (by omega) (by omega) (fun c_97 => ?_) (fun c_97 => ?_)
            · exact hret _ (bs, f) _ _ _ _ _ (Or.inr (Or.inr (Or.inl ⟨rfl, rfl, rfl, dX7_findBeyond_186⟩))) ⟨rfl, ⟨(hss.congr (fun v => fnd_all (Classical.byContradiction (fun z => by have := hnb2 z; omega)) (by omega) v)), hfb, (by omega)⟩⟩ hP hD hS
            · refine lv_aload_n hex hby dX7_findBeyond_86 rfl (lv_at hl 4 rfl) ?_
              refine nv_get (v := .int (nI bs)) CFx in_X7_findBeyond_X7 hK hP 0 rfl rfl 2 (by decide) (List.mem_of_getElem? (i := 2) rfl) rfl dX7_findBeyond_87 ?_
              refine lv_bipush (v := nI 64) hex hby dX7_findBeyond_90 rfl ?_
              refine nv_icmp_ge (tgt := 186) hex hby dX7_findBeyond_92 (by decide) (by omega) (by omega) (fun c_98 => absurd c_98 (by omega)) (fun c_98 => ?_)
              refine lv_aload_n hex hby dX7_findBeyond_95 rfl (lv_at hl 4 rfl) ?_
              refine nv_get (v := .ref hn) CFx in_X7_findBeyond_X7 hK hP 0 rfl rfl 0 (by decide) (List.mem_of_getElem? (i := 3) rfl) rfl dX7_findBeyond_96 ?_
              refine lv_iload hex hby dX7_findBeyond_99 (lv_at hl 2 rfl) ?_
              refine lv_iload hex hby dX7_findBeyond_101 (lv_at hl 1 rfl) ?_
              refine ro_Vi (As := [.int (zI x), .int (zI y)]) (rest := []) CFx (c_X2_holds (h := hn) (fs := fn) (sd := sd) (x := zI x) (xz := x) (y := zI y) (yz := y) fsd (zI_toInt (by omega) (by omega)) (zI_toInt (by omega) (by omega)) (by omega)) 2 gX7_findBeyond_X2_holds rfl nd_X2_holds ⟨Nat.le_of_ble_eq_true rfl, Nat.le_of_ble_eq_true rfl⟩ hK hP [2] rfl rfl rfl rfl hl.1 rfl (Nat.le_of_ble_eq_true rfl) dX7_findBeyond_103 ⟨Nat.le_refl _, Nat.le_refl _⟩ (fun r_99 hr_99 => ?_)
              rcases hr_99 with ⟨rfl, hh1⟩ | ⟨rfl, hh0⟩
              · refine nv_if_eq (tgt := 186) hex hby dX7_findBeyond_106 (by decide) (by omega) (fun c => absurd c (by omega)) (fun _ => ?_)
                have hb : byd T m st lv 3 k := by
                  apply Classical.byContradiction
                  intro z
                  exact hnb z (by omega)
                obtain ⟨ex_, ey_⟩ := hxy hb
                subst ex_; subst ey_
                rw [zI_nat, zI_nat] at hl
                have hgr := bc_in hV hL (s := 3) hk hb (t := al) (by omega)
                have hna := num_at hV hN hgr.1 hgr.2
                have hsp := p2_6 hm6
                refine lv_aload_n hex hby dX7_findBeyond_109 rfl (lv_at hl 4 rfl) ?_
                refine nv_get (v := .ref hd) CFx in_X7_findBeyond_X7 hK hP 0 rfl rfl 1 (by decide) (List.mem_of_getElem? (i := 1) rfl) rfl dX7_findBeyond_110 ?_
                refine lv_aload_n hex hby dX7_findBeyond_113 rfl (lv_at hl 4 rfl) ?_
                refine nv_get (v := .ref hn) CFx in_X7_findBeyond_X7 hK hP 0 rfl rfl 0 (by decide) (List.mem_of_getElem? (i := 3) rfl) rfl dX7_findBeyond_114 ?_
                refine lv_iload hex hby dX7_findBeyond_117 (lv_at hl 2 rfl) ?_
                refine lv_iload hex hby dX7_findBeyond_119 (lv_at hl 1 rfl) ?_
                refine ro_Vi (As := [.int (nI (bcx T m st lv 3 k al)), .int (nI (bcy T m st lv 3 k al))]) (rest := [.ref hd]) CFx (c_X2_indexOf (h := hn) (aI := aI) (fs := fn) (ix := ix) (x := bcx T m st lv 3 k al) (y := bcy T m st lv 3 k al) faI hix (by omega) (by omega)) 2 gX7_findBeyond_X2_indexOf rfl nd_X2_indexOf ⟨Nat.le_of_ble_eq_true rfl, Nat.le_of_ble_eq_true rfl⟩ hK hP [2, 4] rfl rfl rfl rfl hl.1 rfl (Nat.le_of_ble_eq_true rfl) dX7_findBeyond_121 ⟨Nat.le_refl _, Nat.le_refl _⟩ (fun r_100 hr_100 => ?_)
                obtain rfl := hr_100
                refine ro_Vi (As := [.int (nI (ix ((bcy T m st lv 3 k al) * 64 + (bcx T m st lv 3 k al))))]) (rest := []) CFx (c_X1_leafOfIndex (hd := hd) (aS := aS) (fd := fd) (c := c) (S := S) (i := ix ((bcy T m st lv 3 k al) * 64 + (bcx T m st lv 3 k al))) (m := m) (st := st) (lv := lv) fdc faS hSb hL hag hc hm6 hna.1) 1 gX7_findBeyond_X1_leafOfIndex rfl nd_X1_leafOfIndex ⟨Nat.le_of_ble_eq_true rfl, Nat.le_of_ble_eq_true rfl⟩ hK hP [5, 6] rfl rfl rfl rfl hl.1 rfl (Nat.le_of_ble_eq_true rfl) dX7_findBeyond_124 ⟨Nat.le_refl _, Nat.le_refl _⟩ (fun r_101 hr_101 => ?_)
                obtain ⟨v, rfl, hv1, hv2, hv3⟩ := hr_101
                refine lv_istore (lv' := [(7, .int (nI v)), (6, .int (nI al)), (5, .int (nI (bcy T m st lv 3 k al))), (4, .int (nI (bcx T m st lv 3 k al))), (3, .int (nI (2 ^ (lv k)))), (0, .ref hz), (1, .int (nI k)), (2, .int (nI 3))]) hex hby dX7_findBeyond_127 hl (by decide) rfl (fun ls hl => ?_)
                have hg1 := (geo hV hL hv1 hna.1).mp ⟨hv2, hv3⟩
                rw [hna.2.1, hna.2.2] at hg1
                obtain ⟨hf1, hf2, hf3⟩ := fnd_step hV hL (by omega) hk hv1 hb (by omega) hg1 (hend (by omega))
                have hv6 : lv v ≤ 6 := by have := (hL.2.2.2 v hv1).2.2; omega
                have h2v := p2_6 hv6
                have h2vp := p2_pos (lv v)
                refine lv_aload_n hex hby dX7_findBeyond_129 rfl (lv_at hl 5 rfl) ?_
                refine lv_iload hex hby dX7_findBeyond_130 (lv_at hl 0 rfl) ?_
                refine mu_Vv (As := [.int (nI v)]) (rest := []) (wr := [(hn, .inr (2, fn)), (aC, .inl (cI, 4096, .inl (nA g))), (aI, .inl (cI, 4096, .inl (nA ix))), (hd, .inr (1, fd)), (aS, .inl (cI, 497, .inl (nA S)))]) CFx (c_X7_insert (hz := hz) (aB := aB) (v0 := .ref hn) (v1 := .ref hd) (bs := bs) (f := f) (v := v) (P := FndT T m c st lv 3 k al) hfb hss hf1 (by omega) (by omega)) 1 gX7_findBeyond_X7_insert rfl nd_X7_insert ⟨Nat.le_of_ble_eq_true rfl, Nat.le_of_ble_eq_true rfl⟩ hK hP hD hS hA [0, 1] [2, 3, 4, 5, 6] rfl rfl (by decide) (by decide) (by decide) TR.nil rfl rfl rfl hl.1 rfl (Nat.le_of_ble_eq_true rfl) dX7_findBeyond_132 ⟨Nat.le_refl _, Nat.le_refl _⟩ (fun u H locs hr_102 hP hD hS => ?_)
                obtain ⟨fi, rfl⟩ : ∃ z, z = u := ⟨_, rfl⟩
                have hP : va_P (dC, dI) vwCl [(hn, .inr (2, fn)), (aC, .inl (cI, 4096, .inl (nA g))), (aI, .inl (cI, 4096, .inl (nA ix))), (hd, .inr (1, fd)), (aS, .inl (cI, 497, .inl (nA S))), (hz, .inr (7, [.ref hn, .ref hd, .int (nI (bs + 1)), .ref aB])), (aB, .inl (cI, 64, .inl (nA fi)))] H := hP
                have hD : va_D A [(hn, .inr (2, fn)), (aC, .inl (cI, 4096, .inl (nA g))), (aI, .inl (cI, 4096, .inl (nA ix))), (hd, .inr (1, fd)), (aS, .inl (cI, 497, .inl (nA S))), (hz, .inr (7, [.ref hn, .ref hd, .int (nI (bs + 1)), .ref aB])), (aB, .inl (cI, 64, .inl (nA fi)))] := hD
                obtain ⟨hi1, hi2⟩ := hr_102
                refine lv_iconst (v := nI 1) hex hby dX7_findBeyond_135 rfl ?_
                refine lv_aload_n hex hby dX7_findBeyond_136 rfl (lv_at hl 5 rfl) ?_
                refine nv_get (v := .ref hd) CFx in_X7_findBeyond_X7 hK hP 5 rfl rfl 1 (by decide) (List.mem_of_getElem? (i := 1) rfl) rfl dX7_findBeyond_137 ?_
                refine lv_iload hex hby dX7_findBeyond_140 (lv_at hl 0 rfl) ?_
                refine ro_Vi (As := [.int (nI v)]) (rest := [.int (nI 1)]) CFx (c_X1_sideOf (hd := hd) (aS := aS) (fd := fd) (S := S) (k := v) (L := lv v) faS hSb (by omega) (by have q1 := hL.2.2.2 v (by omega); rw [hag _ (by omega), hag _ (by omega)]; exact q1.1) hv6) 1 gX7_findBeyond_X1_sideOf rfl nd_X1_sideOf ⟨Nat.le_of_ble_eq_true rfl, Nat.le_of_ble_eq_true rfl⟩ hK hP [3, 4] rfl rfl rfl rfl hl.1 rfl (Nat.le_of_ble_eq_true rfl) dX7_findBeyond_142 ⟨Nat.le_refl _, Nat.le_refl _⟩ (fun r_104 hr_104 => ?_)
                obtain rfl := hr_104
                refine va_mmax hex hby (hml.trans hl.1.symm) hown (hts _ (List.mem_of_getElem? (i := 4) rfl)) (hts _ (List.mem_of_getElem? (i := 5) rfl)) (hts _ (List.mem_of_getElem? (i := 6) rfl)) (hts _ (List.mem_of_getElem? (i := 7) rfl)) (Nat.le_of_ble_eq_true rfl) (Nat.le_of_ble_eq_true rfl) (Nat.le_refl _) (Nat.le_refl _) dX7_findBeyond_145 ?_
                refine nv_top (nI_max (by omega) (by omega)) ?_
                refine nv_top (y := nI (2 ^ lv v)) (congrArg nI (Nat.max_eq_right (by omega))) ?_
                refine lv_istore (lv' := [(8, .int (nI (2 ^ lv v))), (7, .int (nI v)), (6, .int (nI al)), (5, .int (nI (bcy T m st lv 3 k al))), (4, .int (nI (bcx T m st lv 3 k al))), (3, .int (nI (2 ^ (lv k)))), (0, .ref hz), (1, .int (nI k)), (2, .int (nI 3))]) hex hby dX7_findBeyond_148 hl (by decide) rfl (fun ls hl => ?_)
                refine lv_iload hex hby dX7_findBeyond_150 (lv_at hl 2 rfl) ?_
                refine lv_iload hex hby dX7_findBeyond_152 (lv_at hl 0 rfl) ?_
                refine nv_iadd hex hby dX7_findBeyond_154 ?_
                refine lv_istore (lv' := [(6, .int (nI (al + 2 ^ lv v))), (8, .int (nI (2 ^ lv v))), (7, .int (nI v)), (5, .int (nI (bcy T m st lv 3 k al))), (4, .int (nI (bcx T m st lv 3 k al))), (3, .int (nI (2 ^ (lv k)))), (0, .ref hz), (1, .int (nI k)), (2, .int (nI 3))]) hex hby dX7_findBeyond_155 hl (by decide) rfl (fun ls hl => ?_)
                refine lv_iload_n hex hby dX7_findBeyond_157 rfl (lv_at hl 8 rfl) ?_
                refine nv_if_eq (tgt := 166) hex hby dX7_findBeyond_158 (by decide) (by omega) (fun c => absurd c (by omega)) (fun _ => ?_)
                refine lv_iload_n hex hby dX7_findBeyond_161 rfl (lv_at hl 8 rfl) ?_
                refine lv_iconst (v := nI 1) hex hby dX7_findBeyond_162 rfl ?_
                refine nv_icmp_ne (tgt := 176) hex hby dX7_findBeyond_163 (by decide) (by omega) (by omega) (fun _ => ?_) (fun c => absurd c (by omega))
                refine lv_iload hex hby dX7_findBeyond_176 (lv_at hl 4 rfl) ?_
                refine lv_iload hex hby dX7_findBeyond_178 (lv_at hl 1 rfl) ?_
                refine nv_iadd hex hby dX7_findBeyond_180 ?_
                refine lv_istore (lv' := [(4, .int (nI (bcx T m st lv 3 k al + 2 ^ lv v))), (6, .int (nI (al + 2 ^ lv v))), (8, .int (nI (2 ^ lv v))), (7, .int (nI v)), (5, .int (nI (bcy T m st lv 3 k al))), (3, .int (nI (2 ^ (lv k)))), (0, .ref hz), (1, .int (nI k)), (2, .int (nI 3))]) hex hby dX7_findBeyond_181 hl (by decide) rfl (fun ls hl => ?_)
                refine lv_goto (tgt := 80) hex hby dX7_findBeyond_183 (by decide) ?_
                have pf_105 : byd T m st lv 3 k → ((bcx T m st lv 3 k al + 2 ^ lv v : Nat) : Int) = ((bcx T m st lv 3 k (al + 2 ^ lv v) : Nat) : Int) ∧ ((bcy T m st lv 3 k al : Nat) : Int) = ((bcy T m st lv 3 k (al + 2 ^ lv v) : Nat) : Int) := by
                  intro z
                  unfold bcx bcy
                  simp <;> omega
                rw [ni_nz (bcx T m st lv 3 k al + 2 ^ lv v)] at hl
                rw [ni_nz (bcy T m st lv 3 k al)] at hl
                exact ih80 ((bcx T m st lv 3 k al + 2 ^ lv v : Nat) : Int) ((bcy T m st lv 3 k al : Nat) : Int) (al + 2 ^ lv v) (bs + 1) fi (by omega) pf_105 (fun z => absurd hb z) (fun z => absurd hb z) (by omega) (by omega) (by omega) (by omega) (by omega) hi2 (hi1.congr (fun w => (hf2 w).symm)) hf3 _ _ (hP.sub [5, 6, 0, 1, 2, 3, 4] rfl) (hD.sub [5, 6, 0, 1, 2, 3, 4] (by decide) rfl) hS _ (lv_sub hl [1, 4, 0, 5, 6, 7, 8] rfl)
              · refine nv_if_eq (tgt := 186) hex hby dX7_findBeyond_106 (by decide) (by omega) (fun _ => ?_) (fun c => absurd c (by omega))
                have pf_106 : SSt bs f (Nbr T m c st lv 3 k) := by
                  have hz_ : ¬ byd T m st lv 3 k := by
                    intro z
                    obtain ⟨e1, e2⟩ := hxy z
                    have hgr := bc_in hV hL (s := 3) hk z (t := al) (by omega)
                    omega
                  have h0 := hnb2 hz_
                  subst h0
                  exact hss.congr (fun v => ⟨fun q => by obtain ⟨_, j, hj, _⟩ := q; exact absurd hj (Nat.not_lt_zero _), fun q => absurd q.1 hz_⟩)
                exact hret _ (bs, f) _ _ _ _ _ (Or.inr (Or.inr (Or.inl ⟨rfl, rfl, rfl, dX7_findBeyond_186⟩))) ⟨rfl, ⟨pf_106, hfb, (by omega)⟩⟩ hP hD hS
        have pf_107 : byd T m st lv 3 k → ((lxv T m st lv k + 0 : Nat) : Int) = ((bcx T m st lv 3 k 0 : Nat) : Int) ∧ ((lyv T m st lv k + (2 ^ (lv k)) : Nat) : Int) = ((bcy T m st lv 3 k 0 : Nat) : Int) := by
          intro z
          unfold byd at z
          simp at z
          unfold bcx bcy
          simp <;> omega
        have pf_108 : ¬ byd T m st lv 3 k → ¬ (0 ≤ ((lxv T m st lv k + 0 : Nat) : Int) ∧ ((lxv T m st lv k + 0 : Nat) : Int) < sd ∧ 0 ≤ ((lyv T m st lv k + (2 ^ (lv k)) : Nat) : Int) ∧ ((lyv T m st lv k + (2 ^ (lv k)) : Nat) : Int) < sd) := by
          intro z
          unfold byd at z
          simp at z
          omega
        rw [ni_nz (lxv T m st lv k + 0)] at hl
        rw [ni_nz (lyv T m st lv k + (2 ^ (lv k)))] at hl
        exact loop80 _ ((lxv T m st lv k + 0 : Nat) : Int) ((lyv T m st lv k + (2 ^ (lv k)) : Nat) : Int) 0 0 fa (Nat.lt_succ_self _) pf_107 pf_108 (fun _ => rfl) (by omega) (by omega) (by omega) (by omega) (by omega) hfa (SSt.zero _ (fun v q => by obtain ⟨_, j, hj, _⟩ := q; exact absurd hj (Nat.not_lt_zero _))) (fun _ w q => by obtain ⟨_, j, hj, _⟩ := q; exact absurd hj (Nat.not_lt_zero _)) _ _ hP hD hS _ (lv_sub hl [0, 1, 2, 3, 4, 5, 6] rfl)
      · omega
end NBR
