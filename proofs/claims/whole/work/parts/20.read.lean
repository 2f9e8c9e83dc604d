section READ
variable {l : Launch} {dC : Nat → ClassId} {dI : Nat → Nat → Nat} {cI cZ cS : ClassId}
def rdT (tx : Nat → Nat) : Nat → Nat := fun j => 10 * (tx (9 * (j / 4) + j % 4) - 48) + (tx (9 * (j / 4) + 4 + j % 4) - 48)
theorem rdT_at (tx : Nat → Nat) (s : Nat) {p : Nat} (hp : p < 4) : rdT tx (4 * s + p) = 10 * (tx (9 * s + p) - 48) + (tx (9 * s + 4 + p) - 48) := by
  unfold rdT
  rw [show (4 * s + p) / 4 = s by omega, show (4 * s + p) % 4 = p by omega]
theorem Flt.ok {tx : Nat → Nat} {tl : Nat} (h : Flt tx tl (-1)) : (∀ j, j < tl → wl tx j) ∧ 0 < tl ∧ tl % 9 = 0 ∧ (∀ j, j < tl → ¬ bdS tx tl j) ∧ tl ≤ 72 := by
  rcases h with ⟨i, i1, i2, _⟩ | ⟨_, _, a3⟩ | ⟨a1, a2, a3, ⟨i, i1, i2, _⟩ | ⟨c1, c2⟩⟩
  · omega
  · omega
  · omega
  · refine ⟨a1, a2, a3, c1, ?_⟩
    have := (a1 (tl - 1) (by omega)).1
    omega
theorem rd_VT {tx : Nat → Nat} {tl : Nat} (h : Flt tx tl (-1)) : VT (rdT tx) (tl / 9) := by
  obtain ⟨a1, a2, a3, a4, a5⟩ := h.ok
  have dg : ∀ s p, s < tl / 9 → p < 4 → 48 ≤ tx (9 * s + p) ∧ tx (9 * s + p) ≤ 51 ∧ ∀ j, 9 * s ≤ j → j < 9 * s + p → tx j ≠ tx (9 * s + p) := by
    intro s p hs hp
    rcases (a1 (9 * s + p) (by omega)).2 with ⟨h1, h2, h3, h4⟩ | ⟨h1, h2, h3, h4⟩ | ⟨h1, h2⟩
    · exact ⟨h2, h3, fun j j1 j2 => h4 j (by omega) j2⟩
    · omega
    · omega
  have dn : ∀ s p, s < tl / 9 → p < 4 → 48 ≤ tx (9 * s + 4 + p) ∧ tx (9 * s + 4 + p) ≤ 57 ∧ tx (9 * s + 4 + p) - 48 < tl / 9 := by
    intro s p hs hp
    have q := wl_dig (a1 (9 * s + 4 + p) (by omega)) (by omega)
    refine ⟨q.1, q.2, ?_⟩
    have r := a4 (9 * s + 4 + p) (by omega)
    unfold bdS at r
    omega
  refine ⟨by omega, by omega, fun s hs p hp => ?_, fun s hs p hp p' hp' e => ?_⟩
  · rw [rdT_at tx s hp]
    have q1 := dg s p hs hp
    have q2 := dn s p hs hp
    omega
  · rw [rdT_at tx s hp, rdT_at tx s hp'] at e
    have q1 := dg s p hs hp
    have q2 := dn s p hs hp
    have q3 := dg s p' hs hp'
    have q4 := dn s p' hs hp'
    rcases Nat.lt_trichotomy p p' with q | q | q
    · exact absurd (show tx (9 * s + p) = tx (9 * s + p') by omega) (q3.2.2 (9 * s + p) (by omega) (by omega))
    · exact q
    · exact absurd (show tx (9 * s + p') = tx (9 * s + p) by omega) (q1.2.2 (9 * s + p') (by omega) (by omega))
theorem rdT_lt {tx : Nat → Nat} {tl : Nat} (h : Flt tx tl (-1)) {j : Nat} (hj : j < 4 * (tl / 9)) : rdT tx j < 100 := by
  have q := (rd_VT h).2.2.1 (j / 4) (by omega) (j % 4) (by omega)
  rw [show 4 * (j / 4) + j % 4 = j by omega] at q
  omega
theorem nd_X10_fault : ndV yX10_fault RX10 0 := by decide +kernel
theorem in_X10_fault_X10 : ∀ w ∈ wsX100, w ∈ wsX10_fault := fun _ h => List.mem_cons_of_mem _ (List.mem_append_right _ (h))
set_option maxHeartbeats 4000000 in
set_option maxRecDepth 100000 in
theorem c_X10_fault {h : Nat} {aX : Nat} {fs : List Value} {tl : Nat} {tx : Nat → Nat} (f_text : fs[14]? = some (.ref aX)) (f_length : fs[15]? = some (.int (nI tl))) (htx : ∀ j, tx j < 128) (htl : tl ≤ 80) : RO l yX10_fault wsX10_fault 2 46 (dC, dI) (tyK cI cZ cS) [(h, .inr (10, fs)), (aX, .inl (cI, 80, .inl (nA tx)))] [.ref h] (rI (fun r => (∃ k : Nat, r = nI k ∧ k ≤ 80 ∧ Flt tx tl (k : Int)) ∨ (r = zI (-1) ∧ Flt tx tl (-1)))) := by
  refine ro_of (by decide) rfl (Nat.le_of_ble_eq_true rfl) ?_
  intro pp ee ss mm bb mt cd Q CFx hP hK hret ls hl
  obtain ⟨hex, hby, hml, hown, hts⟩ := id CFx
  have hl : lv_has ls 2 [(0, .ref h)] := hl
  refine lv_iconst (v := nI 0) hex hby dX10_fault_0 rfl ?_
  refine lv_istore_n (lv' := [(1, .int (nI 0)), (0, .ref h)]) hex hby dX10_fault_1 rfl hl (by decide) rfl (fun ls hl => ?_)
  have loop2 : ∀ (nn : Nat) (i : Nat), (tl - i) < nn → (i ≤ tl) → (∀ j, j < i → wl tx j) → ∀ ls : Array Slot, lv_has ls 2 [(1, .int (nI i)), (0, .ref h)] → W pp l ee (rmO 2 46) ss mm ([.ref h] : List Value).toArray bb mt cd ss.heap [] 0 0 Q (F0 mm 2 ls []) := by
    intro nn
    induction nn with
    | zero => intro i hms2; exact absurd hms2 (Nat.not_lt_zero _)
    | succ nn ih2 =>
      intro i hms2 hi hall ls hl
      refine lv_iload_n hex hby dX10_fault_2 rfl (lv_at hl 0 rfl) ?_
      refine lv_aload_n hex hby dX10_fault_3 rfl (lv_at hl 1 rfl) ?_
      refine nv_get (v := .int (nI tl)) CFx in_X10_fault_X10 hK hP 0 rfl rfl 15 (by decide) (List.mem_of_getElem? (i := 1) rfl) f_length dX10_fault_4 ?_
      refine nv_icmp_ge (tgt := 26) hex hby dX10_fault_7 (by decide) (by omega) (by omega) (fun c_1 => ?_) (fun c_1 => ?_)
      · have hei : i = tl := by omega
        have hall2 : ∀ j, j < tl → wl tx j := fun j hj => hall j (by omega)
        refine lv_aload_n hex hby dX10_fault_26 rfl (lv_at hl 1 rfl) ?_
        refine nv_get (v := .int (nI tl)) CFx in_X10_fault_X10 hK hP 0 rfl rfl 15 (by decide) (List.mem_of_getElem? (i := 1) rfl) f_length dX10_fault_27 ?_
        refine nv_if_eq (tgt := 43) hex hby dX10_fault_30 (by decide) (by omega) (fun c_2 => ?_) (fun c_2 => ?_)
        · refine lv_aload_n hex hby dX10_fault_43 rfl (lv_at hl 1 rfl) ?_
          refine nv_get (v := .int (nI tl)) CFx in_X10_fault_X10 hK hP 0 rfl rfl 15 (by decide) (List.mem_of_getElem? (i := 1) rfl) f_length dX10_fault_44 ?_
          exact hret _ _ _ _ (Or.inl ⟨rfl, _, rfl, rfl, dX10_fault_47⟩) ⟨_, rfl, Or.inl ⟨tl, rfl, (by omega), (Or.inr (Or.inl ⟨hall2, by omega, rfl⟩))⟩⟩
        · refine lv_aload_n hex hby dX10_fault_33 rfl (lv_at hl 1 rfl) ?_
          refine nv_get (v := .int (nI tl)) CFx in_X10_fault_X10 hK hP 0 rfl rfl 15 (by decide) (List.mem_of_getElem? (i := 1) rfl) f_length dX10_fault_34 ?_
          refine lv_bipush (v := nI 9) hex hby dX10_fault_37 rfl ?_
          refine nv_irem hex hby dX10_fault_39 (by omega) (by omega) (by omega) ?_
          refine nv_if_eq (tgt := 48) hex hby dX10_fault_40 (by decide) (by omega) (fun c_3 => ?_) (fun c_3 => ?_)
          · refine lv_iconst (v := nI 0) hex hby dX10_fault_48 rfl ?_
            refine lv_istore_n (lv' := [(1, .int (nI 0)), (0, .ref h)]) hex hby dX10_fault_49 rfl hl (by decide) rfl (fun ls hl => ?_)
            have loop50 : ∀ (nn : Nat) (i : Nat), (tl - i) < nn → (i ≤ tl) → (∀ j, j < i → ¬ bdS tx tl j) → ∀ ls : Array Slot, lv_has ls 2 [(1, .int (nI i)), (0, .ref h)] → W pp l ee (rmO 2 46) ss mm ([.ref h] : List Value).toArray bb mt cd ss.heap [] 0 0 Q (F0 mm 50 ls []) := by
              intro nn
              induction nn with
              | zero => intro i hms50; exact absurd hms50 (Nat.not_lt_zero _)
              | succ nn ih50 =>
                intro i hms50 hi hno ls hl
                refine lv_iload_n hex hby dX10_fault_50 rfl (lv_at hl 0 rfl) ?_
                refine lv_aload_n hex hby dX10_fault_51 rfl (lv_at hl 1 rfl) ?_
                refine nv_get (v := .int (nI tl)) CFx in_X10_fault_X10 hK hP 0 rfl rfl 15 (by decide) (List.mem_of_getElem? (i := 1) rfl) f_length dX10_fault_52 ?_
                refine nv_icmp_ge (tgt := 98) hex hby dX10_fault_55 (by decide) (by omega) (by omega) (fun c_4 => ?_) (fun c_4 => ?_)
                · refine lv_iconst (v := zI (-1)) hex hby dX10_fault_98 rfl ?_
                  exact hret _ _ _ _ (Or.inl ⟨rfl, _, rfl, rfl, dX10_fault_99⟩) ⟨_, rfl, Or.inr ⟨rfl, (Or.inr (Or.inr ⟨hall2, by omega, by omega, Or.inr ⟨fun j hj => hno j (by omega), rfl⟩⟩))⟩⟩
                · refine lv_iload_n hex hby dX10_fault_58 rfl (lv_at hl 0 rfl) ?_
                  refine lv_bipush (v := nI 9) hex hby dX10_fault_59 rfl ?_
                  refine nv_irem hex hby dX10_fault_61 (by omega) (by omega) (by omega) ?_
                  refine lv_iconst (v := nI 4) hex hby dX10_fault_62 rfl ?_
                  refine lv_bipush (v := nI 7) hex hby dX10_fault_63 rfl ?_
                  refine ro_Si (As := [.int (nI (i % 9)), .int (nI 4), .int (nI 7)]) (rest := []) (C := RX10) CFx (c_X10_in (x := nI (i % 9)) (xz := ((i % 9 : Nat) : Int)) (lo := nI 4) (loz := (4 : Int)) (hi := nI 7) (hiz := (7 : Int)) (ni_toInt (by omega)) (by rfl) (by rfl)) 3 gX10_fault_X10_in rfl nd_X10_in ⟨Nat.le_of_ble_eq_true rfl, Nat.le_of_ble_eq_true rfl⟩ hK hP [] rfl rfl hl.1 rfl (Nat.le_of_ble_eq_true rfl) dX10_fault_65 ⟨Nat.le_refl _, Nat.le_refl _⟩ (fun r_5 hr_5 => ?_)
                  rcases hr_5 with ⟨rfl, hin⟩ | ⟨rfl, hnin⟩
                  · refine nv_if_eq (tgt := 92) hex hby dX10_fault_68 (by decide) (by omega) (fun c => absurd c (by omega)) (fun _ => ?_)
                    have hdg := wl_dig (hall2 i (by omega)) (by omega)
                    refine lv_aload_n hex hby dX10_fault_71 rfl (lv_at hl 1 rfl) ?_
                    refine nv_get (v := .ref aX) CFx in_X10_fault_X10 hK hP 0 rfl rfl 14 (by decide) (List.mem_of_getElem? (i := 2) rfl) f_text dX10_fault_72 ?_
                    refine lv_iload_n hex hby dX10_fault_75 rfl (lv_at hl 0 rfl) ?_
                    refine nv_iald hex hby hK hP 1 0 rfl rfl (by omega) (by omega) dX10_fault_76 ?_
                    have hb_6 := htx i
                    refine lv_bipush (v := nI 48) hex hby dX10_fault_77 rfl ?_
                    refine nv_isub hex hby dX10_fault_79 (by omega) ?_
                    refine lv_aload_n hex hby dX10_fault_80 rfl (lv_at hl 1 rfl) ?_
                    refine nv_get (v := .int (nI tl)) CFx in_X10_fault_X10 hK hP 0 rfl rfl 15 (by decide) (List.mem_of_getElem? (i := 1) rfl) f_length dX10_fault_81 ?_
                    refine lv_bipush (v := nI 9) hex hby dX10_fault_84 rfl ?_
                    refine nv_idiv hex hby dX10_fault_86 (by omega) (by omega) (by omega) ?_
                    refine nv_icmp_lt (tgt := 92) hex hby dX10_fault_87 (by decide) (by omega) (by omega) (fun c_7 => ?_) (fun c_7 => ?_)
                    · refine lv_iinc (v := nI (i + 1)) (lv' := [(1, .int (nI (i + 1))), (0, .ref h)]) hex hby dX10_fault_92 hl (k := 0) rfl (ni_inc _) (by decide) rfl (fun ls hl => ?_)
                      refine lv_goto (tgt := 50) hex hby dX10_fault_95 (by decide) ?_
                      have pf_8 : ∀ j, j < (i + 1) → ¬ bdS tx tl j := by
                        intro j h h2
                        rcases Nat.lt_or_ge j i with q | q
                        · exact hno j q h2
                        · rw [show j = i by omega] at h2; have := h2.2.2; omega
                      exact ih50 (i + 1) (by omega) (by omega) pf_8 _ (lv_sub hl [0, 1] rfl)
                    · refine lv_iload_n hex hby dX10_fault_90 rfl (lv_at hl 0 rfl) ?_
                      exact hret _ _ _ _ (Or.inl ⟨rfl, _, rfl, rfl, dX10_fault_91⟩) ⟨_, rfl, Or.inl ⟨i, rfl, (by omega), (Or.inr (Or.inr ⟨hall2, by omega, by omega, Or.inl ⟨i, by omega, rfl, ⟨by omega, by omega, by omega⟩, hno⟩⟩))⟩⟩
                  · refine nv_if_eq (tgt := 92) hex hby dX10_fault_68 (by decide) (by omega) (fun _ => ?_) (fun c => absurd c (by omega))
                    refine lv_iinc (v := nI (i + 1)) (lv' := [(1, .int (nI (i + 1))), (0, .ref h)]) hex hby dX10_fault_92 hl (k := 0) rfl (ni_inc _) (by decide) rfl (fun ls hl => ?_)
                    refine lv_goto (tgt := 50) hex hby dX10_fault_95 (by decide) ?_
                    have pf_9 : ∀ j, j < (i + 1) → ¬ bdS tx tl j := by
                      intro j h h2
                      rcases Nat.lt_or_ge j i with q | q
                      · exact hno j q h2
                      · rw [show j = i by omega] at h2; have := h2.1; have := h2.2.1; omega
                    exact ih50 (i + 1) (by omega) (by omega) pf_9 _ (lv_sub hl [0, 1] rfl)
            exact loop50 _ 0 (Nat.lt_succ_self _) (by omega) (fun j h => absurd h (by omega)) _ (lv_sub hl [0, 1] rfl)
          · refine lv_aload_n hex hby dX10_fault_43 rfl (lv_at hl 1 rfl) ?_
            refine nv_get (v := .int (nI tl)) CFx in_X10_fault_X10 hK hP 0 rfl rfl 15 (by decide) (List.mem_of_getElem? (i := 1) rfl) f_length dX10_fault_44 ?_
            exact hret _ _ _ _ (Or.inl ⟨rfl, _, rfl, rfl, dX10_fault_47⟩) ⟨_, rfl, Or.inl ⟨tl, rfl, (by omega), (Or.inr (Or.inl ⟨hall2, by omega, rfl⟩))⟩⟩
      · refine lv_aload_n hex hby dX10_fault_10 rfl (lv_at hl 1 rfl) ?_
        refine lv_iload_n hex hby dX10_fault_11 rfl (lv_at hl 0 rfl) ?_
        refine ro_Vi (As := [.int (nI i)]) (rest := []) CFx (c_X10_isWell (h := h) (aX := aX) (fs := fs) (tx := tx) (i := i) f_text htx (by omega)) 1 gX10_fault_X10_isWell rfl nd_X10_isWell ⟨Nat.le_of_ble_eq_true rfl, Nat.le_of_ble_eq_true rfl⟩ hK hP [0, 1] rfl rfl rfl rfl hl.1 rfl (Nat.le_of_ble_eq_true rfl) dX10_fault_12 ⟨Nat.le_refl _, Nat.le_refl _⟩ (fun r_10 hr_10 => ?_)
        rcases hr_10 with ⟨rfl, hw⟩ | ⟨rfl, hnw⟩
        · refine nv_if_ne (tgt := 20) hex hby dX10_fault_15 (by decide) (by omega) (fun _ => ?_) (fun c => absurd c (by omega))
          refine lv_iinc (v := nI (i + 1)) (lv' := [(1, .int (nI (i + 1))), (0, .ref h)]) hex hby dX10_fault_20 hl (k := 0) rfl (ni_inc _) (by decide) rfl (fun ls hl => ?_)
          refine lv_goto (tgt := 2) hex hby dX10_fault_23 (by decide) ?_
          have pf_11 : ∀ j, j < (i + 1) → wl tx j := by
            intro j h
            rcases Nat.lt_or_ge j i with q | q
            · exact hall j q
            · rw [show j = i by omega]; exact hw
          exact ih2 (i + 1) (by omega) (by omega) pf_11 _ (lv_sub hl [0, 1] rfl)
        · refine nv_if_ne (tgt := 20) hex hby dX10_fault_15 (by decide) (by omega) (fun c => absurd c (by omega)) (fun _ => ?_)
          refine lv_iload_n hex hby dX10_fault_18 rfl (lv_at hl 0 rfl) ?_
          exact hret _ _ _ _ (Or.inl ⟨rfl, _, rfl, rfl, dX10_fault_19⟩) ⟨_, rfl, Or.inl ⟨i, rfl, (by omega), (Or.inl ⟨i, by omega, rfl, hnw, hall⟩)⟩⟩
  exact loop2 _ 0 (Nat.lt_succ_self _) (by omega) (fun j h => absurd h (by omega)) _ (lv_sub hl [0, 1] rfl)
theorem nd_X6_takeFrom : ndV yX6_takeFrom RX6 1 := by decide +kernel
theorem in_X6_takeFrom_X6 : ∀ w ∈ wsX60, w ∈ wsX6_takeFrom := fun _ h => List.mem_cons_of_mem _ (List.mem_append_left _ (List.mem_append_right _ (h)))
set_option maxHeartbeats 4000000 in
set_option maxRecDepth 100000 in
theorem c_X6_takeFrom {hs_ : Nat} {aV : Nat} {hx_ : Nat} {aX : Nat} {v0 : Value} {V0 : Nat → Nat} {fx : List Value} {tl : Nat} {tx : Nat → Nat} (ftl : fx[0]? = some (.int (nI tl))) (faX : fx[1]? = some (.ref aX)) (hV0 : ∀ j, V0 j < 100) (htx : ∀ j, tx j < 128) (htl : tl ≤ 80) (hf : Flt tx tl (-1)) : MU l yX6_takeFrom wsX6_takeFrom 1 22 (dC, dI) (tyK cI cZ cS) [(hs_, .inr (6, [v0, .ref aV])), (aV, .inl (cI, 32, .inl (nA V0))), (hx_, .inr (8, fx)), (aX, .inl (cI, 80, .inl (nA tx)))] [] [.ref hs_, .ref hx_] (fun rv_ (u_ : (Nat → Nat)) => rV ((∀ j, j < 4 * (tl / 9) → u_ j = rdT tx j) ∧ (∀ j, u_ j < 100)) rv_) (fun (u_ : (Nat → Nat)) => [(hs_, .inr (6, [.int (nI (tl / 9)), .ref aV])), (aV, .inl (cI, 32, .inl (nA u_))), (hx_, .inr (8, fx)), (aX, .inl (cI, 80, .inl (nA tx)))]) := by
  refine mu_of (by decide) rfl (Nat.le_of_ble_eq_true rfl) ?_
  intro pp ee ss mm bb mt cd Q A CFx hP hK hD hS hA hTr hret ls hl
  obtain ⟨hex, hby, hml, hown, hts⟩ := id CFx
  have hl : lv_has ls 5 [(0, .ref hs_), (1, .ref hx_)] := hl
  obtain ⟨o1, o2, o3, o4, o5⟩ := hf.ok
  refine lv_aload_n hex hby dX6_takeFrom_0 rfl (lv_at hl 0 rfl) ?_
  refine lv_aload_n hex hby dX6_takeFrom_1 rfl (lv_at hl 1 rfl) ?_
  refine ro_Vi (As := []) (rest := [.ref hs_]) CFx (c_X8_countStates (hx_ := hx_) (fx := fx) (tl := tl) ftl htl) 0 gX6_takeFrom_X8_countStates rfl nd_X8_countStates ⟨Nat.le_of_ble_eq_true rfl, Nat.le_of_ble_eq_true rfl⟩ hK hP [2] rfl rfl rfl rfl hl.1 rfl (Nat.le_of_ble_eq_true rfl) dX6_takeFrom_2 ⟨Nat.le_refl _, Nat.le_refl _⟩ (fun r_1 hr_1 => ?_)
  obtain rfl := hr_1
  refine nv_put CFx in_X6_takeFrom_X6 tyX6 tyX6_ok nmX6 hK hP hD hS 0 rfl rfl 0 (by decide) (List.mem_of_getElem? (i := 1) rfl) rfl (by decide +kernel) (Nat.le_of_ble_eq_true rfl) dX6_takeFrom_5 (fun H locs hP hD hS => ?_)
  have hP : va_P (dC, dI) vwCl [(hs_, .inr (6, [.int (nI (tl / 9)), .ref aV])), (aV, .inl (cI, 32, .inl (nA V0))), (hx_, .inr (8, fx)), (aX, .inl (cI, 80, .inl (nA tx)))] H := hP
  have hD : va_D A [(hs_, .inr (6, [.int (nI (tl / 9)), .ref aV])), (aV, .inl (cI, 32, .inl (nA V0))), (hx_, .inr (8, fx)), (aX, .inl (cI, 80, .inl (nA tx)))] := hD
  refine lv_iconst (v := nI 0) hex hby dX6_takeFrom_8 rfl ?_
  refine lv_istore_n (lv' := [(2, .int (nI 0)), (0, .ref hs_), (1, .ref hx_)]) hex hby dX6_takeFrom_9 rfl hl (by decide) rfl (fun ls hl => ?_)
  have loop10 : ∀ (nn : Nat) (s : Nat) (Vs : Nat → Nat), (tl / 9 - s) < nn → (s ≤ tl / 9) → (∀ j, Vs j < 100) → (∀ j, j < 4 * s → Vs j = rdT tx j) → ∀ (H : Heap) (locs : List Loc), va_P (dC, dI) vwCl [(hs_, .inr (6, [.int (nI (tl / 9)), .ref aV])), (aV, .inl (cI, 32, .inl (nA Vs))), (hx_, .inr (8, fx)), (aX, .inl (cI, 80, .inl (nA tx)))] H → va_D A [(hs_, .inr (6, [.int (nI (tl / 9)), .ref aV])), (aV, .inl (cI, 32, .inl (nA Vs))), (hx_, .inr (8, fx)), (aX, .inl (cI, 80, .inl (nA tx)))] → va_S A ss.heap H locs → ∀ ls : Array Slot, lv_has ls 5 [(2, .int (nI s)), (0, .ref hs_), (1, .ref hx_)] → W pp l ee (rmO 1 22) ss mm ([.ref hs_, .ref hx_] : List Value).toArray bb mt cd H locs 0 0 Q (F0 mm 10 ls []) := by
    intro nn
    induction nn with
    | zero => intro s Vs hms10; exact absurd hms10 (Nat.not_lt_zero _)
    | succ nn ih10 =>
      intro s Vs hms10 hs hvs hd H locs hP hD hS ls hl
      refine lv_iload_n hex hby dX6_takeFrom_10 rfl (lv_at hl 0 rfl) ?_
      refine lv_aload_n hex hby dX6_takeFrom_11 rfl (lv_at hl 1 rfl) ?_
      refine nv_get (v := .int (nI (tl / 9))) CFx in_X6_takeFrom_X6 hK hP 0 rfl rfl 0 (by decide) (List.mem_of_getElem? (i := 1) rfl) rfl dX6_takeFrom_12 ?_
      refine nv_icmp_ge (tgt := 69) hex hby dX6_takeFrom_15 (by decide) (by omega) (by omega) (fun c_2 => ?_) (fun c_2 => ?_)
      · exact hret _ Vs _ _ _ _ _ (Or.inr (Or.inr (Or.inl ⟨rfl, rfl, rfl, dX6_takeFrom_69⟩))) ⟨rfl, ⟨(fun j h => hd j (by omega)), hvs⟩⟩ hP hD hS
      · refine lv_iconst (v := nI 0) hex hby dX6_takeFrom_18 rfl ?_
        refine lv_istore_n (lv' := [(3, .int (nI 0)), (2, .int (nI s)), (0, .ref hs_), (1, .ref hx_)]) hex hby dX6_takeFrom_19 rfl hl (by decide) rfl (fun ls hl => ?_)
        have loop20 : ∀ (nn : Nat) (p : Nat) (Vp : Nat → Nat), (4 - p) < nn → (p ≤ 4) → (∀ j, Vp j < 100) → (∀ j, j < 4 * s + p → Vp j = rdT tx j) → ∀ (H : Heap) (locs : List Loc), va_P (dC, dI) vwCl [(hs_, .inr (6, [.int (nI (tl / 9)), .ref aV])), (aV, .inl (cI, 32, .inl (nA Vp))), (hx_, .inr (8, fx)), (aX, .inl (cI, 80, .inl (nA tx)))] H → va_D A [(hs_, .inr (6, [.int (nI (tl / 9)), .ref aV])), (aV, .inl (cI, 32, .inl (nA Vp))), (hx_, .inr (8, fx)), (aX, .inl (cI, 80, .inl (nA tx)))] → va_S A ss.heap H locs → ∀ ls : Array Slot, lv_has ls 5 [(3, .int (nI p)), (2, .int (nI s)), (0, .ref hs_), (1, .ref hx_)] → W pp l ee (rmO 1 22) ss mm ([.ref hs_, .ref hx_] : List Value).toArray bb mt cd H locs 0 0 Q (F0 mm 20 ls []) := by
          intro nn
          induction nn with
          | zero => intro p Vp hms20; exact absurd hms20 (Nat.not_lt_zero _)
          | succ nn ih20 =>
            intro p Vp hms20 hp hvp hdp H locs hP hD hS ls hl
            refine lv_iload_n hex hby dX6_takeFrom_20 rfl (lv_at hl 0 rfl) ?_
            refine lv_iconst (v := nI 4) hex hby dX6_takeFrom_21 rfl ?_
            refine nv_icmp_ge (tgt := 63) hex hby dX6_takeFrom_22 (by decide) (by omega) (by omega) (fun c_3 => ?_) (fun c_3 => ?_)
            · refine lv_iinc (v := nI (s + 1)) (lv' := [(2, .int (nI (s + 1))), (3, .int (nI p)), (0, .ref hs_), (1, .ref hx_)]) hex hby dX6_takeFrom_63 hl (k := 1) rfl (ni_inc _) (by decide) rfl (fun ls hl => ?_)
              refine lv_goto (tgt := 10) hex hby dX6_takeFrom_66 (by decide) ?_
              exact ih10 (s + 1) Vp (by omega) (by omega) hvp (fun j h => hdp j (by omega)) _ _ hP hD hS _ (lv_sub hl [0, 2, 3] rfl)
            · have hd1 := wl_dig (o1 (9 * s + p) (by omega)) (by omega)
              have hd2 := wl_dig (o1 (9 * s + (4 + p)) (by omega)) (by omega)
              refine lv_aload_n hex hby dX6_takeFrom_25 rfl (lv_at hl 3 rfl) ?_
              refine lv_iload_n hex hby dX6_takeFrom_26 rfl (lv_at hl 1 rfl) ?_
              refine lv_iload_n hex hby dX6_takeFrom_27 rfl (lv_at hl 0 rfl) ?_
              refine ro_Vi (As := [.int (nI s), .int (nI p)]) (rest := []) CFx (c_X8_digitAt (hx_ := hx_) (aX := aX) (fx := fx) (tx := tx) (s := s) (k := p) faX htx (by omega) (by omega)) 2 gX6_takeFrom_X8_digitAt rfl nd_X8_digitAt ⟨Nat.le_of_ble_eq_true rfl, Nat.le_of_ble_eq_true rfl⟩ hK hP [2, 3] rfl rfl rfl rfl hl.1 rfl (Nat.le_of_ble_eq_true rfl) dX6_takeFrom_28 ⟨Nat.le_refl _, Nat.le_refl _⟩ (fun r_4 hr_4 => ?_)
              obtain rfl := hr_4
              refine lv_istore (lv' := [(4, .int (nI (tx (9 * s + p) - 48))), (3, .int (nI p)), (2, .int (nI s)), (0, .ref hs_), (1, .ref hx_)]) hex hby dX6_takeFrom_31 hl (by decide) rfl (fun ls hl => ?_)
              refine lv_aload_n hex hby dX6_takeFrom_33 rfl (lv_at hl 3 rfl) ?_
              refine nv_get (v := .ref aV) CFx in_X6_takeFrom_X6 hK hP 0 rfl rfl 1 (by decide) (List.mem_of_getElem? (i := 2) rfl) rfl dX6_takeFrom_34 ?_
              refine lv_iconst (v := nI 4) hex hby dX6_takeFrom_37 rfl ?_
              refine lv_iload_n hex hby dX6_takeFrom_38 rfl (lv_at hl 2 rfl) ?_
              refine nv_imul hex hby dX6_takeFrom_39 ?_
              refine lv_iload_n hex hby dX6_takeFrom_40 rfl (lv_at hl 1 rfl) ?_
              refine nv_iadd hex hby dX6_takeFrom_41 ?_
              refine lv_bipush (v := nI 10) hex hby dX6_takeFrom_42 rfl ?_
              refine lv_iload hex hby dX6_takeFrom_44 (lv_at hl 0 rfl) ?_
              refine nv_imul hex hby dX6_takeFrom_46 ?_
              refine lv_aload_n hex hby dX6_takeFrom_47 rfl (lv_at hl 4 rfl) ?_
              refine lv_iload_n hex hby dX6_takeFrom_48 rfl (lv_at hl 2 rfl) ?_
              refine lv_iconst (v := nI 4) hex hby dX6_takeFrom_49 rfl ?_
              refine lv_iload_n hex hby dX6_takeFrom_50 rfl (lv_at hl 1 rfl) ?_
              refine nv_iadd hex hby dX6_takeFrom_51 ?_
              refine ro_Vi (As := [.int (nI s), .int (nI (4 + p))]) (rest := [.int (nI (10 * (tx (9 * s + p) - 48))), .int (nI (4 * s + p)), .ref aV]) CFx (c_X8_digitAt (hx_ := hx_) (aX := aX) (fx := fx) (tx := tx) (s := s) (k := 4 + p) faX htx (by omega) (by omega)) 2 gX6_takeFrom_X8_digitAt rfl nd_X8_digitAt ⟨Nat.le_of_ble_eq_true rfl, Nat.le_of_ble_eq_true rfl⟩ hK hP [2, 3] rfl rfl rfl rfl hl.1 rfl (Nat.le_of_ble_eq_true rfl) dX6_takeFrom_52 ⟨Nat.le_refl _, Nat.le_refl _⟩ (fun r_5 hr_5 => ?_)
              obtain rfl := hr_5
              refine nv_iadd hex hby dX6_takeFrom_55 ?_
              refine nv_iast hex hby hK hP hD hS 1 0 rfl rfl (by omega) (by omega) dX6_takeFrom_56 (fun H locs hP hD hS => ?_)
              have hP : va_P (dC, dI) vwCl [(hs_, .inr (6, [.int (nI (tl / 9)), .ref aV])), (aV, .inl (cI, 32, .inl (nA (upN Vp (4 * s + p) (10 * (tx (9 * s + p) - 48) + (tx (9 * s + (4 + p)) - 48)))))), (hx_, .inr (8, fx)), (aX, .inl (cI, 80, .inl (nA tx)))] H := hP
              have hD : va_D A [(hs_, .inr (6, [.int (nI (tl / 9)), .ref aV])), (aV, .inl (cI, 32, .inl (nA (upN Vp (4 * s + p) (10 * (tx (9 * s + p) - 48) + (tx (9 * s + (4 + p)) - 48)))))), (hx_, .inr (8, fx)), (aX, .inl (cI, 80, .inl (nA tx)))] := hD
              have hB_6 := upN_lt (k := 4 * s + p) (x := 10 * (tx (9 * s + p) - 48) + (tx (9 * s + (4 + p)) - 48)) hvp (by omega)
              refine lv_iinc (v := nI (p + 1)) (lv' := [(3, .int (nI (p + 1))), (4, .int (nI (tx (9 * s + p) - 48))), (2, .int (nI s)), (0, .ref hs_), (1, .ref hx_)]) hex hby dX6_takeFrom_57 hl (k := 1) rfl (ni_inc _) (by decide) rfl (fun ls hl => ?_)
              refine lv_goto (tgt := 20) hex hby dX6_takeFrom_60 (by decide) ?_
              have pf_7 : ∀ j, j < 4 * s + (p + 1) → (upN Vp (4 * s + p) (10 * (tx (9 * s + p) - 48) + (tx (9 * s + (4 + p)) - 48))) j = rdT tx j := by
                intro j h
                rcases Nat.lt_or_ge j (4 * s + p) with q | q
                · rw [upN_n (by omega)]; exact hdp j q
                · rw [show j = 4 * s + p by omega, upN_s, rdT_at tx s (by omega), ← Nat.add_assoc]
              exact ih20 (p + 1) (upN Vp (4 * s + p) (10 * (tx (9 * s + p) - 48) + (tx (9 * s + (4 + p)) - 48))) (by omega) (by omega) hB_6 pf_7 _ _ hP hD hS _ (lv_sub hl [0, 2, 3, 4] rfl)
        exact loop20 _ 0 Vs (Nat.lt_succ_self _) (by omega) hvs (fun j h => hd j (by omega)) _ _ hP hD hS _ (lv_sub hl [0, 1, 2, 3] rfl)
  exact loop10 _ 0 V0 (Nat.lt_succ_self _) (by omega) hV0 (fun j h => absurd h (by omega)) _ _ hP hD hS _ (lv_sub hl [0, 1, 2] rfl)
theorem nd_X10_read : ndV yX10_read RX10 0 := by decide +kernel
theorem in_X10_read_X10 : ∀ w ∈ wsX100, w ∈ wsX10_read := fun _ h => List.mem_cons_of_mem _ (List.mem_append_right _ (h))
set_option maxHeartbeats 4000000 in
set_option maxRecDepth 100000 in
theorem c_X10_read {h : Nat} {aM : Nat} {aT : Nat} {aX : Nat} {aP : Nat} {aI : Nat} {aC : Nat} {aS : Nat} {aL : Nat} {aO : Nat} {m : Nat} {cu : Nat} {v4 : Value} {v5 : Value} {v6 : Value} {v7 : Value} {pc : Nat} {bk : Nat} {c : Nat} {tl : Nat} {v16 : Value} {v17 : Value} {v18 : Value} {v19 : Value} {v20 : Value} {v23 : Value} {v24 : Value} {v25 : Value} {v27 : Value} {v28 : Value} {sm : Nat → Nat} {tb : Nat → Nat} {tx : Nat → Nat} {P : Nat → Nat} {ix : Nat → Nat} {g : Nat → Nat} {S : Nat → Nat} {Lv : Nat → Nat} {O : Nat → Nat} (hsm : ∀ j, sm j < 9) (htb : ∀ j, tb j < 10) (htx : ∀ j, tx j < 128) (htl : tl ≤ 80) (hPb : ∀ j, P j < 4096) (hpc : pc ≤ 40) (hix : ∀ j, ix j < 4096) (hg : ∀ j, g j < 4096) (hSb : ∀ j, S j < 4096) (hLb : ∀ j, Lv j < 7) (hOb : ∀ j, O j < 4096) (hm1 : 1 ≤ m) (hm6 : m ≤ 6) (hbk : bk ≤ 8) : MU l yX10_read wsX10_read 3 73 (dC, dI) (tyK cI cZ cS) [(h, .inr (10, [.int (nI m), .int (nI cu), .ref aM, .ref aT, v4, v5, v6, v7, .ref aP, .int (nI pc), .int (nI bk), .ref aS, .ref aL, .int (nI c), .ref aX, .int (nI tl), v16, v17, v18, v19, v20, .ref aI, .ref aC, v23, v24, v25, .ref aO, v27, v28])), (aM, .inl (cI, 3, .inl (nA sm))), (aT, .inl (cI, 192, .inl (nA tb))), (aX, .inl (cI, 80, .inl (nA tx))), (aP, .inl (cI, 40, .inl (nA P))), (aI, .inl (cI, 4096, .inl (nA ix))), (aC, .inl (cI, 4096, .inl (nA g))), (aS, .inl (cI, 4096, .inl (nA S))), (aL, .inl (cI, 4096, .inl (nA Lv))), (aO, .inl (cI, 4096, .inl (nA O)))] [] [.ref h] (fun rv_ (u_ : Nat × (Nat → Nat) × (Nat → Nat) × (Nat → Nat) × (Nat → Nat) × Nat × (Nat → Nat) × (Nat → Nat) × (Nat → Nat)) => rI (fun r => (∃ k : Nat, r = zI (-3) ∧ Flt tx tl (k : Int) ∧ cu = u_.1 ∧ tb = u_.2.1 ∧ sm = u_.2.2.1 ∧ ix = u_.2.2.2.1 ∧ g = u_.2.2.2.2.1 ∧ c = u_.2.2.2.2.2.1 ∧ S = u_.2.2.2.2.2.2.1 ∧ Lv = u_.2.2.2.2.2.2.2.1 ∧ O = u_.2.2.2.2.2.2.2.2) ∨ (∃ st' : Nat → Nat, ∃ lv' : Nat → Nat, r = nI (tl / 9) ∧ Flt tx tl (-1) ∧ 2 = u_.1 ∧ upN sm 2 (tl / 9) = u_.2.2.1 ∧ (∀ j, u_.2.1 j < 10) ∧ TbOK (rdT tx) u_.2.1 2 (tl / 9) ∧ (∀ j, j < 128 → u_.2.1 j = tb j) ∧ NumOK (rdT tx) m u_.2.2.2.2.1 u_.2.2.2.1 ∧ (∀ j, u_.2.2.2.2.1 j < 4096) ∧ (∀ j, u_.2.2.2.1 j < 4096) ∧ DivC m pc bk (fun j => u_.2.2.2.1 (P j)) u_.2.2.2.2.2.1 st' lv' ∧ AG u_.2.2.2.2.2.1 st' lv' u_.2.2.2.2.2.2.1 u_.2.2.2.2.2.2.2.1 ∧ LfOK u_.2.2.2.2.2.1 st' u_.2.2.2.2.2.2.2.2 ∧ (∀ j, u_.2.2.2.2.2.2.1 j < 4096) ∧ (∀ j, u_.2.2.2.2.2.2.2.1 j < 7) ∧ (∀ j, u_.2.2.2.2.2.2.2.2 j < 4096))) rv_) (fun (u_ : Nat × (Nat → Nat) × (Nat → Nat) × (Nat → Nat) × (Nat → Nat) × Nat × (Nat → Nat) × (Nat → Nat) × (Nat → Nat)) => [(h, .inr (10, [.int (nI m), .int (nI u_.1), .ref aM, .ref aT, v4, v5, v6, v7, .ref aP, .int (nI pc), .int (nI bk), .ref aS, .ref aL, .int (nI u_.2.2.2.2.2.1), .ref aX, .int (nI tl), v16, v17, v18, v19, v20, .ref aI, .ref aC, v23, v24, v25, .ref aO, v27, v28])), (aM, .inl (cI, 3, .inl (nA u_.2.2.1))), (aT, .inl (cI, 192, .inl (nA u_.2.1))), (aX, .inl (cI, 80, .inl (nA tx))), (aP, .inl (cI, 40, .inl (nA P))), (aI, .inl (cI, 4096, .inl (nA u_.2.2.2.1))), (aC, .inl (cI, 4096, .inl (nA u_.2.2.2.2.1))), (aS, .inl (cI, 4096, .inl (nA u_.2.2.2.2.2.2.1))), (aL, .inl (cI, 4096, .inl (nA u_.2.2.2.2.2.2.2.1))), (aO, .inl (cI, 4096, .inl (nA u_.2.2.2.2.2.2.2.2)))]) := by
  refine mu_of (by decide) rfl (Nat.le_of_ble_eq_true rfl) ?_
  intro pp ee ss mm bb mt cd Q A CFx hP hK hD hS hA hTr hret ls hl
  obtain ⟨hex, hby, hml, hown, hts⟩ := id CFx
  have hl : lv_has ls 3 [(0, .ref h)] := hl
  refine lv_aload_n hex hby dX10_read_0 rfl (lv_at hl 0 rfl) ?_
  refine ro_Vi (As := []) (rest := []) CFx (c_X10_fault (h := h) (aX := aX) (fs := [.int (nI m), .int (nI cu), .ref aM, .ref aT, v4, v5, v6, v7, .ref aP, .int (nI pc), .int (nI bk), .ref aS, .ref aL, .int (nI c), .ref aX, .int (nI tl), v16, v17, v18, v19, v20, .ref aI, .ref aC, v23, v24, v25, .ref aO, v27, v28]) (tl := tl) (tx := tx) rfl rfl htx htl) 0 gX10_read_X10_fault rfl nd_X10_fault ⟨Nat.le_of_ble_eq_true rfl, Nat.le_of_ble_eq_true rfl⟩ hK hP [0, 3] rfl rfl rfl rfl hl.1 rfl (Nat.le_of_ble_eq_true rfl) dX10_read_1 ⟨Nat.le_refl _, Nat.le_refl _⟩ (fun r_1 hr_1 => ?_)
  rcases hr_1 with ⟨k, rfl, hk1, hk2⟩ | ⟨rfl, hf⟩
  · refine nv_if_lt (tgt := 10) hex hby dX10_read_4 (by decide) (by omega) ?_
    refine lv_bipush (v := zI (-3)) hex hby dX10_read_7 rfl ?_
    exact hret _ (cu, tb, sm, ix, g, c, S, Lv, O) _ _ _ _ _ (Or.inl ⟨rfl, _, rfl, rfl, dX10_read_9⟩) ⟨_, rfl, Or.inl ⟨k, rfl, hk2, rfl, rfl, rfl, rfl, rfl, rfl, rfl, rfl, rfl⟩⟩ hP hD hS
  · obtain ⟨o1, o2, o3, o4, o5⟩ := hf.ok
    refine ni_if_lt (tgt := 10) (a := -1) hex hby dX10_read_4 (by decide) (zI_toInt (by omega) (by omega)) (fun c_2 => ?_) (fun c_2 => absurd c_2 (by omega))
    refine lv_aload_n hex hby dX10_read_10 rfl (lv_at hl 0 rfl) ?_
    refine nv_get (v := .int (nI tl)) CFx in_X10_read_X10 hK hP 0 rfl rfl 15 (by decide) (List.mem_of_getElem? (i := 1) rfl) rfl dX10_read_11 ?_
    refine lv_bipush (v := nI 9) hex hby dX10_read_14 rfl ?_
    refine nv_idiv hex hby dX10_read_16 (by omega) (by omega) (by omega) ?_
    refine lv_istore_n (lv' := [(1, .int (nI (tl / 9))), (0, .ref h)]) hex hby dX10_read_17 rfl hl (by decide) rfl (fun ls hl => ?_)
    refine lv_iconst (v := nI 0) hex hby dX10_read_18 rfl ?_
    refine lv_istore_n (lv' := [(2, .int (nI 0)), (1, .int (nI (tl / 9))), (0, .ref h)]) hex hby dX10_read_19 rfl hl (by decide) rfl (fun ls hl => ?_)
    have loop20 : ∀ (nn : Nat) (i : Nat) (tbd : Nat → Nat), (tl - i) < nn → (i ≤ tl) → (∀ j, tbd j < 10) → (∀ j, j < i → j % 9 < 8 → tbd (128 + 8 * (j / 9) + j % 9) = tx j - 48) → (∀ j, j < 128 → tbd j = tb j) → ∀ (H : Heap) (locs : List Loc), va_P (dC, dI) vwCl [(h, .inr (10, [.int (nI m), .int (nI cu), .ref aM, .ref aT, v4, v5, v6, v7, .ref aP, .int (nI pc), .int (nI bk), .ref aS, .ref aL, .int (nI c), .ref aX, .int (nI tl), v16, v17, v18, v19, v20, .ref aI, .ref aC, v23, v24, v25, .ref aO, v27, v28])), (aM, .inl (cI, 3, .inl (nA sm))), (aT, .inl (cI, 192, .inl (nA tbd))), (aX, .inl (cI, 80, .inl (nA tx))), (aP, .inl (cI, 40, .inl (nA P))), (aI, .inl (cI, 4096, .inl (nA ix))), (aC, .inl (cI, 4096, .inl (nA g))), (aS, .inl (cI, 4096, .inl (nA S))), (aL, .inl (cI, 4096, .inl (nA Lv))), (aO, .inl (cI, 4096, .inl (nA O)))] H → va_D A [(h, .inr (10, [.int (nI m), .int (nI cu), .ref aM, .ref aT, v4, v5, v6, v7, .ref aP, .int (nI pc), .int (nI bk), .ref aS, .ref aL, .int (nI c), .ref aX, .int (nI tl), v16, v17, v18, v19, v20, .ref aI, .ref aC, v23, v24, v25, .ref aO, v27, v28])), (aM, .inl (cI, 3, .inl (nA sm))), (aT, .inl (cI, 192, .inl (nA tbd))), (aX, .inl (cI, 80, .inl (nA tx))), (aP, .inl (cI, 40, .inl (nA P))), (aI, .inl (cI, 4096, .inl (nA ix))), (aC, .inl (cI, 4096, .inl (nA g))), (aS, .inl (cI, 4096, .inl (nA S))), (aL, .inl (cI, 4096, .inl (nA Lv))), (aO, .inl (cI, 4096, .inl (nA O)))] → va_S A ss.heap H locs → ∀ ls : Array Slot, lv_has ls 3 [(2, .int (nI i)), (1, .int (nI (tl / 9))), (0, .ref h)] → W pp l ee (rmO 3 73) ss mm ([.ref h] : List Value).toArray bb mt cd H locs 0 0 Q (F0 mm 20 ls []) := by
      intro nn
      induction nn with
      | zero => intro i tbd hms20; exact absurd hms20 (Nat.not_lt_zero _)
      | succ nn ih20 =>
        intro i tbd hms20 hi htd htv hto H locs hP hD hS ls hl
        refine lv_iload_n hex hby dX10_read_20 rfl (lv_at hl 0 rfl) ?_
        refine lv_aload_n hex hby dX10_read_21 rfl (lv_at hl 2 rfl) ?_
        refine nv_get (v := .int (nI tl)) CFx in_X10_read_X10 hK hP 0 rfl rfl 15 (by decide) (List.mem_of_getElem? (i := 1) rfl) rfl dX10_read_22 ?_
        refine nv_icmp_ge (tgt := 73) hex hby dX10_read_25 (by decide) (by omega) (by omega) (fun c_3 => ?_) (fun c_3 => ?_)
        · have hei : i = tl := by omega
          have htv : ∀ j, j < tl → j % 9 < 8 → tbd (128 + 8 * (j / 9) + j % 9) = tx j - 48 := fun j h => htv j (by omega)
          refine lv_aload_n hex hby dX10_read_73 rfl (lv_at hl 2 rfl) ?_
          refine nv_get (v := .ref aM) CFx in_X10_read_X10 hK hP 0 rfl rfl 2 (by decide) (List.mem_of_getElem? (i := 4) rfl) rfl dX10_read_74 ?_
          refine lv_iconst (v := nI 2) hex hby dX10_read_77 rfl ?_
          refine lv_iload_n hex hby dX10_read_78 rfl (lv_at hl 1 rfl) ?_
          refine nv_iast hex hby hK hP hD hS 1 0 rfl rfl (by omega) (by omega) dX10_read_79 (fun H locs hP hD hS => ?_)
          have hP : va_P (dC, dI) vwCl [(h, .inr (10, [.int (nI m), .int (nI cu), .ref aM, .ref aT, v4, v5, v6, v7, .ref aP, .int (nI pc), .int (nI bk), .ref aS, .ref aL, .int (nI c), .ref aX, .int (nI tl), v16, v17, v18, v19, v20, .ref aI, .ref aC, v23, v24, v25, .ref aO, v27, v28])), (aM, .inl (cI, 3, .inl (nA (upN sm 2 (tl / 9))))), (aT, .inl (cI, 192, .inl (nA tbd))), (aX, .inl (cI, 80, .inl (nA tx))), (aP, .inl (cI, 40, .inl (nA P))), (aI, .inl (cI, 4096, .inl (nA ix))), (aC, .inl (cI, 4096, .inl (nA g))), (aS, .inl (cI, 4096, .inl (nA S))), (aL, .inl (cI, 4096, .inl (nA Lv))), (aO, .inl (cI, 4096, .inl (nA O)))] H := hP
          have hD : va_D A [(h, .inr (10, [.int (nI m), .int (nI cu), .ref aM, .ref aT, v4, v5, v6, v7, .ref aP, .int (nI pc), .int (nI bk), .ref aS, .ref aL, .int (nI c), .ref aX, .int (nI tl), v16, v17, v18, v19, v20, .ref aI, .ref aC, v23, v24, v25, .ref aO, v27, v28])), (aM, .inl (cI, 3, .inl (nA (upN sm 2 (tl / 9))))), (aT, .inl (cI, 192, .inl (nA tbd))), (aX, .inl (cI, 80, .inl (nA tx))), (aP, .inl (cI, 40, .inl (nA P))), (aI, .inl (cI, 4096, .inl (nA ix))), (aC, .inl (cI, 4096, .inl (nA g))), (aS, .inl (cI, 4096, .inl (nA S))), (aL, .inl (cI, 4096, .inl (nA Lv))), (aO, .inl (cI, 4096, .inl (nA O)))] := hD
          have hB_4 := upN_lt (k := 2) (x := tl / 9) hsm (by omega)
          refine lv_aload_n hex hby dX10_read_80 rfl (lv_at hl 2 rfl) ?_
          refine lv_iconst (v := nI 2) hex hby dX10_read_81 rfl ?_
          refine nv_put CFx in_X10_read_X10 tyX10 tyX10_ok nmX10 hK hP hD hS 0 rfl rfl 1 (by decide) (List.mem_of_getElem? (i := 5) rfl) rfl (by decide +kernel) (Nat.le_of_ble_eq_true rfl) dX10_read_82 (fun H locs hP hD hS => ?_)
          have hP : va_P (dC, dI) vwCl [(h, .inr (10, [.int (nI m), .int (nI 2), .ref aM, .ref aT, v4, v5, v6, v7, .ref aP, .int (nI pc), .int (nI bk), .ref aS, .ref aL, .int (nI c), .ref aX, .int (nI tl), v16, v17, v18, v19, v20, .ref aI, .ref aC, v23, v24, v25, .ref aO, v27, v28])), (aM, .inl (cI, 3, .inl (nA (upN sm 2 (tl / 9))))), (aT, .inl (cI, 192, .inl (nA tbd))), (aX, .inl (cI, 80, .inl (nA tx))), (aP, .inl (cI, 40, .inl (nA P))), (aI, .inl (cI, 4096, .inl (nA ix))), (aC, .inl (cI, 4096, .inl (nA g))), (aS, .inl (cI, 4096, .inl (nA S))), (aL, .inl (cI, 4096, .inl (nA Lv))), (aO, .inl (cI, 4096, .inl (nA O)))] H := hP
          have hD : va_D A [(h, .inr (10, [.int (nI m), .int (nI 2), .ref aM, .ref aT, v4, v5, v6, v7, .ref aP, .int (nI pc), .int (nI bk), .ref aS, .ref aL, .int (nI c), .ref aX, .int (nI tl), v16, v17, v18, v19, v20, .ref aI, .ref aC, v23, v24, v25, .ref aO, v27, v28])), (aM, .inl (cI, 3, .inl (nA (upN sm 2 (tl / 9))))), (aT, .inl (cI, 192, .inl (nA tbd))), (aX, .inl (cI, 80, .inl (nA tx))), (aP, .inl (cI, 40, .inl (nA P))), (aI, .inl (cI, 4096, .inl (nA ix))), (aC, .inl (cI, 4096, .inl (nA g))), (aS, .inl (cI, 4096, .inl (nA S))), (aL, .inl (cI, 4096, .inl (nA Lv))), (aO, .inl (cI, 4096, .inl (nA O)))] := hD
          have hTb : TbOK (rdT tx) tbd 2 (tl / 9) := by
            intro s hs p hp
            have e1 := htv (9 * s + p) (by omega) (by omega)
            have e2 := htv (9 * s + 4 + p) (by omega) (by omega)
            rw [rdT_at tx s hp]
            rw [show 128 + 8 * ((9 * s + p) / 9) + (9 * s + p) % 9 = 64 * 2 + 8 * s + p by omega] at e1
            rw [show 128 + 8 * ((9 * s + 4 + p) / 9) + (9 * s + 4 + p) % 9 = 64 * 2 + 8 * s + 4 + p by omega] at e2
            rw [e1, e2]
          refine lv_aload_n hex hby dX10_read_85 rfl (lv_at hl 2 rfl) ?_
          refine mu_Vv (As := []) (rest := []) (wr := [(aM, .inl (cI, 3, .inl (nA (upN sm 2 (tl / 9))))), (aX, .inl (cI, 80, .inl (nA tx)))]) CFx (c_X10_numbers (h := h) (aT := aT) (aP := aP) (aI := aI) (aC := aC) (aS := aS) (aL := aL) (aO := aO) (m := m) (cu := 2) (v2 := .ref aM) (v4 := v4) (v5 := v5) (v6 := v6) (v7 := v7) (pc := pc) (bk := bk) (v13 := .int (nI c)) (v14 := .ref aX) (v15 := .int (nI tl)) (v16 := v16) (v17 := v17) (v18 := v18) (v19 := v19) (v20 := v20) (v23 := v23) (v24 := v24) (v25 := v25) (v27 := v27) (v28 := v28) (tb := tbd) (P := P) (ix0 := ix) (g0 := g) (S0 := S) (L0 := Lv) (O0 := O) (T := rdT tx) (ns := tl / 9) htd hPb hpc hix hg hSb hLb hOb hm1 hm6 hbk (by omega) (rd_VT hf) hTb) 0 gX10_read_X10_numbers rfl nd_X10_numbers ⟨Nat.le_of_ble_eq_true rfl, Nat.le_of_ble_eq_true rfl⟩ hK hP hD hS hA [0, 2, 4, 5, 6, 7, 8, 9] [1, 3] rfl rfl (by decide) (by decide) (by decide) TR.nil rfl rfl rfl hl.1 rfl (Nat.le_of_ble_eq_true rfl) dX10_read_86 ⟨Nat.le_refl _, Nat.le_refl _⟩ (fun u H locs hr_5 hP hD hS => ?_)
          obtain ⟨ix_6, g_7, c_8, S_9, L_10, O_11⟩ := u
          dsimp only at hr_5 hP hD
          have hP : va_P (dC, dI) vwCl [(aM, .inl (cI, 3, .inl (nA (upN sm 2 (tl / 9))))), (aX, .inl (cI, 80, .inl (nA tx))), (h, .inr (10, [.int (nI m), .int (nI 2), .ref aM, .ref aT, v4, v5, v6, v7, .ref aP, .int (nI pc), .int (nI bk), .ref aS, .ref aL, .int (nI c_8), .ref aX, .int (nI tl), v16, v17, v18, v19, v20, .ref aI, .ref aC, v23, v24, v25, .ref aO, v27, v28])), (aT, .inl (cI, 192, .inl (nA tbd))), (aP, .inl (cI, 40, .inl (nA P))), (aI, .inl (cI, 4096, .inl (nA ix_6))), (aC, .inl (cI, 4096, .inl (nA g_7))), (aS, .inl (cI, 4096, .inl (nA S_9))), (aL, .inl (cI, 4096, .inl (nA L_10))), (aO, .inl (cI, 4096, .inl (nA O_11)))] H := hP
          have hD : va_D A [(aM, .inl (cI, 3, .inl (nA (upN sm 2 (tl / 9))))), (aX, .inl (cI, 80, .inl (nA tx))), (h, .inr (10, [.int (nI m), .int (nI 2), .ref aM, .ref aT, v4, v5, v6, v7, .ref aP, .int (nI pc), .int (nI bk), .ref aS, .ref aL, .int (nI c_8), .ref aX, .int (nI tl), v16, v17, v18, v19, v20, .ref aI, .ref aC, v23, v24, v25, .ref aO, v27, v28])), (aT, .inl (cI, 192, .inl (nA tbd))), (aP, .inl (cI, 40, .inl (nA P))), (aI, .inl (cI, 4096, .inl (nA ix_6))), (aC, .inl (cI, 4096, .inl (nA g_7))), (aS, .inl (cI, 4096, .inl (nA S_9))), (aL, .inl (cI, 4096, .inl (nA L_10))), (aO, .inl (cI, 4096, .inl (nA O_11)))] := hD
          obtain ⟨sn, ln, hn0, hn1, hn2, hn3, hn4, hn5, hn6, hn7, hn8⟩ := hr_5
          refine lv_iload_n hex hby dX10_read_89 rfl (lv_at hl 1 rfl) ?_
          exact hret _ (2, tbd, upN sm 2 (tl / 9), ix_6, g_7, c_8, S_9, L_10, O_11) _ _ _ _ _ (Or.inl ⟨rfl, _, rfl, rfl, dX10_read_90⟩) ⟨_, rfl, Or.inr ⟨sn, ln, rfl, hf, rfl, rfl, htd, hTb, hto, hn0, hn1, hn2, hn3, hn4, hn5, hn6, hn7, hn8⟩⟩ (hP.sub [2, 0, 3, 1, 4, 5, 6, 7, 8, 9] rfl) (hD.sub [2, 0, 3, 1, 4, 5, 6, 7, 8, 9] (by decide) rfl) hS
        · refine lv_iload_n hex hby dX10_read_28 rfl (lv_at hl 0 rfl) ?_
          refine lv_bipush (v := nI 9) hex hby dX10_read_29 rfl ?_
          refine nv_irem hex hby dX10_read_31 (by omega) (by omega) (by omega) ?_
          refine lv_bipush (v := nI 8) hex hby dX10_read_32 rfl ?_
          refine nv_icmp_ge (tgt := 67) hex hby dX10_read_34 (by decide) (by omega) (by omega) (fun c_12 => ?_) (fun c_12 => ?_)
          · refine lv_iinc (v := nI (i + 1)) (lv' := [(2, .int (nI (i + 1))), (1, .int (nI (tl / 9))), (0, .ref h)]) hex hby dX10_read_67 hl (k := 0) rfl (ni_inc _) (by decide) rfl (fun ls hl => ?_)
            refine lv_goto (tgt := 20) hex hby dX10_read_70 (by decide) ?_
            exact ih20 (i + 1) tbd (by omega) (by omega) htd (fun j h1 h2 => htv j (by omega) h2) hto _ _ hP hD hS _ (lv_sub hl [0, 1, 2] rfl)
          · refine lv_aload_n hex hby dX10_read_37 rfl (lv_at hl 2 rfl) ?_
            refine nv_get (v := .ref aT) CFx in_X10_read_X10 hK hP 0 rfl rfl 3 (by decide) (List.mem_of_getElem? (i := 2) rfl) rfl dX10_read_38 ?_
            refine lv_sipush (v := nI 128) hex hby dX10_read_41 rfl ?_
            refine lv_bipush (v := nI 8) hex hby dX10_read_44 rfl ?_
            refine lv_iload_n hex hby dX10_read_46 rfl (lv_at hl 0 rfl) ?_
            refine lv_bipush (v := nI 9) hex hby dX10_read_47 rfl ?_
            refine nv_idiv hex hby dX10_read_49 (by omega) (by omega) (by omega) ?_
            refine nv_imul hex hby dX10_read_50 ?_
            refine nv_iadd hex hby dX10_read_51 ?_
            refine lv_iload_n hex hby dX10_read_52 rfl (lv_at hl 0 rfl) ?_
            refine lv_bipush (v := nI 9) hex hby dX10_read_53 rfl ?_
            refine nv_irem hex hby dX10_read_55 (by omega) (by omega) (by omega) ?_
            refine nv_iadd hex hby dX10_read_56 ?_
            have hdg := wl_dig (o1 i (by omega)) (by omega)
            refine lv_aload_n hex hby dX10_read_57 rfl (lv_at hl 2 rfl) ?_
            refine nv_get (v := .ref aX) CFx in_X10_read_X10 hK hP 0 rfl rfl 14 (by decide) (List.mem_of_getElem? (i := 3) rfl) rfl dX10_read_58 ?_
            refine lv_iload_n hex hby dX10_read_61 rfl (lv_at hl 0 rfl) ?_
            refine nv_iald hex hby hK hP 3 0 rfl rfl (by omega) (by omega) dX10_read_62 ?_
            have hb_13 := htx i
            refine lv_bipush (v := nI 48) hex hby dX10_read_63 rfl ?_
            refine nv_isub hex hby dX10_read_65 (by omega) ?_
            refine nv_iast hex hby hK hP hD hS 2 0 rfl rfl (by omega) (by omega) dX10_read_66 (fun H locs hP hD hS => ?_)
            have hP : va_P (dC, dI) vwCl [(h, .inr (10, [.int (nI m), .int (nI cu), .ref aM, .ref aT, v4, v5, v6, v7, .ref aP, .int (nI pc), .int (nI bk), .ref aS, .ref aL, .int (nI c), .ref aX, .int (nI tl), v16, v17, v18, v19, v20, .ref aI, .ref aC, v23, v24, v25, .ref aO, v27, v28])), (aM, .inl (cI, 3, .inl (nA sm))), (aT, .inl (cI, 192, .inl (nA (upN tbd (128 + 8 * (i / 9) + i % 9) (tx i - 48))))), (aX, .inl (cI, 80, .inl (nA tx))), (aP, .inl (cI, 40, .inl (nA P))), (aI, .inl (cI, 4096, .inl (nA ix))), (aC, .inl (cI, 4096, .inl (nA g))), (aS, .inl (cI, 4096, .inl (nA S))), (aL, .inl (cI, 4096, .inl (nA Lv))), (aO, .inl (cI, 4096, .inl (nA O)))] H := hP
            have hD : va_D A [(h, .inr (10, [.int (nI m), .int (nI cu), .ref aM, .ref aT, v4, v5, v6, v7, .ref aP, .int (nI pc), .int (nI bk), .ref aS, .ref aL, .int (nI c), .ref aX, .int (nI tl), v16, v17, v18, v19, v20, .ref aI, .ref aC, v23, v24, v25, .ref aO, v27, v28])), (aM, .inl (cI, 3, .inl (nA sm))), (aT, .inl (cI, 192, .inl (nA (upN tbd (128 + 8 * (i / 9) + i % 9) (tx i - 48))))), (aX, .inl (cI, 80, .inl (nA tx))), (aP, .inl (cI, 40, .inl (nA P))), (aI, .inl (cI, 4096, .inl (nA ix))), (aC, .inl (cI, 4096, .inl (nA g))), (aS, .inl (cI, 4096, .inl (nA S))), (aL, .inl (cI, 4096, .inl (nA Lv))), (aO, .inl (cI, 4096, .inl (nA O)))] := hD
            have hB_14 := upN_lt (k := 128 + 8 * (i / 9) + i % 9) (x := tx i - 48) htd (by omega)
            refine lv_iinc (v := nI (i + 1)) (lv' := [(2, .int (nI (i + 1))), (1, .int (nI (tl / 9))), (0, .ref h)]) hex hby dX10_read_67 hl (k := 0) rfl (ni_inc _) (by decide) rfl (fun ls hl => ?_)
            refine lv_goto (tgt := 20) hex hby dX10_read_70 (by decide) ?_
            have pf_15 : ∀ j, j < (i + 1) → j % 9 < 8 → (upN tbd (128 + 8 * (i / 9) + i % 9) (tx i - 48)) (128 + 8 * (j / 9) + j % 9) = tx j - 48 := by
              intro j h1 h2
              rcases Nat.lt_or_ge j i with q | q
              · rw [upN_n (by omega)]; exact htv j q h2
              · rw [show j = i by omega, upN_s]
            exact ih20 (i + 1) (upN tbd (128 + 8 * (i / 9) + i % 9) (tx i - 48)) (by omega) (by omega) hB_14 pf_15 (fun j h => by rw [upN_n (by omega)]; exact hto j h) _ _ hP hD hS _ (lv_sub hl [0, 1, 2] rfl)
    exact loop20 _ 0 tb (Nat.lt_succ_self _) (by omega) htb (fun j h => absurd h (by omega)) (fun _ _ => rfl) _ _ hP hD hS _ (lv_sub hl [0, 1, 2] rfl)
end READ
