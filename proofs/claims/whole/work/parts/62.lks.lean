theorem law_known {args : Array Value} {s : State} (hts0 : ∀ w ∈ lw_tbl, w.before args s = true) : ∃ (dC : Nat → ClassId) (dI : Nat → Nat → Nat), ∀ (k : Nat) (q : vw_C), vwCl[k]? = some q → u_Kn s q.1 q.2.1 q.2.2 (dC k) (dI k) := by
  obtain ⟨c0, i0, k0⟩ := u_known (C := RX0) (T := TX0) (N := 3) (n := 3) hts0 inX0 (hts0 _ (wsL_law_r2_in _ (List.mem_of_getElem? (i := 4) rfl)))
  obtain ⟨c1, i1, k1⟩ := u_known (C := RX1) (T := TX1) (N := 2) (n := 2) hts0 inX1 (hts0 _ (wsL_law_r3_in _ (List.mem_of_getElem? (i := 9) rfl)))
  obtain ⟨c2, i2, k2⟩ := u_known (C := RX2) (T := TX2) (N := 4) (n := 4) hts0 inX2 (hts0 _ (wsL_law_r2_in _ (List.mem_of_getElem? (i := 0) rfl)))
  obtain ⟨c3, i3, k3⟩ := u_known (C := RX3) (T := TX3) (N := 2) (n := 2) hts0 inX3 (hts0 _ (wsL_law_r3_in _ (List.mem_of_getElem? (i := 4) rfl)))
  obtain ⟨c4, i4, k4⟩ := u_known (C := RX4) (T := TX4) (N := 4) (n := 4) hts0 inX4 (hts0 _ (wsL_law_r3_in _ (List.mem_of_getElem? (i := 0) rfl)))
  obtain ⟨c5, i5, k5⟩ := u_known (C := RX5) (T := TX5) (N := 7) (n := 7) hts0 inX5 (hts0 _ (wsL_law_r1_in _ (List.mem_of_getElem? (i := 13) rfl)))
  obtain ⟨c6, i6, k6⟩ := u_known (C := RX6) (T := TX6) (N := 2) (n := 2) hts0 inX6 (hts0 _ (wsL_law_r2_in _ (List.mem_of_getElem? (i := 20) rfl)))
  obtain ⟨c7, i7, k7⟩ := u_known (C := RX7) (T := TX7) (N := 4) (n := 4) hts0 inX7 (hts0 _ (wsL_law_r2_in _ (List.mem_of_getElem? (i := 8) rfl)))
  obtain ⟨c8, i8, k8⟩ := u_known (C := RX8) (T := TX8) (N := 2) (n := 2) hts0 inX8 (hts0 _ (wsL_law_r1_in _ (List.mem_of_getElem? (i := 20) rfl)))
  obtain ⟨c9, i9, k9⟩ := u_known (C := RX9) (T := TX9) (N := 7) (n := 7) hts0 inX9 (hts0 _ (wsL_law_r1_in _ (List.mem_of_getElem? (i := 1) rfl)))
  obtain ⟨c10, i10, k10⟩ := u_known (C := RX10) (T := TX10) (N := 29) (n := 29) hts0 inX10 (hts0 _ (wsL_law_r1_in _ (List.mem_of_getElem? (i := 4) rfl)))
  refine ⟨fun k => [c0, c1, c2, c3, c4, c5, c6, c7, c8, c9, c10].getD k c0, fun k => [i0, i1, i2, i3, i4, i5, i6, i7, i8, i9, i10].getD k i0, ?_⟩
  intro k q hq
  match k, hq with
  | 0, hq => cases hq; exact k0
  | 1, hq => cases hq; exact k1
  | 2, hq => cases hq; exact k2
  | 3, hq => cases hq; exact k3
  | 4, hq => cases hq; exact k4
  | 5, hq => cases hq; exact k5
  | 6, hq => cases hq; exact k6
  | 7, hq => cases hq; exact k7
  | 8, hq => cases hq; exact k8
  | 9, hq => cases hq; exact k9
  | 10, hq => cases hq; exact k10
  | k + 11, hq => simp [vwCl] at hq
theorem law_arrs {args : Array Value} {s : State} (hts0 : ∀ w ∈ lw_tbl, w.before args s = true) : ∃ cI cZ cS : ClassId, ∀ (k : Nat) (q : ClassId × FieldType), (tyK cI cZ cS)[k]? = some q → ArrOfT s q.1 q.2 ∧ va_RA s q.1 q.2 := by
  obtain ⟨cI, kI, pI, a1, a2, a3⟩ := Cond.arrayClass_spec (hts0 _ (wsL_law_r3_in _ (List.mem_of_getElem? (i := 17) rfl)))
  obtain ⟨cZ, kZ, pZ, b1, b2, b3⟩ := Cond.arrayClass_spec (hts0 _ (wsL_law_r1_in _ (List.mem_of_getElem? (i := 17) rfl)))
  obtain ⟨pS, cS, kS, d1, d2, d3, d4, d5⟩ := Cond.arrayOver_spec (n := RX5) (hts0 (.arrayOver (.object RX5)) (by decide +kernel))
  refine ⟨cI, cZ, cS, ?_⟩
  intro k q hq
  match k, hq with
  | 0, hq => cases hq; exact ⟨fun n z => ⟨fun k h => (by cases h), kI, a2, pI, a3⟩, a1⟩
  | 1, hq => cases hq; exact ⟨fun n z => ⟨fun k h => (by cases h), kZ, b2, pZ, b3⟩, b1⟩
  | 2, hq => cases hq; exact ⟨fun n z => ⟨fun k h => (by cases h), kS, d3, pS, d4⟩, kS, pS, d3, d4, d1, d5⟩
  | k + 3, hq => simp at hq
theorem law_stat {b : Nat} {s : State} (hts0 : ∀ w ∈ lw_tbl, w.before #[Value.ref b] s = true) (hgv : (Jvm.Cond.and given_1 narrow_1).before #[Value.ref b] s = true) {A : Nat → Prop} (hold : ∀ a : Nat, a < s.heap.size → ¬ A a) : ∃ tM tH : Nat, STc tM tH A s s.heap := by
  have hs := flat_of_before _ hgv
  obtain ⟨tM, evM, hTM⟩ : ∃ t : Nat, (Term.static "CurveOrders" "MORTON_VISITS" "[I").eval #[Value.ref b] s none [] s = some (.ref t) ∧ va_T .int t 4 (fun j => .int (nA mortT j)) A s s.heap := by
    have hel : ∀ j : Nat, j < 4 → (Term.elem (.static "CurveOrders" "MORTON_VISITS" "[I") (.int (Int32.ofNat j))).eval #[Value.ref b] s none [] s = some (.int (nA mortT j)) := by
      intro j hj
      rcases (show j = 0 ∨ j = 1 ∨ j = 2 ∨ j = 3 by omega) with rfl | rfl | rfl | rfl
      · exact va_eqt (hs (Cond.eq (.elem (.static "CurveOrders" "MORTON_VISITS" "[I") (.int 0)) (.int 0)) (by decide +kernel))
      · exact va_eqt (hs (Cond.eq (.elem (.static "CurveOrders" "MORTON_VISITS" "[I") (.int 1)) (.int 10)) (by decide +kernel))
      · exact va_eqt (hs (Cond.eq (.elem (.static "CurveOrders" "MORTON_VISITS" "[I") (.int 2)) (.int 20)) (by decide +kernel))
      · exact va_eqt (hs (Cond.eq (.elem (.static "CurveOrders" "MORTON_VISITS" "[I") (.int 3)) (.int 30)) (by decide +kernel))
    exact va_Tof (by decide) (hs (Cond.arrayOf (.static "CurveOrders" "MORTON_VISITS" "[I") .int) (by decide +kernel)) (va_eqt (hs (Cond.eq (.length (.static "CurveOrders" "MORTON_VISITS" "[I")) (.int 4)) (by decide +kernel))) hel hold
  obtain ⟨tH, evH, hTH⟩ : ∃ t : Nat, (Term.static "CurveOrders" "HILBERT_VISITS" "[I").eval #[Value.ref b] s none [] s = some (.ref t) ∧ va_T .int t 16 (fun j => .int (nA hilT j)) A s s.heap := by
    have hel : ∀ j : Nat, j < 16 → (Term.elem (.static "CurveOrders" "HILBERT_VISITS" "[I") (.int (Int32.ofNat j))).eval #[Value.ref b] s none [] s = some (.int (nA hilT j)) := by
      intro j hj
      rcases (show j = 0 ∨ j = 1 ∨ j = 2 ∨ j = 3 ∨ j = 4 ∨ j = 5 ∨ j = 6 ∨ j = 7 ∨ j = 8 ∨ j = 9 ∨ j = 10 ∨ j = 11 ∨ j = 12 ∨ j = 13 ∨ j = 14 ∨ j = 15 by omega) with rfl | rfl | rfl | rfl | rfl | rfl | rfl | rfl | rfl | rfl | rfl | rfl | rfl | rfl | rfl | rfl
      · exact va_eqt (hs (Cond.eq (.elem (.static "CurveOrders" "HILBERT_VISITS" "[I") (.int 0)) (.int 1)) (by decide +kernel))
      · exact va_eqt (hs (Cond.eq (.elem (.static "CurveOrders" "HILBERT_VISITS" "[I") (.int 1)) (.int 20)) (by decide +kernel))
      · exact va_eqt (hs (Cond.eq (.elem (.static "CurveOrders" "HILBERT_VISITS" "[I") (.int 2)) (.int 30)) (by decide +kernel))
      · exact va_eqt (hs (Cond.eq (.elem (.static "CurveOrders" "HILBERT_VISITS" "[I") (.int 3)) (.int 12)) (by decide +kernel))
      · exact va_eqt (hs (Cond.eq (.elem (.static "CurveOrders" "HILBERT_VISITS" "[I") (.int 4)) (.int 0)) (by decide +kernel))
      · exact va_eqt (hs (Cond.eq (.elem (.static "CurveOrders" "HILBERT_VISITS" "[I") (.int 5)) (.int 11)) (by decide +kernel))
      · exact va_eqt (hs (Cond.eq (.elem (.static "CurveOrders" "HILBERT_VISITS" "[I") (.int 6)) (.int 31)) (by decide +kernel))
      · exact va_eqt (hs (Cond.eq (.elem (.static "CurveOrders" "HILBERT_VISITS" "[I") (.int 7)) (.int 23)) (by decide +kernel))
      · exact va_eqt (hs (Cond.eq (.elem (.static "CurveOrders" "HILBERT_VISITS" "[I") (.int 8)) (.int 33)) (by decide +kernel))
      · exact va_eqt (hs (Cond.eq (.elem (.static "CurveOrders" "HILBERT_VISITS" "[I") (.int 9)) (.int 22)) (by decide +kernel))
      · exact va_eqt (hs (Cond.eq (.elem (.static "CurveOrders" "HILBERT_VISITS" "[I") (.int 10)) (.int 2)) (by decide +kernel))
      · exact va_eqt (hs (Cond.eq (.elem (.static "CurveOrders" "HILBERT_VISITS" "[I") (.int 11)) (.int 10)) (by decide +kernel))
      · exact va_eqt (hs (Cond.eq (.elem (.static "CurveOrders" "HILBERT_VISITS" "[I") (.int 12)) (.int 32)) (by decide +kernel))
      · exact va_eqt (hs (Cond.eq (.elem (.static "CurveOrders" "HILBERT_VISITS" "[I") (.int 13)) (.int 13)) (by decide +kernel))
      · exact va_eqt (hs (Cond.eq (.elem (.static "CurveOrders" "HILBERT_VISITS" "[I") (.int 14)) (.int 3)) (by decide +kernel))
      · exact va_eqt (hs (Cond.eq (.elem (.static "CurveOrders" "HILBERT_VISITS" "[I") (.int 15)) (.int 21)) (by decide +kernel))
    exact va_Tof (by decide) (hs (Cond.arrayOf (.static "CurveOrders" "HILBERT_VISITS" "[I") .int) (by decide +kernel)) (va_eqt (hs (Cond.eq (.length (.static "CurveOrders" "HILBERT_VISITS" "[I")) (.int 16)) (by decide +kernel))) hel hold
  refine ⟨tM, tH, ?_, va_AO.of (hts0 (.arrayOver (.object RX5)) (by decide +kernel)), va_Zof (hts0 (.laysStatic RX9 "MORTON_VISITS" "[I") (by decide +kernel)) (hts0 _ (wsL_law_r1_in _ (List.mem_of_getElem? (i := 2) rfl))) evM hold, va_Zof (hts0 (.laysStatic RX9 "HILBERT_VISITS" "[I") (by decide +kernel)) (hts0 _ (wsL_law_r1_in _ (List.mem_of_getElem? (i := 2) rfl))) evH hold, hTM, hTH⟩
  intro w hw
  simp only [nwL, List.mem_cons, List.not_mem_nil, or_false] at hw
  rcases hw with rfl | rfl | rfl | rfl | rfl | rfl | rfl | rfl | rfl | rfl
  · exact va_Nw.of rfl (hts0 _ (by decide +kernel))
  · exact va_Nw.of rfl (hts0 _ (by decide +kernel))
  · exact va_Nw.of rfl (hts0 _ (by decide +kernel))
  · exact va_Nw.of rfl (hts0 _ (by decide +kernel))
  · exact va_Nw.of rfl (hts0 _ (by decide +kernel))
  · exact va_Nw.of rfl (hts0 _ (by decide +kernel))
  · exact va_Nw.of rfl (hts0 _ (by decide +kernel))
  · exact va_Nw.of rfl (hts0 _ (by decide +kernel))
  · exact va_Nw.of rfl (hts0 _ (by decide +kernel))
  · exact va_Nw.of rfl (hts0 _ (by decide +kernel))
