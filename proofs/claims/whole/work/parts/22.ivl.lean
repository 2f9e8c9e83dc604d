section IVL
variable {l : Launch} {dC : Nat → ClassId} {dI : Nat → Nat → Nat} {cI cZ cS : ClassId}
theorem ctP_up (p : Nat → Prop) {a b : Nat} (h : a ≤ b) : ctP p a ≤ ctP p b := by
  induction b with
  | zero => rw [show a = 0 by omega]; exact Nat.le_refl _
  | succ b ih =>
    rcases Nat.lt_or_ge a (b + 1) with r | r
    · have := ih (by omega)
      rw [ctP]; omega
    · rw [show a = b + 1 by omega]; exact Nat.le_refl _
theorem nd_X4_holds : ndV yX4_holds RX4 2 := by decide +kernel
theorem in_X4_holds_X4 : ∀ w ∈ wsX40, w ∈ wsX4_holds := fun _ h => List.mem_cons_of_mem _ (List.mem_append_right _ (h))
set_option maxHeartbeats 4000000 in
set_option maxRecDepth 100000 in
theorem c_X4_holds {hr : Nat} {fr : List Value} {rl : Nat} {rb : Nat} {rr : Nat} {ra : Nat} {x : Nat} {y : Nat} (frl : fr[0]? = some (.int (nI rl))) (frb : fr[1]? = some (.int (nI rb))) (frr : fr[2]? = some (.int (nI rr))) (fra : fr[3]? = some (.int (nI ra))) (hrl : rl < 64) (hrb : rb < 64) (hrr : rr < 64) (hra : ra < 64) (hx0 : x < 64) (hy0 : y < 64) : RO l yX4_holds wsX4_holds 0 0 (dC, dI) (tyK cI cZ cS) [(hr, .inr (4, fr))] [.ref hr, .int (nI x), .int (nI y)] (rI (fun r => (r = nI 1 ∧ ((rl ≤ x ∧ x ≤ rr) ∧ rb ≤ y ∧ y ≤ ra)) ∨ (r = nI 0 ∧ (¬ ((rl ≤ x ∧ x ≤ rr) ∧ rb ≤ y ∧ y ≤ ra))))) := by
  refine ro_of (by decide) rfl (Nat.le_of_ble_eq_true rfl) ?_
  intro pp ee ss mm bb mt cd Q CFx hP hK hret ls hl
  obtain ⟨hex, hby, hml, hown, hts⟩ := id CFx
  have hl : lv_has ls 3 [(0, .ref hr), (1, .int (nI x)), (2, .int (nI y))] := hl
  refine lv_iload_n hex hby dX4_holds_0 rfl (lv_at hl 1 rfl) ?_
  refine lv_aload_n hex hby dX4_holds_1 rfl (lv_at hl 0 rfl) ?_
  refine nv_get (v := .int (nI rl)) CFx in_X4_holds_X4 hK hP 0 rfl rfl 0 (by decide) (List.mem_of_getElem? (i := 1) rfl) frl dX4_holds_2 ?_
  refine nv_icmp_lt (tgt := 36) hex hby dX4_holds_5 (by decide) (by omega) (by omega) (fun c_1 => ?_) (fun c_1 => ?_)
  · refine lv_iconst (v := nI 0) hex hby dX4_holds_36 rfl ?_
    exact hret _ _ _ _ (Or.inr (Or.inl ⟨rfl, _, (Or.inr rfl), rfl, rfl, dX4_holds_37⟩)) ⟨_, rfl, Or.inr ⟨rfl, (by omega)⟩⟩
  · refine lv_iload_n hex hby dX4_holds_8 rfl (lv_at hl 1 rfl) ?_
    refine lv_aload_n hex hby dX4_holds_9 rfl (lv_at hl 0 rfl) ?_
    refine nv_get (v := .int (nI rr)) CFx in_X4_holds_X4 hK hP 0 rfl rfl 2 (by decide) (List.mem_of_getElem? (i := 2) rfl) frr dX4_holds_10 ?_
    refine nv_icmp_gt (tgt := 36) hex hby dX4_holds_13 (by decide) (by omega) (by omega) (fun c_2 => ?_) (fun c_2 => ?_)
    · refine lv_iconst (v := nI 0) hex hby dX4_holds_36 rfl ?_
      exact hret _ _ _ _ (Or.inr (Or.inl ⟨rfl, _, (Or.inr rfl), rfl, rfl, dX4_holds_37⟩)) ⟨_, rfl, Or.inr ⟨rfl, (by omega)⟩⟩
    · refine lv_iload_n hex hby dX4_holds_16 rfl (lv_at hl 2 rfl) ?_
      refine lv_aload_n hex hby dX4_holds_17 rfl (lv_at hl 0 rfl) ?_
      refine nv_get (v := .int (nI rb)) CFx in_X4_holds_X4 hK hP 0 rfl rfl 1 (by decide) (List.mem_of_getElem? (i := 3) rfl) frb dX4_holds_18 ?_
      refine nv_icmp_lt (tgt := 36) hex hby dX4_holds_21 (by decide) (by omega) (by omega) (fun c_3 => ?_) (fun c_3 => ?_)
      · refine lv_iconst (v := nI 0) hex hby dX4_holds_36 rfl ?_
        exact hret _ _ _ _ (Or.inr (Or.inl ⟨rfl, _, (Or.inr rfl), rfl, rfl, dX4_holds_37⟩)) ⟨_, rfl, Or.inr ⟨rfl, (by omega)⟩⟩
      · refine lv_iload_n hex hby dX4_holds_24 rfl (lv_at hl 2 rfl) ?_
        refine lv_aload_n hex hby dX4_holds_25 rfl (lv_at hl 0 rfl) ?_
        refine nv_get (v := .int (nI ra)) CFx in_X4_holds_X4 hK hP 0 rfl rfl 3 (by decide) (List.mem_of_getElem? (i := 4) rfl) fra dX4_holds_26 ?_
        refine nv_icmp_gt (tgt := 36) hex hby dX4_holds_29 (by decide) (by omega) (by omega) (fun c_4 => ?_) (fun c_4 => ?_)
        · refine lv_iconst (v := nI 0) hex hby dX4_holds_36 rfl ?_
          exact hret _ _ _ _ (Or.inr (Or.inl ⟨rfl, _, (Or.inr rfl), rfl, rfl, dX4_holds_37⟩)) ⟨_, rfl, Or.inr ⟨rfl, (by omega)⟩⟩
        · refine lv_iconst (v := nI 1) hex hby dX4_holds_32 rfl ?_
          refine lv_goto (tgt := 37) hex hby dX4_holds_33 (by decide) ?_
          exact hret _ _ _ _ (Or.inr (Or.inl ⟨rfl, _, (Or.inl rfl), rfl, rfl, dX4_holds_37⟩)) ⟨_, rfl, Or.inl ⟨rfl, (by omega)⟩⟩
theorem nd_X4_setEdges : ndV yX4_setEdges RX4 4 := by decide +kernel
theorem in_X4_setEdges_X4 : ∀ w ∈ wsX40, w ∈ wsX4_setEdges := fun _ h => List.mem_cons_of_mem _ (List.mem_append_right _ (h))
set_option maxHeartbeats 4000000 in
set_option maxRecDepth 100000 in
theorem c_X4_setEdges {hr : Nat} {v0 : Value} {v1 : Value} {v2 : Value} {v3 : Value} {l0 : Nat} {b0 : Nat} {r0 : Nat} {a0 : Nat}  : MU l yX4_setEdges wsX4_setEdges 0 0 (dC, dI) (tyK cI cZ cS) [(hr, .inr (4, [v0, v1, v2, v3]))] [] [.ref hr, .int (nI l0), .int (nI b0), .int (nI r0), .int (nI a0)] (fun rv_ (u_ : Unit) => rV (True) rv_) (fun (u_ : Unit) => [(hr, .inr (4, [.int (nI l0), .int (nI b0), .int (nI r0), .int (nI a0)]))]) := by
  refine mu_of (by decide) rfl (Nat.le_of_ble_eq_true rfl) ?_
  intro pp ee ss mm bb mt cd Q A CFx hP hK hD hS hA hTr hret ls hl
  obtain ⟨hex, hby, hml, hown, hts⟩ := id CFx
  have hl : lv_has ls 5 [(0, .ref hr), (1, .int (nI l0)), (2, .int (nI b0)), (3, .int (nI r0)), (4, .int (nI a0))] := hl
  refine lv_aload_n hex hby dX4_setEdges_0 rfl (lv_at hl 0 rfl) ?_
  refine lv_iload_n hex hby dX4_setEdges_1 rfl (lv_at hl 1 rfl) ?_
  refine nv_put CFx in_X4_setEdges_X4 tyX4 tyX4_ok nmX4 hK hP hD hS 0 rfl rfl 0 (by decide) (List.mem_of_getElem? (i := 1) rfl) rfl (by decide +kernel) (Nat.le_of_ble_eq_true rfl) dX4_setEdges_2 (fun H locs hP hD hS => ?_)
  have hP : va_P (dC, dI) vwCl [(hr, .inr (4, [.int (nI l0), v1, v2, v3]))] H := hP
  have hD : va_D A [(hr, .inr (4, [.int (nI l0), v1, v2, v3]))] := hD
  refine lv_aload_n hex hby dX4_setEdges_5 rfl (lv_at hl 0 rfl) ?_
  refine lv_iload_n hex hby dX4_setEdges_6 rfl (lv_at hl 2 rfl) ?_
  refine nv_put CFx in_X4_setEdges_X4 tyX4 tyX4_ok nmX4 hK hP hD hS 0 rfl rfl 1 (by decide) (List.mem_of_getElem? (i := 2) rfl) rfl (by decide +kernel) (Nat.le_of_ble_eq_true rfl) dX4_setEdges_7 (fun H locs hP hD hS => ?_)
  have hP : va_P (dC, dI) vwCl [(hr, .inr (4, [.int (nI l0), .int (nI b0), v2, v3]))] H := hP
  have hD : va_D A [(hr, .inr (4, [.int (nI l0), .int (nI b0), v2, v3]))] := hD
  refine lv_aload_n hex hby dX4_setEdges_10 rfl (lv_at hl 0 rfl) ?_
  refine lv_iload_n hex hby dX4_setEdges_11 rfl (lv_at hl 3 rfl) ?_
  refine nv_put CFx in_X4_setEdges_X4 tyX4 tyX4_ok nmX4 hK hP hD hS 0 rfl rfl 2 (by decide) (List.mem_of_getElem? (i := 3) rfl) rfl (by decide +kernel) (Nat.le_of_ble_eq_true rfl) dX4_setEdges_12 (fun H locs hP hD hS => ?_)
  have hP : va_P (dC, dI) vwCl [(hr, .inr (4, [.int (nI l0), .int (nI b0), .int (nI r0), v3]))] H := hP
  have hD : va_D A [(hr, .inr (4, [.int (nI l0), .int (nI b0), .int (nI r0), v3]))] := hD
  refine lv_aload_n hex hby dX4_setEdges_15 rfl (lv_at hl 0 rfl) ?_
  refine lv_iload hex hby dX4_setEdges_16 (lv_at hl 4 rfl) ?_
  refine nv_put CFx in_X4_setEdges_X4 tyX4 tyX4_ok nmX4 hK hP hD hS 0 rfl rfl 3 (by decide) (List.mem_of_getElem? (i := 4) rfl) rfl (by decide +kernel) (Nat.le_of_ble_eq_true rfl) dX4_setEdges_18 (fun H locs hP hD hS => ?_)
  have hP : va_P (dC, dI) vwCl [(hr, .inr (4, [.int (nI l0), .int (nI b0), .int (nI r0), .int (nI a0)]))] H := hP
  have hD : va_D A [(hr, .inr (4, [.int (nI l0), .int (nI b0), .int (nI r0), .int (nI a0)]))] := hD
  exact hret _ () _ _ _ _ _ (Or.inr (Or.inr (Or.inl ⟨rfl, rfl, rfl, dX4_setEdges_21⟩))) ⟨rfl, trivial⟩ hP hD hS
theorem nd_X4_setWhole : ndV yX4_setWhole RX4 1 := by decide +kernel
set_option maxHeartbeats 4000000 in
set_option maxRecDepth 100000 in
theorem c_X4_setWhole {hr : Nat} {v0 : Value} {v1 : Value} {v2 : Value} {v3 : Value} {n : Nat} (hn1 : 1 ≤ n) : MU l yX4_setWhole wsX4_setWhole 1 24 (dC, dI) (tyK cI cZ cS) [(hr, .inr (4, [v0, v1, v2, v3]))] [] [.ref hr, .int (nI n)] (fun rv_ (u_ : Unit) => rV (True) rv_) (fun (u_ : Unit) => [(hr, .inr (4, [.int (nI 0), .int (nI 0), .int (nI (n - 1)), .int (nI (n - 1))]))]) := by
  refine mu_of (by decide) rfl (Nat.le_of_ble_eq_true rfl) ?_
  intro pp ee ss mm bb mt cd Q A CFx hP hK hD hS hA hTr hret ls hl
  obtain ⟨hex, hby, hml, hown, hts⟩ := id CFx
  have hl : lv_has ls 2 [(0, .ref hr), (1, .int (nI n))] := hl
  refine lv_aload_n hex hby dX4_setWhole_0 rfl (lv_at hl 0 rfl) ?_
  refine lv_iconst (v := nI 0) hex hby dX4_setWhole_1 rfl ?_
  refine lv_iconst (v := nI 0) hex hby dX4_setWhole_2 rfl ?_
  refine lv_iload_n hex hby dX4_setWhole_3 rfl (lv_at hl 1 rfl) ?_
  refine lv_iconst (v := nI 1) hex hby dX4_setWhole_4 rfl ?_
  refine nv_isub hex hby dX4_setWhole_5 (by omega) ?_
  refine lv_iload_n hex hby dX4_setWhole_6 rfl (lv_at hl 1 rfl) ?_
  refine lv_iconst (v := nI 1) hex hby dX4_setWhole_7 rfl ?_
  refine nv_isub hex hby dX4_setWhole_8 (by omega) ?_
  refine mu_Vv (As := [.int (nI 0), .int (nI 0), .int (nI (n - 1)), .int (nI (n - 1))]) (rest := []) (wr := []) CFx (c_X4_setEdges (hr := hr) (v0 := v0) (v1 := v1) (v2 := v2) (v3 := v3) (l0 := 0) (b0 := 0) (r0 := n - 1) (a0 := n - 1) ) 4 gX4_setWhole_X4_setEdges rfl nd_X4_setEdges ⟨Nat.le_of_ble_eq_true rfl, Nat.le_of_ble_eq_true rfl⟩ hK hP hD hS hA [0] [] rfl rfl (by decide) (by decide) (by decide) TR.nil rfl rfl rfl hl.1 rfl (Nat.le_of_ble_eq_true rfl) dX4_setWhole_9 ⟨Nat.le_refl _, Nat.le_refl _⟩ (fun u H locs hr_1 hP hD hS => ?_)
  have hP : va_P (dC, dI) vwCl [(hr, .inr (4, [.int (nI 0), .int (nI 0), .int (nI (n - 1)), .int (nI (n - 1))]))] H := hP
  have hD : va_D A [(hr, .inr (4, [.int (nI 0), .int (nI 0), .int (nI (n - 1)), .int (nI (n - 1))]))] := hD
  exact hret _ () _ _ _ _ _ (Or.inr (Or.inr (Or.inl ⟨rfl, rfl, rfl, dX4_setWhole_12⟩))) ⟨rfl, trivial⟩ hP hD hS
theorem nd_X0_fill : ndV yX0_fill RX0 2 := by decide +kernel
theorem in_X0_fill_X0 : ∀ w ∈ wsX00, w ∈ wsX0_fill := fun _ h => List.mem_cons_of_mem _ (List.mem_append_left _ (List.mem_append_left _ (List.mem_append_right _ (h))))
theorem in_X0_fill_X2 : ∀ w ∈ wsX20, w ∈ wsX0_fill := fun _ h => List.mem_cons_of_mem _ (List.mem_append_left _ (List.mem_append_right _ (h)))
set_option maxHeartbeats 4000000 in
set_option maxRecDepth 100000 in
theorem c_X0_fill {ho : Nat} {aF : Nat} {aG : Nat} {hn : Nat} {aC : Nat} {hr : Nat} {v0 : Value} {Fa : Nat → Nat} {Ga : Nat → Nat} {fn : List Value} {ce : Nat} {g : Nat → Nat} {fr : List Value} {rl : Nat} {rb : Nat} {rr : Nat} {ra : Nat} {T : Nat → Nat} {ns : Nat} {m : Nat} (fce : fn[1]? = some (.int (nI ce))) (faC : fn[2]? = some (.ref aC)) (frl : fr[0]? = some (.int (nI rl))) (frb : fr[1]? = some (.int (nI rb))) (frr : fr[2]? = some (.int (nI rr))) (fra : fr[3]? = some (.int (nI ra))) (hF0 : ∀ j, Fa j < 4096) (hG0 : ∀ j, Ga j < 4096) (hg : ∀ j, g j < 4096) (hrl : rl < 64) (hrb : rb < 64) (hrr : rr < 64) (hra : ra < 64) (hV : VT T ns) (hm6 : m ≤ 6) (hce : ce = 4 ^ m) (hgc : ∀ i, i < 4 ^ m → g i = cvc T m i) : MU l yX0_fill wsX0_fill 1 22 (dC, dI) (tyK cI cZ cS) [(ho, .inr (0, [v0, .ref aF, .ref aG])), (aF, .inl (cI, 505, .inl (nA Fa))), (aG, .inl (cI, 505, .inl (nA Ga))), (hn, .inr (2, fn)), (aC, .inl (cI, 4096, .inl (nA g))), (hr, .inr (4, fr))] [] [.ref ho, .ref hn, .ref hr] (fun rv_ (u_ : Nat × (Nat → Nat) × (Nat → Nat)) => rV (IvOK (inG g rl rb rr ra) (4 ^ m) u_.1 u_.2.1 u_.2.2 ∧ u_.1 ≤ 505 ∧ (∀ j, u_.2.1 j < 4096) ∧ (∀ j, u_.2.2 j < 4096)) rv_) (fun (u_ : Nat × (Nat → Nat) × (Nat → Nat)) => [(ho, .inr (0, [.int (nI u_.1), .ref aF, .ref aG])), (aF, .inl (cI, 505, .inl (nA u_.2.1))), (aG, .inl (cI, 505, .inl (nA u_.2.2))), (hn, .inr (2, fn)), (aC, .inl (cI, 4096, .inl (nA g))), (hr, .inr (4, fr))]) := by
  refine mu_of (by decide) rfl (Nat.le_of_ble_eq_true rfl) ?_
  intro pp ee ss mm bb mt cd Q A CFx hP hK hD hS hA hTr hret ls hl
  obtain ⟨hex, hby, hml, hown, hts⟩ := id CFx
  have hl : lv_has ls 6 [(0, .ref ho), (1, .ref hn), (2, .ref hr)] := hl
  have h46 := p4_6 hm6
  have h4p := p4_pos m
  have h505 := iv_le (l := rl) (b := rb) (r := rr) (a := ra) hV hm6 hgc
  refine lv_aload_n hex hby dX0_fill_0 rfl (lv_at hl 0 rfl) ?_
  refine lv_iconst (v := nI 0) hex hby dX0_fill_1 rfl ?_
  refine nv_put CFx in_X0_fill_X0 tyX0 tyX0_ok nmX0 hK hP hD hS 0 rfl rfl 0 (by decide) (List.mem_of_getElem? (i := 1) rfl) rfl (by decide +kernel) (Nat.le_of_ble_eq_true rfl) dX0_fill_2 (fun H locs hP hD hS => ?_)
  have hP : va_P (dC, dI) vwCl [(ho, .inr (0, [.int (nI 0), .ref aF, .ref aG])), (aF, .inl (cI, 505, .inl (nA Fa))), (aG, .inl (cI, 505, .inl (nA Ga))), (hn, .inr (2, fn)), (aC, .inl (cI, 4096, .inl (nA g))), (hr, .inr (4, fr))] H := hP
  have hD : va_D A [(ho, .inr (0, [.int (nI 0), .ref aF, .ref aG])), (aF, .inl (cI, 505, .inl (nA Fa))), (aG, .inl (cI, 505, .inl (nA Ga))), (hn, .inr (2, fn)), (aC, .inl (cI, 4096, .inl (nA g))), (hr, .inr (4, fr))] := hD
  refine lv_iconst (v := nI 0) hex hby dX0_fill_5 rfl ?_
  refine lv_istore_n (lv' := [(3, .int (nI 0)), (0, .ref ho), (1, .ref hn), (2, .ref hr)]) hex hby dX0_fill_6 rfl hl (by decide) rfl (fun ls hl => ?_)
  refine lv_iconst (v := nI 0) hex hby dX0_fill_7 rfl ?_
  refine lv_istore (lv' := [(4, .int (nI 0)), (3, .int (nI 0)), (0, .ref ho), (1, .ref hn), (2, .ref hr)]) hex hby dX0_fill_8 hl (by decide) rfl (fun ls hl => ?_)
  have loop10 : ∀ (nn : Nat) (i : Nat) (op : Nat) (cn : Nat) (FF : Nat → Nat) (GG : Nat → Nat), (4 ^ m - i) < nn → (i ≤ 4 ^ m) → (IvOK (inG g rl rb rr ra) i cn FF GG) → (op ≤ 1) → (op = 1 → 0 < i ∧ inG g rl rb rr ra (i - 1) ∧ 0 < cn ∧ GG (cn - 1) + 1 = i) → (op = 0 → (i = 0 ∨ ¬ inG g rl rb rr ra (i - 1))) → (∀ j, FF j < 4096) → (∀ j, GG j < 4096) → ∀ (H : Heap) (locs : List Loc), va_P (dC, dI) vwCl [(ho, .inr (0, [.int (nI cn), .ref aF, .ref aG])), (aF, .inl (cI, 505, .inl (nA FF))), (aG, .inl (cI, 505, .inl (nA GG))), (hn, .inr (2, fn)), (aC, .inl (cI, 4096, .inl (nA g))), (hr, .inr (4, fr))] H → va_D A [(ho, .inr (0, [.int (nI cn), .ref aF, .ref aG])), (aF, .inl (cI, 505, .inl (nA FF))), (aG, .inl (cI, 505, .inl (nA GG))), (hn, .inr (2, fn)), (aC, .inl (cI, 4096, .inl (nA g))), (hr, .inr (4, fr))] → va_S A ss.heap H locs → ∀ ls : Array Slot, lv_has ls 6 [(4, .int (nI i)), (3, .int (nI op)), (0, .ref ho), (1, .ref hn), (2, .ref hr)] → W pp l ee (rmO 1 22) ss mm ([.ref ho, .ref hn, .ref hr] : List Value).toArray bb mt cd H locs 0 0 Q (F0 mm 10 ls []) := by
    intro nn
    induction nn with
    | zero => intro i op cn FF GG hms10; exact absurd hms10 (Nat.not_lt_zero _)
    | succ nn ih10 =>
      intro i op cn FF GG hms10 hi hI hop1 hop hop0 hfb hgb H locs hP hD hS ls hl
      have hcn := hI.1
      have hcl := ctP_up (stI (inG g rl rb rr ra)) hi
      refine lv_iload hex hby dX0_fill_10 (lv_at hl 0 rfl) ?_
      refine lv_aload_n hex hby dX0_fill_12 rfl (lv_at hl 3 rfl) ?_
      refine nv_get (v := .int (nI ce)) CFx in_X0_fill_X2 hK hP 3 rfl rfl 1 (by decide) (List.mem_of_getElem? (i := 2) rfl) fce dX0_fill_13 ?_
      refine nv_icmp_ge (tgt := 118) hex hby dX0_fill_16 (by decide) (by omega) (by omega) (fun c_1 => ?_) (fun c_1 => ?_)
      · exact hret _ (cn, FF, GG) _ _ _ _ _ (Or.inr (Or.inr (Or.inl ⟨rfl, rfl, rfl, dX0_fill_118⟩))) ⟨rfl, ⟨(by rw [show 4 ^ m = i by omega]; exact hI), (by omega), hfb, hgb⟩⟩ hP hD hS
      · have hbi := hg i
        refine lv_aload_n hex hby dX0_fill_19 rfl (lv_at hl 4 rfl) ?_
        refine lv_aload_n hex hby dX0_fill_20 rfl (lv_at hl 3 rfl) ?_
        refine lv_iload hex hby dX0_fill_21 (lv_at hl 0 rfl) ?_
        refine ro_Vi (As := [.int (nI i)]) (rest := [.ref hr]) CFx (c_X2_xAt (h := hn) (aC := aC) (fs := fn) (g := g) (i := i) faC hg (by omega)) 1 gX0_fill_X2_xAt rfl nd_X2_xAt ⟨Nat.le_of_ble_eq_true rfl, Nat.le_of_ble_eq_true rfl⟩ hK hP [3, 4] rfl rfl rfl rfl hl.1 rfl (Nat.le_of_ble_eq_true rfl) dX0_fill_23 ⟨Nat.le_refl _, Nat.le_refl _⟩ (fun r_2 hr_2 => ?_)
        obtain rfl := hr_2
        refine lv_aload_n hex hby dX0_fill_26 rfl (lv_at hl 3 rfl) ?_
        refine lv_iload hex hby dX0_fill_27 (lv_at hl 0 rfl) ?_
        refine ro_Vi (As := [.int (nI i)]) (rest := [.int (nI (g i % 64)), .ref hr]) CFx (c_X2_yAt (h := hn) (aC := aC) (fs := fn) (g := g) (i := i) faC hg (by omega)) 1 gX0_fill_X2_yAt rfl nd_X2_yAt ⟨Nat.le_of_ble_eq_true rfl, Nat.le_of_ble_eq_true rfl⟩ hK hP [3, 4] rfl rfl rfl rfl hl.1 rfl (Nat.le_of_ble_eq_true rfl) dX0_fill_29 ⟨Nat.le_refl _, Nat.le_refl _⟩ (fun r_3 hr_3 => ?_)
        obtain rfl := hr_3
        refine ro_Vi (As := [.int (nI (g i % 64)), .int (nI (g i / 64))]) (rest := []) CFx (c_X4_holds (hr := hr) (fr := fr) (rl := rl) (rb := rb) (rr := rr) (ra := ra) (x := g i % 64) (y := g i / 64) frl frb frr fra hrl hrb hrr hra (by omega) (by omega)) 2 gX0_fill_X4_holds rfl nd_X4_holds ⟨Nat.le_of_ble_eq_true rfl, Nat.le_of_ble_eq_true rfl⟩ hK hP [5] rfl rfl rfl rfl hl.1 rfl (Nat.le_of_ble_eq_true rfl) dX0_fill_32 ⟨Nat.le_refl _, Nat.le_refl _⟩ (fun r_4 hr_4 => ?_)
        rcases hr_4 with ⟨rfl, hin⟩ | ⟨rfl, hnin⟩
        · have hin : inG g rl rb rr ra i := hin
          refine lv_istore (lv' := [(5, .int (nI 1)), (4, .int (nI i)), (3, .int (nI op)), (0, .ref ho), (1, .ref hn), (2, .ref hr)]) hex hby dX0_fill_35 hl (by decide) rfl (fun ls hl => ?_)
          refine lv_iload hex hby dX0_fill_37 (lv_at hl 0 rfl) ?_
          refine nv_if_eq (tgt := 62) hex hby dX0_fill_39 (by decide) (by omega) (fun c => absurd c (by omega)) (fun _ => ?_)
          refine lv_iload_n hex hby dX0_fill_42 rfl (lv_at hl 2 rfl) ?_
          refine nv_if_eq (tgt := 62) hex hby dX0_fill_43 (by decide) (by omega) (fun c_5 => ?_) (fun c_5 => ?_)
          · refine lv_iload hex hby dX0_fill_62 (lv_at hl 0 rfl) ?_
            refine nv_if_eq (tgt := 109) hex hby dX0_fill_64 (by decide) (by omega) (fun c => absurd c (by omega)) (fun _ => ?_)
            have hst := hI.start hin (hop0 (by omega))
            have hcc := hst.1
            have hcu := ctP_up (stI (inG g rl rb rr ra)) (show i + 1 ≤ 4 ^ m by omega)
            refine lv_aload_n hex hby dX0_fill_67 rfl (lv_at hl 3 rfl) ?_
            refine nv_get (v := .int (nI cn)) CFx in_X0_fill_X0 hK hP 0 rfl rfl 0 (by decide) (List.mem_of_getElem? (i := 1) rfl) rfl dX0_fill_68 ?_
            refine lv_sipush (v := nI 505) hex hby dX0_fill_71 rfl ?_
            refine nv_icmp_ge (tgt := 109) hex hby dX0_fill_74 (by decide) (by omega) (by omega) (fun c_6 => absurd c_6 (by omega)) (fun c_6 => ?_)
            refine lv_aload_n hex hby dX0_fill_77 rfl (lv_at hl 3 rfl) ?_
            refine nv_get (v := .ref aF) CFx in_X0_fill_X0 hK hP 0 rfl rfl 1 (by decide) (List.mem_of_getElem? (i := 4) rfl) rfl dX0_fill_78 ?_
            refine lv_aload_n hex hby dX0_fill_81 rfl (lv_at hl 3 rfl) ?_
            refine nv_get (v := .int (nI cn)) CFx in_X0_fill_X0 hK hP 0 rfl rfl 0 (by decide) (List.mem_of_getElem? (i := 1) rfl) rfl dX0_fill_82 ?_
            refine lv_iload hex hby dX0_fill_85 (lv_at hl 1 rfl) ?_
            refine nv_iast hex hby hK hP hD hS 1 0 rfl rfl (by omega) (by omega) dX0_fill_87 (fun H locs hP hD hS => ?_)
            have hP : va_P (dC, dI) vwCl [(ho, .inr (0, [.int (nI cn), .ref aF, .ref aG])), (aF, .inl (cI, 505, .inl (nA (upN FF cn i)))), (aG, .inl (cI, 505, .inl (nA GG))), (hn, .inr (2, fn)), (aC, .inl (cI, 4096, .inl (nA g))), (hr, .inr (4, fr))] H := hP
            have hD : va_D A [(ho, .inr (0, [.int (nI cn), .ref aF, .ref aG])), (aF, .inl (cI, 505, .inl (nA (upN FF cn i)))), (aG, .inl (cI, 505, .inl (nA GG))), (hn, .inr (2, fn)), (aC, .inl (cI, 4096, .inl (nA g))), (hr, .inr (4, fr))] := hD
            have hB_7 := upN_lt (k := cn) (x := i) hfb (by omega)
            refine lv_aload_n hex hby dX0_fill_88 rfl (lv_at hl 3 rfl) ?_
            refine nv_get (v := .ref aG) CFx in_X0_fill_X0 hK hP 0 rfl rfl 2 (by decide) (List.mem_of_getElem? (i := 3) rfl) rfl dX0_fill_89 ?_
            refine lv_aload_n hex hby dX0_fill_92 rfl (lv_at hl 3 rfl) ?_
            refine nv_get (v := .int (nI cn)) CFx in_X0_fill_X0 hK hP 0 rfl rfl 0 (by decide) (List.mem_of_getElem? (i := 1) rfl) rfl dX0_fill_93 ?_
            refine lv_iload hex hby dX0_fill_96 (lv_at hl 1 rfl) ?_
            refine nv_iast hex hby hK hP hD hS 2 0 rfl rfl (by omega) (by omega) dX0_fill_98 (fun H locs hP hD hS => ?_)
            have hP : va_P (dC, dI) vwCl [(ho, .inr (0, [.int (nI cn), .ref aF, .ref aG])), (aF, .inl (cI, 505, .inl (nA (upN FF cn i)))), (aG, .inl (cI, 505, .inl (nA (upN GG cn i)))), (hn, .inr (2, fn)), (aC, .inl (cI, 4096, .inl (nA g))), (hr, .inr (4, fr))] H := hP
            have hD : va_D A [(ho, .inr (0, [.int (nI cn), .ref aF, .ref aG])), (aF, .inl (cI, 505, .inl (nA (upN FF cn i)))), (aG, .inl (cI, 505, .inl (nA (upN GG cn i)))), (hn, .inr (2, fn)), (aC, .inl (cI, 4096, .inl (nA g))), (hr, .inr (4, fr))] := hD
            have hB_8 := upN_lt (k := cn) (x := i) hgb (by omega)
            refine lv_aload_n hex hby dX0_fill_99 rfl (lv_at hl 3 rfl) ?_
            refine lv_dup hex hby dX0_fill_100 rfl ?_
            refine nv_get (v := .int (nI cn)) CFx in_X0_fill_X0 hK hP 0 rfl rfl 0 (by decide) (List.mem_of_getElem? (i := 1) rfl) rfl dX0_fill_101 ?_
            refine lv_iconst (v := nI 1) hex hby dX0_fill_104 rfl ?_
            refine nv_iadd hex hby dX0_fill_105 ?_
            refine nv_put CFx in_X0_fill_X0 tyX0 tyX0_ok nmX0 hK hP hD hS 0 rfl rfl 0 (by decide) (List.mem_of_getElem? (i := 1) rfl) rfl (by decide +kernel) (Nat.le_of_ble_eq_true rfl) dX0_fill_106 (fun H locs hP hD hS => ?_)
            have hP : va_P (dC, dI) vwCl [(ho, .inr (0, [.int (nI (cn + 1)), .ref aF, .ref aG])), (aF, .inl (cI, 505, .inl (nA (upN FF cn i)))), (aG, .inl (cI, 505, .inl (nA (upN GG cn i)))), (hn, .inr (2, fn)), (aC, .inl (cI, 4096, .inl (nA g))), (hr, .inr (4, fr))] H := hP
            have hD : va_D A [(ho, .inr (0, [.int (nI (cn + 1)), .ref aF, .ref aG])), (aF, .inl (cI, 505, .inl (nA (upN FF cn i)))), (aG, .inl (cI, 505, .inl (nA (upN GG cn i)))), (hn, .inr (2, fn)), (aC, .inl (cI, 4096, .inl (nA g))), (hr, .inr (4, fr))] := hD
            refine lv_iload hex hby dX0_fill_109 (lv_at hl 0 rfl) ?_
            refine lv_istore_n (lv' := [(3, .int (nI 1)), (5, .int (nI 1)), (4, .int (nI i)), (0, .ref ho), (1, .ref hn), (2, .ref hr)]) hex hby dX0_fill_111 rfl hl (by decide) rfl (fun ls hl => ?_)
            refine lv_iinc (v := nI (i + 1)) (lv' := [(4, .int (nI (i + 1))), (3, .int (nI 1)), (5, .int (nI 1)), (0, .ref ho), (1, .ref hn), (2, .ref hr)]) hex hby dX0_fill_112 hl (k := 2) rfl (ni_inc _) (by decide) rfl (fun ls hl => ?_)
            refine lv_goto (tgt := 10) hex hby dX0_fill_115 (by decide) ?_
            exact ih10 (i + 1) 1 (cn + 1) (upN FF cn i) (upN GG cn i) (by omega) (by omega) hst (by omega) (fun _ => ⟨by omega, hin, by omega, by rw [Nat.add_sub_cancel, upN_s]⟩) (fun h => absurd h (by decide)) hB_7 hB_8 _ _ hP hD hS _ (lv_sub hl [0, 1, 3, 4, 5] rfl)
          · refine lv_aload_n hex hby dX0_fill_46 rfl (lv_at hl 3 rfl) ?_
            refine nv_get (v := .ref aG) CFx in_X0_fill_X0 hK hP 0 rfl rfl 2 (by decide) (List.mem_of_getElem? (i := 3) rfl) rfl dX0_fill_47 ?_
            refine lv_aload_n hex hby dX0_fill_50 rfl (lv_at hl 3 rfl) ?_
            refine nv_get (v := .int (nI cn)) CFx in_X0_fill_X0 hK hP 0 rfl rfl 0 (by decide) (List.mem_of_getElem? (i := 1) rfl) rfl dX0_fill_51 ?_
            refine lv_iconst (v := nI 1) hex hby dX0_fill_54 rfl ?_
            refine nv_isub hex hby dX0_fill_55 (by omega) ?_
            refine lv_iload hex hby dX0_fill_56 (lv_at hl 1 rfl) ?_
            refine nv_iast hex hby hK hP hD hS 2 0 rfl rfl (by omega) (by omega) dX0_fill_58 (fun H locs hP hD hS => ?_)
            have hP : va_P (dC, dI) vwCl [(ho, .inr (0, [.int (nI cn), .ref aF, .ref aG])), (aF, .inl (cI, 505, .inl (nA FF))), (aG, .inl (cI, 505, .inl (nA (upN GG (cn - 1) i)))), (hn, .inr (2, fn)), (aC, .inl (cI, 4096, .inl (nA g))), (hr, .inr (4, fr))] H := hP
            have hD : va_D A [(ho, .inr (0, [.int (nI cn), .ref aF, .ref aG])), (aF, .inl (cI, 505, .inl (nA FF))), (aG, .inl (cI, 505, .inl (nA (upN GG (cn - 1) i)))), (hn, .inr (2, fn)), (aC, .inl (cI, 4096, .inl (nA g))), (hr, .inr (4, fr))] := hD
            have hB_9 := upN_lt (k := cn - 1) (x := i) hgb (by omega)
            refine lv_goto (tgt := 109) hex hby dX0_fill_59 (by decide) ?_
            refine lv_iload hex hby dX0_fill_109 (lv_at hl 0 rfl) ?_
            refine lv_istore_n (lv' := [(3, .int (nI 1)), (5, .int (nI 1)), (4, .int (nI i)), (0, .ref ho), (1, .ref hn), (2, .ref hr)]) hex hby dX0_fill_111 rfl hl (by decide) rfl (fun ls hl => ?_)
            refine lv_iinc (v := nI (i + 1)) (lv' := [(4, .int (nI (i + 1))), (3, .int (nI 1)), (5, .int (nI 1)), (0, .ref ho), (1, .ref hn), (2, .ref hr)]) hex hby dX0_fill_112 hl (k := 2) rfl (ni_inc _) (by decide) rfl (fun ls hl => ?_)
            refine lv_goto (tgt := 10) hex hby dX0_fill_115 (by decide) ?_
            exact ih10 (i + 1) 1 cn FF (upN GG (cn - 1) i) (by omega) (by omega) (hI.more hin (hop (by omega)).1 (hop (by omega)).2.1 (hop (by omega)).2.2.1 (hop (by omega)).2.2.2) (by omega) (fun _ => ⟨by omega, hin, (hop (by omega)).2.2.1, by rw [upN_s]⟩) (fun h => absurd h (by decide)) hfb hB_9 _ _ hP hD hS _ (lv_sub hl [0, 1, 3, 4, 5] rfl)
        · have hnin : ¬ inG g rl rb rr ra i := hnin
          refine lv_istore (lv' := [(5, .int (nI 0)), (4, .int (nI i)), (3, .int (nI op)), (0, .ref ho), (1, .ref hn), (2, .ref hr)]) hex hby dX0_fill_35 hl (by decide) rfl (fun ls hl => ?_)
          refine lv_iload hex hby dX0_fill_37 (lv_at hl 0 rfl) ?_
          refine nv_if_eq (tgt := 62) hex hby dX0_fill_39 (by decide) (by omega) (fun _ => ?_) (fun c => absurd c (by omega))
          refine lv_iload hex hby dX0_fill_62 (lv_at hl 0 rfl) ?_
          refine nv_if_eq (tgt := 109) hex hby dX0_fill_64 (by decide) (by omega) (fun _ => ?_) (fun c => absurd c (by omega))
          refine lv_iload hex hby dX0_fill_109 (lv_at hl 0 rfl) ?_
          refine lv_istore_n (lv' := [(3, .int (nI 0)), (5, .int (nI 0)), (4, .int (nI i)), (0, .ref ho), (1, .ref hn), (2, .ref hr)]) hex hby dX0_fill_111 rfl hl (by decide) rfl (fun ls hl => ?_)
          refine lv_iinc (v := nI (i + 1)) (lv' := [(4, .int (nI (i + 1))), (3, .int (nI 0)), (5, .int (nI 0)), (0, .ref ho), (1, .ref hn), (2, .ref hr)]) hex hby dX0_fill_112 hl (k := 2) rfl (ni_inc _) (by decide) rfl (fun ls hl => ?_)
          refine lv_goto (tgt := 10) hex hby dX0_fill_115 (by decide) ?_
          exact ih10 (i + 1) 0 cn FF GG (by omega) (by omega) (hI.out hnin) (by omega) (fun h => absurd h (by decide)) (fun _ => Or.inr hnin) hfb hgb _ _ hP hD hS _ (lv_sub hl [0, 1, 3, 4, 5] rfl)
  exact loop10 _ 0 0 0 Fa Ga (Nat.lt_succ_self _) (by omega) (IvOK.zero _ _ _) (by omega) (fun h => absurd h (by decide)) (fun _ => Or.inl rfl) hF0 hG0 _ _ hP hD hS _ (lv_sub hl [0, 1, 2, 3, 4] rfl)
theorem nd_X10_isInRange : ndV yX10_isInRange RX10 1 := by decide +kernel
theorem in_X10_isInRange_X10 : ∀ w ∈ wsX100, w ∈ wsX10_isInRange := fun _ h => List.mem_cons_of_mem _ (List.mem_append_right _ (h))
set_option maxHeartbeats 4000000 in
set_option maxRecDepth 100000 in
theorem c_X10_isInRange {h : Nat} {aC : Nat} {fs : List Value} {rl : Nat} {rb : Nat} {rr : Nat} {ra : Nat} {g : Nat → Nat} {i : Nat} (f_left : fs[4]? = some (.int (nI rl))) (f_below : fs[5]? = some (.int (nI rb))) (f_right : fs[6]? = some (.int (nI rr))) (f_above : fs[7]? = some (.int (nI ra))) (f_cellOf : fs[22]? = some (.ref aC)) (hg : ∀ j, g j < 4096) (hrl : rl < 64) (hrb : rb < 64) (hrr : rr < 64) (hra : ra < 64) (hi0 : i < 4096) : RO l yX10_isInRange wsX10_isInRange 1 22 (dC, dI) (tyK cI cZ cS) [(h, .inr (10, fs)), (aC, .inl (cI, 4096, .inl (nA g)))] [.ref h, .int (nI i)] (rI (fun r => (r = nI 1 ∧ inG g rl rb rr ra i) ∨ (r = nI 0 ∧ ¬ inG g rl rb rr ra i))) := by
  refine ro_of (by decide) rfl (Nat.le_of_ble_eq_true rfl) ?_
  intro pp ee ss mm bb mt cd Q CFx hP hK hret ls hl
  obtain ⟨hex, hby, hml, hown, hts⟩ := id CFx
  have hl : lv_has ls 2 [(0, .ref h), (1, .int (nI i))] := hl
  have hbi := hg i
  refine lv_aload_n hex hby dX10_isInRange_0 rfl (lv_at hl 0 rfl) ?_
  refine nv_get (v := .ref aC) CFx in_X10_isInRange_X10 hK hP 0 rfl rfl 22 (by decide) (List.mem_of_getElem? (i := 1) rfl) f_cellOf dX10_isInRange_1 ?_
  refine lv_iload_n hex hby dX10_isInRange_4 rfl (lv_at hl 1 rfl) ?_
  refine nv_iald hex hby hK hP 1 0 rfl rfl (by omega) (by omega) dX10_isInRange_5 ?_
  have hb_1 := hg i
  refine lv_bipush (v := nI 64) hex hby dX10_isInRange_6 rfl ?_
  refine nv_irem hex hby dX10_isInRange_8 (by omega) (by omega) (by omega) ?_
  refine lv_aload_n hex hby dX10_isInRange_9 rfl (lv_at hl 0 rfl) ?_
  refine nv_get (v := .int (nI rl)) CFx in_X10_isInRange_X10 hK hP 0 rfl rfl 4 (by decide) (List.mem_of_getElem? (i := 2) rfl) f_left dX10_isInRange_10 ?_
  refine lv_aload_n hex hby dX10_isInRange_13 rfl (lv_at hl 0 rfl) ?_
  refine nv_get (v := .int (nI rr)) CFx in_X10_isInRange_X10 hK hP 0 rfl rfl 6 (by decide) (List.mem_of_getElem? (i := 3) rfl) f_right dX10_isInRange_14 ?_
  refine ro_Si (As := [.int (nI (g i % 64)), .int (nI rl), .int (nI rr)]) (rest := []) (C := RX10) CFx (c_X10_in (x := nI (g i % 64)) (xz := ((g i % 64 : Nat) : Int)) (lo := nI rl) (loz := (rl : Int)) (hi := nI rr) (hiz := (rr : Int)) (ni_toInt (by omega)) (ni_toInt (by omega)) (ni_toInt (by omega))) 3 gX10_isInRange_X10_in rfl nd_X10_in ⟨Nat.le_of_ble_eq_true rfl, Nat.le_of_ble_eq_true rfl⟩ hK hP [] rfl rfl hl.1 rfl (Nat.le_of_ble_eq_true rfl) dX10_isInRange_17 ⟨Nat.le_refl _, Nat.le_refl _⟩ (fun r_2 hr_2 => ?_)
  rcases hr_2 with ⟨rfl, hin⟩ | ⟨rfl, hnin⟩
  · refine nv_if_eq (tgt := 50) hex hby dX10_isInRange_20 (by decide) (by omega) (fun c => absurd c (by omega)) (fun _ => ?_)
    refine lv_aload_n hex hby dX10_isInRange_23 rfl (lv_at hl 0 rfl) ?_
    refine nv_get (v := .ref aC) CFx in_X10_isInRange_X10 hK hP 0 rfl rfl 22 (by decide) (List.mem_of_getElem? (i := 1) rfl) f_cellOf dX10_isInRange_24 ?_
    refine lv_iload_n hex hby dX10_isInRange_27 rfl (lv_at hl 1 rfl) ?_
    refine nv_iald hex hby hK hP 1 0 rfl rfl (by omega) (by omega) dX10_isInRange_28 ?_
    have hb_3 := hg i
    refine lv_bipush (v := nI 64) hex hby dX10_isInRange_29 rfl ?_
    refine nv_idiv hex hby dX10_isInRange_31 (by omega) (by omega) (by omega) ?_
    refine lv_aload_n hex hby dX10_isInRange_32 rfl (lv_at hl 0 rfl) ?_
    refine nv_get (v := .int (nI rb)) CFx in_X10_isInRange_X10 hK hP 0 rfl rfl 5 (by decide) (List.mem_of_getElem? (i := 4) rfl) f_below dX10_isInRange_33 ?_
    refine lv_aload_n hex hby dX10_isInRange_36 rfl (lv_at hl 0 rfl) ?_
    refine nv_get (v := .int (nI ra)) CFx in_X10_isInRange_X10 hK hP 0 rfl rfl 7 (by decide) (List.mem_of_getElem? (i := 5) rfl) f_above dX10_isInRange_37 ?_
    refine ro_Si (As := [.int (nI (g i / 64)), .int (nI rb), .int (nI ra)]) (rest := []) (C := RX10) CFx (c_X10_in (x := nI (g i / 64)) (xz := ((g i / 64 : Nat) : Int)) (lo := nI rb) (loz := (rb : Int)) (hi := nI ra) (hiz := (ra : Int)) (ni_toInt (by omega)) (ni_toInt (by omega)) (ni_toInt (by omega))) 3 gX10_isInRange_X10_in rfl nd_X10_in ⟨Nat.le_of_ble_eq_true rfl, Nat.le_of_ble_eq_true rfl⟩ hK hP [] rfl rfl hl.1 rfl (Nat.le_of_ble_eq_true rfl) dX10_isInRange_40 ⟨Nat.le_refl _, Nat.le_refl _⟩ (fun r_4 hr_4 => ?_)
    rcases hr_4 with ⟨rfl, hin⟩ | ⟨rfl, hnin⟩
    · refine nv_if_eq (tgt := 50) hex hby dX10_isInRange_43 (by decide) (by omega) (fun c => absurd c (by omega)) (fun _ => ?_)
      refine lv_iconst (v := nI 1) hex hby dX10_isInRange_46 rfl ?_
      refine lv_goto (tgt := 51) hex hby dX10_isInRange_47 (by decide) ?_
      exact hret _ _ _ _ (Or.inr (Or.inl ⟨rfl, _, (Or.inl rfl), rfl, rfl, dX10_isInRange_51⟩)) ⟨_, rfl, Or.inl ⟨rfl, ⟨by omega, by omega⟩⟩⟩
    · refine nv_if_eq (tgt := 50) hex hby dX10_isInRange_43 (by decide) (by omega) (fun _ => ?_) (fun c => absurd c (by omega))
      refine lv_iconst (v := nI 0) hex hby dX10_isInRange_50 rfl ?_
      exact hret _ _ _ _ (Or.inr (Or.inl ⟨rfl, _, (Or.inr rfl), rfl, rfl, dX10_isInRange_51⟩)) ⟨_, rfl, Or.inr ⟨rfl, (fun q => by have := q.2; omega)⟩⟩
  · refine nv_if_eq (tgt := 50) hex hby dX10_isInRange_20 (by decide) (by omega) (fun _ => ?_) (fun c => absurd c (by omega))
    refine lv_iconst (v := nI 0) hex hby dX10_isInRange_50 rfl ?_
    exact hret _ _ _ _ (Or.inr (Or.inl ⟨rfl, _, (Or.inr rfl), rfl, rfl, dX10_isInRange_51⟩)) ⟨_, rfl, Or.inr ⟨rfl, (fun q => by have := q.1; omega)⟩⟩
theorem nd_X10_findIntervals : ndV yX10_findIntervals RX10 0 := by decide +kernel
theorem in_X10_findIntervals_X10 : ∀ w ∈ wsX100, w ∈ wsX10_findIntervals := fun _ h => List.mem_cons_of_mem _ (List.mem_append_right _ (h))
set_option maxHeartbeats 4000000 in
set_option maxRecDepth 100000 in
theorem c_X10_findIntervals {h : Nat} {aC : Nat} {aF : Nat} {aG : Nat} {m : Nat} {v1 : Value} {v2 : Value} {v3 : Value} {rl : Nat} {rb : Nat} {rr : Nat} {ra : Nat} {v8 : Value} {v9 : Value} {v10 : Value} {v11 : Value} {v12 : Value} {v13 : Value} {v14 : Value} {v15 : Value} {v16 : Value} {v17 : Value} {v18 : Value} {v19 : Value} {v20 : Value} {v21 : Value} {v25 : Value} {v26 : Value} {v27 : Value} {v28 : Value} {g : Nat → Nat} {Fa : Nat → Nat} {Ga : Nat → Nat} (hF0 : ∀ j, Fa j < 4096) (hG0 : ∀ j, Ga j < 4096) (hg : ∀ j, g j < 4096) (hm6 : m ≤ 6) (hrl : rl < 64) (hrb : rb < 64) (hrr : rr < 64) (hra : ra < 64) : MU l yX10_findIntervals wsX10_findIntervals 2 43 (dC, dI) (tyK cI cZ cS) [(h, .inr (10, [.int (nI m), v1, v2, v3, .int (nI rl), .int (nI rb), .int (nI rr), .int (nI ra), v8, v9, v10, v11, v12, v13, v14, v15, v16, v17, v18, v19, v20, v21, .ref aC, .ref aF, .ref aG, v25, v26, v27, v28])), (aC, .inl (cI, 4096, .inl (nA g))), (aF, .inl (cI, 4096, .inl (nA Fa))), (aG, .inl (cI, 4096, .inl (nA Ga)))] [] [.ref h] (fun rv_ (u_ : Nat × (Nat → Nat) × (Nat → Nat)) => rV (IvOK (inG g rl rb rr ra) (4 ^ m) u_.1 u_.2.1 u_.2.2 ∧ u_.1 ≤ 4096 ∧ (∀ j, u_.2.1 j < 4096) ∧ (∀ j, u_.2.2 j < 4096)) rv_) (fun (u_ : Nat × (Nat → Nat) × (Nat → Nat)) => [(h, .inr (10, [.int (nI m), v1, v2, v3, .int (nI rl), .int (nI rb), .int (nI rr), .int (nI ra), v8, v9, v10, v11, v12, v13, v14, v15, v16, v17, v18, v19, v20, v21, .ref aC, .ref aF, .ref aG, .int (nI u_.1), v26, v27, v28])), (aC, .inl (cI, 4096, .inl (nA g))), (aF, .inl (cI, 4096, .inl (nA u_.2.1))), (aG, .inl (cI, 4096, .inl (nA u_.2.2)))]) := by
  refine mu_of (by decide) rfl (Nat.le_of_ble_eq_true rfl) ?_
  intro pp ee ss mm bb mt cd Q A CFx hP hK hD hS hA hTr hret ls hl
  obtain ⟨hex, hby, hml, hown, hts⟩ := id CFx
  have hl : lv_has ls 4 [(0, .ref h)] := hl
  have h46 := p4_6 hm6
  have h4p := p4_pos m
  refine lv_aload_n hex hby dX10_findIntervals_0 rfl (lv_at hl 0 rfl) ?_
  refine lv_iconst (v := nI 0) hex hby dX10_findIntervals_1 rfl ?_
  refine nv_put CFx in_X10_findIntervals_X10 tyX10 tyX10_ok nmX10 hK hP hD hS 0 rfl rfl 25 (by decide) (List.mem_of_getElem? (i := 1) rfl) rfl (by decide +kernel) (Nat.le_of_ble_eq_true rfl) dX10_findIntervals_2 (fun H locs hP hD hS => ?_)
  have hP : va_P (dC, dI) vwCl [(h, .inr (10, [.int (nI m), v1, v2, v3, .int (nI rl), .int (nI rb), .int (nI rr), .int (nI ra), v8, v9, v10, v11, v12, v13, v14, v15, v16, v17, v18, v19, v20, v21, .ref aC, .ref aF, .ref aG, .int (nI 0), v26, v27, v28])), (aC, .inl (cI, 4096, .inl (nA g))), (aF, .inl (cI, 4096, .inl (nA Fa))), (aG, .inl (cI, 4096, .inl (nA Ga)))] H := hP
  have hD : va_D A [(h, .inr (10, [.int (nI m), v1, v2, v3, .int (nI rl), .int (nI rb), .int (nI rr), .int (nI ra), v8, v9, v10, v11, v12, v13, v14, v15, v16, v17, v18, v19, v20, v21, .ref aC, .ref aF, .ref aG, .int (nI 0), v26, v27, v28])), (aC, .inl (cI, 4096, .inl (nA g))), (aF, .inl (cI, 4096, .inl (nA Fa))), (aG, .inl (cI, 4096, .inl (nA Ga)))] := hD
  refine lv_iconst (v := nI 0) hex hby dX10_findIntervals_5 rfl ?_
  refine lv_istore_n (lv' := [(1, .int (nI 0)), (0, .ref h)]) hex hby dX10_findIntervals_6 rfl hl (by decide) rfl (fun ls hl => ?_)
  refine lv_iconst (v := nI 0) hex hby dX10_findIntervals_7 rfl ?_
  refine lv_istore_n (lv' := [(2, .int (nI 0)), (1, .int (nI 0)), (0, .ref h)]) hex hby dX10_findIntervals_8 rfl hl (by decide) rfl (fun ls hl => ?_)
  have loop9 : ∀ (nn : Nat) (i : Nat) (op : Nat) (cn : Nat) (FF : Nat → Nat) (GG : Nat → Nat), (4 ^ m - i) < nn → (i ≤ 4 ^ m) → (IvOK (inG g rl rb rr ra) i cn FF GG) → (op ≤ 1) → (op = 1 → 0 < i ∧ inG g rl rb rr ra (i - 1) ∧ 0 < cn ∧ GG (cn - 1) + 1 = i) → (op = 0 → (i = 0 ∨ ¬ inG g rl rb rr ra (i - 1))) → (∀ j, FF j < 4096) → (∀ j, GG j < 4096) → ∀ (H : Heap) (locs : List Loc), va_P (dC, dI) vwCl [(h, .inr (10, [.int (nI m), v1, v2, v3, .int (nI rl), .int (nI rb), .int (nI rr), .int (nI ra), v8, v9, v10, v11, v12, v13, v14, v15, v16, v17, v18, v19, v20, v21, .ref aC, .ref aF, .ref aG, .int (nI cn), v26, v27, v28])), (aC, .inl (cI, 4096, .inl (nA g))), (aF, .inl (cI, 4096, .inl (nA FF))), (aG, .inl (cI, 4096, .inl (nA GG)))] H → va_D A [(h, .inr (10, [.int (nI m), v1, v2, v3, .int (nI rl), .int (nI rb), .int (nI rr), .int (nI ra), v8, v9, v10, v11, v12, v13, v14, v15, v16, v17, v18, v19, v20, v21, .ref aC, .ref aF, .ref aG, .int (nI cn), v26, v27, v28])), (aC, .inl (cI, 4096, .inl (nA g))), (aF, .inl (cI, 4096, .inl (nA FF))), (aG, .inl (cI, 4096, .inl (nA GG)))] → va_S A ss.heap H locs → ∀ ls : Array Slot, lv_has ls 4 [(2, .int (nI i)), (1, .int (nI op)), (0, .ref h)] → W pp l ee (rmO 2 43) ss mm ([.ref h] : List Value).toArray bb mt cd H locs 0 0 Q (F0 mm 9 ls []) := by
    intro nn
    induction nn with
    | zero => intro i op cn FF GG hms9; exact absurd hms9 (Nat.not_lt_zero _)
    | succ nn ih9 =>
      intro i op cn FF GG hms9 hi hI hop1 hop hop0 hfb hgb H locs hP hD hS ls hl
      have hcn := hI.1
      have hcl := ctP_le (stI (inG g rl rb rr ra)) i
      refine lv_iload_n hex hby dX10_findIntervals_9 rfl (lv_at hl 0 rfl) ?_
      refine lv_aload_n hex hby dX10_findIntervals_10 rfl (lv_at hl 2 rfl) ?_
      refine ro_Vi (As := []) (rest := [.int (nI i)]) CFx (c_X10_all (h := h) (fs := [.int (nI m), v1, v2, v3, .int (nI rl), .int (nI rb), .int (nI rr), .int (nI ra), v8, v9, v10, v11, v12, v13, v14, v15, v16, v17, v18, v19, v20, v21, .ref aC, .ref aF, .ref aG, .int (nI cn), v26, v27, v28]) (m := m) rfl hm6) 0 gX10_findIntervals_X10_all rfl nd_X10_all ⟨Nat.le_of_ble_eq_true rfl, Nat.le_of_ble_eq_true rfl⟩ hK hP [0] rfl rfl rfl rfl hl.1 rfl (Nat.le_of_ble_eq_true rfl) dX10_findIntervals_11 ⟨Nat.le_refl _, Nat.le_refl _⟩ (fun r_1 hr_1 => ?_)
      obtain rfl := hr_1
      refine nv_icmp_ge (tgt := 75) hex hby dX10_findIntervals_14 (by decide) (by omega) (by omega) (fun c_2 => ?_) (fun c_2 => ?_)
      · exact hret _ (cn, FF, GG) _ _ _ _ _ (Or.inr (Or.inr (Or.inl ⟨rfl, rfl, rfl, dX10_findIntervals_75⟩))) ⟨rfl, ⟨(by rw [show 4 ^ m = i by omega]; exact hI), (by omega), hfb, hgb⟩⟩ hP hD hS
      · refine lv_aload_n hex hby dX10_findIntervals_17 rfl (lv_at hl 2 rfl) ?_
        refine lv_iload_n hex hby dX10_findIntervals_18 rfl (lv_at hl 0 rfl) ?_
        refine ro_Vi (As := [.int (nI i)]) (rest := []) CFx (c_X10_isInRange (h := h) (aC := aC) (fs := [.int (nI m), v1, v2, v3, .int (nI rl), .int (nI rb), .int (nI rr), .int (nI ra), v8, v9, v10, v11, v12, v13, v14, v15, v16, v17, v18, v19, v20, v21, .ref aC, .ref aF, .ref aG, .int (nI cn), v26, v27, v28]) (rl := rl) (rb := rb) (rr := rr) (ra := ra) (g := g) (i := i) rfl rfl rfl rfl rfl hg hrl hrb hrr hra (by omega)) 1 gX10_findIntervals_X10_isInRange rfl nd_X10_isInRange ⟨Nat.le_of_ble_eq_true rfl, Nat.le_of_ble_eq_true rfl⟩ hK hP [0, 1] rfl rfl rfl rfl hl.1 rfl (Nat.le_of_ble_eq_true rfl) dX10_findIntervals_19 ⟨Nat.le_refl _, Nat.le_refl _⟩ (fun r_3 hr_3 => ?_)
        rcases hr_3 with ⟨rfl, hin⟩ | ⟨rfl, hnin⟩
        · refine lv_istore_n (lv' := [(3, .int (nI 1)), (2, .int (nI i)), (1, .int (nI op)), (0, .ref h)]) hex hby dX10_findIntervals_22 rfl hl (by decide) rfl (fun ls hl => ?_)
          refine lv_iload_n hex hby dX10_findIntervals_23 rfl (lv_at hl 0 rfl) ?_
          refine nv_if_eq (tgt := 51) hex hby dX10_findIntervals_24 (by decide) (by omega) (fun c => absurd c (by omega)) (fun _ => ?_)
          refine lv_iload_n hex hby dX10_findIntervals_27 rfl (lv_at hl 2 rfl) ?_
          refine nv_if_ne (tgt := 51) hex hby dX10_findIntervals_28 (by decide) (by omega) (fun c_4 => ?_) (fun c_4 => ?_)
          · refine lv_iload_n hex hby dX10_findIntervals_51 rfl (lv_at hl 0 rfl) ?_
            refine nv_if_eq (tgt := 67) hex hby dX10_findIntervals_52 (by decide) (by omega) (fun c => absurd c (by omega)) (fun _ => ?_)
            have hcp : op ≠ 0 → 0 < cn := fun q => (hop (by omega)).2.2.1
            refine lv_aload_n hex hby dX10_findIntervals_55 rfl (lv_at hl 3 rfl) ?_
            refine nv_get (v := .ref aG) CFx in_X10_findIntervals_X10 hK hP 0 rfl rfl 24 (by decide) (List.mem_of_getElem? (i := 3) rfl) rfl dX10_findIntervals_56 ?_
            refine lv_aload_n hex hby dX10_findIntervals_59 rfl (lv_at hl 3 rfl) ?_
            refine nv_get (v := .int (nI cn)) CFx in_X10_findIntervals_X10 hK hP 0 rfl rfl 25 (by decide) (List.mem_of_getElem? (i := 1) rfl) rfl dX10_findIntervals_60 ?_
            refine lv_iconst (v := nI 1) hex hby dX10_findIntervals_63 rfl ?_
            refine nv_isub hex hby dX10_findIntervals_64 (by omega) ?_
            refine lv_iload_n hex hby dX10_findIntervals_65 rfl (lv_at hl 1 rfl) ?_
            refine nv_iast hex hby hK hP hD hS 3 0 rfl rfl (by omega) (by omega) dX10_findIntervals_66 (fun H locs hP hD hS => ?_)
            have hP : va_P (dC, dI) vwCl [(h, .inr (10, [.int (nI m), v1, v2, v3, .int (nI rl), .int (nI rb), .int (nI rr), .int (nI ra), v8, v9, v10, v11, v12, v13, v14, v15, v16, v17, v18, v19, v20, v21, .ref aC, .ref aF, .ref aG, .int (nI cn), v26, v27, v28])), (aC, .inl (cI, 4096, .inl (nA g))), (aF, .inl (cI, 4096, .inl (nA FF))), (aG, .inl (cI, 4096, .inl (nA (upN GG (cn - 1) i))))] H := hP
            have hD : va_D A [(h, .inr (10, [.int (nI m), v1, v2, v3, .int (nI rl), .int (nI rb), .int (nI rr), .int (nI ra), v8, v9, v10, v11, v12, v13, v14, v15, v16, v17, v18, v19, v20, v21, .ref aC, .ref aF, .ref aG, .int (nI cn), v26, v27, v28])), (aC, .inl (cI, 4096, .inl (nA g))), (aF, .inl (cI, 4096, .inl (nA FF))), (aG, .inl (cI, 4096, .inl (nA (upN GG (cn - 1) i))))] := hD
            have hB_5 := upN_lt (k := cn - 1) (x := i) hgb (by omega)
            refine lv_iload_n hex hby dX10_findIntervals_67 rfl (lv_at hl 0 rfl) ?_
            refine lv_istore_n (lv' := [(1, .int (nI 1)), (3, .int (nI 1)), (2, .int (nI i)), (0, .ref h)]) hex hby dX10_findIntervals_68 rfl hl (by decide) rfl (fun ls hl => ?_)
            refine lv_iinc (v := nI (i + 1)) (lv' := [(2, .int (nI (i + 1))), (1, .int (nI 1)), (3, .int (nI 1)), (0, .ref h)]) hex hby dX10_findIntervals_69 hl (k := 2) rfl (ni_inc _) (by decide) rfl (fun ls hl => ?_)
            refine lv_goto (tgt := 9) hex hby dX10_findIntervals_72 (by decide) ?_
            exact ih9 (i + 1) 1 cn FF (upN GG (cn - 1) i) (by omega) (by omega) (hI.more hin (hop (by omega)).1 (hop (by omega)).2.1 (hop (by omega)).2.2.1 (hop (by omega)).2.2.2) (by omega) (fun _ => ⟨by omega, hin, (hop (by omega)).2.2.1, by rw [upN_s]⟩) (fun h => absurd h (by decide)) hfb hB_5 _ _ hP hD hS _ (lv_sub hl [0, 1, 3] rfl)
          · refine lv_aload_n hex hby dX10_findIntervals_31 rfl (lv_at hl 3 rfl) ?_
            refine nv_get (v := .ref aF) CFx in_X10_findIntervals_X10 hK hP 0 rfl rfl 23 (by decide) (List.mem_of_getElem? (i := 2) rfl) rfl dX10_findIntervals_32 ?_
            refine lv_aload_n hex hby dX10_findIntervals_35 rfl (lv_at hl 3 rfl) ?_
            refine nv_get (v := .int (nI cn)) CFx in_X10_findIntervals_X10 hK hP 0 rfl rfl 25 (by decide) (List.mem_of_getElem? (i := 1) rfl) rfl dX10_findIntervals_36 ?_
            refine lv_iload_n hex hby dX10_findIntervals_39 rfl (lv_at hl 1 rfl) ?_
            refine nv_iast hex hby hK hP hD hS 2 0 rfl rfl (by omega) (by omega) dX10_findIntervals_40 (fun H locs hP hD hS => ?_)
            have hP : va_P (dC, dI) vwCl [(h, .inr (10, [.int (nI m), v1, v2, v3, .int (nI rl), .int (nI rb), .int (nI rr), .int (nI ra), v8, v9, v10, v11, v12, v13, v14, v15, v16, v17, v18, v19, v20, v21, .ref aC, .ref aF, .ref aG, .int (nI cn), v26, v27, v28])), (aC, .inl (cI, 4096, .inl (nA g))), (aF, .inl (cI, 4096, .inl (nA (upN FF cn i)))), (aG, .inl (cI, 4096, .inl (nA GG)))] H := hP
            have hD : va_D A [(h, .inr (10, [.int (nI m), v1, v2, v3, .int (nI rl), .int (nI rb), .int (nI rr), .int (nI ra), v8, v9, v10, v11, v12, v13, v14, v15, v16, v17, v18, v19, v20, v21, .ref aC, .ref aF, .ref aG, .int (nI cn), v26, v27, v28])), (aC, .inl (cI, 4096, .inl (nA g))), (aF, .inl (cI, 4096, .inl (nA (upN FF cn i)))), (aG, .inl (cI, 4096, .inl (nA GG)))] := hD
            have hB_6 := upN_lt (k := cn) (x := i) hfb (by omega)
            refine lv_aload_n hex hby dX10_findIntervals_41 rfl (lv_at hl 3 rfl) ?_
            refine lv_dup hex hby dX10_findIntervals_42 rfl ?_
            refine nv_get (v := .int (nI cn)) CFx in_X10_findIntervals_X10 hK hP 0 rfl rfl 25 (by decide) (List.mem_of_getElem? (i := 1) rfl) rfl dX10_findIntervals_43 ?_
            refine lv_iconst (v := nI 1) hex hby dX10_findIntervals_46 rfl ?_
            refine nv_iadd hex hby dX10_findIntervals_47 ?_
            refine nv_put CFx in_X10_findIntervals_X10 tyX10 tyX10_ok nmX10 hK hP hD hS 0 rfl rfl 25 (by decide) (List.mem_of_getElem? (i := 1) rfl) rfl (by decide +kernel) (Nat.le_of_ble_eq_true rfl) dX10_findIntervals_48 (fun H locs hP hD hS => ?_)
            have hP : va_P (dC, dI) vwCl [(h, .inr (10, [.int (nI m), v1, v2, v3, .int (nI rl), .int (nI rb), .int (nI rr), .int (nI ra), v8, v9, v10, v11, v12, v13, v14, v15, v16, v17, v18, v19, v20, v21, .ref aC, .ref aF, .ref aG, .int (nI (cn + 1)), v26, v27, v28])), (aC, .inl (cI, 4096, .inl (nA g))), (aF, .inl (cI, 4096, .inl (nA (upN FF cn i)))), (aG, .inl (cI, 4096, .inl (nA GG)))] H := hP
            have hD : va_D A [(h, .inr (10, [.int (nI m), v1, v2, v3, .int (nI rl), .int (nI rb), .int (nI rr), .int (nI ra), v8, v9, v10, v11, v12, v13, v14, v15, v16, v17, v18, v19, v20, v21, .ref aC, .ref aF, .ref aG, .int (nI (cn + 1)), v26, v27, v28])), (aC, .inl (cI, 4096, .inl (nA g))), (aF, .inl (cI, 4096, .inl (nA (upN FF cn i)))), (aG, .inl (cI, 4096, .inl (nA GG)))] := hD
            refine lv_iload_n hex hby dX10_findIntervals_51 rfl (lv_at hl 0 rfl) ?_
            refine nv_if_eq (tgt := 67) hex hby dX10_findIntervals_52 (by decide) (by omega) (fun c => absurd c (by omega)) (fun _ => ?_)
            have hcp : op ≠ 0 → 0 < cn := fun q => (hop (by omega)).2.2.1
            refine lv_aload_n hex hby dX10_findIntervals_55 rfl (lv_at hl 3 rfl) ?_
            refine nv_get (v := .ref aG) CFx in_X10_findIntervals_X10 hK hP 0 rfl rfl 24 (by decide) (List.mem_of_getElem? (i := 3) rfl) rfl dX10_findIntervals_56 ?_
            refine lv_aload_n hex hby dX10_findIntervals_59 rfl (lv_at hl 3 rfl) ?_
            refine nv_get (v := .int (nI (cn + 1))) CFx in_X10_findIntervals_X10 hK hP 0 rfl rfl 25 (by decide) (List.mem_of_getElem? (i := 1) rfl) rfl dX10_findIntervals_60 ?_
            refine lv_iconst (v := nI 1) hex hby dX10_findIntervals_63 rfl ?_
            refine nv_isub hex hby dX10_findIntervals_64 (by omega) ?_
            refine nv_top (y := nI cn) rfl ?_
            refine lv_iload_n hex hby dX10_findIntervals_65 rfl (lv_at hl 1 rfl) ?_
            refine nv_iast hex hby hK hP hD hS 3 0 rfl rfl (by omega) (by omega) dX10_findIntervals_66 (fun H locs hP hD hS => ?_)
            have hP : va_P (dC, dI) vwCl [(h, .inr (10, [.int (nI m), v1, v2, v3, .int (nI rl), .int (nI rb), .int (nI rr), .int (nI ra), v8, v9, v10, v11, v12, v13, v14, v15, v16, v17, v18, v19, v20, v21, .ref aC, .ref aF, .ref aG, .int (nI (cn + 1)), v26, v27, v28])), (aC, .inl (cI, 4096, .inl (nA g))), (aF, .inl (cI, 4096, .inl (nA (upN FF cn i)))), (aG, .inl (cI, 4096, .inl (nA (upN GG cn i))))] H := hP
            have hD : va_D A [(h, .inr (10, [.int (nI m), v1, v2, v3, .int (nI rl), .int (nI rb), .int (nI rr), .int (nI ra), v8, v9, v10, v11, v12, v13, v14, v15, v16, v17, v18, v19, v20, v21, .ref aC, .ref aF, .ref aG, .int (nI (cn + 1)), v26, v27, v28])), (aC, .inl (cI, 4096, .inl (nA g))), (aF, .inl (cI, 4096, .inl (nA (upN FF cn i)))), (aG, .inl (cI, 4096, .inl (nA (upN GG cn i))))] := hD
            have hB_7 := upN_lt (k := cn) (x := i) hgb (by omega)
            refine lv_iload_n hex hby dX10_findIntervals_67 rfl (lv_at hl 0 rfl) ?_
            refine lv_istore_n (lv' := [(1, .int (nI 1)), (3, .int (nI 1)), (2, .int (nI i)), (0, .ref h)]) hex hby dX10_findIntervals_68 rfl hl (by decide) rfl (fun ls hl => ?_)
            refine lv_iinc (v := nI (i + 1)) (lv' := [(2, .int (nI (i + 1))), (1, .int (nI 1)), (3, .int (nI 1)), (0, .ref h)]) hex hby dX10_findIntervals_69 hl (k := 2) rfl (ni_inc _) (by decide) rfl (fun ls hl => ?_)
            refine lv_goto (tgt := 9) hex hby dX10_findIntervals_72 (by decide) ?_
            exact ih9 (i + 1) 1 (cn + 1) (upN FF cn i) (upN GG cn i) (by omega) (by omega) (hI.start hin (hop0 (by omega))) (by omega) (fun _ => ⟨by omega, hin, by omega, by rw [Nat.add_sub_cancel, upN_s]⟩) (fun h => absurd h (by decide)) hB_6 hB_7 _ _ hP hD hS _ (lv_sub hl [0, 1, 3] rfl)
        · refine lv_istore_n (lv' := [(3, .int (nI 0)), (2, .int (nI i)), (1, .int (nI op)), (0, .ref h)]) hex hby dX10_findIntervals_22 rfl hl (by decide) rfl (fun ls hl => ?_)
          refine lv_iload_n hex hby dX10_findIntervals_23 rfl (lv_at hl 0 rfl) ?_
          refine nv_if_eq (tgt := 51) hex hby dX10_findIntervals_24 (by decide) (by omega) (fun _ => ?_) (fun c => absurd c (by omega))
          refine lv_iload_n hex hby dX10_findIntervals_51 rfl (lv_at hl 0 rfl) ?_
          refine nv_if_eq (tgt := 67) hex hby dX10_findIntervals_52 (by decide) (by omega) (fun _ => ?_) (fun c => absurd c (by omega))
          refine lv_iload_n hex hby dX10_findIntervals_67 rfl (lv_at hl 0 rfl) ?_
          refine lv_istore_n (lv' := [(1, .int (nI 0)), (3, .int (nI 0)), (2, .int (nI i)), (0, .ref h)]) hex hby dX10_findIntervals_68 rfl hl (by decide) rfl (fun ls hl => ?_)
          refine lv_iinc (v := nI (i + 1)) (lv' := [(2, .int (nI (i + 1))), (1, .int (nI 0)), (3, .int (nI 0)), (0, .ref h)]) hex hby dX10_findIntervals_69 hl (k := 2) rfl (ni_inc _) (by decide) rfl (fun ls hl => ?_)
          refine lv_goto (tgt := 9) hex hby dX10_findIntervals_72 (by decide) ?_
          exact ih9 (i + 1) 0 cn FF GG (by omega) (by omega) (hI.out hnin) (by omega) (fun h => absurd h (by decide)) (fun _ => Or.inr hnin) hfb hgb _ _ hP hD hS _ (lv_sub hl [0, 1, 3] rfl)
  exact loop9 _ 0 0 0 Fa Ga (Nat.lt_succ_self _) (by omega) (IvOK.zero _ _ _) (by omega) (fun h => absurd h (by decide)) (fun _ => Or.inl rfl) hF0 hG0 _ _ hP hD hS _ (lv_sub hl [0, 1, 2] rfl)
end IVL
