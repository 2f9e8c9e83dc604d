section TXT
variable {l : Launch} {dC : Nat → ClassId} {dI : Nat → Nat → Nat} {cI cZ cS : ClassId}
def wel (tx : Nat → Nat) (i : Nat) : Prop := (i % 9 < 4 ∧ 48 ≤ tx i ∧ tx i ≤ 51 ∧ ∀ j, i - i % 9 ≤ j → j < i → tx j ≠ tx i) ∨ (4 ≤ i % 9 ∧ i % 9 < 8 ∧ 48 ≤ tx i ∧ tx i ≤ 57) ∨ (i % 9 = 8 ∧ tx i = 59)
def wl (tx : Nat → Nat) (i : Nat) : Prop := i < 72 ∧ wel tx i
def bdS (tx : Nat → Nat) (tl i : Nat) : Prop := 4 ≤ i % 9 ∧ i % 9 < 8 ∧ tl / 9 ≤ tx i - 48
/-- the fault's place of a text, -1 if there is none -/
def Flt (tx : Nat → Nat) (tl : Nat) (r : Int) : Prop := (∃ i, i < tl ∧ r = (i : Int) ∧ ¬ wl tx i ∧ ∀ j, j < i → wl tx j) ∨ ((∀ j, j < tl → wl tx j) ∧ (tl = 0 ∨ tl % 9 ≠ 0) ∧ r = (tl : Int)) ∨
  ((∀ j, j < tl → wl tx j) ∧ 0 < tl ∧ tl % 9 = 0 ∧ ((∃ i, i < tl ∧ r = (i : Int) ∧ bdS tx tl i ∧ ∀ j, j < i → ¬ bdS tx tl j) ∨ ((∀ j, j < tl → ¬ bdS tx tl j) ∧ r = -1)))
theorem first_one {p : Nat → Prop} {i j : Nat} (hi : p i) (h1 : ∀ k, k < i → ¬ p k) (hj : p j) (h2 : ∀ k, k < j → ¬ p k) : i = j := by
  rcases Nat.lt_trichotomy i j with q | q | q
  · exact absurd hi (h2 i q)
  · exact q
  · exact absurd hj (h1 j q)
theorem Flt.uniq {tx tx' : Nat → Nat} {tl : Nat} {r r' : Int} (hc : ∀ j, j < tl → tx j = tx' j) (h : Flt tx tl r) (h' : Flt tx' tl r') : r = r' := by
  have hw : ∀ j, j < tl → (wl tx j ↔ wl tx' j) := by
    intro j hj
    unfold wl wel
    rw [hc j hj]
    have e : (∀ k, j - j % 9 ≤ k → k < j → tx k ≠ tx' j) ↔ (∀ k, j - j % 9 ≤ k → k < j → tx' k ≠ tx' j) := ⟨fun h k h1 h2 => by rw [← hc k (by omega)]; exact h k h1 h2, fun h k h1 h2 => by rw [hc k (by omega)]; exact h k h1 h2⟩
    rw [e]
  have hb : ∀ j, j < tl → (bdS tx tl j ↔ bdS tx' tl j) := by
    intro j hj
    unfold bdS
    rw [hc j hj]
  rcases h with ⟨i, i1, i2, i3, i4⟩ | ⟨a1, a2, a3⟩ | ⟨a1, a2, a3, a4⟩
  · rcases h' with ⟨j, j1, j2, j3, j4⟩ | ⟨b1, _⟩ | ⟨b1, _⟩
    · rw [i2, j2]
      congr 1
      exact first_one (p := fun k => ¬ wl tx k) i3 (fun k hk q => q (i4 k hk)) (fun q => j3 ((hw j j1).mp q)) (fun k hk q => q ((hw k (by omega)).mpr (j4 k hk)))
    · exact absurd ((hw i i1).mpr (b1 i i1)) i3
    · exact absurd ((hw i i1).mpr (b1 i i1)) i3
  · rcases h' with ⟨j, j1, j2, j3, j4⟩ | ⟨b1, b2, b3⟩ | ⟨b1, b2, b3, b4⟩
    · exact absurd ((hw j j1).mp (a1 j j1)) j3
    · rw [a3, b3]
    · clear b4; omega
  · rcases h' with ⟨j, j1, j2, j3, j4⟩ | ⟨b1, b2, b3⟩ | ⟨b1, b2, b3, b4⟩
    · exact absurd ((hw j j1).mp (a1 j j1)) j3
    · omega
    · rcases a4 with ⟨i, i1, i2, i3, i4⟩ | ⟨c1, c2⟩
      · rcases b4 with ⟨j, j1, j2, j3, j4⟩ | ⟨d1, d2⟩
        · rw [i2, j2]
          congr 1
          exact first_one (p := fun k => bdS tx tl k) i3 i4 ((hb j j1).mpr j3) (fun k hk q => j4 k hk ((hb k (by omega)).mp q))
        · exact absurd ((hb i i1).mp i3) (d1 i i1)
      · rcases b4 with ⟨j, j1, j2, j3, j4⟩ | ⟨d1, d2⟩
        · exact absurd ((hb j j1).mpr j3) (c1 j j1)
        · rw [c2, d2]
theorem Flt.rng {tx : Nat → Nat} {tl : Nat} {r : Int} (h : Flt tx tl r) : -1 ≤ r ∧ r ≤ (tl : Int) := by
  rcases h with ⟨i, i1, i2, _⟩ | ⟨_, _, a3⟩ | ⟨_, _, _, ⟨i, i1, i2, _⟩ | ⟨_, c2⟩⟩ <;> omega
theorem wl_dig {tx : Nat → Nat} {i : Nat} (h : wl tx i) (h8 : i % 9 ≠ 8) : 48 ≤ tx i ∧ tx i ≤ 57 := by
  rcases h.2 with ⟨h1, h2, h3, _⟩ | ⟨h1, h2, h3, h4⟩ | ⟨h1, _⟩ <;> omega
theorem nd_X8_add : ndV yX8_add RX8 1 := by decide +kernel
theorem in_X8_add_X8 : ∀ w ∈ wsX80, w ∈ wsX8_add := fun _ h => List.mem_cons_of_mem _ (List.mem_append_right _ (h))
set_option maxHeartbeats 4000000 in
set_option maxRecDepth 100000 in
theorem c_X8_add {hx_ : Nat} {aX : Nat} {tl : Nat} {tx : Nat → Nat} {b : Nat} (htx : ∀ j, tx j < 128) (htl : tl ≤ 80) (hb0 : b < 128) : MU l yX8_add wsX8_add 0 0 (dC, dI) (tyK cI cZ cS) [(hx_, .inr (8, [.int (nI tl), .ref aX])), (aX, .inl (cI, 80, .inl (nA tx)))] [] [.ref hx_, .int (nI b)] (fun rv_ (u_ : Nat × (Nat → Nat)) => rI (fun r => (r = nI 1 ∧ tl < 80 ∧ tl + 1 = u_.1 ∧ upN tx tl b = u_.2) ∨ (r = nI 0 ∧ 80 ≤ tl ∧ tl = u_.1 ∧ tx = u_.2)) rv_) (fun (u_ : Nat × (Nat → Nat)) => [(hx_, .inr (8, [.int (nI u_.1), .ref aX])), (aX, .inl (cI, 80, .inl (nA u_.2)))]) := by
  refine mu_of (by decide) rfl (Nat.le_of_ble_eq_true rfl) ?_
  intro pp ee ss mm bb mt cd Q A CFx hP hK hD hS hA hTr hret ls hl
  obtain ⟨hex, hby, hml, hown, hts⟩ := id CFx
  have hl : lv_has ls 2 [(0, .ref hx_), (1, .int (nI b))] := hl
  refine lv_aload_n hex hby dX8_add_0 rfl (lv_at hl 0 rfl) ?_
  refine nv_get (v := .int (nI tl)) CFx in_X8_add_X8 hK hP 0 rfl rfl 0 (by decide) (List.mem_of_getElem? (i := 1) rfl) rfl dX8_add_1 ?_
  refine lv_bipush (v := nI 80) hex hby dX8_add_4 rfl ?_
  refine nv_icmp_lt (tgt := 11) hex hby dX8_add_6 (by decide) (by omega) (by omega) (fun c_1 => ?_) (fun c_1 => ?_)
  · refine lv_aload_n hex hby dX8_add_11 rfl (lv_at hl 0 rfl) ?_
    refine nv_get (v := .ref aX) CFx in_X8_add_X8 hK hP 0 rfl rfl 1 (by decide) (List.mem_of_getElem? (i := 2) rfl) rfl dX8_add_12 ?_
    refine lv_aload_n hex hby dX8_add_15 rfl (lv_at hl 0 rfl) ?_
    refine nv_get (v := .int (nI tl)) CFx in_X8_add_X8 hK hP 0 rfl rfl 0 (by decide) (List.mem_of_getElem? (i := 1) rfl) rfl dX8_add_16 ?_
    refine lv_iload_n hex hby dX8_add_19 rfl (lv_at hl 1 rfl) ?_
    refine nv_iast hex hby hK hP hD hS 1 0 rfl rfl (by omega) (by omega) dX8_add_20 (fun H locs hP hD hS => ?_)
    have hP : va_P (dC, dI) vwCl [(hx_, .inr (8, [.int (nI tl), .ref aX])), (aX, .inl (cI, 80, .inl (nA (upN tx tl b))))] H := hP
    have hD : va_D A [(hx_, .inr (8, [.int (nI tl), .ref aX])), (aX, .inl (cI, 80, .inl (nA (upN tx tl b))))] := hD
    have hB_2 := upN_lt (k := tl) (x := b) htx (by omega)
    refine lv_aload_n hex hby dX8_add_21 rfl (lv_at hl 0 rfl) ?_
    refine lv_dup hex hby dX8_add_22 rfl ?_
    refine nv_get (v := .int (nI tl)) CFx in_X8_add_X8 hK hP 0 rfl rfl 0 (by decide) (List.mem_of_getElem? (i := 1) rfl) rfl dX8_add_23 ?_
    refine lv_iconst (v := nI 1) hex hby dX8_add_26 rfl ?_
    refine nv_iadd hex hby dX8_add_27 ?_
    refine nv_put CFx in_X8_add_X8 tyX8 tyX8_ok nmX8 hK hP hD hS 0 rfl rfl 0 (by decide) (List.mem_of_getElem? (i := 1) rfl) rfl (by decide +kernel) (Nat.le_of_ble_eq_true rfl) dX8_add_28 (fun H locs hP hD hS => ?_)
    have hP : va_P (dC, dI) vwCl [(hx_, .inr (8, [.int (nI (tl + 1)), .ref aX])), (aX, .inl (cI, 80, .inl (nA (upN tx tl b))))] H := hP
    have hD : va_D A [(hx_, .inr (8, [.int (nI (tl + 1)), .ref aX])), (aX, .inl (cI, 80, .inl (nA (upN tx tl b))))] := hD
    refine lv_iconst (v := nI 1) hex hby dX8_add_31 rfl ?_
    exact hret _ (tl + 1, upN tx tl b) _ _ _ _ _ (Or.inr (Or.inl ⟨rfl, _, (Or.inl rfl), rfl, rfl, dX8_add_32⟩)) ⟨_, rfl, Or.inl ⟨rfl, (by omega), rfl, rfl⟩⟩ hP hD hS
  · refine lv_iconst (v := nI 0) hex hby dX8_add_9 rfl ?_
    exact hret _ (tl, tx) _ _ _ _ _ (Or.inr (Or.inl ⟨rfl, _, (Or.inr rfl), rfl, rfl, dX8_add_10⟩)) ⟨_, rfl, Or.inr ⟨rfl, (by omega), rfl, rfl⟩⟩ hP hD hS
theorem nd_X8_digitAt : ndV yX8_digitAt RX8 2 := by decide +kernel
theorem in_X8_digitAt_X8 : ∀ w ∈ wsX80, w ∈ wsX8_digitAt := fun _ h => List.mem_cons_of_mem _ (List.mem_append_right _ (h))
set_option maxHeartbeats 4000000 in
set_option maxRecDepth 100000 in
theorem c_X8_digitAt {hx_ : Nat} {aX : Nat} {fx : List Value} {tx : Nat → Nat} {s : Nat} {k : Nat} (faX : fx[1]? = some (.ref aX)) (htx : ∀ j, tx j < 128) (hs0 : 9 * s + k < 80) (hd0 : 48 ≤ tx (9 * s + k)) : RO l yX8_digitAt wsX8_digitAt 0 0 (dC, dI) (tyK cI cZ cS) [(hx_, .inr (8, fx)), (aX, .inl (cI, 80, .inl (nA tx)))] [.ref hx_, .int (nI s), .int (nI k)] (rI (fun r => r = nI (tx (9 * s + k) - 48))) := by
  refine ro_of (by decide) rfl (Nat.le_of_ble_eq_true rfl) ?_
  intro pp ee ss mm bb mt cd Q CFx hP hK hret ls hl
  obtain ⟨hex, hby, hml, hown, hts⟩ := id CFx
  have hl : lv_has ls 3 [(0, .ref hx_), (1, .int (nI s)), (2, .int (nI k))] := hl
  refine lv_aload_n hex hby dX8_digitAt_0 rfl (lv_at hl 0 rfl) ?_
  refine nv_get (v := .ref aX) CFx in_X8_digitAt_X8 hK hP 0 rfl rfl 1 (by decide) (List.mem_of_getElem? (i := 1) rfl) faX dX8_digitAt_1 ?_
  refine lv_bipush (v := nI 9) hex hby dX8_digitAt_4 rfl ?_
  refine lv_iload_n hex hby dX8_digitAt_6 rfl (lv_at hl 1 rfl) ?_
  refine nv_imul hex hby dX8_digitAt_7 ?_
  refine lv_iload_n hex hby dX8_digitAt_8 rfl (lv_at hl 2 rfl) ?_
  refine nv_iadd hex hby dX8_digitAt_9 ?_
  refine nv_iald hex hby hK hP 1 0 rfl rfl (by omega) (by omega) dX8_digitAt_10 ?_
  have hb_1 := htx (9 * s + k)
  refine lv_bipush (v := nI 48) hex hby dX8_digitAt_11 rfl ?_
  refine nv_isub hex hby dX8_digitAt_13 (by omega) ?_
  exact hret _ _ _ _ (Or.inl ⟨rfl, _, rfl, rfl, dX8_digitAt_14⟩) ⟨_, rfl, rfl⟩
theorem nd_X8_countStates : ndV yX8_countStates RX8 0 := by decide +kernel
theorem in_X8_countStates_X8 : ∀ w ∈ wsX80, w ∈ wsX8_countStates := fun _ h => List.mem_cons_of_mem _ (List.mem_append_right _ (h))
set_option maxHeartbeats 4000000 in
set_option maxRecDepth 100000 in
theorem c_X8_countStates {hx_ : Nat} {fx : List Value} {tl : Nat} (ftl : fx[0]? = some (.int (nI tl))) (htl : tl ≤ 80) : RO l yX8_countStates wsX8_countStates 0 0 (dC, dI) (tyK cI cZ cS) [(hx_, .inr (8, fx))] [.ref hx_] (rI (fun r => r = nI (tl / 9))) := by
  refine ro_of (by decide) rfl (Nat.le_of_ble_eq_true rfl) ?_
  intro pp ee ss mm bb mt cd Q CFx hP hK hret ls hl
  obtain ⟨hex, hby, hml, hown, hts⟩ := id CFx
  have hl : lv_has ls 1 [(0, .ref hx_)] := hl
  refine lv_aload_n hex hby dX8_countStates_0 rfl (lv_at hl 0 rfl) ?_
  refine nv_get (v := .int (nI tl)) CFx in_X8_countStates_X8 hK hP 0 rfl rfl 0 (by decide) (List.mem_of_getElem? (i := 1) rfl) ftl dX8_countStates_1 ?_
  refine lv_bipush (v := nI 9) hex hby dX8_countStates_4 rfl ?_
  refine nv_idiv hex hby dX8_countStates_6 (by omega) (by omega) (by omega) ?_
  exact hret _ _ _ _ (Or.inl ⟨rfl, _, rfl, rfl, dX8_countStates_7⟩) ⟨_, rfl, rfl⟩
theorem nd_X8_isToldBefore : ndV yX8_isToldBefore RX8 2 := by decide +kernel
theorem in_X8_isToldBefore_X8 : ∀ w ∈ wsX80, w ∈ wsX8_isToldBefore := fun _ h => List.mem_cons_of_mem _ (List.mem_append_right _ (h))
set_option maxHeartbeats 4000000 in
set_option maxRecDepth 100000 in
theorem c_X8_isToldBefore {hx_ : Nat} {aX : Nat} {fx : List Value} {tx : Nat → Nat} {p : Nat} {k : Nat} (faX : fx[1]? = some (.ref aX)) (htx : ∀ j, tx j < 128) (hp0 : p < 80) (hk0 : k ≤ p) : RO l yX8_isToldBefore wsX8_isToldBefore 0 0 (dC, dI) (tyK cI cZ cS) [(hx_, .inr (8, fx)), (aX, .inl (cI, 80, .inl (nA tx)))] [.ref hx_, .int (nI p), .int (nI k)] (rI (fun r => (r = nI 1 ∧ (∃ j, p - k ≤ j ∧ j < p ∧ tx j = tx p)) ∨ (r = nI 0 ∧ (∀ j, p - k ≤ j → j < p → tx j ≠ tx p)))) := by
  refine ro_of (by decide) rfl (Nat.le_of_ble_eq_true rfl) ?_
  intro pp ee ss mm bb mt cd Q CFx hP hK hret ls hl
  obtain ⟨hex, hby, hml, hown, hts⟩ := id CFx
  have hl : lv_has ls 4 [(0, .ref hx_), (1, .int (nI p)), (2, .int (nI k))] := hl
  refine lv_iload_n hex hby dX8_isToldBefore_0 rfl (lv_at hl 1 rfl) ?_
  refine lv_iload_n hex hby dX8_isToldBefore_1 rfl (lv_at hl 2 rfl) ?_
  refine nv_isub hex hby dX8_isToldBefore_2 (by omega) ?_
  refine lv_istore_n (lv' := [(3, .int (nI (p - k))), (0, .ref hx_), (1, .int (nI p)), (2, .int (nI k))]) hex hby dX8_isToldBefore_3 rfl hl (by decide) rfl (fun ls hl => ?_)
  have loop4 : ∀ (nn : Nat) (i : Nat), (p - i) < nn → (p - k ≤ i) → (i ≤ p) → (∀ j, p - k ≤ j → j < i → tx j ≠ tx p) → ∀ ls : Array Slot, lv_has ls 4 [(3, .int (nI i)), (0, .ref hx_), (1, .int (nI p)), (2, .int (nI k))] → W pp l ee (rmO 0 0) ss mm ([.ref hx_, .int (nI p), .int (nI k)] : List Value).toArray bb mt cd ss.heap [] 0 0 Q (F0 mm 4 ls []) := by
    intro nn
    induction nn with
    | zero => intro i hms4; exact absurd hms4 (Nat.not_lt_zero _)
    | succ nn ih4 =>
      intro i hms4 hi1 hi hno ls hl
      refine lv_iload_n hex hby dX8_isToldBefore_4 rfl (lv_at hl 0 rfl) ?_
      refine lv_iload_n hex hby dX8_isToldBefore_5 rfl (lv_at hl 2 rfl) ?_
      refine nv_icmp_ge (tgt := 32) hex hby dX8_isToldBefore_6 (by decide) (by omega) (by omega) (fun c_1 => ?_) (fun c_1 => ?_)
      · refine lv_iconst (v := nI 0) hex hby dX8_isToldBefore_32 rfl ?_
        exact hret _ _ _ _ (Or.inr (Or.inl ⟨rfl, _, (Or.inr rfl), rfl, rfl, dX8_isToldBefore_33⟩)) ⟨_, rfl, Or.inr ⟨rfl, (fun j h1 h2 => hno j h1 (by omega))⟩⟩
      · refine lv_aload_n hex hby dX8_isToldBefore_9 rfl (lv_at hl 1 rfl) ?_
        refine nv_get (v := .ref aX) CFx in_X8_isToldBefore_X8 hK hP 0 rfl rfl 1 (by decide) (List.mem_of_getElem? (i := 1) rfl) faX dX8_isToldBefore_10 ?_
        refine lv_iload_n hex hby dX8_isToldBefore_13 rfl (lv_at hl 0 rfl) ?_
        refine nv_iald hex hby hK hP 1 0 rfl rfl (by omega) (by omega) dX8_isToldBefore_14 ?_
        have hb_2 := htx i
        refine lv_aload_n hex hby dX8_isToldBefore_15 rfl (lv_at hl 1 rfl) ?_
        refine nv_get (v := .ref aX) CFx in_X8_isToldBefore_X8 hK hP 0 rfl rfl 1 (by decide) (List.mem_of_getElem? (i := 1) rfl) faX dX8_isToldBefore_16 ?_
        refine lv_iload_n hex hby dX8_isToldBefore_19 rfl (lv_at hl 2 rfl) ?_
        refine nv_iald hex hby hK hP 1 0 rfl rfl (by omega) (by omega) dX8_isToldBefore_20 ?_
        have hb_3 := htx p
        refine nv_icmp_ne (tgt := 26) hex hby dX8_isToldBefore_21 (by decide) (by omega) (by omega) (fun c_4 => ?_) (fun c_4 => ?_)
        · refine lv_iinc (v := nI (i + 1)) (lv' := [(3, .int (nI (i + 1))), (0, .ref hx_), (1, .int (nI p)), (2, .int (nI k))]) hex hby dX8_isToldBefore_26 hl (k := 0) rfl (ni_inc _) (by decide) rfl (fun ls hl => ?_)
          refine lv_goto (tgt := 4) hex hby dX8_isToldBefore_29 (by decide) ?_
          have pf_5 : ∀ j, p - k ≤ j → j < (i + 1) → tx j ≠ tx p := by
            intro j h1 h2
            rcases Nat.lt_or_ge j i with q | q
            · exact hno j h1 q
            · rw [show j = i by omega]; omega
          exact ih4 (i + 1) (by omega) (by omega) (by omega) pf_5 _ (lv_sub hl [0, 1, 2, 3] rfl)
        · refine lv_iconst (v := nI 1) hex hby dX8_isToldBefore_24 rfl ?_
          exact hret _ _ _ _ (Or.inr (Or.inl ⟨rfl, _, (Or.inl rfl), rfl, rfl, dX8_isToldBefore_25⟩)) ⟨_, rfl, Or.inl ⟨rfl, ⟨i, hi1, by omega, by omega⟩⟩⟩
  exact loop4 _ (p - k) (Nat.lt_succ_self _) (by omega) (by omega) (fun j h1 h2 => absurd h2 (by omega)) _ (lv_sub hl [0, 1, 2, 3] rfl)
theorem nd_X8_fitsForm : ndV yX8_fitsForm RX8 1 := by decide +kernel
theorem in_X8_fitsForm_X8 : ∀ w ∈ wsX80, w ∈ wsX8_fitsForm := fun _ h => List.mem_cons_of_mem _ (List.mem_append_right _ (h))
set_option maxHeartbeats 4000000 in
set_option maxRecDepth 100000 in
theorem c_X8_fitsForm {hx_ : Nat} {aX : Nat} {fx : List Value} {tx : Nat → Nat} {p : Nat} (faX : fx[1]? = some (.ref aX)) (htx : ∀ j, tx j < 128) (hp0 : p < 80) : RO l yX8_fitsForm wsX8_fitsForm 1 23 (dC, dI) (tyK cI cZ cS) [(hx_, .inr (8, fx)), (aX, .inl (cI, 80, .inl (nA tx)))] [.ref hx_, .int (nI p)] (rI (fun r => (r = nI 1 ∧ wel tx p) ∨ (r = nI 0 ∧ ¬ wel tx p))) := by
  refine ro_of (by decide) rfl (Nat.le_of_ble_eq_true rfl) ?_
  intro pp ee ss mm bb mt cd Q CFx hP hK hret ls hl
  obtain ⟨hex, hby, hml, hown, hts⟩ := id CFx
  have hl : lv_has ls 4 [(0, .ref hx_), (1, .int (nI p))] := hl
  refine lv_iload_n hex hby dX8_fitsForm_0 rfl (lv_at hl 1 rfl) ?_
  refine lv_bipush (v := nI 9) hex hby dX8_fitsForm_1 rfl ?_
  refine nv_irem hex hby dX8_fitsForm_3 (by omega) (by omega) (by omega) ?_
  refine lv_istore_n (lv' := [(2, .int (nI (p % 9))), (0, .ref hx_), (1, .int (nI p))]) hex hby dX8_fitsForm_4 rfl hl (by decide) rfl (fun ls hl => ?_)
  refine lv_aload_n hex hby dX8_fitsForm_5 rfl (lv_at hl 1 rfl) ?_
  refine nv_get (v := .ref aX) CFx in_X8_fitsForm_X8 hK hP 0 rfl rfl 1 (by decide) (List.mem_of_getElem? (i := 1) rfl) faX dX8_fitsForm_6 ?_
  refine lv_iload_n hex hby dX8_fitsForm_9 rfl (lv_at hl 2 rfl) ?_
  refine nv_iald hex hby hK hP 1 0 rfl rfl (by omega) (by omega) dX8_fitsForm_10 ?_
  have hb_1 := htx p
  refine lv_istore_n (lv' := [(3, .int (nI (tx p))), (2, .int (nI (p % 9))), (0, .ref hx_), (1, .int (nI p))]) hex hby dX8_fitsForm_11 rfl hl (by decide) rfl (fun ls hl => ?_)
  refine lv_iload_n hex hby dX8_fitsForm_12 rfl (lv_at hl 1 rfl) ?_
  refine lv_iconst (v := nI 4) hex hby dX8_fitsForm_13 rfl ?_
  refine nv_icmp_ge (tgt := 44) hex hby dX8_fitsForm_14 (by decide) (by omega) (by omega) (fun c_2 => ?_) (fun c_2 => ?_)
  · refine lv_iload_n hex hby dX8_fitsForm_44 rfl (lv_at hl 1 rfl) ?_
    refine lv_bipush (v := nI 8) hex hby dX8_fitsForm_45 rfl ?_
    refine nv_icmp_ge (tgt := 68) hex hby dX8_fitsForm_47 (by decide) (by omega) (by omega) (fun c_3 => ?_) (fun c_3 => ?_)
    · refine lv_iload_n hex hby dX8_fitsForm_68 rfl (lv_at hl 0 rfl) ?_
      refine lv_bipush (v := nI 59) hex hby dX8_fitsForm_69 rfl ?_
      refine nv_icmp_ne (tgt := 78) hex hby dX8_fitsForm_71 (by decide) (by omega) (by omega) (fun c_4 => ?_) (fun c_4 => ?_)
      · refine lv_iconst (v := nI 0) hex hby dX8_fitsForm_78 rfl ?_
        exact hret _ _ _ _ (Or.inr (Or.inl ⟨rfl, _, (Or.inr rfl), rfl, rfl, dX8_fitsForm_79⟩)) ⟨_, rfl, Or.inr ⟨rfl, (fun h => by rcases h with ⟨h1, h2, h3, h4⟩ | ⟨h1, h2, h3⟩ | ⟨h1, h2⟩ <;> omega)⟩⟩
      · refine lv_iconst (v := nI 1) hex hby dX8_fitsForm_74 rfl ?_
        refine lv_goto (tgt := 79) hex hby dX8_fitsForm_75 (by decide) ?_
        exact hret _ _ _ _ (Or.inr (Or.inl ⟨rfl, _, (Or.inl rfl), rfl, rfl, dX8_fitsForm_79⟩)) ⟨_, rfl, Or.inl ⟨rfl, (Or.inr (Or.inr ⟨by omega, by omega⟩))⟩⟩
    · refine lv_iload_n hex hby dX8_fitsForm_50 rfl (lv_at hl 0 rfl) ?_
      refine lv_bipush (v := nI 48) hex hby dX8_fitsForm_51 rfl ?_
      refine nv_icmp_lt (tgt := 66) hex hby dX8_fitsForm_53 (by decide) (by omega) (by omega) (fun c_5 => ?_) (fun c_5 => ?_)
      · refine lv_iconst (v := nI 0) hex hby dX8_fitsForm_66 rfl ?_
        exact hret _ _ _ _ (Or.inr (Or.inl ⟨rfl, _, (Or.inr rfl), rfl, rfl, dX8_fitsForm_67⟩)) ⟨_, rfl, Or.inr ⟨rfl, (fun h => by rcases h with ⟨h1, h2, h3, h4⟩ | ⟨h1, h2, h3⟩ | ⟨h1, h2⟩ <;> omega)⟩⟩
      · refine lv_iload_n hex hby dX8_fitsForm_56 rfl (lv_at hl 0 rfl) ?_
        refine lv_bipush (v := nI 57) hex hby dX8_fitsForm_57 rfl ?_
        refine nv_icmp_gt (tgt := 66) hex hby dX8_fitsForm_59 (by decide) (by omega) (by omega) (fun c_6 => ?_) (fun c_6 => ?_)
        · refine lv_iconst (v := nI 0) hex hby dX8_fitsForm_66 rfl ?_
          exact hret _ _ _ _ (Or.inr (Or.inl ⟨rfl, _, (Or.inr rfl), rfl, rfl, dX8_fitsForm_67⟩)) ⟨_, rfl, Or.inr ⟨rfl, (fun h => by rcases h with ⟨h1, h2, h3, h4⟩ | ⟨h1, h2, h3⟩ | ⟨h1, h2⟩ <;> omega)⟩⟩
        · refine lv_iconst (v := nI 1) hex hby dX8_fitsForm_62 rfl ?_
          refine lv_goto (tgt := 67) hex hby dX8_fitsForm_63 (by decide) ?_
          exact hret _ _ _ _ (Or.inr (Or.inl ⟨rfl, _, (Or.inl rfl), rfl, rfl, dX8_fitsForm_67⟩)) ⟨_, rfl, Or.inl ⟨rfl, (Or.inr (Or.inl ⟨by omega, by omega, by omega, by omega⟩))⟩⟩
  · refine lv_iload_n hex hby dX8_fitsForm_17 rfl (lv_at hl 0 rfl) ?_
    refine lv_bipush (v := nI 48) hex hby dX8_fitsForm_18 rfl ?_
    refine nv_icmp_lt (tgt := 42) hex hby dX8_fitsForm_20 (by decide) (by omega) (by omega) (fun c_7 => ?_) (fun c_7 => ?_)
    · refine lv_iconst (v := nI 0) hex hby dX8_fitsForm_42 rfl ?_
      exact hret _ _ _ _ (Or.inr (Or.inl ⟨rfl, _, (Or.inr rfl), rfl, rfl, dX8_fitsForm_43⟩)) ⟨_, rfl, Or.inr ⟨rfl, (fun h => by rcases h with ⟨h1, h2, h3, h4⟩ | ⟨h1, h2, h3⟩ | ⟨h1, h2⟩ <;> omega)⟩⟩
    · refine lv_iload_n hex hby dX8_fitsForm_23 rfl (lv_at hl 0 rfl) ?_
      refine lv_bipush (v := nI 51) hex hby dX8_fitsForm_24 rfl ?_
      refine nv_icmp_gt (tgt := 42) hex hby dX8_fitsForm_26 (by decide) (by omega) (by omega) (fun c_8 => ?_) (fun c_8 => ?_)
      · refine lv_iconst (v := nI 0) hex hby dX8_fitsForm_42 rfl ?_
        exact hret _ _ _ _ (Or.inr (Or.inl ⟨rfl, _, (Or.inr rfl), rfl, rfl, dX8_fitsForm_43⟩)) ⟨_, rfl, Or.inr ⟨rfl, (fun h => by rcases h with ⟨h1, h2, h3, h4⟩ | ⟨h1, h2, h3⟩ | ⟨h1, h2⟩ <;> omega)⟩⟩
      · refine lv_aload_n hex hby dX8_fitsForm_29 rfl (lv_at hl 2 rfl) ?_
        refine lv_iload_n hex hby dX8_fitsForm_30 rfl (lv_at hl 3 rfl) ?_
        refine lv_iload_n hex hby dX8_fitsForm_31 rfl (lv_at hl 1 rfl) ?_
        refine ro_Vi (As := [.int (nI p), .int (nI (p % 9))]) (rest := []) CFx (c_X8_isToldBefore (hx_ := hx_) (aX := aX) (fx := fx) (tx := tx) (p := p) (k := p % 9) faX htx hp0 (by omega)) 2 gX8_fitsForm_X8_isToldBefore rfl nd_X8_isToldBefore ⟨Nat.le_of_ble_eq_true rfl, Nat.le_of_ble_eq_true rfl⟩ hK hP [0, 1] rfl rfl rfl rfl hl.1 rfl (Nat.le_of_ble_eq_true rfl) dX8_fitsForm_32 ⟨Nat.le_refl _, Nat.le_refl _⟩ (fun r_9 hr_9 => ?_)
        rcases hr_9 with ⟨rfl, htold⟩ | ⟨rfl, hnot⟩
        · refine nv_if_ne (tgt := 42) hex hby dX8_fitsForm_35 (by decide) (by omega) (fun _ => ?_) (fun c => absurd c (by omega))
          refine lv_iconst (v := nI 0) hex hby dX8_fitsForm_42 rfl ?_
          have pf_10 : ¬ wel tx p := by
            intro h
            obtain ⟨j, j1, j2, j3⟩ := htold
            rcases h with ⟨h1, h2, h3, h4⟩ | ⟨h1, h2, h3⟩ | ⟨h1, h2⟩
            · exact h4 j j1 j2 j3
            · omega
            · omega
          exact hret _ _ _ _ (Or.inr (Or.inl ⟨rfl, _, (Or.inr rfl), rfl, rfl, dX8_fitsForm_43⟩)) ⟨_, rfl, Or.inr ⟨rfl, pf_10⟩⟩
        · refine nv_if_ne (tgt := 42) hex hby dX8_fitsForm_35 (by decide) (by omega) (fun c => absurd c (by omega)) (fun _ => ?_)
          refine lv_iconst (v := nI 1) hex hby dX8_fitsForm_38 rfl ?_
          refine lv_goto (tgt := 43) hex hby dX8_fitsForm_39 (by decide) ?_
          exact hret _ _ _ _ (Or.inr (Or.inl ⟨rfl, _, (Or.inl rfl), rfl, rfl, dX8_fitsForm_43⟩)) ⟨_, rfl, Or.inl ⟨rfl, (Or.inl ⟨by omega, by omega, by omega, hnot⟩)⟩⟩
theorem nd_X8_findFaultOfForm : ndV yX8_findFaultOfForm RX8 0 := by decide +kernel
theorem in_X8_findFaultOfForm_X8 : ∀ w ∈ wsX80, w ∈ wsX8_findFaultOfForm := fun _ h => List.mem_cons_of_mem _ (List.mem_append_right _ (h))
set_option maxHeartbeats 4000000 in
set_option maxRecDepth 100000 in
theorem c_X8_findFaultOfForm {hx_ : Nat} {aX : Nat} {fx : List Value} {tl : Nat} {tx : Nat → Nat} (ftl : fx[0]? = some (.int (nI tl))) (faX : fx[1]? = some (.ref aX)) (htx : ∀ j, tx j < 128) (htl : tl ≤ 80) : RO l yX8_findFaultOfForm wsX8_findFaultOfForm 2 46 (dC, dI) (tyK cI cZ cS) [(hx_, .inr (8, fx)), (aX, .inl (cI, 80, .inl (nA tx)))] [.ref hx_] (rI (fun r => (∃ k : Nat, r = nI k ∧ k ≤ 80 ∧ Flt tx tl (k : Int)) ∨ (r = zI (-1) ∧ (∀ j, j < tl → wl tx j) ∧ 0 < tl ∧ tl % 9 = 0))) := by
  refine ro_of (by decide) rfl (Nat.le_of_ble_eq_true rfl) ?_
  intro pp ee ss mm bb mt cd Q CFx hP hK hret ls hl
  obtain ⟨hex, hby, hml, hown, hts⟩ := id CFx
  have hl : lv_has ls 2 [(0, .ref hx_)] := hl
  refine lv_iconst (v := nI 0) hex hby dX8_findFaultOfForm_0 rfl ?_
  refine lv_istore_n (lv' := [(1, .int (nI 0)), (0, .ref hx_)]) hex hby dX8_findFaultOfForm_1 rfl hl (by decide) rfl (fun ls hl => ?_)
  have loop2 : ∀ (nn : Nat) (i : Nat), (tl - i) < nn → (i ≤ tl) → (∀ j, j < i → wl tx j) → ∀ ls : Array Slot, lv_has ls 2 [(1, .int (nI i)), (0, .ref hx_)] → W pp l ee (rmO 2 46) ss mm ([.ref hx_] : List Value).toArray bb mt cd ss.heap [] 0 0 Q (F0 mm 2 ls []) := by
    intro nn
    induction nn with
    | zero => intro i hms2; exact absurd hms2 (Nat.not_lt_zero _)
    | succ nn ih2 =>
      intro i hms2 hi hall ls hl
      refine lv_iload_n hex hby dX8_findFaultOfForm_2 rfl (lv_at hl 0 rfl) ?_
      refine lv_aload_n hex hby dX8_findFaultOfForm_3 rfl (lv_at hl 1 rfl) ?_
      refine nv_get (v := .int (nI tl)) CFx in_X8_findFaultOfForm_X8 hK hP 0 rfl rfl 0 (by decide) (List.mem_of_getElem? (i := 1) rfl) ftl dX8_findFaultOfForm_4 ?_
      refine nv_icmp_ge (tgt := 32) hex hby dX8_findFaultOfForm_7 (by decide) (by omega) (by omega) (fun c_1 => ?_) (fun c_1 => ?_)
      · have hei : i = tl := by omega
        have hall2 : ∀ j, j < tl → wl tx j := fun j hj => hall j (by omega)
        refine lv_aload_n hex hby dX8_findFaultOfForm_32 rfl (lv_at hl 1 rfl) ?_
        refine nv_get (v := .int (nI tl)) CFx in_X8_findFaultOfForm_X8 hK hP 0 rfl rfl 0 (by decide) (List.mem_of_getElem? (i := 1) rfl) ftl dX8_findFaultOfForm_33 ?_
        refine nv_if_eq (tgt := 49) hex hby dX8_findFaultOfForm_36 (by decide) (by omega) (fun c_2 => ?_) (fun c_2 => ?_)
        · refine lv_aload_n hex hby dX8_findFaultOfForm_49 rfl (lv_at hl 1 rfl) ?_
          refine nv_get (v := .int (nI tl)) CFx in_X8_findFaultOfForm_X8 hK hP 0 rfl rfl 0 (by decide) (List.mem_of_getElem? (i := 1) rfl) ftl dX8_findFaultOfForm_50 ?_
          refine lv_goto (tgt := 57) hex hby dX8_findFaultOfForm_53 (by decide) ?_
          exact hret _ _ _ _ (Or.inl ⟨rfl, _, rfl, rfl, dX8_findFaultOfForm_57⟩) ⟨_, rfl, Or.inl ⟨tl, rfl, (by omega), (Or.inr (Or.inl ⟨hall2, by omega, rfl⟩))⟩⟩
        · refine lv_aload_n hex hby dX8_findFaultOfForm_39 rfl (lv_at hl 1 rfl) ?_
          refine nv_get (v := .int (nI tl)) CFx in_X8_findFaultOfForm_X8 hK hP 0 rfl rfl 0 (by decide) (List.mem_of_getElem? (i := 1) rfl) ftl dX8_findFaultOfForm_40 ?_
          refine lv_bipush (v := nI 9) hex hby dX8_findFaultOfForm_43 rfl ?_
          refine nv_irem hex hby dX8_findFaultOfForm_45 (by omega) (by omega) (by omega) ?_
          refine nv_if_eq (tgt := 56) hex hby dX8_findFaultOfForm_46 (by decide) (by omega) (fun c_3 => ?_) (fun c_3 => ?_)
          · refine lv_iconst (v := zI (-1)) hex hby dX8_findFaultOfForm_56 rfl ?_
            exact hret _ _ _ _ (Or.inl ⟨rfl, _, rfl, rfl, dX8_findFaultOfForm_57⟩) ⟨_, rfl, Or.inr ⟨rfl, hall2, (by omega), (by omega)⟩⟩
          · refine lv_aload_n hex hby dX8_findFaultOfForm_49 rfl (lv_at hl 1 rfl) ?_
            refine nv_get (v := .int (nI tl)) CFx in_X8_findFaultOfForm_X8 hK hP 0 rfl rfl 0 (by decide) (List.mem_of_getElem? (i := 1) rfl) ftl dX8_findFaultOfForm_50 ?_
            refine lv_goto (tgt := 57) hex hby dX8_findFaultOfForm_53 (by decide) ?_
            exact hret _ _ _ _ (Or.inl ⟨rfl, _, rfl, rfl, dX8_findFaultOfForm_57⟩) ⟨_, rfl, Or.inl ⟨tl, rfl, (by omega), (Or.inr (Or.inl ⟨hall2, by omega, rfl⟩))⟩⟩
      · refine lv_iload_n hex hby dX8_findFaultOfForm_10 rfl (lv_at hl 0 rfl) ?_
        refine lv_bipush (v := nI 72) hex hby dX8_findFaultOfForm_11 rfl ?_
        refine nv_icmp_ge (tgt := 24) hex hby dX8_findFaultOfForm_13 (by decide) (by omega) (by omega) (fun c_4 => ?_) (fun c_4 => ?_)
        · refine lv_iload_n hex hby dX8_findFaultOfForm_24 rfl (lv_at hl 0 rfl) ?_
          exact hret _ _ _ _ (Or.inl ⟨rfl, _, rfl, rfl, dX8_findFaultOfForm_25⟩) ⟨_, rfl, Or.inl ⟨i, rfl, (by omega), (Or.inl ⟨i, by omega, rfl, fun q => by have := q.1; omega, hall⟩)⟩⟩
        · refine lv_aload_n hex hby dX8_findFaultOfForm_16 rfl (lv_at hl 1 rfl) ?_
          refine lv_iload_n hex hby dX8_findFaultOfForm_17 rfl (lv_at hl 0 rfl) ?_
          refine ro_Vi (As := [.int (nI i)]) (rest := []) CFx (c_X8_fitsForm (hx_ := hx_) (aX := aX) (fx := fx) (tx := tx) (p := i) faX htx (by omega)) 1 gX8_findFaultOfForm_X8_fitsForm rfl nd_X8_fitsForm ⟨Nat.le_of_ble_eq_true rfl, Nat.le_of_ble_eq_true rfl⟩ hK hP [0, 1] rfl rfl rfl rfl hl.1 rfl (Nat.le_of_ble_eq_true rfl) dX8_findFaultOfForm_18 ⟨Nat.le_refl _, Nat.le_refl _⟩ (fun r_5 hr_5 => ?_)
          rcases hr_5 with ⟨rfl, hw⟩ | ⟨rfl, hnw⟩
          · refine nv_if_ne (tgt := 26) hex hby dX8_findFaultOfForm_21 (by decide) (by omega) (fun _ => ?_) (fun c => absurd c (by omega))
            refine lv_iinc (v := nI (i + 1)) (lv' := [(1, .int (nI (i + 1))), (0, .ref hx_)]) hex hby dX8_findFaultOfForm_26 hl (k := 0) rfl (ni_inc _) (by decide) rfl (fun ls hl => ?_)
            refine lv_goto (tgt := 2) hex hby dX8_findFaultOfForm_29 (by decide) ?_
            have pf_6 : ∀ j, j < (i + 1) → wl tx j := by
              intro j h
              rcases Nat.lt_or_ge j i with q | q
              · exact hall j q
              · rw [show j = i by omega]; exact ⟨by omega, hw⟩
            exact ih2 (i + 1) (by omega) (by omega) pf_6 _ (lv_sub hl [0, 1] rfl)
          · refine nv_if_ne (tgt := 26) hex hby dX8_findFaultOfForm_21 (by decide) (by omega) (fun c => absurd c (by omega)) (fun _ => ?_)
            refine lv_iload_n hex hby dX8_findFaultOfForm_24 rfl (lv_at hl 0 rfl) ?_
            exact hret _ _ _ _ (Or.inl ⟨rfl, _, rfl, rfl, dX8_findFaultOfForm_25⟩) ⟨_, rfl, Or.inl ⟨i, rfl, (by omega), (Or.inl ⟨i, by omega, rfl, fun q => hnw q.2, hall⟩)⟩⟩
  exact loop2 _ 0 (Nat.lt_succ_self _) (by omega) (fun j h => absurd h (by omega)) _ (lv_sub hl [0, 1] rfl)
theorem nd_X8_findUnknownState : ndV yX8_findUnknownState RX8 0 := by decide +kernel
set_option maxHeartbeats 4000000 in
set_option maxRecDepth 100000 in
theorem c_X8_findUnknownState {hx_ : Nat} {aX : Nat} {fx : List Value} {tl : Nat} {tx : Nat → Nat} (ftl : fx[0]? = some (.int (nI tl))) (faX : fx[1]? = some (.ref aX)) (htx : ∀ j, tx j < 128) (htl : tl ≤ 80) (hall : ∀ j, j < tl → wl tx j) (htl0 : 0 < tl) (ht9 : tl % 9 = 0) : RO l yX8_findUnknownState wsX8_findUnknownState 1 22 (dC, dI) (tyK cI cZ cS) [(hx_, .inr (8, fx)), (aX, .inl (cI, 80, .inl (nA tx)))] [.ref hx_] (rI (fun r => (∃ k : Nat, r = nI k ∧ k ≤ 80 ∧ Flt tx tl (k : Int)) ∨ (r = zI (-1) ∧ Flt tx tl (-1)))) := by
  refine ro_of (by decide) rfl (Nat.le_of_ble_eq_true rfl) ?_
  intro pp ee ss mm bb mt cd Q CFx hP hK hret ls hl
  obtain ⟨hex, hby, hml, hown, hts⟩ := id CFx
  have hl : lv_has ls 3 [(0, .ref hx_)] := hl
  refine lv_iconst (v := nI 0) hex hby dX8_findUnknownState_0 rfl ?_
  refine lv_istore_n (lv' := [(1, .int (nI 0)), (0, .ref hx_)]) hex hby dX8_findUnknownState_1 rfl hl (by decide) rfl (fun ls hl => ?_)
  have loop2 : ∀ (nn : Nat) (s : Nat), (tl / 9 - s) < nn → (s ≤ tl / 9) → (∀ j, j < 9 * s → ¬ bdS tx tl j) → ∀ ls : Array Slot, lv_has ls 3 [(1, .int (nI s)), (0, .ref hx_)] → W pp l ee (rmO 1 22) ss mm ([.ref hx_] : List Value).toArray bb mt cd ss.heap [] 0 0 Q (F0 mm 2 ls []) := by
    intro nn
    induction nn with
    | zero => intro s hms2; exact absurd hms2 (Nat.not_lt_zero _)
    | succ nn ih2 =>
      intro s hms2 hs hno ls hl
      refine lv_iload_n hex hby dX8_findUnknownState_2 rfl (lv_at hl 0 rfl) ?_
      refine lv_aload_n hex hby dX8_findUnknownState_3 rfl (lv_at hl 1 rfl) ?_
      refine ro_Vi (As := []) (rest := [.int (nI s)]) CFx (c_X8_countStates (hx_ := hx_) (fx := fx) (tl := tl) ftl htl) 0 gX8_findUnknownState_X8_countStates rfl nd_X8_countStates ⟨Nat.le_of_ble_eq_true rfl, Nat.le_of_ble_eq_true rfl⟩ hK hP [0] rfl rfl rfl rfl hl.1 rfl (Nat.le_of_ble_eq_true rfl) dX8_findUnknownState_4 ⟨Nat.le_refl _, Nat.le_refl _⟩ (fun r_1 hr_1 => ?_)
      obtain rfl := hr_1
      refine nv_icmp_ge (tgt := 50) hex hby dX8_findUnknownState_7 (by decide) (by omega) (by omega) (fun c_2 => ?_) (fun c_2 => ?_)
      · have hes : s = tl / 9 := by omega
        refine lv_iconst (v := zI (-1)) hex hby dX8_findUnknownState_50 rfl ?_
        exact hret _ _ _ _ (Or.inl ⟨rfl, _, rfl, rfl, dX8_findUnknownState_51⟩) ⟨_, rfl, Or.inr ⟨rfl, (Or.inr (Or.inr ⟨hall, htl0, ht9, Or.inr ⟨fun j hj => hno j (by omega), rfl⟩⟩))⟩⟩
      · refine lv_iconst (v := nI 4) hex hby dX8_findUnknownState_10 rfl ?_
        refine lv_istore_n (lv' := [(2, .int (nI 4)), (1, .int (nI s)), (0, .ref hx_)]) hex hby dX8_findUnknownState_11 rfl hl (by decide) rfl (fun ls hl => ?_)
        have loop12 : ∀ (nn : Nat) (k : Nat), (8 - k) < nn → (4 ≤ k) → (k ≤ 8) → (∀ j, j < 9 * s + k → ¬ bdS tx tl j) → ∀ ls : Array Slot, lv_has ls 3 [(2, .int (nI k)), (1, .int (nI s)), (0, .ref hx_)] → W pp l ee (rmO 1 22) ss mm ([.ref hx_] : List Value).toArray bb mt cd ss.heap [] 0 0 Q (F0 mm 12 ls []) := by
          intro nn
          induction nn with
          | zero => intro k hms12; exact absurd hms12 (Nat.not_lt_zero _)
          | succ nn ih12 =>
            intro k hms12 hk4 hk8 hno2 ls hl
            refine lv_iload_n hex hby dX8_findUnknownState_12 rfl (lv_at hl 0 rfl) ?_
            refine lv_bipush (v := nI 8) hex hby dX8_findUnknownState_13 rfl ?_
            refine nv_icmp_ge (tgt := 44) hex hby dX8_findUnknownState_15 (by decide) (by omega) (by omega) (fun c_3 => ?_) (fun c_3 => ?_)
            · refine lv_iinc (v := nI (s + 1)) (lv' := [(1, .int (nI (s + 1))), (2, .int (nI k)), (0, .ref hx_)]) hex hby dX8_findUnknownState_44 hl (k := 1) rfl (ni_inc _) (by decide) rfl (fun ls hl => ?_)
              refine lv_goto (tgt := 2) hex hby dX8_findUnknownState_47 (by decide) ?_
              have pf_4 : ∀ j, j < 9 * (s + 1) → ¬ bdS tx tl j := by
                intro j h1 h2
                rcases Nat.lt_or_ge j (9 * s + k) with q | q
                · exact hno2 j q h2
                · have := h2.2.1; omega
              exact ih2 (s + 1) (by omega) (by omega) pf_4 _ (lv_sub hl [0, 2] rfl)
            · have hdg := wl_dig (hall (9 * s + k) (by omega)) (by omega)
              refine lv_aload_n hex hby dX8_findUnknownState_18 rfl (lv_at hl 2 rfl) ?_
              refine lv_iload_n hex hby dX8_findUnknownState_19 rfl (lv_at hl 1 rfl) ?_
              refine lv_iload_n hex hby dX8_findUnknownState_20 rfl (lv_at hl 0 rfl) ?_
              refine ro_Vi (As := [.int (nI s), .int (nI k)]) (rest := []) CFx (c_X8_digitAt (hx_ := hx_) (aX := aX) (fx := fx) (tx := tx) (s := s) (k := k) faX htx (by omega) (by omega)) 2 gX8_findUnknownState_X8_digitAt rfl nd_X8_digitAt ⟨Nat.le_of_ble_eq_true rfl, Nat.le_of_ble_eq_true rfl⟩ hK hP [0, 1] rfl rfl rfl rfl hl.1 rfl (Nat.le_of_ble_eq_true rfl) dX8_findUnknownState_21 ⟨Nat.le_refl _, Nat.le_refl _⟩ (fun r_5 hr_5 => ?_)
              obtain rfl := hr_5
              refine lv_aload_n hex hby dX8_findUnknownState_24 rfl (lv_at hl 2 rfl) ?_
              refine ro_Vi (As := []) (rest := [.int (nI (tx (9 * s + k) - 48))]) CFx (c_X8_countStates (hx_ := hx_) (fx := fx) (tl := tl) ftl htl) 0 gX8_findUnknownState_X8_countStates rfl nd_X8_countStates ⟨Nat.le_of_ble_eq_true rfl, Nat.le_of_ble_eq_true rfl⟩ hK hP [0] rfl rfl rfl rfl hl.1 rfl (Nat.le_of_ble_eq_true rfl) dX8_findUnknownState_25 ⟨Nat.le_refl _, Nat.le_refl _⟩ (fun r_6 hr_6 => ?_)
              obtain rfl := hr_6
              refine nv_icmp_lt (tgt := 38) hex hby dX8_findUnknownState_28 (by decide) (by omega) (by omega) (fun c_7 => ?_) (fun c_7 => ?_)
              · refine lv_iinc (v := nI (k + 1)) (lv' := [(2, .int (nI (k + 1))), (1, .int (nI s)), (0, .ref hx_)]) hex hby dX8_findUnknownState_38 hl (k := 0) rfl (ni_inc _) (by decide) rfl (fun ls hl => ?_)
                refine lv_goto (tgt := 12) hex hby dX8_findUnknownState_41 (by decide) ?_
                have pf_8 : ∀ j, j < 9 * s + (k + 1) → ¬ bdS tx tl j := by
                  intro j h1 h2
                  rcases Nat.lt_or_ge j (9 * s + k) with q | q
                  · exact hno2 j q h2
                  · have e : j = 9 * s + k := by omega
                    rw [e] at h2; have := h2.2.2; omega
                exact ih12 (k + 1) (by omega) (by omega) (by omega) pf_8 _ (lv_sub hl [0, 1, 2] rfl)
              · refine lv_bipush (v := nI 9) hex hby dX8_findUnknownState_31 rfl ?_
                refine lv_iload_n hex hby dX8_findUnknownState_33 rfl (lv_at hl 1 rfl) ?_
                refine nv_imul hex hby dX8_findUnknownState_34 ?_
                refine lv_iload_n hex hby dX8_findUnknownState_35 rfl (lv_at hl 0 rfl) ?_
                refine nv_iadd hex hby dX8_findUnknownState_36 ?_
                exact hret _ _ _ _ (Or.inl ⟨rfl, _, rfl, rfl, dX8_findUnknownState_37⟩) ⟨_, rfl, Or.inl ⟨(9 * s + k), rfl, (by omega), (Or.inr (Or.inr ⟨hall, htl0, ht9, Or.inl ⟨9 * s + k, by omega, rfl, ⟨by omega, by omega, by omega⟩, hno2⟩⟩))⟩⟩
        have pf_9 : ∀ j, j < 9 * s + 4 → ¬ bdS tx tl j := by
          intro j h1 h2
          rcases Nat.lt_or_ge j (9 * s) with q | q
          · exact hno j q h2
          · have := h2.1; omega
        exact loop12 _ 4 (Nat.lt_succ_self _) (by omega) (by omega) pf_9 _ (lv_sub hl [0, 1, 2] rfl)
  exact loop2 _ 0 (Nat.lt_succ_self _) (by omega) (fun j h => absurd h (by omega)) _ (lv_sub hl [0, 1] rfl)
theorem nd_X8_findFault : ndV yX8_findFault RX8 0 := by decide +kernel
set_option maxHeartbeats 4000000 in
set_option maxRecDepth 100000 in
theorem c_X8_findFault {hx_ : Nat} {aX : Nat} {fx : List Value} {tl : Nat} {tx : Nat → Nat} (ftl : fx[0]? = some (.int (nI tl))) (faX : fx[1]? = some (.ref aX)) (htx : ∀ j, tx j < 128) (htl : tl ≤ 80) : RO l yX8_findFault wsX8_findFault 3 67 (dC, dI) (tyK cI cZ cS) [(hx_, .inr (8, fx)), (aX, .inl (cI, 80, .inl (nA tx)))] [.ref hx_] (rI (fun r => (∃ k : Nat, r = nI k ∧ k ≤ 80 ∧ Flt tx tl (k : Int)) ∨ (r = zI (-1) ∧ Flt tx tl (-1)))) := by
  refine ro_of (by decide) rfl (Nat.le_of_ble_eq_true rfl) ?_
  intro pp ee ss mm bb mt cd Q CFx hP hK hret ls hl
  obtain ⟨hex, hby, hml, hown, hts⟩ := id CFx
  have hl : lv_has ls 2 [(0, .ref hx_)] := hl
  refine lv_aload_n hex hby dX8_findFault_0 rfl (lv_at hl 0 rfl) ?_
  refine ro_Vi (As := []) (rest := []) CFx (c_X8_findFaultOfForm (hx_ := hx_) (aX := aX) (fx := fx) (tl := tl) (tx := tx) ftl faX htx htl) 0 gX8_findFault_X8_findFaultOfForm rfl nd_X8_findFaultOfForm ⟨Nat.le_of_ble_eq_true rfl, Nat.le_of_ble_eq_true rfl⟩ hK hP [0, 1] rfl rfl rfl rfl hl.1 rfl (Nat.le_of_ble_eq_true rfl) dX8_findFault_1 ⟨Nat.le_refl _, Nat.le_refl _⟩ (fun r_1 hr_1 => ?_)
  rcases hr_1 with ⟨k, rfl, hk1, hk2⟩ | ⟨rfl, ha1, ha2, ha3⟩
  · refine lv_istore_n (lv' := [(1, .int (nI k)), (0, .ref hx_)]) hex hby dX8_findFault_4 rfl hl (by decide) rfl (fun ls hl => ?_)
    refine lv_iload_n hex hby dX8_findFault_5 rfl (lv_at hl 0 rfl) ?_
    refine lv_iconst (v := zI (-1)) hex hby dX8_findFault_6 rfl ?_
    refine ni_icmp_ne (tgt := 17) (a := (k : Int)) (b := -1) hex hby dX8_findFault_7 (by decide) (ni_toInt (by omega)) (zI_toInt (by omega) (by omega)) (fun c_2 => ?_) (fun c_2 => absurd c_2 (by omega))
    refine lv_iload_n hex hby dX8_findFault_17 rfl (lv_at hl 0 rfl) ?_
    exact hret _ _ _ _ (Or.inl ⟨rfl, _, rfl, rfl, dX8_findFault_18⟩) ⟨_, rfl, Or.inl ⟨k, rfl, hk1, hk2⟩⟩
  · refine lv_istore_n (lv' := [(1, .int (zI (-1))), (0, .ref hx_)]) hex hby dX8_findFault_4 rfl hl (by decide) rfl (fun ls hl => ?_)
    refine lv_iload_n hex hby dX8_findFault_5 rfl (lv_at hl 0 rfl) ?_
    refine lv_iconst (v := zI (-1)) hex hby dX8_findFault_6 rfl ?_
    refine ni_icmp_ne (tgt := 17) (a := -1) (b := -1) hex hby dX8_findFault_7 (by decide) (zI_toInt (by omega) (by omega)) (zI_toInt (by omega) (by omega)) (fun c_3 => absurd c_3 (by omega)) (fun c_3 => ?_)
    refine lv_aload_n hex hby dX8_findFault_10 rfl (lv_at hl 1 rfl) ?_
    refine ro_Vi (As := []) (rest := []) CFx (c_X8_findUnknownState (hx_ := hx_) (aX := aX) (fx := fx) (tl := tl) (tx := tx) ftl faX htx htl ha1 ha2 ha3) 0 gX8_findFault_X8_findUnknownState rfl nd_X8_findUnknownState ⟨Nat.le_of_ble_eq_true rfl, Nat.le_of_ble_eq_true rfl⟩ hK hP [0, 1] rfl rfl rfl rfl hl.1 rfl (Nat.le_of_ble_eq_true rfl) dX8_findFault_11 ⟨Nat.le_refl _, Nat.le_refl _⟩ (fun r_4 hr_4 => ?_)
    rcases hr_4 with ⟨k, rfl, hk1, hk2⟩ | ⟨rfl, hk3⟩
    · refine lv_goto (tgt := 18) hex hby dX8_findFault_14 (by decide) ?_
      exact hret _ _ _ _ (Or.inl ⟨rfl, _, rfl, rfl, dX8_findFault_18⟩) ⟨_, rfl, Or.inl ⟨k, rfl, hk1, hk2⟩⟩
    · refine lv_goto (tgt := 18) hex hby dX8_findFault_14 (by decide) ?_
      exact hret _ _ _ _ (Or.inl ⟨rfl, _, rfl, rfl, dX8_findFault_18⟩) ⟨_, rfl, Or.inr ⟨rfl, hk3⟩⟩
theorem nd_X10_isWell : ndV yX10_isWell RX10 1 := by decide +kernel
theorem in_X10_isWell_X10 : ∀ w ∈ wsX100, w ∈ wsX10_isWell := fun _ h => List.mem_cons_of_mem _ (List.mem_append_right _ (h))
set_option maxHeartbeats 4000000 in
set_option maxRecDepth 100000 in
theorem c_X10_isWell {h : Nat} {aX : Nat} {fs : List Value} {tx : Nat → Nat} {i : Nat} (f_text : fs[14]? = some (.ref aX)) (htx : ∀ j, tx j < 128) (hi0 : i < 80) : RO l yX10_isWell wsX10_isWell 1 22 (dC, dI) (tyK cI cZ cS) [(h, .inr (10, fs)), (aX, .inl (cI, 80, .inl (nA tx)))] [.ref h, .int (nI i)] (rI (fun r => (r = nI 1 ∧ wl tx i) ∨ (r = nI 0 ∧ ¬ wl tx i))) := by
  refine ro_of (by decide) rfl (Nat.le_of_ble_eq_true rfl) ?_
  intro pp ee ss mm bb mt cd Q CFx hP hK hret ls hl
  obtain ⟨hex, hby, hml, hown, hts⟩ := id CFx
  have hl : lv_has ls 5 [(0, .ref h), (1, .int (nI i))] := hl
  refine lv_iload_n hex hby dX10_isWell_0 rfl (lv_at hl 1 rfl) ?_
  refine lv_bipush (v := nI 9) hex hby dX10_isWell_1 rfl ?_
  refine nv_irem hex hby dX10_isWell_3 (by omega) (by omega) (by omega) ?_
  refine lv_istore_n (lv' := [(2, .int (nI (i % 9))), (0, .ref h), (1, .int (nI i))]) hex hby dX10_isWell_4 rfl hl (by decide) rfl (fun ls hl => ?_)
  refine lv_iload_n hex hby dX10_isWell_5 rfl (lv_at hl 2 rfl) ?_
  refine lv_bipush (v := nI 72) hex hby dX10_isWell_6 rfl ?_
  refine nv_icmp_lt (tgt := 13) hex hby dX10_isWell_8 (by decide) (by omega) (by omega) (fun c_1 => ?_) (fun c_1 => ?_)
  · refine lv_iload_n hex hby dX10_isWell_13 rfl (lv_at hl 0 rfl) ?_
    refine lv_bipush (v := nI 8) hex hby dX10_isWell_14 rfl ?_
    refine nv_icmp_ne (tgt := 36) hex hby dX10_isWell_16 (by decide) (by omega) (by omega) (fun c_2 => ?_) (fun c_2 => ?_)
    · have htxi := htx i
      have j56 : ∀ (u : Nat), (u = if i % 9 < 4 then 51 else 57) → (u ≤ 57) → ∀ ls : Array Slot, lv_has ls 5 [(2, .int (nI (i % 9))), (0, .ref h), (1, .int (nI i))] → W pp l ee (rmO 1 22) ss mm ([.ref h, .int (nI i)] : List Value).toArray bb mt cd ss.heap [] 0 0 Q (F0 mm 56 ls [.int (nI u), .int (nI 48), .int (nI (tx i))]) := by
        intro u hu hu2 ls hl
        have j60 : ∀ (b0 : Nat), (b0 ≤ 1) → (b0 = 1 ↔ (48 ≤ tx i ∧ tx i ≤ u)) → ∀ ls : Array Slot, lv_has ls 5 [(2, .int (nI (i % 9))), (0, .ref h), (1, .int (nI i)), (3, .int (nI b0))] → W pp l ee (rmO 1 22) ss mm ([.ref h, .int (nI i)] : List Value).toArray bb mt cd ss.heap [] 0 0 Q (F0 mm 60 ls []) := by
          intro b0 hb1 hb2 ls hl
          refine lv_iload_n hex hby dX10_isWell_60 rfl (lv_at hl 2 rfl) ?_
          refine lv_iload_n hex hby dX10_isWell_61 rfl (lv_at hl 0 rfl) ?_
          refine nv_isub hex hby dX10_isWell_62 (by omega) ?_
          refine lv_istore (lv' := [(4, .int (nI (i - i % 9))), (2, .int (nI (i % 9))), (0, .ref h), (1, .int (nI i)), (3, .int (nI b0))]) hex hby dX10_isWell_63 hl (by decide) rfl (fun ls hl => ?_)
          have loop65 : ∀ (nn : Nat) (e : Nat) (b : Nat), (i - e) < nn → (i - i % 9 ≤ e) → (4 ≤ i % 9 → e = i - i % 9) → (e ≤ i) → (b ≤ 1) → (b = 1 ↔ ((48 ≤ tx i ∧ tx i ≤ u) ∧ ∀ j, i - i % 9 ≤ j → j < e → tx j ≠ tx i)) → ∀ ls : Array Slot, lv_has ls 5 [(4, .int (nI e)), (2, .int (nI (i % 9))), (0, .ref h), (1, .int (nI i)), (3, .int (nI b))] → W pp l ee (rmO 1 22) ss mm ([.ref h, .int (nI i)] : List Value).toArray bb mt cd ss.heap [] 0 0 Q (F0 mm 65 ls []) := by
            intro nn
            induction nn with
            | zero => intro e b hms65; exact absurd hms65 (Nat.not_lt_zero _)
            | succ nn ih65 =>
              intro e b hms65 he1 he4 he hb5 hb6 ls hl
              refine lv_iload hex hby dX10_isWell_65 (lv_at hl 0 rfl) ?_
              refine lv_iload_n hex hby dX10_isWell_67 rfl (lv_at hl 3 rfl) ?_
              refine nv_icmp_ge (tgt := 108) hex hby dX10_isWell_68 (by decide) (by omega) (by omega) (fun c_3 => ?_) (fun c_3 => ?_)
              · refine lv_iload_n hex hby dX10_isWell_108 rfl (lv_at hl 4 rfl) ?_
                rcases (show b = 1 ∨ b = 0 by omega) with rfl | rfl
                · have pf_4 : wl tx i := by
                    obtain ⟨q1, q2⟩ := hb6.mp rfl
                    refine ⟨by omega, ?_⟩
                    rcases Nat.lt_or_ge (i % 9) 4 with r | r
                    · rw [if_pos r] at hu
                      exact Or.inl ⟨r, by omega, by omega, fun j h1 h2 => q2 j h1 (by omega)⟩
                    · rw [if_neg (by omega)] at hu
                      exact Or.inr (Or.inl ⟨r, by omega, by omega, by omega⟩)
                  exact hret _ _ _ _ (Or.inr (Or.inl ⟨rfl, _, (Or.inl rfl), rfl, rfl, dX10_isWell_109⟩)) ⟨_, rfl, Or.inl ⟨rfl, pf_4⟩⟩
                · have pf_5 : ¬ wl tx i := by
                    intro q
                    have q0 : ¬ ((48 ≤ tx i ∧ tx i ≤ u) ∧ ∀ j, i - i % 9 ≤ j → j < e → tx j ≠ tx i) := fun z => absurd (hb6.mpr z) (by decide)
                    apply q0
                    rcases q.2 with ⟨h1, h2, h3, h4⟩ | ⟨h1, h2, h3, h4⟩ | ⟨h1, h2⟩
                    · rw [if_pos h1] at hu
                      exact ⟨by omega, fun j k1 k2 => h4 j k1 (by omega)⟩
                    · rw [if_neg (by omega)] at hu
                      exact ⟨by omega, fun j k1 k2 => absurd k2 (by omega)⟩
                    · omega
                  exact hret _ _ _ _ (Or.inr (Or.inl ⟨rfl, _, (Or.inr rfl), rfl, rfl, dX10_isWell_109⟩)) ⟨_, rfl, Or.inr ⟨rfl, pf_5⟩⟩
              · refine lv_iload_n hex hby dX10_isWell_71 rfl (lv_at hl 1 rfl) ?_
                refine lv_iconst (v := nI 4) hex hby dX10_isWell_72 rfl ?_
                refine nv_icmp_ge (tgt := 108) hex hby dX10_isWell_73 (by decide) (by omega) (by omega) (fun c_6 => ?_) (fun c_6 => ?_)
                · refine lv_iload_n hex hby dX10_isWell_108 rfl (lv_at hl 4 rfl) ?_
                  rcases (show b = 1 ∨ b = 0 by omega) with rfl | rfl
                  · have pf_7 : wl tx i := by
                      obtain ⟨q1, q2⟩ := hb6.mp rfl
                      refine ⟨by omega, ?_⟩
                      rcases Nat.lt_or_ge (i % 9) 4 with r | r
                      · rw [if_pos r] at hu
                        exact Or.inl ⟨r, by omega, by omega, fun j h1 h2 => q2 j h1 (by omega)⟩
                      · rw [if_neg (by omega)] at hu
                        exact Or.inr (Or.inl ⟨r, by omega, by omega, by omega⟩)
                    exact hret _ _ _ _ (Or.inr (Or.inl ⟨rfl, _, (Or.inl rfl), rfl, rfl, dX10_isWell_109⟩)) ⟨_, rfl, Or.inl ⟨rfl, pf_7⟩⟩
                  · have pf_8 : ¬ wl tx i := by
                      intro q
                      have q0 : ¬ ((48 ≤ tx i ∧ tx i ≤ u) ∧ ∀ j, i - i % 9 ≤ j → j < e → tx j ≠ tx i) := fun z => absurd (hb6.mpr z) (by decide)
                      apply q0
                      rcases q.2 with ⟨h1, h2, h3, h4⟩ | ⟨h1, h2, h3, h4⟩ | ⟨h1, h2⟩
                      · rw [if_pos h1] at hu
                        exact ⟨by omega, fun j k1 k2 => h4 j k1 (by omega)⟩
                      · rw [if_neg (by omega)] at hu
                        exact ⟨by omega, fun j k1 k2 => absurd k2 (by omega)⟩
                      · omega
                    exact hret _ _ _ _ (Or.inr (Or.inl ⟨rfl, _, (Or.inr rfl), rfl, rfl, dX10_isWell_109⟩)) ⟨_, rfl, Or.inr ⟨rfl, pf_8⟩⟩
                · have j102 : ∀ (b2 : Nat), (b2 ≤ 1) → (b2 = 1 ↔ (b = 1 ∧ tx e ≠ tx i)) → ∀ ls : Array Slot, lv_has ls 5 [(4, .int (nI e)), (2, .int (nI (i % 9))), (0, .ref h), (1, .int (nI i)), (3, .int (nI b2))] → W pp l ee (rmO 1 22) ss mm ([.ref h, .int (nI i)] : List Value).toArray bb mt cd ss.heap [] 0 0 Q (F0 mm 102 ls []) := by
                    intro b2 hb3 hb4 ls hl
                    refine lv_iinc (v := nI (e + 1)) (lv' := [(4, .int (nI (e + 1))), (2, .int (nI (i % 9))), (0, .ref h), (1, .int (nI i)), (3, .int (nI b2))]) hex hby dX10_isWell_102 hl (k := 0) rfl (ni_inc _) (by decide) rfl (fun ls hl => ?_)
                    refine lv_goto (tgt := 65) hex hby dX10_isWell_105 (by decide) ?_
                    have pf_9 : b2 = 1 ↔ ((48 ≤ tx i ∧ tx i ≤ u) ∧ ∀ j, i - i % 9 ≤ j → j < (e + 1) → tx j ≠ tx i) := by
                      constructor
                      · intro q
                        obtain ⟨q1, q2⟩ := hb4.mp q
                        refine ⟨(hb6.mp q1).1, fun j h1 h2 => ?_⟩
                        rcases Nat.lt_or_ge j e with r | r
                        · exact (hb6.mp q1).2 j h1 r
                        · rw [show j = e by omega]; exact q2
                      · intro q
                        exact hb4.mpr ⟨hb6.mpr ⟨q.1, fun j h1 h2 => q.2 j h1 (by omega)⟩, q.2 e he1 (by omega)⟩
                    exact ih65 (e + 1) b2 (by omega) (by omega) (by omega) (by omega) (by omega) pf_9 _ (lv_sub hl [0, 1, 2, 3, 4] rfl)
                  refine lv_iload_n hex hby dX10_isWell_76 rfl (lv_at hl 4 rfl) ?_
                  refine nv_if_eq (tgt := 100) hex hby dX10_isWell_77 (by decide) (by omega) (fun c_10 => ?_) (fun c_10 => ?_)
                  · refine lv_iconst (v := nI 0) hex hby dX10_isWell_100 rfl ?_
                    refine lv_istore_n (lv' := [(3, .int (nI 0)), (4, .int (nI e)), (2, .int (nI (i % 9))), (0, .ref h), (1, .int (nI i))]) hex hby dX10_isWell_101 rfl hl (by decide) rfl (fun ls hl => ?_)
                    exact j102 0 (by omega) (by constructor <;> intro _ <;> omega) _ (lv_sub hl [1, 2, 3, 4, 0] rfl)
                  · refine lv_aload_n hex hby dX10_isWell_80 rfl (lv_at hl 2 rfl) ?_
                    refine nv_get (v := .ref aX) CFx in_X10_isWell_X10 hK hP 0 rfl rfl 14 (by decide) (List.mem_of_getElem? (i := 1) rfl) f_text dX10_isWell_81 ?_
                    refine lv_iload hex hby dX10_isWell_84 (lv_at hl 0 rfl) ?_
                    refine nv_iald hex hby hK hP 1 0 rfl rfl (by omega) (by omega) dX10_isWell_86 ?_
                    have hb_11 := htx e
                    refine lv_aload_n hex hby dX10_isWell_87 rfl (lv_at hl 2 rfl) ?_
                    refine nv_get (v := .ref aX) CFx in_X10_isWell_X10 hK hP 0 rfl rfl 14 (by decide) (List.mem_of_getElem? (i := 1) rfl) f_text dX10_isWell_88 ?_
                    refine lv_iload_n hex hby dX10_isWell_91 rfl (lv_at hl 3 rfl) ?_
                    refine nv_iald hex hby hK hP 1 0 rfl rfl (by omega) (by omega) dX10_isWell_92 ?_
                    have hb_12 := htx i
                    refine nv_icmp_eq (tgt := 100) hex hby dX10_isWell_93 (by decide) (by omega) (by omega) (fun c_13 => ?_) (fun c_13 => ?_)
                    · refine lv_iconst (v := nI 0) hex hby dX10_isWell_100 rfl ?_
                      refine lv_istore_n (lv' := [(3, .int (nI 0)), (4, .int (nI e)), (2, .int (nI (i % 9))), (0, .ref h), (1, .int (nI i))]) hex hby dX10_isWell_101 rfl hl (by decide) rfl (fun ls hl => ?_)
                      exact j102 0 (by omega) (by constructor <;> intro _ <;> omega) _ (lv_sub hl [1, 2, 3, 4, 0] rfl)
                    · refine lv_iconst (v := nI 1) hex hby dX10_isWell_96 rfl ?_
                      refine lv_goto (tgt := 101) hex hby dX10_isWell_97 (by decide) ?_
                      refine lv_istore_n (lv' := [(3, .int (nI 1)), (4, .int (nI e)), (2, .int (nI (i % 9))), (0, .ref h), (1, .int (nI i))]) hex hby dX10_isWell_101 rfl hl (by decide) rfl (fun ls hl => ?_)
                      exact j102 1 (by omega) (by constructor <;> intro _ <;> omega) _ (lv_sub hl [1, 2, 3, 4, 0] rfl)
          have pf_14 : b0 = 1 ↔ ((48 ≤ tx i ∧ tx i ≤ u) ∧ ∀ j, i - i % 9 ≤ j → j < (i - i % 9) → tx j ≠ tx i) := by
            constructor
            · intro q; exact ⟨hb2.mp q, fun j h1 h2 => absurd h2 (by omega)⟩
            · intro q; exact hb2.mpr q.1
          exact loop65 _ (i - i % 9) b0 (Nat.lt_succ_self _) (by omega) (by omega) (by omega) (by omega) pf_14 _ (lv_sub hl [0, 1, 2, 3, 4] rfl)
        refine ro_Si (As := [.int (nI (tx i)), .int (nI 48), .int (nI u)]) (rest := []) (C := RX10) CFx (c_X10_in (x := nI (tx i)) (xz := ((tx i : Nat) : Int)) (lo := nI 48) (loz := (48 : Int)) (hi := nI u) (hiz := (u : Int)) (ni_toInt (by omega)) (by rfl) (ni_toInt (by omega))) 3 gX10_isWell_X10_in rfl nd_X10_in ⟨Nat.le_of_ble_eq_true rfl, Nat.le_of_ble_eq_true rfl⟩ hK hP [] rfl rfl hl.1 rfl (Nat.le_of_ble_eq_true rfl) dX10_isWell_56 ⟨Nat.le_refl _, Nat.le_refl _⟩ (fun r_15 hr_15 => ?_)
        rcases hr_15 with ⟨rfl, h_16⟩ | ⟨rfl, h_17⟩
        · refine lv_istore_n (lv' := [(3, .int (nI 1)), (2, .int (nI (i % 9))), (0, .ref h), (1, .int (nI i))]) hex hby dX10_isWell_59 rfl hl (by decide) rfl (fun ls hl => ?_)
          exact j60 1 (by omega) (by constructor <;> intro _ <;> omega) _ (lv_sub hl [1, 2, 3, 0] rfl)
        · refine lv_istore_n (lv' := [(3, .int (nI 0)), (2, .int (nI (i % 9))), (0, .ref h), (1, .int (nI i))]) hex hby dX10_isWell_59 rfl hl (by decide) rfl (fun ls hl => ?_)
          exact j60 0 (by omega) (by constructor <;> intro _ <;> omega) _ (lv_sub hl [1, 2, 3, 0] rfl)
      refine lv_aload_n hex hby dX10_isWell_36 rfl (lv_at hl 1 rfl) ?_
      refine nv_get (v := .ref aX) CFx in_X10_isWell_X10 hK hP 0 rfl rfl 14 (by decide) (List.mem_of_getElem? (i := 1) rfl) f_text dX10_isWell_37 ?_
      refine lv_iload_n hex hby dX10_isWell_40 rfl (lv_at hl 2 rfl) ?_
      refine nv_iald hex hby hK hP 1 0 rfl rfl (by omega) (by omega) dX10_isWell_41 ?_
      have hb_18 := htx i
      refine lv_bipush (v := nI 48) hex hby dX10_isWell_42 rfl ?_
      refine lv_iload_n hex hby dX10_isWell_44 rfl (lv_at hl 0 rfl) ?_
      refine lv_iconst (v := nI 4) hex hby dX10_isWell_45 rfl ?_
      refine nv_icmp_ge (tgt := 54) hex hby dX10_isWell_46 (by decide) (by omega) (by omega) (fun c_19 => ?_) (fun c_19 => ?_)
      · refine lv_bipush (v := nI 57) hex hby dX10_isWell_54 rfl ?_
        exact j56 57 (by rw [if_neg (by omega)]) (by omega) _ (lv_sub hl [0, 1, 2] rfl)
      · refine lv_bipush (v := nI 51) hex hby dX10_isWell_49 rfl ?_
        refine lv_goto (tgt := 56) hex hby dX10_isWell_51 (by decide) ?_
        exact j56 51 (by rw [if_pos (by omega)]) (by omega) _ (lv_sub hl [0, 1, 2] rfl)
    · refine lv_aload_n hex hby dX10_isWell_19 rfl (lv_at hl 1 rfl) ?_
      refine nv_get (v := .ref aX) CFx in_X10_isWell_X10 hK hP 0 rfl rfl 14 (by decide) (List.mem_of_getElem? (i := 1) rfl) f_text dX10_isWell_20 ?_
      refine lv_iload_n hex hby dX10_isWell_23 rfl (lv_at hl 2 rfl) ?_
      refine nv_iald hex hby hK hP 1 0 rfl rfl (by omega) (by omega) dX10_isWell_24 ?_
      have hb_20 := htx i
      refine lv_bipush (v := nI 59) hex hby dX10_isWell_25 rfl ?_
      refine nv_icmp_ne (tgt := 34) hex hby dX10_isWell_27 (by decide) (by omega) (by omega) (fun c_21 => ?_) (fun c_21 => ?_)
      · refine lv_iconst (v := nI 0) hex hby dX10_isWell_34 rfl ?_
        have pf_22 : ¬ wl tx i := by
          intro q
          rcases q.2 with ⟨h1, h2, h3, h4⟩ | ⟨h1, h2, h3⟩ | ⟨h1, h2⟩ <;> omega
        exact hret _ _ _ _ (Or.inr (Or.inl ⟨rfl, _, (Or.inr rfl), rfl, rfl, dX10_isWell_35⟩)) ⟨_, rfl, Or.inr ⟨rfl, pf_22⟩⟩
      · refine lv_iconst (v := nI 1) hex hby dX10_isWell_30 rfl ?_
        refine lv_goto (tgt := 35) hex hby dX10_isWell_31 (by decide) ?_
        exact hret _ _ _ _ (Or.inr (Or.inl ⟨rfl, _, (Or.inl rfl), rfl, rfl, dX10_isWell_35⟩)) ⟨_, rfl, Or.inl ⟨rfl, ⟨by omega, Or.inr (Or.inr ⟨by omega, by omega⟩)⟩⟩⟩
  · refine lv_iconst (v := nI 0) hex hby dX10_isWell_11 rfl ?_
    exact hret _ _ _ _ (Or.inr (Or.inl ⟨rfl, _, (Or.inr rfl), rfl, rfl, dX10_isWell_12⟩)) ⟨_, rfl, Or.inr ⟨rfl, (fun q => by have := q.1; omega)⟩⟩
end TXT
