section DVN
variable {l : Launch} {dC : Nat → ClassId} {dI : Nat → Nat → Nat} {cI cZ cS : ClassId}
/-- a search by halves: s steps are done, w places are left -/
def Hv (w s : Nat) : Prop := s ≤ 13 ∧ w * 2 ^ s ≤ 4096
theorem Hv.init {w : Nat} (h : w ≤ 4096) : Hv w 0 := ⟨by omega, by rw [Nat.pow_zero, Nat.mul_one]; exact h⟩
theorem Hv.step {w s w' : Nat} (h : Hv w s) (h1 : 1 ≤ w) (h2 : 2 * w' ≤ w) : Hv w' (s + 1) := by
  obtain ⟨a, b⟩ := h
  refine ⟨?_, ?_⟩
  · rcases Nat.lt_or_ge s 13 with q | q
    · omega
    · have e : s = 13 := by omega
      subst e
      omega
  · have e : w' * 2 ^ (s + 1) = 2 * w' * 2 ^ s := by rw [Nat.pow_succ, Nat.mul_comm (2 ^ s) 2, ← Nat.mul_assoc, Nat.mul_comm w' 2]
    rw [e]
    exact Nat.le_trans (Nat.mul_le_mul_right _ h2) b
theorem cnt_eq {m c : Nat} {st lv S pt : Nat → Nat} {pc : Nat} (hL : LvL m c st lv) (hag : ∀ j, j ≤ c → S j = st j) {k : Nat} (hk : k < c) : ctP (fun j => S k ≤ pt j ∧ pt j < S (k + 1)) pc = pcb pt pc (lv k) (st k / 4 ^ lv k) := by
  have h := hL.2.2.2 k hk
  rw [hag k (by omega), hag (k + 1) (by omega), h.1]
  exact ctP_congr (fun j _ => blk_iff (p4_pos _) h.2.1)
theorem sd_sq {t L : Nat} (h : t < L) : 2 ^ t * 2 ^ t < 4 ^ L ∧ 2 ^ t < 2 ^ L := by
  rw [p22]
  exact ⟨Nat.pow_lt_pow_right (by decide) h, Nat.pow_lt_pow_right (by decide) h⟩
theorem dst_q {st lv S S' : Nat → Nat} {c k q : Nat} (hag : ∀ j, j ≤ c → S j = st j) (hk : k < c) (hq : q = 4 ^ (lv k - 1)) (h1 : ∀ j, j ≤ k → S' j = S j) (h2 : ∀ t, 1 ≤ t → t < 4 → S' (k + t) = S k + t * q) (h3 : ∀ j, k < j → j ≤ c → S' (j + 3) = S j) : ∀ j, j ≤ c + 3 → S' j = dst st lv k j := by
  intro j hj
  rcases Nat.lt_or_ge k j with a | a
  · rcases Nat.lt_or_ge (k + 3) j with b | b
    · rw [dst_hi b, show j = j - 3 + 3 by omega, h3 (j - 3) (by omega) (by omega), hag _ (by omega)]
      congr 1
    · rw [dst_mid a b, show j = k + (j - k) by omega, h2 (j - k) (by omega) (by omega), hag k (by omega), hq]
      congr 2
      omega
  · rw [dst_lo a, h1 j a, hag j (by omega)]
theorem lv_area {L : Nat} : (L = 0 → 4 ^ L / 4 = 0) ∧ (1 ≤ L → 4 ^ L / 4 = 4 ^ (L - 1)) := by
  constructor
  · intro h; subst h; rfl
  · intro h
    rw [lv_pow h, Nat.mul_div_cancel_left _ (by decide)]
theorem nd_X1_sideOf : ndV yX1_sideOf RX1 1 := by decide +kernel
theorem in_X1_sideOf_X1 : ∀ w ∈ wsX10, w ∈ wsX1_sideOf := fun _ h => List.mem_cons_of_mem _ (List.mem_append_right _ (h))
set_option maxHeartbeats 4000000 in
set_option maxRecDepth 100000 in
theorem c_X1_sideOf {hd : Nat} {aS : Nat} {fd : List Value} {S : Nat → Nat} {k : Nat} {L : Nat} (faS : fd[1]? = some (.ref aS)) (hSb : ∀ j, S j < 4097) (hk : k < 496) (hw : S (k + 1) = S k + 4 ^ L) (hL6 : L ≤ 6) : RO l yX1_sideOf wsX1_sideOf 0 0 (dC, dI) (tyK cI cZ cS) [(hd, .inr (1, fd)), (aS, .inl (cI, 497, .inl (nA S)))] [.ref hd, .int (nI k)] (rI (fun r => r = nI (2 ^ L))) := by
  refine ro_of (by decide) rfl (Nat.le_of_ble_eq_true rfl) ?_
  intro pp ee ss mm bb mt cd Q CFx hP hK hret ls hl
  obtain ⟨hex, hby, hml, hown, hts⟩ := id CFx
  have hl : lv_has ls 4 [(0, .ref hd), (1, .int (nI k))] := hl
  have hp4L := p4_pos L
  refine lv_aload_n hex hby dX1_sideOf_0 rfl (lv_at hl 0 rfl) ?_
  refine nv_get (v := .ref aS) CFx in_X1_sideOf_X1 hK hP 0 rfl rfl 1 (by decide) (List.mem_of_getElem? (i := 1) rfl) faS dX1_sideOf_1 ?_
  refine lv_iload_n hex hby dX1_sideOf_4 rfl (lv_at hl 1 rfl) ?_
  refine lv_iconst (v := nI 1) hex hby dX1_sideOf_5 rfl ?_
  refine nv_iadd hex hby dX1_sideOf_6 ?_
  refine nv_iald hex hby hK hP 1 0 rfl rfl (by omega) (by omega) dX1_sideOf_7 ?_
  have hb_1 := hSb (k + 1)
  refine lv_aload_n hex hby dX1_sideOf_8 rfl (lv_at hl 0 rfl) ?_
  refine nv_get (v := .ref aS) CFx in_X1_sideOf_X1 hK hP 0 rfl rfl 1 (by decide) (List.mem_of_getElem? (i := 1) rfl) faS dX1_sideOf_9 ?_
  refine lv_iload_n hex hby dX1_sideOf_12 rfl (lv_at hl 1 rfl) ?_
  refine nv_iald hex hby hK hP 1 0 rfl rfl (by omega) (by omega) dX1_sideOf_13 ?_
  have hb_2 := hSb k
  refine nv_isub hex hby dX1_sideOf_14 (by omega) ?_
  refine lv_istore_n (lv' := [(2, .int (nI (S (k + 1) - S k))), (0, .ref hd), (1, .int (nI k))]) hex hby dX1_sideOf_15 rfl hl (by decide) rfl (fun ls hl => ?_)
  refine lv_iconst (v := nI 1) hex hby dX1_sideOf_16 rfl ?_
  refine lv_istore_n (lv' := [(3, .int (nI 1)), (2, .int (nI (S (k + 1) - S k))), (0, .ref hd), (1, .int (nI k))]) hex hby dX1_sideOf_17 rfl hl (by decide) rfl (fun ls hl => ?_)
  have loop18 : ∀ (nn : Nat) (sd : Nat) (t : Nat), (L - t) < nn → (sd = 2 ^ t) → (t ≤ L) → ∀ ls : Array Slot, lv_has ls 4 [(3, .int (nI sd)), (2, .int (nI (S (k + 1) - S k))), (0, .ref hd), (1, .int (nI k))] → W pp l ee (rmO 0 0) ss mm ([.ref hd, .int (nI k)] : List Value).toArray bb mt cd ss.heap [] 0 0 Q (F0 mm 18 ls []) := by
    intro nn
    induction nn with
    | zero => intro sd t hms18; exact absurd hms18 (Nat.not_lt_zero _)
    | succ nn ih18 =>
      intro sd t hms18 hsd ht ls hl
      have h64 := p2_6 (show t ≤ 6 by omega)
      have h644 := p4_6 hL6
      have hq : t < L → sd * sd < 4 ^ L ∧ sd < 64 := fun h => by have := sd_sq h; have := p2_6 hL6; rw [hsd]; omega
      have hsq : sd * sd = 4 ^ t := by rw [hsd, p22]
      have h645 := p4_6 (show t ≤ 6 by omega)
      have htl : t = L → sd * sd = 4 ^ L := fun h => by rw [hsq, h]
      refine lv_iload_n hex hby dX1_sideOf_18 rfl (lv_at hl 0 rfl) ?_
      refine lv_bipush (v := nI 64) hex hby dX1_sideOf_19 rfl ?_
      refine nv_icmp_ge (tgt := 38) hex hby dX1_sideOf_21 (by decide) (by omega) (by omega) (fun c_3 => ?_) (fun c_3 => ?_)
      · have het : t = L := by omega
        refine lv_iload_n hex hby dX1_sideOf_38 rfl (lv_at hl 0 rfl) ?_
        exact hret _ _ _ _ (Or.inl ⟨rfl, _, rfl, rfl, dX1_sideOf_39⟩) ⟨_, rfl, (by rw [hsd, het])⟩
      · refine lv_iload_n hex hby dX1_sideOf_24 rfl (lv_at hl 0 rfl) ?_
        refine lv_iload_n hex hby dX1_sideOf_25 rfl (lv_at hl 0 rfl) ?_
        refine nv_imul hex hby dX1_sideOf_26 ?_
        refine lv_iload_n hex hby dX1_sideOf_27 rfl (lv_at hl 1 rfl) ?_
        refine nv_icmp_ge (tgt := 38) hex hby dX1_sideOf_28 (by decide) (by omega) (by omega) (fun c_4 => ?_) (fun c_4 => ?_)
        · have het : t = L := by omega
          refine lv_iload_n hex hby dX1_sideOf_38 rfl (lv_at hl 0 rfl) ?_
          exact hret _ _ _ _ (Or.inl ⟨rfl, _, rfl, rfl, dX1_sideOf_39⟩) ⟨_, rfl, (by rw [hsd, het])⟩
        · refine lv_iload_n hex hby dX1_sideOf_31 rfl (lv_at hl 0 rfl) ?_
          refine lv_iconst (v := nI 2) hex hby dX1_sideOf_32 rfl ?_
          refine nv_imul hex hby dX1_sideOf_33 ?_
          refine lv_istore_n (lv' := [(3, .int (nI (sd * 2))), (2, .int (nI (S (k + 1) - S k))), (0, .ref hd), (1, .int (nI k))]) hex hby dX1_sideOf_34 rfl hl (by decide) rfl (fun ls hl => ?_)
          refine lv_goto (tgt := 18) hex hby dX1_sideOf_35 (by decide) ?_
          exact ih18 (sd * 2) (t + 1) (by omega) (by rw [hsd, p2_s]; omega) (by omega) _ (lv_sub hl [0, 1, 2, 3] rfl)
  exact loop18 _ 1 0 (Nat.lt_succ_self _) rfl (by omega) _ (lv_sub hl [0, 1, 2, 3] rfl)
theorem nd_X1_divide : ndV yX1_divide RX1 1 := by decide +kernel
theorem in_X1_divide_X1 : ∀ w ∈ wsX10, w ∈ wsX1_divide := fun _ h => List.mem_cons_of_mem _ (List.mem_append_right _ (h))
set_option maxHeartbeats 4000000 in
set_option maxRecDepth 100000 in
theorem c_X1_divide {hd : Nat} {aS : Nat} {c : Nat} {S : Nat → Nat} {k : Nat} {m : Nat} {st : Nat → Nat} {lv : Nat → Nat} (hSb : ∀ j, S j < 4097) (hL : LvL m c st lv) (hag : ∀ j, j ≤ c → S j = st j) (hc : c ≤ 496) (hm6 : m ≤ 6) (hk : k < c) : MU l yX1_divide wsX1_divide 0 0 (dC, dI) (tyK cI cZ cS) [(hd, .inr (1, [.int (nI c), .ref aS])), (aS, .inl (cI, 497, .inl (nA S)))] [] [.ref hd, .int (nI k)] (fun rv_ (u_ : Nat × (Nat → Nat)) => rI (fun r => (r = nI 1 ∧ 1 ≤ lv k ∧ c + 3 ≤ 496 ∧ c + 3 = u_.1 ∧ (∀ j, j ≤ c + 3 → u_.2 j = dst st lv k j) ∧ (∀ j, u_.2 j < 4097)) ∨ (r = nI 0 ∧ (lv k = 0 ∨ 496 < c + 3) ∧ c = u_.1 ∧ S = u_.2)) rv_) (fun (u_ : Nat × (Nat → Nat)) => [(hd, .inr (1, [.int (nI u_.1), .ref aS])), (aS, .inl (cI, 497, .inl (nA u_.2)))]) := by
  refine mu_of (by decide) rfl (Nat.le_of_ble_eq_true rfl) ?_
  intro pp ee ss mm bb mt cd Q A CFx hP hK hD hS hA hTr hret ls hl
  obtain ⟨hex, hby, hml, hown, hts⟩ := id CFx
  have hl : lv_has ls 4 [(0, .ref hd), (1, .int (nI k))] := hl
  have hk3 := hL.2.2.2 k hk
  have hS1 := hag k (by omega)
  have hS2 := hag (k + 1) (by omega)
  have hp4 := p4_pos (lv k)
  have htop := hL.top hk
  have h46 := p4_6 hm6
  have hlv := lv_area (L := lv k)
  refine lv_aload_n hex hby dX1_divide_0 rfl (lv_at hl 0 rfl) ?_
  refine nv_get (v := .ref aS) CFx in_X1_divide_X1 hK hP 0 rfl rfl 1 (by decide) (List.mem_of_getElem? (i := 1) rfl) rfl dX1_divide_1 ?_
  refine lv_iload_n hex hby dX1_divide_4 rfl (lv_at hl 1 rfl) ?_
  refine lv_iconst (v := nI 1) hex hby dX1_divide_5 rfl ?_
  refine nv_iadd hex hby dX1_divide_6 ?_
  refine nv_iald hex hby hK hP 1 0 rfl rfl (by omega) (by omega) dX1_divide_7 ?_
  have hb_1 := hSb (k + 1)
  refine lv_aload_n hex hby dX1_divide_8 rfl (lv_at hl 0 rfl) ?_
  refine nv_get (v := .ref aS) CFx in_X1_divide_X1 hK hP 0 rfl rfl 1 (by decide) (List.mem_of_getElem? (i := 1) rfl) rfl dX1_divide_9 ?_
  refine lv_iload_n hex hby dX1_divide_12 rfl (lv_at hl 1 rfl) ?_
  refine nv_iald hex hby hK hP 1 0 rfl rfl (by omega) (by omega) dX1_divide_13 ?_
  have hb_2 := hSb k
  refine nv_isub hex hby dX1_divide_14 (by omega) ?_
  refine lv_iconst (v := nI 4) hex hby dX1_divide_15 rfl ?_
  refine nv_idiv hex hby dX1_divide_16 (by omega) (by omega) (by omega) ?_
  refine nv_top (y := nI (4 ^ lv k / 4)) (congrArg nI (by rw [hS1, hS2, hk3.1]; congr 1; omega)) ?_
  obtain ⟨q, hq⟩ : ∃ q, q = 4 ^ lv k / 4 := ⟨_, rfl⟩
  refine nv_top (y := nI q) (congrArg nI hq.symm) ?_
  have hq4 : 4 * q ≤ 4 ^ lv k := by rw [hq]; omega
  refine lv_istore_n (lv' := [(2, .int (nI q)), (0, .ref hd), (1, .int (nI k))]) hex hby dX1_divide_17 rfl hl (by decide) rfl (fun ls hl => ?_)
  refine lv_iload_n hex hby dX1_divide_18 rfl (lv_at hl 0 rfl) ?_
  refine lv_iconst (v := nI 1) hex hby dX1_divide_19 rfl ?_
  refine nv_icmp_lt (tgt := 35) hex hby dX1_divide_20 (by decide) (by omega) (by omega) (fun c_3 => ?_) (fun c_3 => ?_)
  · refine lv_iconst (v := nI 0) hex hby dX1_divide_35 rfl ?_
    exact hret _ (c, S) _ _ _ _ _ (Or.inr (Or.inl ⟨rfl, _, (Or.inr rfl), rfl, rfl, dX1_divide_36⟩)) ⟨_, rfl, Or.inr ⟨rfl, (Or.inl (by rcases Nat.eq_zero_or_pos (lv k) with z | z; exact z; (have := hlv.2 z; have := p4_pos (lv k - 1); omega))), rfl, rfl⟩⟩ hP hD hS
  · refine lv_aload_n hex hby dX1_divide_23 rfl (lv_at hl 1 rfl) ?_
    refine nv_get (v := .int (nI c)) CFx in_X1_divide_X1 hK hP 0 rfl rfl 0 (by decide) (List.mem_of_getElem? (i := 2) rfl) rfl dX1_divide_24 ?_
    refine lv_iconst (v := nI 3) hex hby dX1_divide_27 rfl ?_
    refine nv_iadd hex hby dX1_divide_28 ?_
    refine lv_sipush (v := nI 496) hex hby dX1_divide_29 rfl ?_
    refine nv_icmp_le (tgt := 37) hex hby dX1_divide_32 (by decide) (by omega) (by omega) (fun c_4 => ?_) (fun c_4 => ?_)
    · have hlv1 : 1 ≤ lv k := by (rcases Nat.eq_zero_or_pos (lv k) with z | z); (have := hlv.1 z; omega); exact z
      have hq2 := hlv.2 hlv1
      refine lv_aload_n hex hby dX1_divide_37 rfl (lv_at hl 1 rfl) ?_
      refine nv_get (v := .int (nI c)) CFx in_X1_divide_X1 hK hP 0 rfl rfl 0 (by decide) (List.mem_of_getElem? (i := 2) rfl) rfl dX1_divide_38 ?_
      refine lv_istore_n (lv' := [(3, .int (nI c)), (2, .int (nI q)), (0, .ref hd), (1, .int (nI k))]) hex hby dX1_divide_41 rfl hl (by decide) rfl (fun ls hl => ?_)
      have loop42 : ∀ (nn : Nat) (i : Nat) (SS : Nat → Nat), i < nn → (k ≤ i) → (i ≤ c) → (∀ j, SS j < 4097) → (∀ j, j ≤ i → SS j = S j) → (∀ j, i < j → j ≤ c → SS (j + 3) = S j) → ∀ (H : Heap) (locs : List Loc), va_P (dC, dI) vwCl [(hd, .inr (1, [.int (nI c), .ref aS])), (aS, .inl (cI, 497, .inl (nA SS)))] H → va_D A [(hd, .inr (1, [.int (nI c), .ref aS])), (aS, .inl (cI, 497, .inl (nA SS)))] → va_S A ss.heap H locs → ∀ ls : Array Slot, lv_has ls 4 [(3, .int (nI i)), (2, .int (nI q)), (0, .ref hd), (1, .int (nI k))] → W pp l ee (rmO 0 0) ss mm ([.ref hd, .int (nI k)] : List Value).toArray bb mt cd H locs 0 0 Q (F0 mm 42 ls []) := by
        intro nn
        induction nn with
        | zero => intro i SS hms42; exact absurd hms42 (Nat.not_lt_zero _)
        | succ nn ih42 =>
          intro i SS hms42 hik hic hsb hlo hhi H locs hP hD hS ls hl
          refine lv_iload_n hex hby dX1_divide_42 rfl (lv_at hl 0 rfl) ?_
          refine lv_iload_n hex hby dX1_divide_43 rfl (lv_at hl 3 rfl) ?_
          refine nv_icmp_le (tgt := 67) hex hby dX1_divide_44 (by decide) (by omega) (by omega) (fun c_5 => ?_) (fun c_5 => ?_)
          · refine lv_iconst (v := nI 1) hex hby dX1_divide_67 rfl ?_
            refine lv_istore_n (lv' := [(3, .int (nI 1)), (2, .int (nI q)), (0, .ref hd), (1, .int (nI k))]) hex hby dX1_divide_68 rfl hl (by decide) rfl (fun ls hl => ?_)
            have loop69 : ∀ (nn : Nat) (t : Nat) (SP : Nat → Nat), (4 - t) < nn → (1 ≤ t) → (t ≤ 4) → (∀ j, SP j < 4097) → (∀ j, j ≤ k → SP j = S j) → (∀ j, 1 ≤ j → j < t → SP (k + j) = S k + j * q) → (∀ j, k < j → j ≤ c → SP (j + 3) = S j) → ∀ (H : Heap) (locs : List Loc), va_P (dC, dI) vwCl [(hd, .inr (1, [.int (nI c), .ref aS])), (aS, .inl (cI, 497, .inl (nA SP)))] H → va_D A [(hd, .inr (1, [.int (nI c), .ref aS])), (aS, .inl (cI, 497, .inl (nA SP)))] → va_S A ss.heap H locs → ∀ ls : Array Slot, lv_has ls 4 [(3, .int (nI t)), (2, .int (nI q)), (0, .ref hd), (1, .int (nI k))] → W pp l ee (rmO 0 0) ss mm ([.ref hd, .int (nI k)] : List Value).toArray bb mt cd H locs 0 0 Q (F0 mm 69 ls []) := by
              intro nn
              induction nn with
              | zero => intro t SP hms69; exact absurd hms69 (Nat.not_lt_zero _)
              | succ nn ih69 =>
                intro t SP hms69 ht1 ht4 hpb hp1 hp2 hp3 H locs hP hD hS ls hl
                refine lv_iload_n hex hby dX1_divide_69 rfl (lv_at hl 0 rfl) ?_
                refine lv_iconst (v := nI 4) hex hby dX1_divide_70 rfl ?_
                refine nv_icmp_ge (tgt := 98) hex hby dX1_divide_71 (by decide) (by omega) (by omega) (fun c_6 => ?_) (fun c_6 => ?_)
                · refine lv_aload_n hex hby dX1_divide_98 rfl (lv_at hl 2 rfl) ?_
                  refine lv_dup hex hby dX1_divide_99 rfl ?_
                  refine nv_get (v := .int (nI c)) CFx in_X1_divide_X1 hK hP 0 rfl rfl 0 (by decide) (List.mem_of_getElem? (i := 2) rfl) rfl dX1_divide_100 ?_
                  refine lv_iconst (v := nI 3) hex hby dX1_divide_103 rfl ?_
                  refine nv_iadd hex hby dX1_divide_104 ?_
                  refine nv_put CFx in_X1_divide_X1 tyX1 tyX1_ok nmX1 hK hP hD hS 0 rfl rfl 0 (by decide) (List.mem_of_getElem? (i := 2) rfl) rfl (by decide +kernel) (Nat.le_of_ble_eq_true rfl) dX1_divide_105 (fun H locs hP hD hS => ?_)
                  have hP : va_P (dC, dI) vwCl [(hd, .inr (1, [.int (nI (c + 3)), .ref aS])), (aS, .inl (cI, 497, .inl (nA SP)))] H := hP
                  have hD : va_D A [(hd, .inr (1, [.int (nI (c + 3)), .ref aS])), (aS, .inl (cI, 497, .inl (nA SP)))] := hD
                  refine lv_iconst (v := nI 1) hex hby dX1_divide_108 rfl ?_
                  exact hret _ (c + 3, SP) _ _ _ _ _ (Or.inr (Or.inl ⟨rfl, _, (Or.inl rfl), rfl, rfl, dX1_divide_109⟩)) ⟨_, rfl, Or.inl ⟨rfl, hlv1, (by omega), rfl, (dst_q hag hk (by rw [hq, hq2]) hp1 (fun t h1 h2 => hp2 t h1 (by omega)) hp3), hpb⟩⟩ hP hD hS
                · refine lv_aload_n hex hby dX1_divide_74 rfl (lv_at hl 2 rfl) ?_
                  refine nv_get (v := .ref aS) CFx in_X1_divide_X1 hK hP 0 rfl rfl 1 (by decide) (List.mem_of_getElem? (i := 1) rfl) rfl dX1_divide_75 ?_
                  refine lv_iload_n hex hby dX1_divide_78 rfl (lv_at hl 3 rfl) ?_
                  refine lv_iload_n hex hby dX1_divide_79 rfl (lv_at hl 0 rfl) ?_
                  refine nv_iadd hex hby dX1_divide_80 ?_
                  refine lv_aload_n hex hby dX1_divide_81 rfl (lv_at hl 2 rfl) ?_
                  refine nv_get (v := .ref aS) CFx in_X1_divide_X1 hK hP 0 rfl rfl 1 (by decide) (List.mem_of_getElem? (i := 1) rfl) rfl dX1_divide_82 ?_
                  refine lv_iload_n hex hby dX1_divide_85 rfl (lv_at hl 3 rfl) ?_
                  refine nv_iald hex hby hK hP 1 0 rfl rfl (by omega) (by omega) dX1_divide_86 ?_
                  have hb_7 := hpb k
                  refine lv_iload_n hex hby dX1_divide_87 rfl (lv_at hl 0 rfl) ?_
                  refine lv_iload_n hex hby dX1_divide_88 rfl (lv_at hl 1 rfl) ?_
                  refine nv_imul hex hby dX1_divide_89 ?_
                  refine nv_iadd hex hby dX1_divide_90 ?_
                  have hqt : t * q ≤ 3 * q := Nat.mul_le_mul_right _ (by omega)
                  have hsk := hp1 k (Nat.le_refl _)
                  refine nv_iast hex hby hK hP hD hS 1 0 rfl rfl (by omega) (by omega) dX1_divide_91 (fun H locs hP hD hS => ?_)
                  have hP : va_P (dC, dI) vwCl [(hd, .inr (1, [.int (nI c), .ref aS])), (aS, .inl (cI, 497, .inl (nA (upN SP (k + t) (SP k + t * q)))))] H := hP
                  have hD : va_D A [(hd, .inr (1, [.int (nI c), .ref aS])), (aS, .inl (cI, 497, .inl (nA (upN SP (k + t) (SP k + t * q)))))] := hD
                  have hB_8 := upN_lt (k := k + t) (x := SP k + t * q) hpb (by omega)
                  refine lv_iinc (v := nI (t + 1)) (lv' := [(3, .int (nI (t + 1))), (2, .int (nI q)), (0, .ref hd), (1, .int (nI k))]) hex hby dX1_divide_92 hl (k := 0) rfl (ni_inc _) (by decide) rfl (fun ls hl => ?_)
                  refine lv_goto (tgt := 69) hex hby dX1_divide_95 (by decide) ?_
                  have pf_9 : ∀ j, 1 ≤ j → j < (t + 1) → (upN SP (k + t) (SP k + t * q)) (k + j) = S k + j * q := by
                    intro j h1 h2
                    rcases Nat.lt_or_ge j t with r | r
                    · rw [upN_n (by omega)]; exact hp2 j h1 r
                    · have e : j = t := by omega
                      rw [e, upN_s, hsk]
                  exact ih69 (t + 1) (upN SP (k + t) (SP k + t * q)) (by omega) (by omega) (by omega) hB_8 (fun j hj => by rw [upN_n (by omega)]; exact hp1 j hj) pf_9 (fun j h1 h2 => by rw [upN_n (by omega)]; exact hp3 j h1 h2) _ _ hP hD hS _ (lv_sub hl [0, 1, 2, 3] rfl)
            exact loop69 _ 1 SS (Nat.lt_succ_self _) (by omega) (by omega) hsb (fun j hj => hlo j (by omega)) (fun j h1 h2 => absurd h2 (by omega)) (fun j h1 h2 => hhi j (by omega) h2) _ _ hP hD hS _ (lv_sub hl [0, 1, 2, 3] rfl)
          · refine lv_aload_n hex hby dX1_divide_47 rfl (lv_at hl 2 rfl) ?_
            refine nv_get (v := .ref aS) CFx in_X1_divide_X1 hK hP 0 rfl rfl 1 (by decide) (List.mem_of_getElem? (i := 1) rfl) rfl dX1_divide_48 ?_
            refine lv_iload_n hex hby dX1_divide_51 rfl (lv_at hl 0 rfl) ?_
            refine lv_iconst (v := nI 3) hex hby dX1_divide_52 rfl ?_
            refine nv_iadd hex hby dX1_divide_53 ?_
            refine lv_aload_n hex hby dX1_divide_54 rfl (lv_at hl 2 rfl) ?_
            refine nv_get (v := .ref aS) CFx in_X1_divide_X1 hK hP 0 rfl rfl 1 (by decide) (List.mem_of_getElem? (i := 1) rfl) rfl dX1_divide_55 ?_
            refine lv_iload_n hex hby dX1_divide_58 rfl (lv_at hl 0 rfl) ?_
            refine nv_iald hex hby hK hP 1 0 rfl rfl (by omega) (by omega) dX1_divide_59 ?_
            have hb_10 := hsb i
            refine nv_iast hex hby hK hP hD hS 1 0 rfl rfl (by omega) (by omega) dX1_divide_60 (fun H locs hP hD hS => ?_)
            have hP : va_P (dC, dI) vwCl [(hd, .inr (1, [.int (nI c), .ref aS])), (aS, .inl (cI, 497, .inl (nA (upN SS (i + 3) (SS i)))))] H := hP
            have hD : va_D A [(hd, .inr (1, [.int (nI c), .ref aS])), (aS, .inl (cI, 497, .inl (nA (upN SS (i + 3) (SS i)))))] := hD
            have hB_11 := upN_lt (k := i + 3) (x := SS i) hsb (by omega)
            refine lv_iinc (v := nI (i - 1)) (lv' := [(3, .int (nI (i - 1))), (2, .int (nI q)), (0, .ref hd), (1, .int (nI k))]) hex hby dX1_divide_61 hl (k := 0) rfl (ni_dec (by omega)) (by decide) rfl (fun ls hl => ?_)
            refine lv_goto (tgt := 42) hex hby dX1_divide_64 (by decide) ?_
            have pf_12 : ∀ j, (i - 1) < j → j ≤ c → (upN SS (i + 3) (SS i)) (j + 3) = S j := by
              intro j h1 h2
              rcases Nat.lt_or_ge i j with q | q
              · rw [upN_n (by omega)]; exact hhi j q h2
              · have e : j = i := by omega
                rw [e, upN_s]; exact hlo i (Nat.le_refl _)
            exact ih42 (i - 1) (upN SS (i + 3) (SS i)) (by omega) (by omega) (by omega) hB_11 (fun j hj => by rw [upN_n (by omega)]; exact hlo j (by omega)) pf_12 _ _ hP hD hS _ (lv_sub hl [0, 1, 2, 3] rfl)
      exact loop42 _ c S (Nat.lt_succ_self _) (by omega) (by omega) hSb (fun _ _ => rfl) (fun j h1 h2 => absurd h1 (by omega)) _ _ hP hD hS _ (lv_sub hl [0, 1, 2, 3] rfl)
    · refine lv_iconst (v := nI 0) hex hby dX1_divide_35 rfl ?_
      exact hret _ (c, S) _ _ _ _ _ (Or.inr (Or.inl ⟨rfl, _, (Or.inr rfl), rfl, rfl, dX1_divide_36⟩)) ⟨_, rfl, Or.inr ⟨rfl, (Or.inr (by omega)), rfl, rfl⟩⟩ hP hD hS
theorem nd_X1_countPoints : ndV yX1_countPoints RX1 3 := by decide +kernel
theorem in_X1_countPoints_X1 : ∀ w ∈ wsX10, w ∈ wsX1_countPoints := fun _ h => List.mem_cons_of_mem _ (List.mem_append_left _ (List.mem_append_left _ (List.mem_append_right _ (h))))
set_option maxHeartbeats 4000000 in
set_option maxRecDepth 100000 in
theorem c_X1_countPoints {hd : Nat} {aS : Nat} {hn : Nat} {aI : Nat} {hq : Nat} {aP : Nat} {fd : List Value} {S : Nat → Nat} {fn : List Value} {ix : Nat → Nat} {fq : List Value} {pc : Nat} {P : Nat → Nat} {k : Nat} (faS : fd[1]? = some (.ref aS)) (faI : fn[3]? = some (.ref aI)) (fpc : fq[0]? = some (.int (nI pc))) (faP : fq[1]? = some (.ref aP)) (hSb : ∀ j, S j < 4097) (hPb : ∀ j, P j < 4096) (hpc : pc ≤ 40) (hix : ∀ j, ix j < 4096) (hk : k < 496) : RO l yX1_countPoints wsX1_countPoints 3 70 (dC, dI) (tyK cI cZ cS) [(hd, .inr (1, fd)), (aS, .inl (cI, 497, .inl (nA S))), (hn, .inr (2, fn)), (aI, .inl (cI, 4096, .inl (nA ix))), (hq, .inr (3, fq)), (aP, .inl (cI, 40, .inl (nA P)))] [.ref hd, .int (nI k), .ref hn, .ref hq] (rI (fun r => r = nI (ctP (fun j => S k ≤ ix (P j) ∧ ix (P j) < S (k + 1)) pc))) := by
  refine ro_of (by decide) rfl (Nat.le_of_ble_eq_true rfl) ?_
  intro pp ee ss mm bb mt cd Q CFx hP hK hret ls hl
  obtain ⟨hex, hby, hml, hown, hts⟩ := id CFx
  have hl : lv_has ls 4 [(0, .ref hd), (1, .int (nI k)), (2, .ref hn), (3, .ref hq)] := hl
  refine lv_aload_n hex hby dX1_countPoints_0 rfl (lv_at hl 3 rfl) ?_
  refine lv_aload_n hex hby dX1_countPoints_1 rfl (lv_at hl 0 rfl) ?_
  refine nv_get (v := .ref aS) CFx in_X1_countPoints_X1 hK hP 0 rfl rfl 1 (by decide) (List.mem_of_getElem? (i := 1) rfl) faS dX1_countPoints_2 ?_
  refine lv_iload_n hex hby dX1_countPoints_5 rfl (lv_at hl 1 rfl) ?_
  refine nv_iald hex hby hK hP 1 0 rfl rfl (by omega) (by omega) dX1_countPoints_6 ?_
  have hb_1 := hSb k
  refine lv_aload_n hex hby dX1_countPoints_7 rfl (lv_at hl 0 rfl) ?_
  refine nv_get (v := .ref aS) CFx in_X1_countPoints_X1 hK hP 0 rfl rfl 1 (by decide) (List.mem_of_getElem? (i := 1) rfl) faS dX1_countPoints_8 ?_
  refine lv_iload_n hex hby dX1_countPoints_11 rfl (lv_at hl 1 rfl) ?_
  refine lv_iconst (v := nI 1) hex hby dX1_countPoints_12 rfl ?_
  refine nv_iadd hex hby dX1_countPoints_13 ?_
  refine nv_iald hex hby hK hP 1 0 rfl rfl (by omega) (by omega) dX1_countPoints_14 ?_
  have hb_2 := hSb (k + 1)
  refine lv_aload_n hex hby dX1_countPoints_15 rfl (lv_at hl 2 rfl) ?_
  refine ro_Vi (As := [.int (nI (S k)), .int (nI (S (k + 1))), .ref hn]) (rest := []) CFx (c_X3_countBetween (hq := hq) (aP := aP) (hn := hn) (aI := aI) (fq := fq) (pc := pc) (P := P) (fn := fn) (ix := ix) (a := S k) (b := S (k + 1)) fpc faP faI hPb hpc hix (by omega) (by omega)) 3 gX1_countPoints_X3_countBetween rfl nd_X3_countBetween ⟨Nat.le_of_ble_eq_true rfl, Nat.le_of_ble_eq_true rfl⟩ hK hP [4, 5, 2, 3] rfl rfl rfl rfl hl.1 rfl (Nat.le_of_ble_eq_true rfl) dX1_countPoints_16 ⟨Nat.le_refl _, Nat.le_refl _⟩ (fun r_3 hr_3 => ?_)
  obtain rfl := hr_3
  exact hret _ _ _ _ (Or.inl ⟨rfl, _, rfl, rfl, dX1_countPoints_19⟩) ⟨_, rfl, rfl⟩
theorem nd_X1_leafOfIndex : ndV yX1_leafOfIndex RX1 1 := by decide +kernel
theorem in_X1_leafOfIndex_X1 : ∀ w ∈ wsX10, w ∈ wsX1_leafOfIndex := fun _ h => List.mem_cons_of_mem _ (List.mem_append_right _ (h))
set_option maxHeartbeats 4000000 in
set_option maxRecDepth 100000 in
theorem c_X1_leafOfIndex {hd : Nat} {aS : Nat} {fd : List Value} {c : Nat} {S : Nat → Nat} {i : Nat} {m : Nat} {st : Nat → Nat} {lv : Nat → Nat} (fdc : fd[0]? = some (.int (nI c))) (faS : fd[1]? = some (.ref aS)) (hSb : ∀ j, S j < 4097) (hL : LvL m c st lv) (hag : ∀ j, j ≤ c → S j = st j) (hc : c ≤ 496) (hm6 : m ≤ 6) (hi : i < 4 ^ m) : RO l yX1_leafOfIndex wsX1_leafOfIndex 0 0 (dC, dI) (tyK cI cZ cS) [(hd, .inr (1, fd)), (aS, .inl (cI, 497, .inl (nA S)))] [.ref hd, .int (nI i)] (rI (fun r => ∃ k : Nat, r = nI k ∧ k < c ∧ st k ≤ i ∧ i < st (k + 1))) := by
  refine ro_of (by decide) rfl (Nat.le_of_ble_eq_true rfl) ?_
  intro pp ee ss mm bb mt cd Q CFx hP hK hret ls hl
  obtain ⟨hex, hby, hml, hown, hts⟩ := id CFx
  have hl : lv_has ls 6 [(0, .ref hd), (1, .int (nI i))] := hl
  have h46 := p4_6 hm6
  have hc0 := hL.1
  refine lv_iconst (v := nI 0) hex hby dX1_leafOfIndex_0 rfl ?_
  refine lv_istore_n (lv' := [(2, .int (nI 0)), (0, .ref hd), (1, .int (nI i))]) hex hby dX1_leafOfIndex_1 rfl hl (by decide) rfl (fun ls hl => ?_)
  refine lv_aload_n hex hby dX1_leafOfIndex_2 rfl (lv_at hl 1 rfl) ?_
  refine nv_get (v := .int (nI c)) CFx in_X1_leafOfIndex_X1 hK hP 0 rfl rfl 0 (by decide) (List.mem_of_getElem? (i := 1) rfl) fdc dX1_leafOfIndex_3 ?_
  refine lv_iconst (v := nI 1) hex hby dX1_leafOfIndex_6 rfl ?_
  refine nv_isub hex hby dX1_leafOfIndex_7 (by omega) ?_
  refine lv_istore_n (lv' := [(3, .int (nI (c - 1))), (2, .int (nI 0)), (0, .ref hd), (1, .int (nI i))]) hex hby dX1_leafOfIndex_8 rfl hl (by decide) rfl (fun ls hl => ?_)
  refine lv_iconst (v := nI 0) hex hby dX1_leafOfIndex_9 rfl ?_
  refine lv_istore (lv' := [(4, .int (nI 0)), (3, .int (nI (c - 1))), (2, .int (nI 0)), (0, .ref hd), (1, .int (nI i))]) hex hby dX1_leafOfIndex_10 hl (by decide) rfl (fun ls hl => ?_)
  have loop12 : ∀ (nn : Nat) (lo : Nat) (hi2 : Nat) (sp : Nat), (hi2 - lo) < nn → (lo ≤ hi2) → (hi2 < c) → (st lo ≤ i) → (i < st (hi2 + 1)) → (Hv (hi2 - lo) sp) → ∀ ls : Array Slot, lv_has ls 6 [(4, .int (nI sp)), (3, .int (nI hi2)), (2, .int (nI lo)), (0, .ref hd), (1, .int (nI i))] → W pp l ee (rmO 0 0) ss mm ([.ref hd, .int (nI i)] : List Value).toArray bb mt cd ss.heap [] 0 0 Q (F0 mm 12 ls []) := by
    intro nn
    induction nn with
    | zero => intro lo hi2 sp hms12; exact absurd hms12 (Nat.not_lt_zero _)
    | succ nn ih12 =>
      intro lo hi2 sp hms12 hlh hhc hlo hhi hv ls hl
      have hs13 := hv.1
      refine lv_iload hex hby dX1_leafOfIndex_12 (lv_at hl 0 rfl) ?_
      refine lv_bipush (v := nI 32) hex hby dX1_leafOfIndex_14 rfl ?_
      refine nv_icmp_ge (tgt := 61) hex hby dX1_leafOfIndex_16 (by decide) (by omega) (by omega) (fun c_1 => absurd c_1 (by omega)) (fun c_1 => ?_)
      refine lv_iload_n hex hby dX1_leafOfIndex_19 rfl (lv_at hl 2 rfl) ?_
      refine lv_iload_n hex hby dX1_leafOfIndex_20 rfl (lv_at hl 1 rfl) ?_
      refine nv_icmp_ge (tgt := 61) hex hby dX1_leafOfIndex_21 (by decide) (by omega) (by omega) (fun c_2 => ?_) (fun c_2 => ?_)
      · have hee : hi2 = lo := by omega
        refine lv_iload_n hex hby dX1_leafOfIndex_61 rfl (lv_at hl 2 rfl) ?_
        exact hret _ _ _ _ (Or.inl ⟨rfl, _, rfl, rfl, dX1_leafOfIndex_62⟩) ⟨_, rfl, ⟨lo, rfl, (by omega), hlo, (by rw [hee] at hhi; exact hhi)⟩⟩
      · refine lv_iload_n hex hby dX1_leafOfIndex_24 rfl (lv_at hl 2 rfl) ?_
        refine lv_iload_n hex hby dX1_leafOfIndex_25 rfl (lv_at hl 1 rfl) ?_
        refine nv_iadd hex hby dX1_leafOfIndex_26 ?_
        refine lv_iconst (v := nI 1) hex hby dX1_leafOfIndex_27 rfl ?_
        refine nv_iadd hex hby dX1_leafOfIndex_28 ?_
        refine lv_iconst (v := nI 2) hex hby dX1_leafOfIndex_29 rfl ?_
        refine nv_idiv hex hby dX1_leafOfIndex_30 (by omega) (by omega) (by omega) ?_
        refine lv_istore (lv' := [(5, .int (nI ((lo + hi2 + 1) / 2))), (4, .int (nI sp)), (3, .int (nI hi2)), (2, .int (nI lo)), (0, .ref hd), (1, .int (nI i))]) hex hby dX1_leafOfIndex_31 hl (by decide) rfl (fun ls hl => ?_)
        refine lv_aload_n hex hby dX1_leafOfIndex_33 rfl (lv_at hl 4 rfl) ?_
        refine nv_get (v := .ref aS) CFx in_X1_leafOfIndex_X1 hK hP 0 rfl rfl 1 (by decide) (List.mem_of_getElem? (i := 2) rfl) faS dX1_leafOfIndex_34 ?_
        refine lv_iload hex hby dX1_leafOfIndex_37 (lv_at hl 0 rfl) ?_
        refine nv_iald hex hby hK hP 1 0 rfl rfl (by omega) (by omega) dX1_leafOfIndex_39 ?_
        have hb_3 := hSb ((lo + hi2 + 1) / 2)
        refine lv_iload_n hex hby dX1_leafOfIndex_40 rfl (lv_at hl 5 rfl) ?_
        refine nv_icmp_gt (tgt := 50) hex hby dX1_leafOfIndex_41 (by decide) (by omega) (by omega) (fun c_4 => ?_) (fun c_4 => ?_)
        · refine lv_iload hex hby dX1_leafOfIndex_50 (lv_at hl 0 rfl) ?_
          refine lv_iconst (v := nI 1) hex hby dX1_leafOfIndex_52 rfl ?_
          refine nv_isub hex hby dX1_leafOfIndex_53 (by omega) ?_
          refine lv_istore_n (lv' := [(3, .int (nI ((lo + hi2 + 1) / 2 - 1))), (5, .int (nI ((lo + hi2 + 1) / 2))), (4, .int (nI sp)), (2, .int (nI lo)), (0, .ref hd), (1, .int (nI i))]) hex hby dX1_leafOfIndex_54 rfl hl (by decide) rfl (fun ls hl => ?_)
          refine lv_iinc (v := nI (sp + 1)) (lv' := [(4, .int (nI (sp + 1))), (3, .int (nI ((lo + hi2 + 1) / 2 - 1))), (5, .int (nI ((lo + hi2 + 1) / 2))), (2, .int (nI lo)), (0, .ref hd), (1, .int (nI i))]) hex hby dX1_leafOfIndex_55 hl (k := 2) rfl (ni_inc _) (by decide) rfl (fun ls hl => ?_)
          refine lv_goto (tgt := 12) hex hby dX1_leafOfIndex_58 (by decide) ?_
          exact ih12 lo ((lo + hi2 + 1) / 2 - 1) (sp + 1) (by omega) (by omega) (by omega) hlo (by have := hag ((lo + hi2 + 1) / 2) (by omega); rw [show (lo + hi2 + 1) / 2 - 1 + 1 = (lo + hi2 + 1) / 2 by omega]; omega) (hv.step (by omega) (by omega)) _ (lv_sub hl [0, 1, 3, 4, 5] rfl)
        · refine lv_iload hex hby dX1_leafOfIndex_44 (lv_at hl 0 rfl) ?_
          refine lv_istore_n (lv' := [(2, .int (nI ((lo + hi2 + 1) / 2))), (5, .int (nI ((lo + hi2 + 1) / 2))), (4, .int (nI sp)), (3, .int (nI hi2)), (0, .ref hd), (1, .int (nI i))]) hex hby dX1_leafOfIndex_46 rfl hl (by decide) rfl (fun ls hl => ?_)
          refine lv_goto (tgt := 55) hex hby dX1_leafOfIndex_47 (by decide) ?_
          refine lv_iinc (v := nI (sp + 1)) (lv' := [(4, .int (nI (sp + 1))), (2, .int (nI ((lo + hi2 + 1) / 2))), (5, .int (nI ((lo + hi2 + 1) / 2))), (3, .int (nI hi2)), (0, .ref hd), (1, .int (nI i))]) hex hby dX1_leafOfIndex_55 hl (k := 2) rfl (ni_inc _) (by decide) rfl (fun ls hl => ?_)
          refine lv_goto (tgt := 12) hex hby dX1_leafOfIndex_58 (by decide) ?_
          exact ih12 ((lo + hi2 + 1) / 2) hi2 (sp + 1) (by omega) (by omega) (by omega) (by have := hag ((lo + hi2 + 1) / 2) (by omega); omega) hhi (hv.step (by omega) (by omega)) _ (lv_sub hl [0, 3, 1, 4, 5] rfl)
  exact loop12 _ 0 (c - 1) 0 (Nat.lt_succ_self _) (by omega) (by omega) (by rw [hL.2.1]; exact Nat.zero_le _) (by rw [show c - 1 + 1 = c by omega, hL.2.2.1]; exact hi) (Hv.init (by omega)) _ (lv_sub hl [0, 1, 2, 3, 4] rfl)
theorem nd_X1_fill : ndV yX1_fill RX1 3 := by decide +kernel
theorem in_X1_fill_X1 : ∀ w ∈ wsX10, w ∈ wsX1_fill := fun _ h => List.mem_cons_of_mem _ (List.mem_append_left _ (List.mem_append_left _ (List.mem_append_right _ (h))))
theorem in_X1_fill_X2 : ∀ w ∈ wsX20, w ∈ wsX1_fill := fun _ h => List.mem_cons_of_mem _ (List.mem_append_left _ (List.mem_append_right _ (h)))
set_option maxHeartbeats 4000000 in
set_option maxRecDepth 100000 in
theorem c_X1_fill {hd : Nat} {aS : Nat} {hn : Nat} {aI : Nat} {hq : Nat} {aP : Nat} {v0 : Value} {S0 : Nat → Nat} {fn : List Value} {ce : Nat} {ix : Nat → Nat} {fq : List Value} {pc : Nat} {P : Nat → Nat} {b : Nat} {T : Nat → Nat} {ns : Nat} {m : Nat} (fce : fn[1]? = some (.int (nI ce))) (faI : fn[3]? = some (.ref aI)) (fpc : fq[0]? = some (.int (nI pc))) (faP : fq[1]? = some (.ref aP)) (hSb0 : ∀ j, S0 j < 4097) (hPb : ∀ j, P j < 4096) (hpc : pc ≤ 40) (hix : ∀ j, ix j < 4096) (hV : VT T ns) (hce : ce = 4 ^ m) (hm1 : 1 ≤ m) (hm6 : m ≤ 6) (hb1 : 1 ≤ b) (hb8 : b ≤ 8) : MU l yX1_fill wsX1_fill 4 93 (dC, dI) (tyK cI cZ cS) [(hd, .inr (1, [v0, .ref aS])), (aS, .inl (cI, 497, .inl (nA S0))), (hn, .inr (2, fn)), (aI, .inl (cI, 4096, .inl (nA ix))), (hq, .inr (3, fq)), (aP, .inl (cI, 40, .inl (nA P)))] [] [.ref hd, .ref hn, .ref hq, .int (nI b)] (fun rv_ (u_ : Nat × (Nat → Nat)) => rV (∃ st' : Nat → Nat, ∃ lv' : Nat → Nat, DivC m pc b (fun j => ix (P j)) u_.1 st' lv' ∧ LD T m pc (fun j => ix (P j)) u_.1 st' lv' ∧ (∀ j, j ≤ u_.1 → u_.2 j = st' j) ∧ (∀ j, u_.2 j < 4097)) rv_) (fun (u_ : Nat × (Nat → Nat)) => [(hd, .inr (1, [.int (nI u_.1), .ref aS])), (aS, .inl (cI, 497, .inl (nA u_.2))), (hn, .inr (2, fn)), (aI, .inl (cI, 4096, .inl (nA ix))), (hq, .inr (3, fq)), (aP, .inl (cI, 40, .inl (nA P)))]) := by
  refine mu_of (by decide) rfl (Nat.le_of_ble_eq_true rfl) ?_
  intro pp ee ss mm bb mt cd Q A CFx hP hK hD hS hA hTr hret ls hl
  obtain ⟨hex, hby, hml, hown, hts⟩ := id CFx
  have hl : lv_has ls 6 [(0, .ref hd), (1, .ref hn), (2, .ref hq), (3, .int (nI b))] := hl
  have h46 := p4_6 hm6
  have h4p := p4_pos m
  refine lv_aload_n hex hby dX1_fill_0 rfl (lv_at hl 0 rfl) ?_
  refine lv_iconst (v := nI 1) hex hby dX1_fill_1 rfl ?_
  refine nv_put CFx in_X1_fill_X1 tyX1 tyX1_ok nmX1 hK hP hD hS 0 rfl rfl 0 (by decide) (List.mem_of_getElem? (i := 1) rfl) rfl (by decide +kernel) (Nat.le_of_ble_eq_true rfl) dX1_fill_2 (fun H locs hP hD hS => ?_)
  have hP : va_P (dC, dI) vwCl [(hd, .inr (1, [.int (nI 1), .ref aS])), (aS, .inl (cI, 497, .inl (nA S0))), (hn, .inr (2, fn)), (aI, .inl (cI, 4096, .inl (nA ix))), (hq, .inr (3, fq)), (aP, .inl (cI, 40, .inl (nA P)))] H := hP
  have hD : va_D A [(hd, .inr (1, [.int (nI 1), .ref aS])), (aS, .inl (cI, 497, .inl (nA S0))), (hn, .inr (2, fn)), (aI, .inl (cI, 4096, .inl (nA ix))), (hq, .inr (3, fq)), (aP, .inl (cI, 40, .inl (nA P)))] := hD
  refine lv_aload_n hex hby dX1_fill_5 rfl (lv_at hl 0 rfl) ?_
  refine nv_get (v := .ref aS) CFx in_X1_fill_X1 hK hP 0 rfl rfl 1 (by decide) (List.mem_of_getElem? (i := 2) rfl) rfl dX1_fill_6 ?_
  refine lv_iconst (v := nI 0) hex hby dX1_fill_9 rfl ?_
  refine lv_iconst (v := nI 0) hex hby dX1_fill_10 rfl ?_
  refine nv_iast hex hby hK hP hD hS 1 0 rfl rfl (by omega) (by omega) dX1_fill_11 (fun H locs hP hD hS => ?_)
  have hP : va_P (dC, dI) vwCl [(hd, .inr (1, [.int (nI 1), .ref aS])), (aS, .inl (cI, 497, .inl (nA (upN S0 0 0)))), (hn, .inr (2, fn)), (aI, .inl (cI, 4096, .inl (nA ix))), (hq, .inr (3, fq)), (aP, .inl (cI, 40, .inl (nA P)))] H := hP
  have hD : va_D A [(hd, .inr (1, [.int (nI 1), .ref aS])), (aS, .inl (cI, 497, .inl (nA (upN S0 0 0)))), (hn, .inr (2, fn)), (aI, .inl (cI, 4096, .inl (nA ix))), (hq, .inr (3, fq)), (aP, .inl (cI, 40, .inl (nA P)))] := hD
  have hB_1 := upN_lt (k := 0) (x := 0) hSb0 (by omega)
  refine lv_aload_n hex hby dX1_fill_12 rfl (lv_at hl 0 rfl) ?_
  refine nv_get (v := .ref aS) CFx in_X1_fill_X1 hK hP 0 rfl rfl 1 (by decide) (List.mem_of_getElem? (i := 2) rfl) rfl dX1_fill_13 ?_
  refine lv_iconst (v := nI 1) hex hby dX1_fill_16 rfl ?_
  refine lv_aload_n hex hby dX1_fill_17 rfl (lv_at hl 1 rfl) ?_
  refine nv_get (v := .int (nI ce)) CFx in_X1_fill_X2 hK hP 2 rfl rfl 1 (by decide) (List.mem_of_getElem? (i := 3) rfl) fce dX1_fill_18 ?_
  refine nv_iast hex hby hK hP hD hS 1 0 rfl rfl (by omega) (by omega) dX1_fill_21 (fun H locs hP hD hS => ?_)
  have hP : va_P (dC, dI) vwCl [(hd, .inr (1, [.int (nI 1), .ref aS])), (aS, .inl (cI, 497, .inl (nA (upN (upN S0 0 0) 1 ce)))), (hn, .inr (2, fn)), (aI, .inl (cI, 4096, .inl (nA ix))), (hq, .inr (3, fq)), (aP, .inl (cI, 40, .inl (nA P)))] H := hP
  have hD : va_D A [(hd, .inr (1, [.int (nI 1), .ref aS])), (aS, .inl (cI, 497, .inl (nA (upN (upN S0 0 0) 1 ce)))), (hn, .inr (2, fn)), (aI, .inl (cI, 4096, .inl (nA ix))), (hq, .inr (3, fq)), (aP, .inl (cI, 40, .inl (nA P)))] := hD
  have hB_2 := upN_lt (k := 1) (x := ce) hB_1 (by omega)
  refine lv_iconst (v := nI 0) hex hby dX1_fill_22 rfl ?_
  refine lv_istore (lv' := [(4, .int (nI 0)), (0, .ref hd), (1, .ref hn), (2, .ref hq), (3, .int (nI b))]) hex hby dX1_fill_23 hl (by decide) rfl (fun ls hl => ?_)
  refine lv_iconst (v := nI 0) hex hby dX1_fill_25 rfl ?_
  refine lv_istore (lv' := [(5, .int (nI 0)), (4, .int (nI 0)), (0, .ref hd), (1, .ref hn), (2, .ref hq), (3, .int (nI b))]) hex hby dX1_fill_26 hl (by decide) rfl (fun ls hl => ?_)
  have loop28 : ∀ (nn : Nat) (lf : Nat) (stp : Nat) (c : Nat) (SS : Nat → Nat) (st : Nat → Nat) (lv : Nat → Nat), (992 - stp) < nn → (LD T m pc (fun j => ix (P j)) c st lv) → (∀ j, j ≤ c → SS j = st j) → (∀ j, SS j < 4097) → (lf ≤ c) → (3 * stp + 1 = 3 * lf + c) → (∀ j, j < lf → (pcb (fun j => ix (P j)) pc (lv j) (st j / 4 ^ lv j) ≤ b ∨ lv j = 0)) → (∀ L, L ≤ m → ∀ q, Dvd c st lv L q → b < pcb (fun j => ix (P j)) pc L (q)) → ∀ (H : Heap) (locs : List Loc), va_P (dC, dI) vwCl [(hd, .inr (1, [.int (nI c), .ref aS])), (aS, .inl (cI, 497, .inl (nA SS))), (hn, .inr (2, fn)), (aI, .inl (cI, 4096, .inl (nA ix))), (hq, .inr (3, fq)), (aP, .inl (cI, 40, .inl (nA P)))] H → va_D A [(hd, .inr (1, [.int (nI c), .ref aS])), (aS, .inl (cI, 497, .inl (nA SS))), (hn, .inr (2, fn)), (aI, .inl (cI, 4096, .inl (nA ix))), (hq, .inr (3, fq)), (aP, .inl (cI, 40, .inl (nA P)))] → va_S A ss.heap H locs → ∀ ls : Array Slot, lv_has ls 6 [(5, .int (nI stp)), (4, .int (nI lf)), (0, .ref hd), (1, .ref hn), (2, .ref hq), (3, .int (nI b))] → W pp l ee (rmO 4 93) ss mm ([.ref hd, .ref hn, .ref hq, .int (nI b)] : List Value).toArray bb mt cd H locs 0 0 Q (F0 mm 28 ls []) := by
    intro nn
    induction nn with
    | zero => intro lf stp c SS st lv hms28; exact absurd hms28 (Nat.not_lt_zero _)
    | succ nn ih28 =>
      intro lf stp c SS st lv hms28 hLD hag hsb hlf hstep hfin hdiv H locs hP hD hS ls hl
      have hc := hLD.le hV hm6 hpc
      refine lv_iload hex hby dX1_fill_28 (lv_at hl 0 rfl) ?_
      refine lv_sipush (v := nI 992) hex hby dX1_fill_30 rfl ?_
      refine nv_icmp_ge (tgt := 75) hex hby dX1_fill_33 (by decide) (by omega) (by omega) (fun c_3 => absurd c_3 (by omega)) (fun c_3 => ?_)
      refine lv_iload hex hby dX1_fill_36 (lv_at hl 1 rfl) ?_
      refine lv_aload_n hex hby dX1_fill_38 rfl (lv_at hl 2 rfl) ?_
      refine nv_get (v := .int (nI c)) CFx in_X1_fill_X1 hK hP 0 rfl rfl 0 (by decide) (List.mem_of_getElem? (i := 1) rfl) rfl dX1_fill_39 ?_
      refine nv_icmp_ge (tgt := 75) hex hby dX1_fill_42 (by decide) (by omega) (by omega) (fun c_4 => ?_) (fun c_4 => ?_)
      · exact hret _ (c, SS) _ _ _ _ _ (Or.inr (Or.inr (Or.inl ⟨rfl, rfl, rfl, dX1_fill_75⟩))) ⟨rfl, ⟨st, lv, ⟨hLD.1, fun k hk => ⟨hfin k (by omega), fun L h1 h2 => hdiv L h2 _ ⟨k, hk, h1, rfl⟩⟩⟩, hLD, hag, hsb⟩⟩ hP hD hS
      · have hcn := cnt_eq (pt := (fun j => ix (P j))) (pc := pc) hLD.1 hag (k := lf) (by omega)
        refine lv_aload_n hex hby dX1_fill_45 rfl (lv_at hl 2 rfl) ?_
        refine lv_iload hex hby dX1_fill_46 (lv_at hl 1 rfl) ?_
        refine lv_aload_n hex hby dX1_fill_48 rfl (lv_at hl 3 rfl) ?_
        refine lv_aload_n hex hby dX1_fill_49 rfl (lv_at hl 4 rfl) ?_
        refine ro_Vi (As := [.int (nI lf), .ref hn, .ref hq]) (rest := []) CFx (c_X1_countPoints (hd := hd) (aS := aS) (hn := hn) (aI := aI) (hq := hq) (aP := aP) (fd := [.int (nI c), .ref aS]) (S := SS) (fn := fn) (ix := ix) (fq := fq) (pc := pc) (P := P) (k := lf) rfl faI fpc faP hsb hPb hpc hix (by omega)) 3 gX1_fill_X1_countPoints rfl nd_X1_countPoints ⟨Nat.le_of_ble_eq_true rfl, Nat.le_of_ble_eq_true rfl⟩ hK hP [0, 1, 2, 3, 4, 5] rfl rfl rfl rfl hl.1 rfl (Nat.le_of_ble_eq_true rfl) dX1_fill_50 ⟨Nat.le_refl _, Nat.le_refl _⟩ (fun r_5 hr_5 => ?_)
        obtain rfl := hr_5
        have hctl := ctP_le (fun j => SS lf ≤ ix (P j) ∧ ix (P j) < SS (lf + 1)) pc
        refine lv_iload_n hex hby dX1_fill_53 rfl (lv_at hl 5 rfl) ?_
        refine nv_icmp_le (tgt := 66) hex hby dX1_fill_54 (by decide) (by omega) (by omega) (fun c_6 => ?_) (fun c_6 => ?_)
        · rw [hcn] at c_6
          have hle := c_6
          refine lv_iinc (v := nI (lf + 1)) (lv' := [(4, .int (nI (lf + 1))), (5, .int (nI stp)), (0, .ref hd), (1, .ref hn), (2, .ref hq), (3, .int (nI b))]) hex hby dX1_fill_66 hl (k := 1) rfl (ni_inc _) (by decide) rfl (fun ls hl => ?_)
          refine lv_iinc (v := nI (stp + 1)) (lv' := [(5, .int (nI (stp + 1))), (4, .int (nI (lf + 1))), (0, .ref hd), (1, .ref hn), (2, .ref hq), (3, .int (nI b))]) hex hby dX1_fill_69 hl (k := 1) rfl (ni_inc _) (by decide) rfl (fun ls hl => ?_)
          refine lv_goto (tgt := 28) hex hby dX1_fill_72 (by decide) ?_
          have pf_7 : ∀ j, j < (lf + 1) → (pcb (fun j => ix (P j)) pc (lv j) (st j / 4 ^ lv j) ≤ b ∨ lv j = 0) := by
            intro j hj
            rcases Nat.lt_or_ge j lf with q | q
            · exact hfin j q
            · rw [show j = lf by omega]; exact Or.inl hle
          exact ih28 (lf + 1) (stp + 1) c SS st lv (by omega) hLD hag hsb (by omega) (by omega) pf_7 hdiv _ _ hP hD hS _ (lv_sub hl [0, 1, 2, 3, 4, 5] rfl)
        · rw [hcn] at c_6
          have hgt := c_6
          refine lv_aload_n hex hby dX1_fill_57 rfl (lv_at hl 2 rfl) ?_
          refine lv_iload hex hby dX1_fill_58 (lv_at hl 1 rfl) ?_
          refine mu_Vi (As := [.int (nI lf)]) (rest := []) (wr := [(hn, .inr (2, fn)), (aI, .inl (cI, 4096, .inl (nA ix))), (hq, .inr (3, fq)), (aP, .inl (cI, 40, .inl (nA P)))]) CFx (c_X1_divide (hd := hd) (aS := aS) (c := c) (S := SS) (k := lf) (m := m) (st := st) (lv := lv) hsb hLD.1 hag (by omega) hm6 (by omega)) 1 gX1_fill_X1_divide rfl nd_X1_divide ⟨Nat.le_of_ble_eq_true rfl, Nat.le_of_ble_eq_true rfl⟩ hK hP hD hS hA [0, 1] [2, 3, 4, 5] rfl rfl (by decide) (by decide) (by decide) TR.nil rfl rfl rfl hl.1 rfl (Nat.le_of_ble_eq_true rfl) dX1_fill_60 ⟨Nat.le_refl _, Nat.le_refl _⟩ (fun r_8 u H locs hr_8 hP hD hS => ?_)
          obtain ⟨cd_, Sd⟩ := u
          dsimp only at hr_8 hP hD
          have hP : va_P (dC, dI) vwCl [(hn, .inr (2, fn)), (aI, .inl (cI, 4096, .inl (nA ix))), (hq, .inr (3, fq)), (aP, .inl (cI, 40, .inl (nA P))), (hd, .inr (1, [.int (nI cd_), .ref aS])), (aS, .inl (cI, 497, .inl (nA Sd)))] H := hP
          have hD : va_D A [(hn, .inr (2, fn)), (aI, .inl (cI, 4096, .inl (nA ix))), (hq, .inr (3, fq)), (aP, .inl (cI, 40, .inl (nA P))), (hd, .inr (1, [.int (nI cd_), .ref aS])), (aS, .inl (cI, 497, .inl (nA Sd)))] := hD
          rcases hr_8 with ⟨rfl, hd1, hd2, rfl, hd4, hd5⟩ | ⟨rfl, hd0, rfl, rfl⟩
          · have hnLD := hLD.div (k := lf) (by omega) hd1 (fun e => by rw [e] at hgt; omega) (fun e => by rw [e] at hgt; exact Or.inl (by omega))
            refine nv_if_ne (tgt := 69) hex hby dX1_fill_63 (by decide) (by omega) (fun _ => ?_) (fun c => absurd c (by omega))
            refine lv_iinc (v := nI (stp + 1)) (lv' := [(5, .int (nI (stp + 1))), (4, .int (nI lf)), (0, .ref hd), (1, .ref hn), (2, .ref hq), (3, .int (nI b))]) hex hby dX1_fill_69 hl (k := 0) rfl (ni_inc _) (by decide) rfl (fun ls hl => ?_)
            refine lv_goto (tgt := 28) hex hby dX1_fill_72 (by decide) ?_
            have pf_11 : ∀ j, j < lf → (pcb (fun j => ix (P j)) pc ((dlv lv lf) j) ((dst st lv lf) j / 4 ^ (dlv lv lf) j) ≤ b ∨ (dlv lv lf) j = 0) := by
              intro j hj
              rw [dlv_lo hj, dst_lo (by omega)]
              exact hfin j hj
            have pf_12 : ∀ L, L ≤ m → ∀ q, Dvd (c + 3) (dst st lv lf) (dlv lv lf) L q → b < pcb (fun j => ix (P j)) pc L (q) := by
              intro L hL q hd
              rcases Dvd.inv hLD.1 (by omega) hd1 hd with r | ⟨r1, r2⟩
              · exact hdiv L hL q r
              · rw [r1, r2]; exact hgt
            exact ih28 lf (stp + 1) (c + 3) Sd (dst st lv lf) (dlv lv lf) (by omega) hnLD hd4 hd5 (by omega) (by omega) pf_11 pf_12 _ _ (hP.sub [4, 5, 0, 1, 2, 3] rfl) (hD.sub [4, 5, 0, 1, 2, 3] (by decide) rfl) hS _ (lv_sub hl [0, 1, 2, 3, 4, 5] rfl)
          · have hlv0 : lv lf = 0 := by
              rcases hd0 with z | z
              · exact z
              · rcases Nat.eq_zero_or_pos (lv lf) with y | y
                · exact y
                · have hnLD := hLD.div (k := lf) (by omega) y (fun e => by rw [e] at hgt; omega) (fun e => by rw [e] at hgt; exact Or.inl (by omega))
                  have := hnLD.le hV hm6 hpc
                  omega
            refine nv_if_ne (tgt := 69) hex hby dX1_fill_63 (by decide) (by omega) (fun c => absurd c (by omega)) (fun _ => ?_)
            refine lv_iinc (v := nI (lf + 1)) (lv' := [(4, .int (nI (lf + 1))), (5, .int (nI stp)), (0, .ref hd), (1, .ref hn), (2, .ref hq), (3, .int (nI b))]) hex hby dX1_fill_66 hl (k := 1) rfl (ni_inc _) (by decide) rfl (fun ls hl => ?_)
            refine lv_iinc (v := nI (stp + 1)) (lv' := [(5, .int (nI (stp + 1))), (4, .int (nI (lf + 1))), (0, .ref hd), (1, .ref hn), (2, .ref hq), (3, .int (nI b))]) hex hby dX1_fill_69 hl (k := 1) rfl (ni_inc _) (by decide) rfl (fun ls hl => ?_)
            refine lv_goto (tgt := 28) hex hby dX1_fill_72 (by decide) ?_
            have pf_13 : ∀ j, j < (lf + 1) → (pcb (fun j => ix (P j)) pc (lv j) (st j / 4 ^ lv j) ≤ b ∨ lv j = 0) := by
              intro j hj
              rcases Nat.lt_or_ge j lf with q | q
              · exact hfin j q
              · rw [show j = lf by omega]; exact Or.inr hlv0
            exact ih28 (lf + 1) (stp + 1) c SS st lv (by omega) hLD hag hsb (by omega) (by omega) pf_13 hdiv _ _ (hP.sub [4, 5, 0, 1, 2, 3] rfl) (hD.sub [4, 5, 0, 1, 2, 3] (by decide) rfl) hS _ (lv_sub hl [0, 1, 2, 3, 4, 5] rfl)
  have pf_14 : ∀ j, j ≤ 1 → (upN (upN S0 0 0) 1 ce) j = (fun j => if j = 0 then 0 else 4 ^ m) j := by
    intro j hj
    rcases (show j = 0 ∨ j = 1 by omega) with e | e
    · subst e; rfl
    · subst e; exact hce
  have pf_15 : ∀ L, L ≤ m → ∀ q, Dvd 1 (fun j => if j = 0 then 0 else 4 ^ m) (fun _ => m) L q → b < pcb (fun j => ix (P j)) pc L (q) := by
    intro L hL q hd
    obtain ⟨k, hk, h1, _⟩ := hd
    have : m < L := h1
    omega
  exact loop28 _ 0 0 1 (upN (upN S0 0 0) 1 ce) (fun j => if j = 0 then 0 else 4 ^ m) (fun _ => m) (Nat.lt_succ_self _) (LD.one rfl rfl rfl hm1) pf_14 hB_2 (by omega) (by omega) (fun j hj => absurd hj (by omega)) pf_15 _ _ hP hD hS _ (lv_sub hl [0, 1, 2, 3, 4, 5] rfl)
end DVN
