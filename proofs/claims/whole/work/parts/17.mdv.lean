section MDV
variable {l : Launch} {dC : Nat → ClassId} {dI : Nat → Nat → Nat} {cI cZ cS : ClassId}
theorem dv_prev {st Lv : Nat → Nat} {m c s L : Nat} {Pr : Nat → Nat → Prop} (hstc : st c = s) (hst0 : st 0 = 0) (hj : ∀ j, j < c → st (j + 1) = st j + 4 ^ Lv j ∧ st j % 4 ^ Lv j = 0 ∧ Lv j ≤ m) (hf : ∀ j, j < c → ∀ L, Lv j < L → L ≤ m → Pr L (st j / 4 ^ L)) (hL : L ≤ m) (hna : s % 4 ^ L ≠ 0) : Pr L (s / 4 ^ L) := by
  have hc : c ≠ 0 := by
    intro e
    rw [e, hst0] at hstc
    rw [← hstc] at hna
    exact hna (Nat.zero_mod _)
  have h := hj (c - 1) (by omega)
  rw [show c - 1 + 1 = c by omega, hstc] at h
  obtain ⟨h1, h2, -⟩ := h
  have hlt : Lv (c - 1) < L := by
    rcases Nat.lt_or_ge (Lv (c - 1)) L with q | q
    · exact q
    · exfalso
      apply hna
      have d : 4 ^ L ∣ 4 ^ Lv (c - 1) := Nat.pow_dvd_pow 4 q
      have d2 : 4 ^ L ∣ st (c - 1) := Nat.dvd_trans d (Nat.dvd_of_mod_eq_zero h2)
      rw [h1]
      exact Nat.mod_eq_zero_of_dvd (Nat.dvd_add d2 d)
  have e : s / 4 ^ L = st (c - 1) / 4 ^ L := by
    have q : (4 : Nat) ^ L = 4 ^ Lv (c - 1) * 4 ^ (L - Lv (c - 1)) := by rw [← Nat.pow_add]; congr 1; omega
    obtain ⟨a, ha⟩ := Nat.dvd_of_mod_eq_zero h2
    have hw := p4_pos (Lv (c - 1))
    have hu := p4_pos (L - Lv (c - 1))
    have e1 : s = 4 ^ Lv (c - 1) * (a + 1) := by rw [h1, ha, Nat.mul_add, Nat.mul_one]
    rw [q, e1, Nat.mul_mod_mul_left] at hna
    rw [q, e1, ha, Nat.mul_div_mul_left _ _ hw, Nat.mul_div_mul_left _ _ hw]
    rw [Nat.succ_div, if_neg]
    · rfl
    · intro d
      exact hna (by rw [Nat.mod_eq_zero_of_dvd d, Nat.mul_zero])
  rw [e]
  exact hf (c - 1) (by omega) L hlt hL
theorem al_le {s t m : Nat} (ht : t ≤ m) (hs : s < 4 ^ m) (ha : s % 4 ^ t = 0) : s + 4 ^ t ≤ 4 ^ m := by
  have q : (4 : Nat) ^ m = 4 ^ t * 4 ^ (m - t) := by rw [← Nat.pow_add]; congr 1; omega
  obtain ⟨a, rfl⟩ := Nat.dvd_of_mod_eq_zero ha
  rw [q] at hs ⊢
  have : a < 4 ^ (m - t) := Nat.lt_of_mul_lt_mul_left hs
  rw [← Nat.mul_succ]
  exact Nat.mul_le_mul_left _ this
theorem pdd (i L : Nat) : i / 4 ^ (L + 1) = i / 4 ^ L / 4 := by rw [Nat.pow_succ, Nat.div_div_eq_div_mul]
theorem cv_stx {T : Nat → Nat} {m L : Nat} (h : L < m) (i : Nat) : cvx T (m - L) (i / 4 ^ L) = 2 * cvx T (m - (L + 1)) (i / 4 ^ (L + 1)) + T (4 * cvs T (m - (L + 1)) (i / 4 ^ (L + 1)) + i / 4 ^ L % 4) / 10 % 2 := by
  rw [show m - L = m - (L + 1) + 1 by omega, cvx, pdd]
theorem cv_sty {T : Nat → Nat} {m L : Nat} (h : L < m) (i : Nat) : cvy T (m - L) (i / 4 ^ L) = 2 * cvy T (m - (L + 1)) (i / 4 ^ (L + 1)) + T (4 * cvs T (m - (L + 1)) (i / 4 ^ (L + 1)) + i / 4 ^ L % 4) / 10 / 2 := by
  rw [show m - L = m - (L + 1) + 1 by omega, cvy, pdd]
theorem cv_sts {T : Nat → Nat} {m L : Nat} (h : L < m) (i : Nat) : cvs T (m - L) (i / 4 ^ L) = T (4 * cvs T (m - (L + 1)) (i / 4 ^ (L + 1)) + i / 4 ^ L % 4) % 10 := by
  rw [show m - L = m - (L + 1) + 1 by omega, cvs, pdd]
/-- the digits of a table beside its visits -/
def TbOK (T tb : Nat → Nat) (cu ns : Nat) : Prop := ∀ s, s < ns → ∀ p, p < 4 → T (4 * s + p) = 10 * tb (64 * cu + 8 * s + p) + tb (64 * cu + 8 * s + 4 + p)
theorem nd_X10_divides : ndV yX10_divides RX10 0 := by decide +kernel
theorem in_X10_divides_X10 : ∀ w ∈ wsX100, w ∈ wsX10_divides := fun _ h => List.mem_cons_of_mem _ (List.mem_append_right _ (h))
set_option maxHeartbeats 4000000 in
set_option maxRecDepth 100000 in
theorem c_X10_divides {h : Nat} {aP : Nat} {aI : Nat} {aS : Nat} {aL : Nat} {aO : Nat} {m : Nat} {v1 : Value} {v2 : Value} {v3 : Value} {v4 : Value} {v5 : Value} {v6 : Value} {v7 : Value} {pc : Nat} {bk : Nat} {v13 : Value} {v14 : Value} {v15 : Value} {v16 : Value} {v17 : Value} {v18 : Value} {v19 : Value} {v20 : Value} {v22 : Value} {v23 : Value} {v24 : Value} {v25 : Value} {v27 : Value} {v28 : Value} {P : Nat → Nat} {ix : Nat → Nat} {S0 : Nat → Nat} {L0 : Nat → Nat} {O0 : Nat → Nat} (hPb : ∀ j, P j < 4096) (hpc : pc ≤ 40) (hix : ∀ j, ix j < 4096) (hSb0 : ∀ j, S0 j < 4096) (hLb0 : ∀ j, L0 j < 7) (hOb0 : ∀ j, O0 j < 4096) (hm6 : m ≤ 6) (hbk : bk ≤ 8) : MU l yX10_divides wsX10_divides 1 24 (dC, dI) (tyK cI cZ cS) [(h, .inr (10, [.int (nI m), v1, v2, v3, v4, v5, v6, v7, .ref aP, .int (nI pc), .int (nI bk), .ref aS, .ref aL, v13, v14, v15, v16, v17, v18, v19, v20, .ref aI, v22, v23, v24, v25, .ref aO, v27, v28])), (aP, .inl (cI, 40, .inl (nA P))), (aI, .inl (cI, 4096, .inl (nA ix))), (aS, .inl (cI, 4096, .inl (nA S0))), (aL, .inl (cI, 4096, .inl (nA L0))), (aO, .inl (cI, 4096, .inl (nA O0)))] [] [.ref h] (fun rv_ (u_ : Nat × (Nat → Nat) × (Nat → Nat) × (Nat → Nat)) => rV (∃ st' : Nat → Nat, ∃ lv' : Nat → Nat, DivC m pc bk (fun j => ix (P j)) u_.1 st' lv' ∧ AG u_.1 st' lv' u_.2.1 u_.2.2.1 ∧ LfOK u_.1 st' u_.2.2.2 ∧ (∀ j, u_.2.1 j < 4096) ∧ (∀ j, u_.2.2.1 j < 7) ∧ (∀ j, u_.2.2.2 j < 4096)) rv_) (fun (u_ : Nat × (Nat → Nat) × (Nat → Nat) × (Nat → Nat)) => [(h, .inr (10, [.int (nI m), v1, v2, v3, v4, v5, v6, v7, .ref aP, .int (nI pc), .int (nI bk), .ref aS, .ref aL, .int (nI u_.1), v14, v15, v16, v17, v18, v19, v20, .ref aI, v22, v23, v24, v25, .ref aO, v27, v28])), (aP, .inl (cI, 40, .inl (nA P))), (aI, .inl (cI, 4096, .inl (nA ix))), (aS, .inl (cI, 4096, .inl (nA u_.2.1))), (aL, .inl (cI, 4096, .inl (nA u_.2.2.1))), (aO, .inl (cI, 4096, .inl (nA u_.2.2.2)))]) := by
  refine mu_of (by decide) rfl (Nat.le_of_ble_eq_true rfl) ?_
  intro pp ee ss mm bb mt cd Q A CFx hP hK hD hS hA hTr hret ls hl
  obtain ⟨hex, hby, hml, hown, hts⟩ := id CFx
  have hl : lv_has ls 3 [(0, .ref h)] := hl
  have h46 := p4_6 hm6
  have h4p := p4_pos m
  refine lv_aload_n hex hby dX10_divides_0 rfl (lv_at hl 0 rfl) ?_
  refine lv_iconst (v := nI 0) hex hby dX10_divides_1 rfl ?_
  refine nv_put CFx in_X10_divides_X10 tyX10 tyX10_ok nmX10 hK hP hD hS 0 rfl rfl 13 (by decide) (List.mem_of_getElem? (i := 1) rfl) rfl (by decide +kernel) (Nat.le_of_ble_eq_true rfl) dX10_divides_2 (fun H locs hP hD hS => ?_)
  have hP : va_P (dC, dI) vwCl [(h, .inr (10, [.int (nI m), v1, v2, v3, v4, v5, v6, v7, .ref aP, .int (nI pc), .int (nI bk), .ref aS, .ref aL, .int (nI 0), v14, v15, v16, v17, v18, v19, v20, .ref aI, v22, v23, v24, v25, .ref aO, v27, v28])), (aP, .inl (cI, 40, .inl (nA P))), (aI, .inl (cI, 4096, .inl (nA ix))), (aS, .inl (cI, 4096, .inl (nA S0))), (aL, .inl (cI, 4096, .inl (nA L0))), (aO, .inl (cI, 4096, .inl (nA O0)))] H := hP
  have hD : va_D A [(h, .inr (10, [.int (nI m), v1, v2, v3, v4, v5, v6, v7, .ref aP, .int (nI pc), .int (nI bk), .ref aS, .ref aL, .int (nI 0), v14, v15, v16, v17, v18, v19, v20, .ref aI, v22, v23, v24, v25, .ref aO, v27, v28])), (aP, .inl (cI, 40, .inl (nA P))), (aI, .inl (cI, 4096, .inl (nA ix))), (aS, .inl (cI, 4096, .inl (nA S0))), (aL, .inl (cI, 4096, .inl (nA L0))), (aO, .inl (cI, 4096, .inl (nA O0)))] := hD
  refine lv_iconst (v := nI 0) hex hby dX10_divides_5 rfl ?_
  refine lv_istore_n (lv' := [(1, .int (nI 0)), (0, .ref h)]) hex hby dX10_divides_6 rfl hl (by decide) rfl (fun ls hl => ?_)
  have loop7 : ∀ (nn : Nat) (s : Nat) (c : Nat) (SS : Nat → Nat) (LL : Nat → Nat) (st : Nat → Nat), (4 ^ m - s) < nn → (s ≤ 4 ^ m) → (c ≤ s) → (st 0 = 0) → (st c = s) → (∀ j, j < c → st (j + 1) = st j + 4 ^ LL j ∧ st j % 4 ^ LL j = 0 ∧ LL j ≤ m) → (∀ j, j < c → SS j = st j) → (∀ j, j < c → (pcb (fun j => ix (P j)) pc (LL j) (st j / 4 ^ LL j) ≤ bk ∨ LL j = 0) ∧ ∀ L, LL j < L → L ≤ m → bk < pcb (fun j => ix (P j)) pc L (st j / 4 ^ L)) → (∀ j, SS j < 4096) → (∀ j, LL j < 7) → ∀ (H : Heap) (locs : List Loc), va_P (dC, dI) vwCl [(h, .inr (10, [.int (nI m), v1, v2, v3, v4, v5, v6, v7, .ref aP, .int (nI pc), .int (nI bk), .ref aS, .ref aL, .int (nI c), v14, v15, v16, v17, v18, v19, v20, .ref aI, v22, v23, v24, v25, .ref aO, v27, v28])), (aP, .inl (cI, 40, .inl (nA P))), (aI, .inl (cI, 4096, .inl (nA ix))), (aS, .inl (cI, 4096, .inl (nA SS))), (aL, .inl (cI, 4096, .inl (nA LL))), (aO, .inl (cI, 4096, .inl (nA O0)))] H → va_D A [(h, .inr (10, [.int (nI m), v1, v2, v3, v4, v5, v6, v7, .ref aP, .int (nI pc), .int (nI bk), .ref aS, .ref aL, .int (nI c), v14, v15, v16, v17, v18, v19, v20, .ref aI, v22, v23, v24, v25, .ref aO, v27, v28])), (aP, .inl (cI, 40, .inl (nA P))), (aI, .inl (cI, 4096, .inl (nA ix))), (aS, .inl (cI, 4096, .inl (nA SS))), (aL, .inl (cI, 4096, .inl (nA LL))), (aO, .inl (cI, 4096, .inl (nA O0)))] → va_S A ss.heap H locs → ∀ ls : Array Slot, lv_has ls 3 [(1, .int (nI s)), (0, .ref h)] → W pp l ee (rmO 1 24) ss mm ([.ref h] : List Value).toArray bb mt cd H locs 0 0 Q (F0 mm 7 ls []) := by
    intro nn
    induction nn with
    | zero => intro s c SS LL st hms7; exact absurd hms7 (Nat.not_lt_zero _)
    | succ nn ih7 =>
      intro s c SS LL st hms7 hs hcs hst0 hstc hj hSS hfin hsb hlb H locs hP hD hS ls hl
      refine lv_iload_n hex hby dX10_divides_7 rfl (lv_at hl 0 rfl) ?_
      refine lv_aload_n hex hby dX10_divides_8 rfl (lv_at hl 1 rfl) ?_
      refine ro_Vi (As := []) (rest := [.int (nI s)]) CFx (c_X10_all (h := h) (fs := [.int (nI m), v1, v2, v3, v4, v5, v6, v7, .ref aP, .int (nI pc), .int (nI bk), .ref aS, .ref aL, .int (nI c), v14, v15, v16, v17, v18, v19, v20, .ref aI, v22, v23, v24, v25, .ref aO, v27, v28]) (m := m) rfl hm6) 0 gX10_divides_X10_all rfl nd_X10_all ⟨Nat.le_of_ble_eq_true rfl, Nat.le_of_ble_eq_true rfl⟩ hK hP [0] rfl rfl rfl rfl hl.1 rfl (Nat.le_of_ble_eq_true rfl) dX10_divides_9 ⟨Nat.le_refl _, Nat.le_refl _⟩ (fun r_1 hr_1 => ?_)
      obtain rfl := hr_1
      refine nv_icmp_ge (tgt := 102) hex hby dX10_divides_12 (by decide) (by omega) (by omega) (fun c_2 => ?_) (fun c_2 => ?_)
      · have hsm : s = 4 ^ m := by omega
        have hc0 : 0 < c := by
          rcases Nat.eq_zero_or_pos c with z | z
          · rw [z, hst0] at hstc; omega
          · exact z
        have hLv : LvL m c st LL := ⟨hc0, hst0, by rw [hstc, hsm], hj⟩
        refine lv_aload_n hex hby dX10_divides_102 rfl (lv_at hl 1 rfl) ?_
        refine mu_Vv (As := []) (rest := []) (wr := [(aP, .inl (cI, 40, .inl (nA P))), (aI, .inl (cI, 4096, .inl (nA ix)))]) CFx (c_X10_maps (h := h) (aS := aS) (aL := aL) (aO := aO) (fs := [.int (nI m), v1, v2, v3, v4, v5, v6, v7, .ref aP, .int (nI pc), .int (nI bk), .ref aS, .ref aL, .int (nI c), v14, v15, v16, v17, v18, v19, v20, .ref aI, v22, v23, v24, v25, .ref aO, v27, v28]) (c := c) (S := SS) (Lv := LL) (O := O0) (m := m) (st := st) (lv := LL) rfl rfl rfl rfl hsb hlb hOb0 hm6 hLv (fun j hj => ⟨hSS j hj, rfl⟩)) 0 gX10_divides_X10_maps rfl nd_X10_maps ⟨Nat.le_of_ble_eq_true rfl, Nat.le_of_ble_eq_true rfl⟩ hK hP hD hS hA [0, 3, 4, 5] [1, 2] rfl rfl (by decide) (by decide) (by decide) TR.nil rfl rfl rfl hl.1 rfl (Nat.le_of_ble_eq_true rfl) dX10_divides_103 ⟨Nat.le_refl _, Nat.le_refl _⟩ (fun u H locs hr_3 hP hD hS => ?_)
        obtain ⟨O_4, rfl⟩ : ∃ z, z = u := ⟨_, rfl⟩
        have hP : va_P (dC, dI) vwCl [(aP, .inl (cI, 40, .inl (nA P))), (aI, .inl (cI, 4096, .inl (nA ix))), (h, .inr (10, [.int (nI m), v1, v2, v3, v4, v5, v6, v7, .ref aP, .int (nI pc), .int (nI bk), .ref aS, .ref aL, .int (nI c), v14, v15, v16, v17, v18, v19, v20, .ref aI, v22, v23, v24, v25, .ref aO, v27, v28])), (aS, .inl (cI, 4096, .inl (nA SS))), (aL, .inl (cI, 4096, .inl (nA LL))), (aO, .inl (cI, 4096, .inl (nA O_4)))] H := hP
        have hD : va_D A [(aP, .inl (cI, 40, .inl (nA P))), (aI, .inl (cI, 4096, .inl (nA ix))), (h, .inr (10, [.int (nI m), v1, v2, v3, v4, v5, v6, v7, .ref aP, .int (nI pc), .int (nI bk), .ref aS, .ref aL, .int (nI c), v14, v15, v16, v17, v18, v19, v20, .ref aI, v22, v23, v24, v25, .ref aO, v27, v28])), (aS, .inl (cI, 4096, .inl (nA SS))), (aL, .inl (cI, 4096, .inl (nA LL))), (aO, .inl (cI, 4096, .inl (nA O_4)))] := hD
        obtain ⟨ho1, ho2⟩ := hr_3
        exact hret _ (c, SS, LL, O_4) _ _ _ _ _ (Or.inr (Or.inr (Or.inl ⟨rfl, rfl, rfl, dX10_divides_106⟩))) ⟨rfl, ⟨st, LL, ⟨hLv, hfin⟩, (fun j hj => ⟨hSS j hj, rfl⟩), ho1, hsb, hlb, ho2⟩⟩ (hP.sub [2, 0, 1, 3, 4, 5] rfl) (hD.sub [2, 0, 1, 3, 4, 5] (by decide) rfl) hS
      · refine lv_aload_n hex hby dX10_divides_15 rfl (lv_at hl 1 rfl) ?_
        refine nv_get (v := .int (nI m)) CFx in_X10_divides_X10 hK hP 0 rfl rfl 0 (by decide) (List.mem_of_getElem? (i := 2) rfl) rfl dX10_divides_16 ?_
        refine lv_istore_n (lv' := [(2, .int (nI m)), (1, .int (nI s)), (0, .ref h)]) hex hby dX10_divides_19 rfl hl (by decide) rfl (fun ls hl => ?_)
        have loop20 : ∀ (nn : Nat) (t : Nat), t < nn → (t ≤ m) → (∀ L, t < L → L ≤ m → s % 4 ^ L ≠ 0) → ∀ (H : Heap) (locs : List Loc), va_P (dC, dI) vwCl [(h, .inr (10, [.int (nI m), v1, v2, v3, v4, v5, v6, v7, .ref aP, .int (nI pc), .int (nI bk), .ref aS, .ref aL, .int (nI c), v14, v15, v16, v17, v18, v19, v20, .ref aI, v22, v23, v24, v25, .ref aO, v27, v28])), (aP, .inl (cI, 40, .inl (nA P))), (aI, .inl (cI, 4096, .inl (nA ix))), (aS, .inl (cI, 4096, .inl (nA SS))), (aL, .inl (cI, 4096, .inl (nA LL))), (aO, .inl (cI, 4096, .inl (nA O0)))] H → va_D A [(h, .inr (10, [.int (nI m), v1, v2, v3, v4, v5, v6, v7, .ref aP, .int (nI pc), .int (nI bk), .ref aS, .ref aL, .int (nI c), v14, v15, v16, v17, v18, v19, v20, .ref aI, v22, v23, v24, v25, .ref aO, v27, v28])), (aP, .inl (cI, 40, .inl (nA P))), (aI, .inl (cI, 4096, .inl (nA ix))), (aS, .inl (cI, 4096, .inl (nA SS))), (aL, .inl (cI, 4096, .inl (nA LL))), (aO, .inl (cI, 4096, .inl (nA O0)))] → va_S A ss.heap H locs → ∀ ls : Array Slot, lv_has ls 3 [(2, .int (nI t)), (1, .int (nI s)), (0, .ref h)] → W pp l ee (rmO 1 24) ss mm ([.ref h] : List Value).toArray bb mt cd H locs 0 0 Q (F0 mm 20 ls []) := by
          intro nn
          induction nn with
          | zero => intro t hms20; exact absurd hms20 (Nat.not_lt_zero _)
          | succ nn ih20 =>
            intro t hms20 ht hna H locs hP hD hS ls hl
            have hml := Nat.mod_le s (4 ^ t)
            have hq2 := p2_pos (2 * t)
            have hq24 : 2 ^ (2 * t) ≤ 4096 := by rw [p24]; exact p4_6 (by omega)
            refine lv_iload_n hex hby dX10_divides_20 rfl (lv_at hl 1 rfl) ?_
            refine lv_iconst (v := nI 1) hex hby dX10_divides_21 rfl ?_
            refine lv_iconst (v := nI 2) hex hby dX10_divides_22 rfl ?_
            refine lv_iload_n hex hby dX10_divides_23 rfl (lv_at hl 0 rfl) ?_
            refine nv_imul hex hby dX10_divides_24 ?_
            refine nv_ishl hex hby dX10_divides_25 (by omega) (by omega) ?_
            refine nv_top (y := nI (2 ^ (2 * t))) (congrArg nI (Nat.one_mul _)) ?_
            refine lv_iconst (v := nI 1) hex hby dX10_divides_26 rfl ?_
            refine nv_isub hex hby dX10_divides_27 (by omega) ?_
            refine lv_iand hex hby dX10_divides_28 ?_
            refine nv_top (y := nI (s % 4 ^ t)) (ni_mask4 (by omega) (by omega)) ?_
            refine nv_if_eq (tgt := 38) hex hby dX10_divides_29 (by decide) (by omega) (fun c_5 => ?_) (fun c_5 => ?_)
            · have hal0 := c_5
              have loop38 : ∀ (nn : Nat) (t2 : Nat), t2 < nn → (t2 ≤ m) → (s % 4 ^ t2 = 0) → (∀ L, t2 < L → L ≤ m → bk < pcb (fun j => ix (P j)) pc L (s / 4 ^ L)) → ∀ (H : Heap) (locs : List Loc), va_P (dC, dI) vwCl [(h, .inr (10, [.int (nI m), v1, v2, v3, v4, v5, v6, v7, .ref aP, .int (nI pc), .int (nI bk), .ref aS, .ref aL, .int (nI c), v14, v15, v16, v17, v18, v19, v20, .ref aI, v22, v23, v24, v25, .ref aO, v27, v28])), (aP, .inl (cI, 40, .inl (nA P))), (aI, .inl (cI, 4096, .inl (nA ix))), (aS, .inl (cI, 4096, .inl (nA SS))), (aL, .inl (cI, 4096, .inl (nA LL))), (aO, .inl (cI, 4096, .inl (nA O0)))] H → va_D A [(h, .inr (10, [.int (nI m), v1, v2, v3, v4, v5, v6, v7, .ref aP, .int (nI pc), .int (nI bk), .ref aS, .ref aL, .int (nI c), v14, v15, v16, v17, v18, v19, v20, .ref aI, v22, v23, v24, v25, .ref aO, v27, v28])), (aP, .inl (cI, 40, .inl (nA P))), (aI, .inl (cI, 4096, .inl (nA ix))), (aS, .inl (cI, 4096, .inl (nA SS))), (aL, .inl (cI, 4096, .inl (nA LL))), (aO, .inl (cI, 4096, .inl (nA O0)))] → va_S A ss.heap H locs → ∀ ls : Array Slot, lv_has ls 3 [(2, .int (nI t2)), (1, .int (nI s)), (0, .ref h)] → W pp l ee (rmO 1 24) ss mm ([.ref h] : List Value).toArray bb mt cd H locs 0 0 Q (F0 mm 38 ls []) := by
                intro nn
                induction nn with
                | zero => intro t2 hms38; exact absurd hms38 (Nat.not_lt_zero _)
                | succ nn ih38 =>
                  intro t2 hms38 ht2 hal hbig H locs hP hD hS ls hl
                  refine lv_iload_n hex hby dX10_divides_38 rfl (lv_at hl 0 rfl) ?_
                  refine nv_if_le (tgt := 61) hex hby dX10_divides_39 (by decide) (by omega) (fun c_6 => ?_) (fun c_6 => ?_)
                  · have hend : pcb (fun j => ix (P j)) pc t2 (s / 4 ^ t2) ≤ bk ∨ t2 = 0 := Or.inr c_6
                    refine lv_aload_n hex hby dX10_divides_61 rfl (lv_at hl 2 rfl) ?_
                    refine nv_get (v := .ref aS) CFx in_X10_divides_X10 hK hP 0 rfl rfl 11 (by decide) (List.mem_of_getElem? (i := 4) rfl) rfl dX10_divides_62 ?_
                    refine lv_aload_n hex hby dX10_divides_65 rfl (lv_at hl 2 rfl) ?_
                    refine nv_get (v := .int (nI c)) CFx in_X10_divides_X10 hK hP 0 rfl rfl 13 (by decide) (List.mem_of_getElem? (i := 1) rfl) rfl dX10_divides_66 ?_
                    refine lv_iload_n hex hby dX10_divides_69 rfl (lv_at hl 1 rfl) ?_
                    refine nv_iast hex hby hK hP hD hS 3 0 rfl rfl (by omega) (by omega) dX10_divides_70 (fun H locs hP hD hS => ?_)
                    have hP : va_P (dC, dI) vwCl [(h, .inr (10, [.int (nI m), v1, v2, v3, v4, v5, v6, v7, .ref aP, .int (nI pc), .int (nI bk), .ref aS, .ref aL, .int (nI c), v14, v15, v16, v17, v18, v19, v20, .ref aI, v22, v23, v24, v25, .ref aO, v27, v28])), (aP, .inl (cI, 40, .inl (nA P))), (aI, .inl (cI, 4096, .inl (nA ix))), (aS, .inl (cI, 4096, .inl (nA (upN SS c s)))), (aL, .inl (cI, 4096, .inl (nA LL))), (aO, .inl (cI, 4096, .inl (nA O0)))] H := hP
                    have hD : va_D A [(h, .inr (10, [.int (nI m), v1, v2, v3, v4, v5, v6, v7, .ref aP, .int (nI pc), .int (nI bk), .ref aS, .ref aL, .int (nI c), v14, v15, v16, v17, v18, v19, v20, .ref aI, v22, v23, v24, v25, .ref aO, v27, v28])), (aP, .inl (cI, 40, .inl (nA P))), (aI, .inl (cI, 4096, .inl (nA ix))), (aS, .inl (cI, 4096, .inl (nA (upN SS c s)))), (aL, .inl (cI, 4096, .inl (nA LL))), (aO, .inl (cI, 4096, .inl (nA O0)))] := hD
                    have hB_7 := upN_lt (k := c) (x := s) hsb (by omega)
                    refine lv_aload_n hex hby dX10_divides_71 rfl (lv_at hl 2 rfl) ?_
                    refine nv_get (v := .ref aL) CFx in_X10_divides_X10 hK hP 0 rfl rfl 12 (by decide) (List.mem_of_getElem? (i := 5) rfl) rfl dX10_divides_72 ?_
                    refine lv_aload_n hex hby dX10_divides_75 rfl (lv_at hl 2 rfl) ?_
                    refine nv_get (v := .int (nI c)) CFx in_X10_divides_X10 hK hP 0 rfl rfl 13 (by decide) (List.mem_of_getElem? (i := 1) rfl) rfl dX10_divides_76 ?_
                    refine lv_iload_n hex hby dX10_divides_79 rfl (lv_at hl 0 rfl) ?_
                    refine nv_iast hex hby hK hP hD hS 4 0 rfl rfl (by omega) (by omega) dX10_divides_80 (fun H locs hP hD hS => ?_)
                    have hP : va_P (dC, dI) vwCl [(h, .inr (10, [.int (nI m), v1, v2, v3, v4, v5, v6, v7, .ref aP, .int (nI pc), .int (nI bk), .ref aS, .ref aL, .int (nI c), v14, v15, v16, v17, v18, v19, v20, .ref aI, v22, v23, v24, v25, .ref aO, v27, v28])), (aP, .inl (cI, 40, .inl (nA P))), (aI, .inl (cI, 4096, .inl (nA ix))), (aS, .inl (cI, 4096, .inl (nA (upN SS c s)))), (aL, .inl (cI, 4096, .inl (nA (upN LL c t2)))), (aO, .inl (cI, 4096, .inl (nA O0)))] H := hP
                    have hD : va_D A [(h, .inr (10, [.int (nI m), v1, v2, v3, v4, v5, v6, v7, .ref aP, .int (nI pc), .int (nI bk), .ref aS, .ref aL, .int (nI c), v14, v15, v16, v17, v18, v19, v20, .ref aI, v22, v23, v24, v25, .ref aO, v27, v28])), (aP, .inl (cI, 40, .inl (nA P))), (aI, .inl (cI, 4096, .inl (nA ix))), (aS, .inl (cI, 4096, .inl (nA (upN SS c s)))), (aL, .inl (cI, 4096, .inl (nA (upN LL c t2)))), (aO, .inl (cI, 4096, .inl (nA O0)))] := hD
                    have hB_8 := upN_lt (k := c) (x := t2) hlb (by omega)
                    refine lv_aload_n hex hby dX10_divides_81 rfl (lv_at hl 2 rfl) ?_
                    refine lv_dup hex hby dX10_divides_82 rfl ?_
                    refine nv_get (v := .int (nI c)) CFx in_X10_divides_X10 hK hP 0 rfl rfl 13 (by decide) (List.mem_of_getElem? (i := 1) rfl) rfl dX10_divides_83 ?_
                    refine lv_iconst (v := nI 1) hex hby dX10_divides_86 rfl ?_
                    refine nv_iadd hex hby dX10_divides_87 ?_
                    refine nv_put CFx in_X10_divides_X10 tyX10 tyX10_ok nmX10 hK hP hD hS 0 rfl rfl 13 (by decide) (List.mem_of_getElem? (i := 1) rfl) rfl (by decide +kernel) (Nat.le_of_ble_eq_true rfl) dX10_divides_88 (fun H locs hP hD hS => ?_)
                    have hP : va_P (dC, dI) vwCl [(h, .inr (10, [.int (nI m), v1, v2, v3, v4, v5, v6, v7, .ref aP, .int (nI pc), .int (nI bk), .ref aS, .ref aL, .int (nI (c + 1)), v14, v15, v16, v17, v18, v19, v20, .ref aI, v22, v23, v24, v25, .ref aO, v27, v28])), (aP, .inl (cI, 40, .inl (nA P))), (aI, .inl (cI, 4096, .inl (nA ix))), (aS, .inl (cI, 4096, .inl (nA (upN SS c s)))), (aL, .inl (cI, 4096, .inl (nA (upN LL c t2)))), (aO, .inl (cI, 4096, .inl (nA O0)))] H := hP
                    have hD : va_D A [(h, .inr (10, [.int (nI m), v1, v2, v3, v4, v5, v6, v7, .ref aP, .int (nI pc), .int (nI bk), .ref aS, .ref aL, .int (nI (c + 1)), v14, v15, v16, v17, v18, v19, v20, .ref aI, v22, v23, v24, v25, .ref aO, v27, v28])), (aP, .inl (cI, 40, .inl (nA P))), (aI, .inl (cI, 4096, .inl (nA ix))), (aS, .inl (cI, 4096, .inl (nA (upN SS c s)))), (aL, .inl (cI, 4096, .inl (nA (upN LL c t2)))), (aO, .inl (cI, 4096, .inl (nA O0)))] := hD
                    have hq24 : 2 ^ (2 * t2) ≤ 4096 := by rw [p24]; exact p4_6 (by omega)
                    have hal2 := al_le ht2 (by omega) hal
                    have h4t := p4_pos t2
                    refine lv_iload_n hex hby dX10_divides_91 rfl (lv_at hl 1 rfl) ?_
                    refine lv_iconst (v := nI 1) hex hby dX10_divides_92 rfl ?_
                    refine lv_iconst (v := nI 2) hex hby dX10_divides_93 rfl ?_
                    refine lv_iload_n hex hby dX10_divides_94 rfl (lv_at hl 0 rfl) ?_
                    refine nv_imul hex hby dX10_divides_95 ?_
                    refine nv_ishl hex hby dX10_divides_96 (by omega) (by omega) ?_
                    refine nv_top (y := nI (2 ^ (2 * t2))) (congrArg nI (Nat.one_mul _)) ?_
                    refine nv_top (y := nI (4 ^ t2)) (congrArg nI (p24 t2)) ?_
                    refine nv_iadd hex hby dX10_divides_97 ?_
                    refine lv_istore_n (lv' := [(1, .int (nI (s + 4 ^ t2))), (2, .int (nI t2)), (0, .ref h)]) hex hby dX10_divides_98 rfl hl (by decide) rfl (fun ls hl => ?_)
                    refine lv_goto (tgt := 7) hex hby dX10_divides_99 (by decide) ?_
                    have pf_9 : ∀ j, j < (c + 1) → (upN st (c + 1) (s + 4 ^ t2)) (j + 1) = (upN st (c + 1) (s + 4 ^ t2)) j + 4 ^ (upN LL c t2) j ∧ (upN st (c + 1) (s + 4 ^ t2)) j % 4 ^ (upN LL c t2) j = 0 ∧ (upN LL c t2) j ≤ m := by
                      intro j hjc
                      rcases Nat.lt_or_ge j c with q | q
                      · rw [upN_n (by omega), upN_n (by omega), upN_n (by omega)]; exact hj j q
                      · rw [show j = c by omega, upN_s, upN_n (show c ≠ c + 1 by omega), upN_s, hstc]; exact ⟨rfl, hal, ht2⟩
                    have pf_10 : ∀ j, j < (c + 1) → (upN SS c s) j = (upN st (c + 1) (s + 4 ^ t2)) j := by
                      intro j hjc
                      rcases Nat.lt_or_ge j c with q | q
                      · rw [upN_n (by omega), upN_n (by omega)]; exact hSS j q
                      · rw [show j = c by omega, upN_s, upN_n (show c ≠ c + 1 by omega), hstc]
                    have pf_11 : (∀ j, j < (c + 1) → (pcb (fun j => ix (P j)) pc ((upN LL c t2) j) ((upN st (c + 1) (s + 4 ^ t2)) j / 4 ^ (upN LL c t2) j) ≤ bk ∨ (upN LL c t2) j = 0) ∧ ∀ L, (upN LL c t2) j < L → L ≤ m → bk < pcb (fun j => ix (P j)) pc L ((upN st (c + 1) (s + 4 ^ t2)) j / 4 ^ L)) := by
                      intro j hjc
                      rcases Nat.lt_or_ge j c with q | q
                      · rw [upN_n (show j ≠ c by omega), upN_n (show j ≠ c + 1 by omega)]; exact hfin j q
                      · rw [show j = c by omega, upN_s, upN_n (show c ≠ c + 1 by omega), hstc]; exact ⟨hend, hbig⟩
                    exact ih7 (s + 4 ^ t2) (c + 1) (upN SS c s) (upN LL c t2) (upN st (c + 1) (s + 4 ^ t2)) (by omega) (by omega) (by omega) (by rw [upN_n (by omega)]; exact hst0) (upN_s _ _ _) pf_9 pf_10 pf_11 hB_7 hB_8 _ _ hP hD hS _ (lv_sub hl [0, 2] rfl)
                  · refine lv_aload_n hex hby dX10_divides_42 rfl (lv_at hl 2 rfl) ?_
                    refine lv_iload_n hex hby dX10_divides_43 rfl (lv_at hl 1 rfl) ?_
                    refine lv_iload_n hex hby dX10_divides_44 rfl (lv_at hl 0 rfl) ?_
                    refine ro_Vi (As := [.int (nI s), .int (nI t2)]) (rest := []) CFx (c_X10_pointsIn (h := h) (aP := aP) (aI := aI) (fs := [.int (nI m), v1, v2, v3, v4, v5, v6, v7, .ref aP, .int (nI pc), .int (nI bk), .ref aS, .ref aL, .int (nI c), v14, v15, v16, v17, v18, v19, v20, .ref aI, v22, v23, v24, v25, .ref aO, v27, v28]) (pc := pc) (P := P) (ix := ix) (s := s) (L := t2) rfl rfl rfl hPb hpc hix (by omega) (by omega)) 2 gX10_divides_X10_pointsIn rfl nd_X10_pointsIn ⟨Nat.le_of_ble_eq_true rfl, Nat.le_of_ble_eq_true rfl⟩ hK hP [0, 1, 2] rfl rfl rfl rfl hl.1 rfl (Nat.le_of_ble_eq_true rfl) dX10_divides_45 ⟨Nat.le_refl _, Nat.le_refl _⟩ (fun r_12 hr_12 => ?_)
                    obtain rfl := hr_12
                    refine lv_aload_n hex hby dX10_divides_48 rfl (lv_at hl 2 rfl) ?_
                    refine nv_get (v := .int (nI bk)) CFx in_X10_divides_X10 hK hP 0 rfl rfl 10 (by decide) (List.mem_of_getElem? (i := 3) rfl) rfl dX10_divides_49 ?_
                    have hpcl : pcb (fun j => ix (P j)) pc t2 (s / 4 ^ t2) ≤ pc := ctP_le _ _
                    refine nv_icmp_le (tgt := 61) hex hby dX10_divides_52 (by decide) (by omega) (by omega) (fun c_13 => ?_) (fun c_13 => ?_)
                    · have hend : pcb (fun j => ix (P j)) pc t2 (s / 4 ^ t2) ≤ bk ∨ t2 = 0 := Or.inl c_13
                      refine lv_aload_n hex hby dX10_divides_61 rfl (lv_at hl 2 rfl) ?_
                      refine nv_get (v := .ref aS) CFx in_X10_divides_X10 hK hP 0 rfl rfl 11 (by decide) (List.mem_of_getElem? (i := 4) rfl) rfl dX10_divides_62 ?_
                      refine lv_aload_n hex hby dX10_divides_65 rfl (lv_at hl 2 rfl) ?_
                      refine nv_get (v := .int (nI c)) CFx in_X10_divides_X10 hK hP 0 rfl rfl 13 (by decide) (List.mem_of_getElem? (i := 1) rfl) rfl dX10_divides_66 ?_
                      refine lv_iload_n hex hby dX10_divides_69 rfl (lv_at hl 1 rfl) ?_
                      refine nv_iast hex hby hK hP hD hS 3 0 rfl rfl (by omega) (by omega) dX10_divides_70 (fun H locs hP hD hS => ?_)
                      have hP : va_P (dC, dI) vwCl [(h, .inr (10, [.int (nI m), v1, v2, v3, v4, v5, v6, v7, .ref aP, .int (nI pc), .int (nI bk), .ref aS, .ref aL, .int (nI c), v14, v15, v16, v17, v18, v19, v20, .ref aI, v22, v23, v24, v25, .ref aO, v27, v28])), (aP, .inl (cI, 40, .inl (nA P))), (aI, .inl (cI, 4096, .inl (nA ix))), (aS, .inl (cI, 4096, .inl (nA (upN SS c s)))), (aL, .inl (cI, 4096, .inl (nA LL))), (aO, .inl (cI, 4096, .inl (nA O0)))] H := hP
                      have hD : va_D A [(h, .inr (10, [.int (nI m), v1, v2, v3, v4, v5, v6, v7, .ref aP, .int (nI pc), .int (nI bk), .ref aS, .ref aL, .int (nI c), v14, v15, v16, v17, v18, v19, v20, .ref aI, v22, v23, v24, v25, .ref aO, v27, v28])), (aP, .inl (cI, 40, .inl (nA P))), (aI, .inl (cI, 4096, .inl (nA ix))), (aS, .inl (cI, 4096, .inl (nA (upN SS c s)))), (aL, .inl (cI, 4096, .inl (nA LL))), (aO, .inl (cI, 4096, .inl (nA O0)))] := hD
                      have hB_14 := upN_lt (k := c) (x := s) hsb (by omega)
                      refine lv_aload_n hex hby dX10_divides_71 rfl (lv_at hl 2 rfl) ?_
                      refine nv_get (v := .ref aL) CFx in_X10_divides_X10 hK hP 0 rfl rfl 12 (by decide) (List.mem_of_getElem? (i := 5) rfl) rfl dX10_divides_72 ?_
                      refine lv_aload_n hex hby dX10_divides_75 rfl (lv_at hl 2 rfl) ?_
                      refine nv_get (v := .int (nI c)) CFx in_X10_divides_X10 hK hP 0 rfl rfl 13 (by decide) (List.mem_of_getElem? (i := 1) rfl) rfl dX10_divides_76 ?_
                      refine lv_iload_n hex hby dX10_divides_79 rfl (lv_at hl 0 rfl) ?_
                      refine nv_iast hex hby hK hP hD hS 4 0 rfl rfl (by omega) (by omega) dX10_divides_80 (fun H locs hP hD hS => ?_)
                      have hP : va_P (dC, dI) vwCl [(h, .inr (10, [.int (nI m), v1, v2, v3, v4, v5, v6, v7, .ref aP, .int (nI pc), .int (nI bk), .ref aS, .ref aL, .int (nI c), v14, v15, v16, v17, v18, v19, v20, .ref aI, v22, v23, v24, v25, .ref aO, v27, v28])), (aP, .inl (cI, 40, .inl (nA P))), (aI, .inl (cI, 4096, .inl (nA ix))), (aS, .inl (cI, 4096, .inl (nA (upN SS c s)))), (aL, .inl (cI, 4096, .inl (nA (upN LL c t2)))), (aO, .inl (cI, 4096, .inl (nA O0)))] H := hP
                      have hD : va_D A [(h, .inr (10, [.int (nI m), v1, v2, v3, v4, v5, v6, v7, .ref aP, .int (nI pc), .int (nI bk), .ref aS, .ref aL, .int (nI c), v14, v15, v16, v17, v18, v19, v20, .ref aI, v22, v23, v24, v25, .ref aO, v27, v28])), (aP, .inl (cI, 40, .inl (nA P))), (aI, .inl (cI, 4096, .inl (nA ix))), (aS, .inl (cI, 4096, .inl (nA (upN SS c s)))), (aL, .inl (cI, 4096, .inl (nA (upN LL c t2)))), (aO, .inl (cI, 4096, .inl (nA O0)))] := hD
                      have hB_15 := upN_lt (k := c) (x := t2) hlb (by omega)
                      refine lv_aload_n hex hby dX10_divides_81 rfl (lv_at hl 2 rfl) ?_
                      refine lv_dup hex hby dX10_divides_82 rfl ?_
                      refine nv_get (v := .int (nI c)) CFx in_X10_divides_X10 hK hP 0 rfl rfl 13 (by decide) (List.mem_of_getElem? (i := 1) rfl) rfl dX10_divides_83 ?_
                      refine lv_iconst (v := nI 1) hex hby dX10_divides_86 rfl ?_
                      refine nv_iadd hex hby dX10_divides_87 ?_
                      refine nv_put CFx in_X10_divides_X10 tyX10 tyX10_ok nmX10 hK hP hD hS 0 rfl rfl 13 (by decide) (List.mem_of_getElem? (i := 1) rfl) rfl (by decide +kernel) (Nat.le_of_ble_eq_true rfl) dX10_divides_88 (fun H locs hP hD hS => ?_)
                      have hP : va_P (dC, dI) vwCl [(h, .inr (10, [.int (nI m), v1, v2, v3, v4, v5, v6, v7, .ref aP, .int (nI pc), .int (nI bk), .ref aS, .ref aL, .int (nI (c + 1)), v14, v15, v16, v17, v18, v19, v20, .ref aI, v22, v23, v24, v25, .ref aO, v27, v28])), (aP, .inl (cI, 40, .inl (nA P))), (aI, .inl (cI, 4096, .inl (nA ix))), (aS, .inl (cI, 4096, .inl (nA (upN SS c s)))), (aL, .inl (cI, 4096, .inl (nA (upN LL c t2)))), (aO, .inl (cI, 4096, .inl (nA O0)))] H := hP
                      have hD : va_D A [(h, .inr (10, [.int (nI m), v1, v2, v3, v4, v5, v6, v7, .ref aP, .int (nI pc), .int (nI bk), .ref aS, .ref aL, .int (nI (c + 1)), v14, v15, v16, v17, v18, v19, v20, .ref aI, v22, v23, v24, v25, .ref aO, v27, v28])), (aP, .inl (cI, 40, .inl (nA P))), (aI, .inl (cI, 4096, .inl (nA ix))), (aS, .inl (cI, 4096, .inl (nA (upN SS c s)))), (aL, .inl (cI, 4096, .inl (nA (upN LL c t2)))), (aO, .inl (cI, 4096, .inl (nA O0)))] := hD
                      have hq24 : 2 ^ (2 * t2) ≤ 4096 := by rw [p24]; exact p4_6 (by omega)
                      have hal2 := al_le ht2 (by omega) hal
                      have h4t := p4_pos t2
                      refine lv_iload_n hex hby dX10_divides_91 rfl (lv_at hl 1 rfl) ?_
                      refine lv_iconst (v := nI 1) hex hby dX10_divides_92 rfl ?_
                      refine lv_iconst (v := nI 2) hex hby dX10_divides_93 rfl ?_
                      refine lv_iload_n hex hby dX10_divides_94 rfl (lv_at hl 0 rfl) ?_
                      refine nv_imul hex hby dX10_divides_95 ?_
                      refine nv_ishl hex hby dX10_divides_96 (by omega) (by omega) ?_
                      refine nv_top (y := nI (2 ^ (2 * t2))) (congrArg nI (Nat.one_mul _)) ?_
                      refine nv_top (y := nI (4 ^ t2)) (congrArg nI (p24 t2)) ?_
                      refine nv_iadd hex hby dX10_divides_97 ?_
                      refine lv_istore_n (lv' := [(1, .int (nI (s + 4 ^ t2))), (2, .int (nI t2)), (0, .ref h)]) hex hby dX10_divides_98 rfl hl (by decide) rfl (fun ls hl => ?_)
                      refine lv_goto (tgt := 7) hex hby dX10_divides_99 (by decide) ?_
                      have pf_16 : ∀ j, j < (c + 1) → (upN st (c + 1) (s + 4 ^ t2)) (j + 1) = (upN st (c + 1) (s + 4 ^ t2)) j + 4 ^ (upN LL c t2) j ∧ (upN st (c + 1) (s + 4 ^ t2)) j % 4 ^ (upN LL c t2) j = 0 ∧ (upN LL c t2) j ≤ m := by
                        intro j hjc
                        rcases Nat.lt_or_ge j c with q | q
                        · rw [upN_n (by omega), upN_n (by omega), upN_n (by omega)]; exact hj j q
                        · rw [show j = c by omega, upN_s, upN_n (show c ≠ c + 1 by omega), upN_s, hstc]; exact ⟨rfl, hal, ht2⟩
                      have pf_17 : ∀ j, j < (c + 1) → (upN SS c s) j = (upN st (c + 1) (s + 4 ^ t2)) j := by
                        intro j hjc
                        rcases Nat.lt_or_ge j c with q | q
                        · rw [upN_n (by omega), upN_n (by omega)]; exact hSS j q
                        · rw [show j = c by omega, upN_s, upN_n (show c ≠ c + 1 by omega), hstc]
                      have pf_18 : (∀ j, j < (c + 1) → (pcb (fun j => ix (P j)) pc ((upN LL c t2) j) ((upN st (c + 1) (s + 4 ^ t2)) j / 4 ^ (upN LL c t2) j) ≤ bk ∨ (upN LL c t2) j = 0) ∧ ∀ L, (upN LL c t2) j < L → L ≤ m → bk < pcb (fun j => ix (P j)) pc L ((upN st (c + 1) (s + 4 ^ t2)) j / 4 ^ L)) := by
                        intro j hjc
                        rcases Nat.lt_or_ge j c with q | q
                        · rw [upN_n (show j ≠ c by omega), upN_n (show j ≠ c + 1 by omega)]; exact hfin j q
                        · rw [show j = c by omega, upN_s, upN_n (show c ≠ c + 1 by omega), hstc]; exact ⟨hend, hbig⟩
                      exact ih7 (s + 4 ^ t2) (c + 1) (upN SS c s) (upN LL c t2) (upN st (c + 1) (s + 4 ^ t2)) (by omega) (by omega) (by omega) (by rw [upN_n (by omega)]; exact hst0) (upN_s _ _ _) pf_16 pf_17 pf_18 hB_14 hB_15 _ _ hP hD hS _ (lv_sub hl [0, 2] rfl)
                    · have hgt := c_13
                      refine lv_iinc (v := nI (t2 - 1)) (lv' := [(2, .int (nI (t2 - 1))), (1, .int (nI s)), (0, .ref h)]) hex hby dX10_divides_55 hl (k := 0) rfl (ni_dec (by omega)) (by decide) rfl (fun ls hl => ?_)
                      refine lv_goto (tgt := 38) hex hby dX10_divides_58 (by decide) ?_
                      have pf_19 : ∀ L, (t2 - 1) < L → L ≤ m → bk < pcb (fun j => ix (P j)) pc L (s / 4 ^ L) := by
                        intro L h1 h2
                        rcases Nat.lt_or_ge t2 L with q | q
                        · exact hbig L q h2
                        · rw [show L = t2 by omega]; exact hgt
                      exact ih38 (t2 - 1) (by omega) (by omega) (mod_pow (by omega) hal) pf_19 _ _ hP hD hS _ (lv_sub hl [0, 1, 2] rfl)
              exact loop38 _ t (Nat.lt_succ_self _) (by omega) hal0 (fun L h1 h2 => dv_prev (Pr := fun L q => bk < pcb (fun j => ix (P j)) pc L (q)) hstc hst0 hj (fun j hj => (hfin j hj).2) h2 (hna L h1 h2)) _ _ hP hD hS _ (lv_sub hl [0, 1, 2] rfl)
            · have ht1 : 1 ≤ t := by
                rcases Nat.eq_zero_or_pos t with z | z
                · subst z; exact absurd (Nat.mod_one s) c_5
                · exact z
              have hna0 := c_5
              refine lv_iinc (v := nI (t - 1)) (lv' := [(2, .int (nI (t - 1))), (1, .int (nI s)), (0, .ref h)]) hex hby dX10_divides_32 hl (k := 0) rfl (ni_dec (by omega)) (by decide) rfl (fun ls hl => ?_)
              refine lv_goto (tgt := 20) hex hby dX10_divides_35 (by decide) ?_
              have pf_20 : ∀ L, (t - 1) < L → L ≤ m → s % 4 ^ L ≠ 0 := by
                intro L h1 h2
                rcases Nat.lt_or_ge t L with q | q
                · exact hna L q h2
                · rw [show L = t by omega]; exact hna0
              exact ih20 (t - 1) (by omega) (by omega) pf_20 _ _ hP hD hS _ (lv_sub hl [0, 1, 2] rfl)
        exact loop20 _ m (Nat.lt_succ_self _) (by omega) (fun L h1 h2 => absurd h1 (by omega)) _ _ hP hD hS _ (lv_sub hl [0, 1, 2] rfl)
  exact loop7 _ 0 0 S0 L0 (fun _ => 0) (Nat.lt_succ_self _) (by omega) (by omega) rfl rfl (fun j hj => absurd hj (by omega)) (fun j hj => absurd hj (by omega)) (fun j hj => absurd hj (by omega)) hSb0 hLb0 _ _ hP hD hS _ (lv_sub hl [0, 1] rfl)
theorem nd_X10_numbers : ndV yX10_numbers RX10 0 := by decide +kernel
theorem in_X10_numbers_X10 : ∀ w ∈ wsX100, w ∈ wsX10_numbers := fun _ h => List.mem_cons_of_mem _ (List.mem_append_right _ (h))
set_option maxHeartbeats 4000000 in
set_option maxRecDepth 100000 in
theorem c_X10_numbers {h : Nat} {aT : Nat} {aP : Nat} {aI : Nat} {aC : Nat} {aS : Nat} {aL : Nat} {aO : Nat} {m : Nat} {cu : Nat} {v2 : Value} {v4 : Value} {v5 : Value} {v6 : Value} {v7 : Value} {pc : Nat} {bk : Nat} {v13 : Value} {v14 : Value} {v15 : Value} {v16 : Value} {v17 : Value} {v18 : Value} {v19 : Value} {v20 : Value} {v23 : Value} {v24 : Value} {v25 : Value} {v27 : Value} {v28 : Value} {tb : Nat → Nat} {P : Nat → Nat} {ix0 : Nat → Nat} {g0 : Nat → Nat} {S0 : Nat → Nat} {L0 : Nat → Nat} {O0 : Nat → Nat} {T : Nat → Nat} {ns : Nat} (htb : ∀ j, tb j < 10) (hPb : ∀ j, P j < 4096) (hpc : pc ≤ 40) (hix0 : ∀ j, ix0 j < 4096) (hg0 : ∀ j, g0 j < 4096) (hSb0 : ∀ j, S0 j < 4096) (hLb0 : ∀ j, L0 j < 7) (hOb0 : ∀ j, O0 j < 4096) (hm1 : 1 ≤ m) (hm6 : m ≤ 6) (hbk : bk ≤ 8) (hcu : cu ≤ 2) (hV : VT T ns) (hT : TbOK T tb cu ns) : MU l yX10_numbers wsX10_numbers 2 46 (dC, dI) (tyK cI cZ cS) [(h, .inr (10, [.int (nI m), .int (nI cu), v2, .ref aT, v4, v5, v6, v7, .ref aP, .int (nI pc), .int (nI bk), .ref aS, .ref aL, v13, v14, v15, v16, v17, v18, v19, v20, .ref aI, .ref aC, v23, v24, v25, .ref aO, v27, v28])), (aT, .inl (cI, 192, .inl (nA tb))), (aP, .inl (cI, 40, .inl (nA P))), (aI, .inl (cI, 4096, .inl (nA ix0))), (aC, .inl (cI, 4096, .inl (nA g0))), (aS, .inl (cI, 4096, .inl (nA S0))), (aL, .inl (cI, 4096, .inl (nA L0))), (aO, .inl (cI, 4096, .inl (nA O0)))] [] [.ref h] (fun rv_ (u_ : (Nat → Nat) × (Nat → Nat) × Nat × (Nat → Nat) × (Nat → Nat) × (Nat → Nat)) => rV (∃ st' : Nat → Nat, ∃ lv' : Nat → Nat, NumOK T m u_.2.1 u_.1 ∧ (∀ j, u_.2.1 j < 4096) ∧ (∀ j, u_.1 j < 4096) ∧ DivC m pc bk (fun j => u_.1 (P j)) u_.2.2.1 st' lv' ∧ AG u_.2.2.1 st' lv' u_.2.2.2.1 u_.2.2.2.2.1 ∧ LfOK u_.2.2.1 st' u_.2.2.2.2.2 ∧ (∀ j, u_.2.2.2.1 j < 4096) ∧ (∀ j, u_.2.2.2.2.1 j < 7) ∧ (∀ j, u_.2.2.2.2.2 j < 4096)) rv_) (fun (u_ : (Nat → Nat) × (Nat → Nat) × Nat × (Nat → Nat) × (Nat → Nat) × (Nat → Nat)) => [(h, .inr (10, [.int (nI m), .int (nI cu), v2, .ref aT, v4, v5, v6, v7, .ref aP, .int (nI pc), .int (nI bk), .ref aS, .ref aL, .int (nI u_.2.2.1), v14, v15, v16, v17, v18, v19, v20, .ref aI, .ref aC, v23, v24, v25, .ref aO, v27, v28])), (aT, .inl (cI, 192, .inl (nA tb))), (aP, .inl (cI, 40, .inl (nA P))), (aI, .inl (cI, 4096, .inl (nA u_.1))), (aC, .inl (cI, 4096, .inl (nA u_.2.1))), (aS, .inl (cI, 4096, .inl (nA u_.2.2.2.1))), (aL, .inl (cI, 4096, .inl (nA u_.2.2.2.2.1))), (aO, .inl (cI, 4096, .inl (nA u_.2.2.2.2.2)))]) := by
  refine mu_of (by decide) rfl (Nat.le_of_ble_eq_true rfl) ?_
  intro pp ee ss mm bb mt cd Q A CFx hP hK hD hS hA hTr hret ls hl
  obtain ⟨hex, hby, hml, hown, hts⟩ := id CFx
  have hl : lv_has ls 8 [(0, .ref h)] := hl
  have h46 := p4_6 hm6
  have h4p := p4_pos m
  refine lv_iconst (v := nI 0) hex hby dX10_numbers_0 rfl ?_
  refine lv_istore_n (lv' := [(1, .int (nI 0)), (0, .ref h)]) hex hby dX10_numbers_1 rfl hl (by decide) rfl (fun ls hl => ?_)
  have loop2 : ∀ (nn : Nat) (i : Nat) (gi : Nat → Nat) (jx : Nat → Nat), (4 ^ m - i) < nn → (i ≤ 4 ^ m) → (∀ j, gi j < 4096) → (∀ j, j < i → gi j = cvc T m j) → (∀ j, jx j < 4096) → (∀ j, j < i → jx (cvc T m j) = j) → ∀ (H : Heap) (locs : List Loc), va_P (dC, dI) vwCl [(h, .inr (10, [.int (nI m), .int (nI cu), v2, .ref aT, v4, v5, v6, v7, .ref aP, .int (nI pc), .int (nI bk), .ref aS, .ref aL, v13, v14, v15, v16, v17, v18, v19, v20, .ref aI, .ref aC, v23, v24, v25, .ref aO, v27, v28])), (aT, .inl (cI, 192, .inl (nA tb))), (aP, .inl (cI, 40, .inl (nA P))), (aI, .inl (cI, 4096, .inl (nA jx))), (aC, .inl (cI, 4096, .inl (nA gi))), (aS, .inl (cI, 4096, .inl (nA S0))), (aL, .inl (cI, 4096, .inl (nA L0))), (aO, .inl (cI, 4096, .inl (nA O0)))] H → va_D A [(h, .inr (10, [.int (nI m), .int (nI cu), v2, .ref aT, v4, v5, v6, v7, .ref aP, .int (nI pc), .int (nI bk), .ref aS, .ref aL, v13, v14, v15, v16, v17, v18, v19, v20, .ref aI, .ref aC, v23, v24, v25, .ref aO, v27, v28])), (aT, .inl (cI, 192, .inl (nA tb))), (aP, .inl (cI, 40, .inl (nA P))), (aI, .inl (cI, 4096, .inl (nA jx))), (aC, .inl (cI, 4096, .inl (nA gi))), (aS, .inl (cI, 4096, .inl (nA S0))), (aL, .inl (cI, 4096, .inl (nA L0))), (aO, .inl (cI, 4096, .inl (nA O0)))] → va_S A ss.heap H locs → ∀ ls : Array Slot, lv_has ls 8 [(1, .int (nI i)), (0, .ref h)] → W pp l ee (rmO 2 46) ss mm ([.ref h] : List Value).toArray bb mt cd H locs 0 0 Q (F0 mm 2 ls []) := by
    intro nn
    induction nn with
    | zero => intro i gi jx hms2; exact absurd hms2 (Nat.not_lt_zero _)
    | succ nn ih2 =>
      intro i gi jx hms2 hi hgi hdone hjx hjd H locs hP hD hS ls hl
      refine lv_iload_n hex hby dX10_numbers_2 rfl (lv_at hl 0 rfl) ?_
      refine lv_aload_n hex hby dX10_numbers_3 rfl (lv_at hl 1 rfl) ?_
      refine ro_Vi (As := []) (rest := [.int (nI i)]) CFx (c_X10_all (h := h) (fs := [.int (nI m), .int (nI cu), v2, .ref aT, v4, v5, v6, v7, .ref aP, .int (nI pc), .int (nI bk), .ref aS, .ref aL, v13, v14, v15, v16, v17, v18, v19, v20, .ref aI, .ref aC, v23, v24, v25, .ref aO, v27, v28]) (m := m) rfl hm6) 0 gX10_numbers_X10_all rfl nd_X10_all ⟨Nat.le_of_ble_eq_true rfl, Nat.le_of_ble_eq_true rfl⟩ hK hP [0] rfl rfl rfl rfl hl.1 rfl (Nat.le_of_ble_eq_true rfl) dX10_numbers_4 ⟨Nat.le_refl _, Nat.le_refl _⟩ (fun r_1 hr_1 => ?_)
      obtain rfl := hr_1
      refine nv_icmp_ge (tgt := 114) hex hby dX10_numbers_7 (by decide) (by omega) (by omega) (fun c_2 => ?_) (fun c_2 => ?_)
      · refine lv_aload_n hex hby dX10_numbers_114 rfl (lv_at hl 1 rfl) ?_
        refine mu_Vv (As := []) (rest := []) (wr := [(aT, .inl (cI, 192, .inl (nA tb))), (aC, .inl (cI, 4096, .inl (nA gi)))]) CFx (c_X10_divides (h := h) (aP := aP) (aI := aI) (aS := aS) (aL := aL) (aO := aO) (m := m) (v1 := .int (nI cu)) (v2 := v2) (v3 := .ref aT) (v4 := v4) (v5 := v5) (v6 := v6) (v7 := v7) (pc := pc) (bk := bk) (v13 := v13) (v14 := v14) (v15 := v15) (v16 := v16) (v17 := v17) (v18 := v18) (v19 := v19) (v20 := v20) (v22 := .ref aC) (v23 := v23) (v24 := v24) (v25 := v25) (v27 := v27) (v28 := v28) (P := P) (ix := jx) (S0 := S0) (L0 := L0) (O0 := O0) hPb hpc hjx hSb0 hLb0 hOb0 hm6 hbk) 0 gX10_numbers_X10_divides rfl nd_X10_divides ⟨Nat.le_of_ble_eq_true rfl, Nat.le_of_ble_eq_true rfl⟩ hK hP hD hS hA [0, 2, 3, 5, 6, 7] [1, 4] rfl rfl (by decide) (by decide) (by decide) TR.nil rfl rfl rfl hl.1 rfl (Nat.le_of_ble_eq_true rfl) dX10_numbers_115 ⟨Nat.le_refl _, Nat.le_refl _⟩ (fun u H locs hr_3 hP hD hS => ?_)
        obtain ⟨c_4, S_5, L_6, O_7⟩ := u
        dsimp only at hr_3 hP hD
        have hP : va_P (dC, dI) vwCl [(aT, .inl (cI, 192, .inl (nA tb))), (aC, .inl (cI, 4096, .inl (nA gi))), (h, .inr (10, [.int (nI m), .int (nI cu), v2, .ref aT, v4, v5, v6, v7, .ref aP, .int (nI pc), .int (nI bk), .ref aS, .ref aL, .int (nI c_4), v14, v15, v16, v17, v18, v19, v20, .ref aI, .ref aC, v23, v24, v25, .ref aO, v27, v28])), (aP, .inl (cI, 40, .inl (nA P))), (aI, .inl (cI, 4096, .inl (nA jx))), (aS, .inl (cI, 4096, .inl (nA S_5))), (aL, .inl (cI, 4096, .inl (nA L_6))), (aO, .inl (cI, 4096, .inl (nA O_7)))] H := hP
        have hD : va_D A [(aT, .inl (cI, 192, .inl (nA tb))), (aC, .inl (cI, 4096, .inl (nA gi))), (h, .inr (10, [.int (nI m), .int (nI cu), v2, .ref aT, v4, v5, v6, v7, .ref aP, .int (nI pc), .int (nI bk), .ref aS, .ref aL, .int (nI c_4), v14, v15, v16, v17, v18, v19, v20, .ref aI, .ref aC, v23, v24, v25, .ref aO, v27, v28])), (aP, .inl (cI, 40, .inl (nA P))), (aI, .inl (cI, 4096, .inl (nA jx))), (aS, .inl (cI, 4096, .inl (nA S_5))), (aL, .inl (cI, 4096, .inl (nA L_6))), (aO, .inl (cI, 4096, .inl (nA O_7)))] := hD
        obtain ⟨sn, ln, hd1, hd2, hd3, hd4, hd5, hd6⟩ := hr_3
        exact hret _ (jx, gi, c_4, S_5, L_6, O_7) _ _ _ _ _ (Or.inr (Or.inr (Or.inl ⟨rfl, rfl, rfl, dX10_numbers_118⟩))) ⟨rfl, ⟨sn, ln, ⟨fun j hj => hdone j (by omega), fun j hj => hjd j (by omega)⟩, hgi, hjx, hd1, hd2, hd3, hd4, hd5, hd6⟩⟩ (hP.sub [2, 0, 3, 4, 1, 5, 6, 7] rfl) (hD.sub [2, 0, 3, 4, 1, 5, 6, 7] (by decide) rfl) hS
      · refine lv_iconst (v := nI 0) hex hby dX10_numbers_10 rfl ?_
        refine lv_istore_n (lv' := [(2, .int (nI 0)), (1, .int (nI i)), (0, .ref h)]) hex hby dX10_numbers_11 rfl hl (by decide) rfl (fun ls hl => ?_)
        refine lv_iconst (v := nI 0) hex hby dX10_numbers_12 rfl ?_
        refine lv_istore_n (lv' := [(3, .int (nI 0)), (2, .int (nI 0)), (1, .int (nI i)), (0, .ref h)]) hex hby dX10_numbers_13 rfl hl (by decide) rfl (fun ls hl => ?_)
        refine lv_iconst (v := nI 0) hex hby dX10_numbers_14 rfl ?_
        refine lv_istore (lv' := [(4, .int (nI 0)), (3, .int (nI 0)), (2, .int (nI 0)), (1, .int (nI i)), (0, .ref h)]) hex hby dX10_numbers_15 hl (by decide) rfl (fun ls hl => ?_)
        refine lv_aload_n hex hby dX10_numbers_17 rfl (lv_at hl 4 rfl) ?_
        refine nv_get (v := .int (nI m)) CFx in_X10_numbers_X10 hK hP 0 rfl rfl 0 (by decide) (List.mem_of_getElem? (i := 1) rfl) rfl dX10_numbers_18 ?_
        refine lv_iconst (v := nI 1) hex hby dX10_numbers_21 rfl ?_
        refine nz_isub (a := (m : Int)) (b := (1 : Int)) hex hby dX10_numbers_22 (ni_nz _) rfl ?_
        refine lv_istore (lv' := [(5, .int (zI ((m : Int) - (1 : Int)))), (4, .int (nI 0)), (3, .int (nI 0)), (2, .int (nI 0)), (1, .int (nI i)), (0, .ref h)]) hex hby dX10_numbers_23 hl (by decide) rfl (fun ls hl => ?_)
        have loop25 : ∀ (nn : Nat) (z : Int) (k : Nat) (cx : Nat) (cy : Nat) (s : Nat), k < nn → (z = (k : Int) - 1) → (k ≤ m) → (cx = cvx T (m - k) (i / 4 ^ k)) → (cy = cvy T (m - k) (i / 4 ^ k)) → (s = cvs T (m - k) (i / 4 ^ k)) → ∀ (H : Heap) (locs : List Loc), va_P (dC, dI) vwCl [(h, .inr (10, [.int (nI m), .int (nI cu), v2, .ref aT, v4, v5, v6, v7, .ref aP, .int (nI pc), .int (nI bk), .ref aS, .ref aL, v13, v14, v15, v16, v17, v18, v19, v20, .ref aI, .ref aC, v23, v24, v25, .ref aO, v27, v28])), (aT, .inl (cI, 192, .inl (nA tb))), (aP, .inl (cI, 40, .inl (nA P))), (aI, .inl (cI, 4096, .inl (nA jx))), (aC, .inl (cI, 4096, .inl (nA gi))), (aS, .inl (cI, 4096, .inl (nA S0))), (aL, .inl (cI, 4096, .inl (nA L0))), (aO, .inl (cI, 4096, .inl (nA O0)))] H → va_D A [(h, .inr (10, [.int (nI m), .int (nI cu), v2, .ref aT, v4, v5, v6, v7, .ref aP, .int (nI pc), .int (nI bk), .ref aS, .ref aL, v13, v14, v15, v16, v17, v18, v19, v20, .ref aI, .ref aC, v23, v24, v25, .ref aO, v27, v28])), (aT, .inl (cI, 192, .inl (nA tb))), (aP, .inl (cI, 40, .inl (nA P))), (aI, .inl (cI, 4096, .inl (nA jx))), (aC, .inl (cI, 4096, .inl (nA gi))), (aS, .inl (cI, 4096, .inl (nA S0))), (aL, .inl (cI, 4096, .inl (nA L0))), (aO, .inl (cI, 4096, .inl (nA O0)))] → va_S A ss.heap H locs → ∀ ls : Array Slot, lv_has ls 8 [(5, .int (zI z)), (4, .int (nI s)), (3, .int (nI cy)), (2, .int (nI cx)), (1, .int (nI i)), (0, .ref h)] → W pp l ee (rmO 2 46) ss mm ([.ref h] : List Value).toArray bb mt cd H locs 0 0 Q (F0 mm 25 ls []) := by
          intro nn
          induction nn with
          | zero => intro z k cx cy s hms25; exact absurd hms25 (Nat.not_lt_zero _)
          | succ nn ih25 =>
            intro z k cx cy s hms25 hz hk hcx hcy hst H locs hP hD hS ls hl
            refine lv_iload hex hby dX10_numbers_25 (lv_at hl 0 rfl) ?_
            refine ni_if_lt (tgt := 84) (a := z) hex hby dX10_numbers_27 (by decide) (zI_toInt (by omega) (by omega)) (fun c_8 => ?_) (fun c_8 => ?_)
            · have hk0 : k = 0 := by omega
              have hcx0 : cx = cvx T m i := by rw [hcx, hk0, Nat.sub_zero, Nat.pow_zero, Nat.div_one]
              have hcy0 : cy = cvy T m i := by rw [hcy, hk0, Nat.sub_zero, Nat.pow_zero, Nat.div_one]
              have hcc : 64 * cy + cx = cvc T m i := by rw [hcx0, hcy0]; rfl
              have hcl := cvc_lt hV i hm6
              refine lv_aload_n hex hby dX10_numbers_84 rfl (lv_at hl 5 rfl) ?_
              refine nv_get (v := .ref aC) CFx in_X10_numbers_X10 hK hP 0 rfl rfl 22 (by decide) (List.mem_of_getElem? (i := 2) rfl) rfl dX10_numbers_85 ?_
              refine lv_iload_n hex hby dX10_numbers_88 rfl (lv_at hl 4 rfl) ?_
              refine lv_bipush (v := nI 64) hex hby dX10_numbers_89 rfl ?_
              refine lv_iload_n hex hby dX10_numbers_91 rfl (lv_at hl 2 rfl) ?_
              refine nv_imul hex hby dX10_numbers_92 ?_
              refine lv_iload_n hex hby dX10_numbers_93 rfl (lv_at hl 3 rfl) ?_
              refine nv_iadd hex hby dX10_numbers_94 ?_
              refine nv_iast hex hby hK hP hD hS 4 0 rfl rfl (by omega) (by omega) dX10_numbers_95 (fun H locs hP hD hS => ?_)
              have hP : va_P (dC, dI) vwCl [(h, .inr (10, [.int (nI m), .int (nI cu), v2, .ref aT, v4, v5, v6, v7, .ref aP, .int (nI pc), .int (nI bk), .ref aS, .ref aL, v13, v14, v15, v16, v17, v18, v19, v20, .ref aI, .ref aC, v23, v24, v25, .ref aO, v27, v28])), (aT, .inl (cI, 192, .inl (nA tb))), (aP, .inl (cI, 40, .inl (nA P))), (aI, .inl (cI, 4096, .inl (nA jx))), (aC, .inl (cI, 4096, .inl (nA (upN gi i (64 * cy + cx))))), (aS, .inl (cI, 4096, .inl (nA S0))), (aL, .inl (cI, 4096, .inl (nA L0))), (aO, .inl (cI, 4096, .inl (nA O0)))] H := hP
              have hD : va_D A [(h, .inr (10, [.int (nI m), .int (nI cu), v2, .ref aT, v4, v5, v6, v7, .ref aP, .int (nI pc), .int (nI bk), .ref aS, .ref aL, v13, v14, v15, v16, v17, v18, v19, v20, .ref aI, .ref aC, v23, v24, v25, .ref aO, v27, v28])), (aT, .inl (cI, 192, .inl (nA tb))), (aP, .inl (cI, 40, .inl (nA P))), (aI, .inl (cI, 4096, .inl (nA jx))), (aC, .inl (cI, 4096, .inl (nA (upN gi i (64 * cy + cx))))), (aS, .inl (cI, 4096, .inl (nA S0))), (aL, .inl (cI, 4096, .inl (nA L0))), (aO, .inl (cI, 4096, .inl (nA O0)))] := hD
              have hB_9 := upN_lt (k := i) (x := 64 * cy + cx) hgi (by omega)
              refine lv_aload_n hex hby dX10_numbers_96 rfl (lv_at hl 5 rfl) ?_
              refine nv_get (v := .ref aI) CFx in_X10_numbers_X10 hK hP 0 rfl rfl 21 (by decide) (List.mem_of_getElem? (i := 3) rfl) rfl dX10_numbers_97 ?_
              refine lv_bipush (v := nI 64) hex hby dX10_numbers_100 rfl ?_
              refine lv_iload_n hex hby dX10_numbers_102 rfl (lv_at hl 2 rfl) ?_
              refine nv_imul hex hby dX10_numbers_103 ?_
              refine lv_iload_n hex hby dX10_numbers_104 rfl (lv_at hl 3 rfl) ?_
              refine nv_iadd hex hby dX10_numbers_105 ?_
              refine lv_iload_n hex hby dX10_numbers_106 rfl (lv_at hl 4 rfl) ?_
              refine nv_iast hex hby hK hP hD hS 3 0 rfl rfl (by omega) (by omega) dX10_numbers_107 (fun H locs hP hD hS => ?_)
              have hP : va_P (dC, dI) vwCl [(h, .inr (10, [.int (nI m), .int (nI cu), v2, .ref aT, v4, v5, v6, v7, .ref aP, .int (nI pc), .int (nI bk), .ref aS, .ref aL, v13, v14, v15, v16, v17, v18, v19, v20, .ref aI, .ref aC, v23, v24, v25, .ref aO, v27, v28])), (aT, .inl (cI, 192, .inl (nA tb))), (aP, .inl (cI, 40, .inl (nA P))), (aI, .inl (cI, 4096, .inl (nA (upN jx (64 * cy + cx) i)))), (aC, .inl (cI, 4096, .inl (nA (upN gi i (64 * cy + cx))))), (aS, .inl (cI, 4096, .inl (nA S0))), (aL, .inl (cI, 4096, .inl (nA L0))), (aO, .inl (cI, 4096, .inl (nA O0)))] H := hP
              have hD : va_D A [(h, .inr (10, [.int (nI m), .int (nI cu), v2, .ref aT, v4, v5, v6, v7, .ref aP, .int (nI pc), .int (nI bk), .ref aS, .ref aL, v13, v14, v15, v16, v17, v18, v19, v20, .ref aI, .ref aC, v23, v24, v25, .ref aO, v27, v28])), (aT, .inl (cI, 192, .inl (nA tb))), (aP, .inl (cI, 40, .inl (nA P))), (aI, .inl (cI, 4096, .inl (nA (upN jx (64 * cy + cx) i)))), (aC, .inl (cI, 4096, .inl (nA (upN gi i (64 * cy + cx))))), (aS, .inl (cI, 4096, .inl (nA S0))), (aL, .inl (cI, 4096, .inl (nA L0))), (aO, .inl (cI, 4096, .inl (nA O0)))] := hD
              have hB_10 := upN_lt (k := 64 * cy + cx) (x := i) hjx (by omega)
              refine lv_iinc (v := nI (i + 1)) (lv' := [(1, .int (nI (i + 1))), (5, .int (zI z)), (4, .int (nI s)), (3, .int (nI cy)), (2, .int (nI cx)), (0, .ref h)]) hex hby dX10_numbers_108 hl (k := 4) rfl (ni_inc _) (by decide) rfl (fun ls hl => ?_)
              refine lv_goto (tgt := 2) hex hby dX10_numbers_111 (by decide) ?_
              have pf_11 : ∀ j, j < (i + 1) → (upN gi i (64 * cy + cx)) j = cvc T m j := by
                intro j hj
                rcases Nat.lt_or_ge j i with q | q
                · rw [upN_n (by omega)]; exact hdone j q
                · rw [show j = i by omega, upN_s, hcc]
              have pf_12 : ∀ j, j < (i + 1) → (upN jx (64 * cy + cx) i) (cvc T m j) = j := by
                intro j hj
                rw [hcc]
                rcases Nat.lt_or_ge j i with q | q
                · rw [upN_n (fun e => by have := cvc_inj hV hm6 (show j < 4 ^ m by omega) (show i < 4 ^ m by omega) e; omega)]; exact hjd j q
                · rw [show j = i by omega, upN_s]
              exact ih2 (i + 1) (upN gi i (64 * cy + cx)) (upN jx (64 * cy + cx) i) (by omega) (by omega) hB_9 pf_11 hB_10 pf_12 _ _ hP hD hS _ (lv_sub hl [0, 5] rfl)
            · obtain ⟨lev, rfl⟩ : ∃ i : Nat, z = (i : Int) := ⟨z.toNat, by omega⟩
              rw [zI_nat] at hl
              have hkl : k = lev + 1 := by omega
              have hsn : s = cvs T (m - (lev + 1)) (i / 4 ^ (lev + 1)) := by rw [← hkl]; exact hst
              have hs8 := cvs_lt hV (m - (lev + 1)) (i / 4 ^ (lev + 1))
              have hns := hV.2.1
              refine lv_iload_n hex hby dX10_numbers_30 rfl (lv_at hl 4 rfl) ?_
              refine lv_iconst (v := nI 2) hex hby dX10_numbers_31 rfl ?_
              refine lv_iload hex hby dX10_numbers_32 (lv_at hl 0 rfl) ?_
              refine nv_imul hex hby dX10_numbers_34 ?_
              refine nv_ishr hex hby dX10_numbers_35 (by omega) (by omega) ?_
              have hdl := Nat.div_le_self i (2 ^ (2 * lev))
              refine lv_iconst (v := nI 3) hex hby dX10_numbers_36 rfl ?_
              refine lv_iand hex hby dX10_numbers_37 ?_
              refine nv_top (y := nI (i / 2 ^ (2 * lev) % 4)) (ni_mask (k := 2) (by decide) (by omega)) ?_
              obtain ⟨pl, hpl⟩ : ∃ q, q = i / 4 ^ lev % 4 := ⟨_, rfl⟩
              refine nv_top (y := nI pl) (congrArg nI (by rw [hpl, p24])) ?_
              have hTs := hT s (by omega) pl (by omega)
              refine lv_istore (lv' := [(6, .int (nI pl)), (5, .int (nI lev)), (4, .int (nI s)), (3, .int (nI cy)), (2, .int (nI cx)), (1, .int (nI i)), (0, .ref h)]) hex hby dX10_numbers_38 hl (by decide) rfl (fun ls hl => ?_)
              refine lv_aload_n hex hby dX10_numbers_40 rfl (lv_at hl 6 rfl) ?_
              refine lv_iload hex hby dX10_numbers_41 (lv_at hl 2 rfl) ?_
              refine lv_iload hex hby dX10_numbers_43 (lv_at hl 0 rfl) ?_
              refine ro_Vi (As := [.int (nI s), .int (nI pl)]) (rest := []) CFx (c_X10_quarter (h := h) (aT := aT) (fs := [.int (nI m), .int (nI cu), v2, .ref aT, v4, v5, v6, v7, .ref aP, .int (nI pc), .int (nI bk), .ref aS, .ref aL, v13, v14, v15, v16, v17, v18, v19, v20, .ref aI, .ref aC, v23, v24, v25, .ref aO, v27, v28]) (cu := cu) (tb := tb) (s := s) (p := pl) rfl rfl htb hcu (by omega) (by omega)) 2 gX10_numbers_X10_quarter rfl nd_X10_quarter ⟨Nat.le_of_ble_eq_true rfl, Nat.le_of_ble_eq_true rfl⟩ hK hP [0, 1] rfl rfl rfl rfl hl.1 rfl (Nat.le_of_ble_eq_true rfl) dX10_numbers_45 ⟨Nat.le_refl _, Nat.le_refl _⟩ (fun r_13 hr_13 => ?_)
              obtain rfl := hr_13
              refine lv_istore (lv' := [(7, .int (nI (tb (64 * cu + 8 * s + pl)))), (6, .int (nI pl)), (5, .int (nI lev)), (4, .int (nI s)), (3, .int (nI cy)), (2, .int (nI cx)), (1, .int (nI i)), (0, .ref h)]) hex hby dX10_numbers_48 hl (by decide) rfl (fun ls hl => ?_)
              have hq10 := htb (64 * cu + 8 * s + pl)
              have hn10 := htb (64 * cu + 8 * s + 4 + pl)
              have hcxb := cvx_lt T (m - (lev + 1)) (i / 4 ^ (lev + 1))
              have hcyb := cvy_lt hV (m - (lev + 1)) (i / 4 ^ (lev + 1))
              have hpw := p2_6 (show m - (lev + 1) ≤ 6 by omega)
              refine lv_iconst (v := nI 2) hex hby dX10_numbers_50 rfl ?_
              refine lv_iload_n hex hby dX10_numbers_51 rfl (lv_at hl 5 rfl) ?_
              refine nv_imul hex hby dX10_numbers_52 ?_
              refine lv_iload hex hby dX10_numbers_53 (lv_at hl 0 rfl) ?_
              refine lv_iconst (v := nI 2) hex hby dX10_numbers_55 rfl ?_
              refine nv_irem hex hby dX10_numbers_56 (by omega) (by omega) (by omega) ?_
              refine nv_iadd hex hby dX10_numbers_57 ?_
              refine lv_istore_n (lv' := [(2, .int (nI (2 * cx + tb (64 * cu + 8 * s + pl) % 2))), (7, .int (nI (tb (64 * cu + 8 * s + pl)))), (6, .int (nI pl)), (5, .int (nI lev)), (4, .int (nI s)), (3, .int (nI cy)), (1, .int (nI i)), (0, .ref h)]) hex hby dX10_numbers_58 rfl hl (by decide) rfl (fun ls hl => ?_)
              refine lv_iconst (v := nI 2) hex hby dX10_numbers_59 rfl ?_
              refine lv_iload_n hex hby dX10_numbers_60 rfl (lv_at hl 5 rfl) ?_
              refine nv_imul hex hby dX10_numbers_61 ?_
              refine lv_iload hex hby dX10_numbers_62 (lv_at hl 1 rfl) ?_
              refine lv_iconst (v := nI 2) hex hby dX10_numbers_64 rfl ?_
              refine nv_idiv hex hby dX10_numbers_65 (by omega) (by omega) (by omega) ?_
              refine nv_iadd hex hby dX10_numbers_66 ?_
              refine lv_istore_n (lv' := [(3, .int (nI (2 * cy + tb (64 * cu + 8 * s + pl) / 2))), (2, .int (nI (2 * cx + tb (64 * cu + 8 * s + pl) % 2))), (7, .int (nI (tb (64 * cu + 8 * s + pl)))), (6, .int (nI pl)), (5, .int (nI lev)), (4, .int (nI s)), (1, .int (nI i)), (0, .ref h)]) hex hby dX10_numbers_67 rfl hl (by decide) rfl (fun ls hl => ?_)
              refine lv_aload_n hex hby dX10_numbers_68 rfl (lv_at hl 7 rfl) ?_
              refine lv_iload hex hby dX10_numbers_69 (lv_at hl 5 rfl) ?_
              refine lv_iload hex hby dX10_numbers_71 (lv_at hl 3 rfl) ?_
              refine ro_Vi (As := [.int (nI s), .int (nI pl)]) (rest := []) CFx (c_X10_stateFor (h := h) (aT := aT) (fs := [.int (nI m), .int (nI cu), v2, .ref aT, v4, v5, v6, v7, .ref aP, .int (nI pc), .int (nI bk), .ref aS, .ref aL, v13, v14, v15, v16, v17, v18, v19, v20, .ref aI, .ref aC, v23, v24, v25, .ref aO, v27, v28]) (cu := cu) (tb := tb) (s := s) (p := pl) rfl rfl htb hcu (by omega) (by omega)) 2 gX10_numbers_X10_stateFor rfl nd_X10_stateFor ⟨Nat.le_of_ble_eq_true rfl, Nat.le_of_ble_eq_true rfl⟩ hK hP [0, 1] rfl rfl rfl rfl hl.1 rfl (Nat.le_of_ble_eq_true rfl) dX10_numbers_73 ⟨Nat.le_refl _, Nat.le_refl _⟩ (fun r_14 hr_14 => ?_)
              obtain rfl := hr_14
              refine lv_istore (lv' := [(4, .int (nI (tb (64 * cu + 8 * s + 4 + pl)))), (3, .int (nI (2 * cy + tb (64 * cu + 8 * s + pl) / 2))), (2, .int (nI (2 * cx + tb (64 * cu + 8 * s + pl) % 2))), (7, .int (nI (tb (64 * cu + 8 * s + pl)))), (6, .int (nI pl)), (5, .int (nI lev)), (1, .int (nI i)), (0, .ref h)]) hex hby dX10_numbers_76 hl (by decide) rfl (fun ls hl => ?_)
              refine lv_iinc (v := zI ((lev : Int) - 1)) (lv' := [(5, .int (zI ((lev : Int) - 1))), (4, .int (nI (tb (64 * cu + 8 * s + 4 + pl)))), (3, .int (nI (2 * cy + tb (64 * cu + 8 * s + pl) / 2))), (2, .int (nI (2 * cx + tb (64 * cu + 8 * s + pl) % 2))), (7, .int (nI (tb (64 * cu + 8 * s + pl)))), (6, .int (nI pl)), (1, .int (nI i)), (0, .ref h)]) hex hby dX10_numbers_78 hl (k := 5) rfl (by rw [ni_nz]; exact ni_decz _) (by decide) rfl (fun ls hl => ?_)
              refine lv_goto (tgt := 25) hex hby dX10_numbers_81 (by decide) ?_
              exact ih25 ((lev : Int) - 1) lev (2 * cx + tb (64 * cu + 8 * s + pl) % 2) (2 * cy + tb (64 * cu + 8 * s + pl) / 2) (tb (64 * cu + 8 * s + 4 + pl)) (by omega) (by omega) (by omega) (by rw [cv_stx (by omega), ← hpl, ← hsn, hTs, hcx, hkl]; omega) (by rw [cv_sty (by omega), ← hpl, ← hsn, hTs, hcy, hkl]; omega) (by rw [cv_sts (by omega), ← hpl, ← hsn, hTs]; omega) _ _ hP hD hS _ (lv_sub hl [0, 1, 2, 3, 6, 7] rfl)
        exact loop25 _ ((m : Int) - (1 : Int)) m 0 0 0 (Nat.lt_succ_self _) (by omega) (by omega) (by rw [Nat.sub_self]; rfl) (by rw [Nat.sub_self]; rfl) (by rw [Nat.sub_self]; rfl) _ _ hP hD hS _ (lv_sub hl [0, 1, 2, 3, 4, 5] rfl)
  exact loop2 _ 0 g0 ix0 (Nat.lt_succ_self _) (by omega) hg0 (fun j hj => absurd hj (by omega)) hix0 (fun j hj => absurd hj (by omega)) _ _ hP hD hS _ (lv_sub hl [0, 1] rfl)
end MDV
