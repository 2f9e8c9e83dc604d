section CSR
variable {l : Launch} {dC : Nat → ClassId} {dI : Nat → Nat → Nat} {cI cZ cS : ClassId}
theorem nd_X9_covering : ndV yX9_covering RX9 3 := by decide +kernel
theorem in_X9_covering_X0 : ∀ w ∈ wsX00, w ∈ wsX9_covering := fun _ h => List.mem_cons_of_mem _ (List.mem_append_right _ (h))
theorem in_X9_covering_X9 : ∀ w ∈ wsX90, w ∈ wsX9_covering := fun _ h => List.mem_cons_of_mem _ (List.mem_append_left _ (List.mem_append_right _ (h)))
set_option maxHeartbeats 4000000 in
set_option maxRecDepth 100000 in
theorem c_X9_covering {h : Nat} {ho : Nat} {aF : Nat} {aG : Nat} {f9 : List Value} {fo : List Value} {cn : Nat} {F : Nat → Nat} {G : Nat → Nat} {k : Int32} {kz : Int} {q : Int32} {qz : Int} {w : Int32} {wz : Int} {T : Nat → Nat} {ns : Nat} {m : Nat} {rl : Nat} {rb : Nat} {rr : Nat} {ra : Nat} (f9_cover : f9[5]? = some (.ref ho)) (fcn : fo[0]? = some (.int (nI cn))) (faF : fo[1]? = some (.ref aF)) (faG : fo[2]? = some (.ref aG)) (hkz : k.toInt = kz) (hqz : q.toInt = qz) (hwz : w.toInt = wz) (hFb : ∀ j, F j < 4096) (hGb : ∀ j, G j < 4096) (hcn : cn ≤ 505) (hI : IvOK (inG (cvc T m) rl rb rr ra) (4 ^ m) cn F G) : RO l yX9_covering wsX9_covering 4 98 (dC, dI) (tyK cI cZ cS) [(h, .inr (9, f9)), (ho, .inr (0, fo)), (aF, .inl (cI, 505, .inl (nA F))), (aG, .inl (cI, 505, .inl (nA G)))] [.ref h, .int k, .int q, .int w] (rI (fun r => (∃ v : Nat, r = nI v ∧ 1 ≤ kz ∧ (0 ≤ qz ∧ qz < ((ctP (stI (inG (cvc T m) rl rb rr ra)) (4 ^ m) - (ctP (stI (inG (cvc T m) rl rb rr ra)) (4 ^ m) - kz.toNat) : Nat) : Int)) ∧ CvAt (inG (cvc T m) rl rb rr ra) (4 ^ m) kz.toNat qz.toNat (wz ≠ 0) v) ∨ (r = zI (-1) ∧ 1 ≤ kz ∧ (¬ (0 ≤ qz ∧ qz < ((ctP (stI (inG (cvc T m) rl rb rr ra)) (4 ^ m) - (ctP (stI (inG (cvc T m) rl rb rr ra)) (4 ^ m) - kz.toNat) : Nat) : Int)))) ∨ (r = zI (-2) ∧ ¬ 1 ≤ kz))) := by
  refine ro_of (by decide) rfl (Nat.le_of_ble_eq_true rfl) ?_
  intro pp ee ss mm bb mt cd Q CFx hP hK hret ls hl
  obtain ⟨hex, hby, hml, hown, hts⟩ := id CFx
  have hl : lv_has ls 4 [(0, .ref h), (1, .int k), (2, .int q), (3, .int w)] := hl
  have hgap : ∀ p, p < cn - 1 → G p + 1 < F (p + 1) := fun p hp => hI.gap (by omega)
  have hc1 := hI.1
  refine lv_iload_n hex hby dX9_covering_0 rfl (lv_at hl 1 rfl) ?_
  refine lv_iconst (v := nI 1) hex hby dX9_covering_1 rfl ?_
  refine ni_icmp_ge (tgt := 8) (a := k.toInt) (b := (1 : Int)) hex hby dX9_covering_2 (by decide) rfl (by rfl) (fun c_1 => ?_) (fun c_1 => ?_)
  · obtain ⟨kn, hkn_, rfl, hkne⟩ := ni_of (x := k) (by omega)
    have hkt : kz.toNat = kn := by omega
    refine lv_iload_n hex hby dX9_covering_8 rfl (lv_at hl 2 rfl) ?_
    refine ni_if_lt (tgt := 27) (a := q.toInt) hex hby dX9_covering_9 (by decide) rfl (fun c_2 => ?_) (fun c_2 => ?_)
    · refine lv_iconst (v := zI (-1)) hex hby dX9_covering_27 rfl ?_
      exact hret _ _ _ _ (Or.inl ⟨rfl, _, rfl, rfl, dX9_covering_28⟩) ⟨_, rfl, Or.inr (Or.inl ⟨rfl, (by omega), (by rw [hkt, ← hc1]; omega)⟩)⟩
    · refine lv_iload_n hex hby dX9_covering_12 rfl (lv_at hl 2 rfl) ?_
      refine lv_iload_n hex hby dX9_covering_13 rfl (lv_at hl 1 rfl) ?_
      refine lv_aload_n hex hby dX9_covering_14 rfl (lv_at hl 0 rfl) ?_
      refine nv_get (v := .ref ho) CFx in_X9_covering_X9 hK hP 0 rfl rfl 5 (by decide) (List.mem_of_getElem? (i := 1) rfl) f9_cover dX9_covering_15 ?_
      refine nv_get (v := .int (nI cn)) CFx in_X9_covering_X0 hK hP 1 rfl rfl 0 (by decide) (List.mem_of_getElem? (i := 2) rfl) fcn dX9_covering_18 ?_
      refine va_mmin hex hby (hml.trans hl.1.symm) hown (hts _ (List.mem_of_getElem? (i := 3) rfl)) (hts _ (List.mem_of_getElem? (i := 4) rfl)) (hts _ (List.mem_of_getElem? (i := 5) rfl)) (hts _ (List.mem_of_getElem? (i := 6) rfl)) (Nat.le_of_ble_eq_true rfl) (Nat.le_of_ble_eq_true rfl) (Nat.le_refl _) (Nat.le_refl _) dX9_covering_21 ?_
      refine nv_top (nI_min (by omega) (by omega)) ?_
      refine ni_icmp_lt (tgt := 29) (a := q.toInt) (b := ((min kn cn : Nat) : Int)) hex hby dX9_covering_24 (by decide) rfl (ni_toInt (by omega)) (fun c_3 => ?_) (fun c_3 => ?_)
      · obtain ⟨qn, hqn_, rfl, hqne⟩ := ni_of (x := q) (by omega)
        have hqt : qz.toNat = qn := by omega
        refine lv_aload_n hex hby dX9_covering_29 rfl (lv_at hl 0 rfl) ?_
        refine nv_get (v := .ref ho) CFx in_X9_covering_X9 hK hP 0 rfl rfl 5 (by decide) (List.mem_of_getElem? (i := 1) rfl) f9_cover dX9_covering_30 ?_
        refine lv_iload_n hex hby dX9_covering_33 rfl (lv_at hl 1 rfl) ?_
        refine lv_iload_n hex hby dX9_covering_34 rfl (lv_at hl 2 rfl) ?_
        refine lv_iload_n hex hby dX9_covering_35 rfl (lv_at hl 3 rfl) ?_
        refine ro_Vi (As := [.int (nI kn), .int (nI qn), .int w]) (rest := []) CFx (c_X0_endOfJoined (ho := ho) (aF := aF) (aG := aG) (fo := fo) (cn := cn) (F := F) (G := G) (k := kn) (q := qn) (l_ := w) (l_z := w.toInt) fcn faF faG rfl hFb hGb hgap hcn (by omega) (by omega) (by omega)) 3 gX9_covering_X0_endOfJoined rfl nd_X0_endOfJoined ⟨Nat.le_of_ble_eq_true rfl, Nat.le_of_ble_eq_true rfl⟩ hK hP [1, 2, 3] rfl rfl rfl rfl hl.1 rfl (Nat.le_of_ble_eq_true rfl) dX9_covering_36 ⟨Nat.le_refl _, Nat.le_refl _⟩ (fun r_4 hr_4 => ?_)
        obtain ⟨v1, rfl, hj⟩ := hr_4
        exact hret _ _ _ _ (Or.inl ⟨rfl, _, rfl, rfl, dX9_covering_39⟩) ⟨_, rfl, Or.inl ⟨v1, rfl, (by omega), (by rw [hkt, ← hc1]; omega), (by rw [hkt, hqt, ← hwz]; exact ⟨cn, F, G, hI, by omega, by omega, hj⟩)⟩⟩
      · refine lv_iconst (v := zI (-1)) hex hby dX9_covering_27 rfl ?_
        exact hret _ _ _ _ (Or.inl ⟨rfl, _, rfl, rfl, dX9_covering_28⟩) ⟨_, rfl, Or.inr (Or.inl ⟨rfl, (by omega), (by rw [hkt, ← hc1]; omega)⟩)⟩
  · refine lv_bipush (v := zI (-2)) hex hby dX9_covering_5 rfl ?_
    exact hret _ _ _ _ (Or.inl ⟨rfl, _, rfl, rfl, dX9_covering_7⟩) ⟨_, rfl, Or.inr (Or.inr (⟨rfl, (by omega)⟩))⟩
theorem nd_X9_clusters : ndV yX9_clusters RX9 2 := by decide +kernel
theorem in_X9_clusters_X2 : ∀ w ∈ wsX20, w ∈ wsX9_clusters := fun _ h => List.mem_cons_of_mem _ (List.mem_append_right _ (h))
theorem in_X9_clusters_X9 : ∀ w ∈ wsX90, w ∈ wsX9_clusters := fun _ h => List.mem_cons_of_mem _ (List.mem_append_left _ (List.mem_append_right _ (h)))
set_option maxHeartbeats 4000000 in
set_option maxRecDepth 100000 in
theorem c_X9_clusters {h : Nat} {hn : Nat} {aC : Nat} {f9 : List Value} {fn : List Value} {g : Nat → Nat} {w : Int32} {wz : Int} {ht : Int32} {htz : Int} {m : Nat} (f9_numbering : f9[4]? = some (.ref hn)) (fn_side : fn[0]? = some (.int (nI (2 ^ m)))) (fn_cells : fn[1]? = some (.int (nI (4 ^ m)))) (fn_C : fn[2]? = some (.ref aC)) (hwz : w.toInt = wz) (hhtz : ht.toInt = htz) (hg : ∀ j, g j < 4096) (hm6 : m ≤ 6) : RO l yX9_clusters wsX9_clusters 4 113 (dC, dI) (tyK cI cZ cS) [(h, .inr (9, f9)), (hn, .inr (2, fn)), (aC, .inl (cI, 4096, .inl (nA g)))] [.ref h, .int w, .int ht] (rI (fun r => (r = zI (-2) ∧ (¬ (1 ≤ wz ∧ wz ≤ ((2 ^ m : Nat) : Int) ∧ 1 ≤ htz ∧ htz ≤ ((2 ^ m : Nat) : Int)))) ∨ (r = zI (clS (2 ^ m) g wz.toNat htz.toNat (4 ^ m)) ∧ (1 ≤ wz ∧ wz ≤ ((2 ^ m : Nat) : Int) ∧ 1 ≤ htz ∧ htz ≤ ((2 ^ m : Nat) : Int))))) := by
  refine ro_of (by decide) rfl (Nat.le_of_ble_eq_true rfl) ?_
  intro pp ee ss mm bb mt cd Q CFx hP hK hret ls hl
  obtain ⟨hex, hby, hml, hown, hts⟩ := id CFx
  have hl : lv_has ls 3 [(0, .ref h), (1, .int w), (2, .int ht)] := hl
  have h26 := p2_6 hm6
  have h46 := p4_6 hm6
  have h4p := p4_pos m
  refine lv_iload_n hex hby dX9_clusters_0 rfl (lv_at hl 1 rfl) ?_
  refine lv_iconst (v := nI 1) hex hby dX9_clusters_1 rfl ?_
  refine ni_icmp_lt (tgt := 32) (a := w.toInt) (b := (1 : Int)) hex hby dX9_clusters_2 (by decide) rfl (by rfl) (fun c_1 => ?_) (fun c_1 => ?_)
  · refine lv_bipush (v := zI (-2)) hex hby dX9_clusters_32 rfl ?_
    exact hret _ _ _ _ (Or.inl ⟨rfl, _, rfl, rfl, dX9_clusters_34⟩) ⟨_, rfl, Or.inl ⟨rfl, (by omega)⟩⟩
  · refine lv_iload_n hex hby dX9_clusters_5 rfl (lv_at hl 1 rfl) ?_
    refine lv_aload_n hex hby dX9_clusters_6 rfl (lv_at hl 0 rfl) ?_
    refine nv_get (v := .ref hn) CFx in_X9_clusters_X9 hK hP 0 rfl rfl 4 (by decide) (List.mem_of_getElem? (i := 1) rfl) f9_numbering dX9_clusters_7 ?_
    refine nv_get (v := .int (nI (2 ^ m))) CFx in_X9_clusters_X2 hK hP 1 rfl rfl 0 (by decide) (List.mem_of_getElem? (i := 2) rfl) fn_side dX9_clusters_10 ?_
    refine ni_icmp_gt (tgt := 32) (a := w.toInt) (b := ((2 ^ m : Nat) : Int)) hex hby dX9_clusters_13 (by decide) rfl (ni_toInt (by omega)) (fun c_2 => ?_) (fun c_2 => ?_)
    · refine lv_bipush (v := zI (-2)) hex hby dX9_clusters_32 rfl ?_
      exact hret _ _ _ _ (Or.inl ⟨rfl, _, rfl, rfl, dX9_clusters_34⟩) ⟨_, rfl, Or.inl ⟨rfl, (by omega)⟩⟩
    · refine lv_iload_n hex hby dX9_clusters_16 rfl (lv_at hl 2 rfl) ?_
      refine lv_iconst (v := nI 1) hex hby dX9_clusters_17 rfl ?_
      refine ni_icmp_lt (tgt := 32) (a := ht.toInt) (b := (1 : Int)) hex hby dX9_clusters_18 (by decide) rfl (by rfl) (fun c_3 => ?_) (fun c_3 => ?_)
      · refine lv_bipush (v := zI (-2)) hex hby dX9_clusters_32 rfl ?_
        exact hret _ _ _ _ (Or.inl ⟨rfl, _, rfl, rfl, dX9_clusters_34⟩) ⟨_, rfl, Or.inl ⟨rfl, (by omega)⟩⟩
      · refine lv_iload_n hex hby dX9_clusters_21 rfl (lv_at hl 2 rfl) ?_
        refine lv_aload_n hex hby dX9_clusters_22 rfl (lv_at hl 0 rfl) ?_
        refine nv_get (v := .ref hn) CFx in_X9_clusters_X9 hK hP 0 rfl rfl 4 (by decide) (List.mem_of_getElem? (i := 1) rfl) f9_numbering dX9_clusters_23 ?_
        refine nv_get (v := .int (nI (2 ^ m))) CFx in_X9_clusters_X2 hK hP 1 rfl rfl 0 (by decide) (List.mem_of_getElem? (i := 2) rfl) fn_side dX9_clusters_26 ?_
        refine ni_icmp_le (tgt := 35) (a := ht.toInt) (b := ((2 ^ m : Nat) : Int)) hex hby dX9_clusters_29 (by decide) rfl (ni_toInt (by omega)) (fun c_4 => ?_) (fun c_4 => ?_)
        · obtain ⟨jw_, hjw__, rfl, hjw_e⟩ := ni_of (x := w) (by omega)
          obtain rfl : jw_ = wz.toNat := by omega
          obtain ⟨jht_, hjht__, rfl, hjht_e⟩ := ni_of (x := ht) (by omega)
          obtain rfl : jht_ = htz.toNat := by omega
          refine lv_aload_n hex hby dX9_clusters_35 rfl (lv_at hl 0 rfl) ?_
          refine nv_get (v := .ref hn) CFx in_X9_clusters_X9 hK hP 0 rfl rfl 4 (by decide) (List.mem_of_getElem? (i := 1) rfl) f9_numbering dX9_clusters_36 ?_
          refine lv_iload_n hex hby dX9_clusters_39 rfl (lv_at hl 1 rfl) ?_
          refine lv_iload_n hex hby dX9_clusters_40 rfl (lv_at hl 2 rfl) ?_
          refine ro_Vi (As := [.int (nI wz.toNat), .int (nI htz.toNat)]) (rest := []) CFx (c_X2_countIntervalsOfAll (h := hn) (aC := aC) (fs := fn) (sd := 2 ^ m) (ce := 4 ^ m) (g := g) (w := wz.toNat) (ht := htz.toNat) fn_side fn_cells fn_C hg (by omega) (by omega) (by omega) (by omega) (by omega) (by omega)) 2 gX9_clusters_X2_countIntervalsOfAll rfl nd_X2_countIntervalsOfAll ⟨Nat.le_of_ble_eq_true rfl, Nat.le_of_ble_eq_true rfl⟩ hK hP [1, 2] rfl rfl rfl rfl hl.1 rfl (Nat.le_of_ble_eq_true rfl) dX9_clusters_41 ⟨Nat.le_refl _, Nat.le_refl _⟩ (fun r_5 hr_5 => ?_)
          obtain rfl := hr_5
          exact hret _ _ _ _ (Or.inl ⟨rfl, _, rfl, rfl, dX9_clusters_44⟩) ⟨_, rfl, Or.inr ⟨rfl, (by omega)⟩⟩
        · refine lv_bipush (v := zI (-2)) hex hby dX9_clusters_32 rfl ?_
          exact hret _ _ _ _ (Or.inl ⟨rfl, _, rfl, rfl, dX9_clusters_34⟩) ⟨_, rfl, Or.inl ⟨rfl, (by omega)⟩⟩
theorem nd_X9_leaf : ndV yX9_leaf RX9 2 := by decide +kernel
theorem in_X9_leaf_X1 : ∀ w ∈ wsX10, w ∈ wsX9_leaf := fun _ h => List.mem_cons_of_mem _ (List.mem_append_left _ (List.mem_append_left _ (List.mem_append_left _ (List.mem_append_right _ (h)))))
theorem in_X9_leaf_X5 : ∀ w ∈ wsX50, w ∈ wsX9_leaf := fun _ h => List.mem_cons_of_mem _ (List.mem_append_left _ (List.mem_append_left _ (List.mem_append_left _ (List.mem_append_left _ (List.mem_append_right _ (h))))))
theorem in_X9_leaf_X9 : ∀ w ∈ wsX90, w ∈ wsX9_leaf := fun _ h => List.mem_cons_of_mem _ (List.mem_append_left _ (List.mem_append_left _ (List.mem_append_left _ (List.mem_append_left _ (List.mem_append_left _ (List.mem_append_right _ (h)))))))
set_option maxHeartbeats 4000000 in
set_option maxRecDepth 100000 in
theorem c_X9_leaf {h : Nat} {hw : Nat} {hu : Nat} {hn : Nat} {aC : Nat} {aI : Nat} {hd : Nat} {aS : Nat} {hq : Nat} {aP : Nat} {f9 : List Value} {f5 : List Value} {fz : List Value} {fn : List Value} {g : Nat → Nat} {ix : Nat → Nat} {fd : List Value} {c : Nat} {S : Nat → Nat} {fq : List Value} {pc : Nat} {P : Nat → Nat} {k : Int32} {kz : Int} {w : Int32} {wz : Int} {T : Nat → Nat} {ns : Nat} {m : Nat} {st : Nat → Nat} {lv : Nat → Nat} (f9_now : f9[0]? = some (.ref hw)) (f9_numbering : f9[4]? = some (.ref hn)) (f9_surroundings : f9[6]? = some (.ref hu)) (f5_points : f5[4]? = some (.ref hq)) (f5_division : f5[6]? = some (.ref hd)) (fzn : fz[0]? = some (.ref hn)) (fzd : fz[1]? = some (.ref hd)) (fn_C : fn[2]? = some (.ref aC)) (fn_I : fn[3]? = some (.ref aI)) (fdc : fd[0]? = some (.int (nI c))) (faS : fd[1]? = some (.ref aS)) (fpc : fq[0]? = some (.int (nI pc))) (faP : fq[1]? = some (.ref aP)) (hkz : k.toInt = kz) (hwz : w.toInt = wz) (hg : ∀ j, g j < 4096) (hix : ∀ j, ix j < 4096) (hSb : ∀ j, S j < 4097) (hPb : ∀ j, P j < 4096) (hpc : pc ≤ 40) (hm6 : m ≤ 6) (hV : VT T ns) (hN : NumOK T m g ix) (hL : LvL m c st lv) (hag : ∀ j, j ≤ c → S j = st j) (hc : c ≤ 496) (hpg : ∀ j, j < pc → P j % 64 < 2 ^ m ∧ P j / 64 < 2 ^ m) : RO l yX9_leaf wsX9_leaf 4 93 (dC, dI) (tyK cI cZ cS) [(h, .inr (9, f9)), (hw, .inr (5, f5)), (hu, .inr (7, fz)), (hn, .inr (2, fn)), (aC, .inl (cI, 4096, .inl (nA g))), (aI, .inl (cI, 4096, .inl (nA ix))), (hd, .inr (1, fd)), (aS, .inl (cI, 497, .inl (nA S))), (hq, .inr (3, fq)), (aP, .inl (cI, 40, .inl (nA P)))] [.ref h, .int k, .int w] (rI (fun r => (r = nI (tlV T m pc (ptv T m P) st lv kz.toNat wz.toNat) ∧ (0 ≤ kz ∧ kz < (c : Int)) ∧ (0 ≤ wz ∧ wz < 5)) ∨ (r = zI (-1) ∧ (¬ (0 ≤ kz ∧ kz < (c : Int)))) ∨ (r = zI (-2) ∧ (0 ≤ kz ∧ kz < (c : Int)) ∧ (¬ (0 ≤ wz ∧ wz < 5))))) := by
  refine ro_of (by decide) rfl (Nat.le_of_ble_eq_true rfl) ?_
  intro pp ee ss mm bb mt cd Q CFx hP hK hret ls hl
  obtain ⟨hex, hby, hml, hown, hts⟩ := id CFx
  have hl : lv_has ls 3 [(0, .ref h), (1, .int k), (2, .int w)] := hl
  have h26 := p2_6 hm6
  have h46 := p4_6 hm6
  have h4p := p4_pos m
  refine lv_aload_n hex hby dX9_leaf_0 rfl (lv_at hl 0 rfl) ?_
  refine lv_iload_n hex hby dX9_leaf_1 rfl (lv_at hl 1 rfl) ?_
  refine ro_Vi (As := [.int k]) (rest := []) CFx (c_X9_isLeaf (h := h) (hw := hw) (hd := hd) (f9 := f9) (f5 := f5) (fd := fd) (c := c) (k := k) (kz := k.toInt) f9_now f5_division fdc rfl hc) 1 gX9_leaf_X9_isLeaf rfl nd_X9_isLeaf ⟨Nat.le_of_ble_eq_true rfl, Nat.le_of_ble_eq_true rfl⟩ hK hP [0, 1, 6] rfl rfl rfl rfl hl.1 rfl (Nat.le_of_ble_eq_true rfl) dX9_leaf_2 ⟨Nat.le_refl _, Nat.le_refl _⟩ (fun r_1 hr_1 => ?_)
  rcases hr_1 with ⟨rfl, h_2⟩ | ⟨rfl, h_3⟩
  · refine nv_if_ne (tgt := 10) hex hby dX9_leaf_5 (by decide) (by omega) (fun _ => ?_) (fun c => absurd c (by omega))
    obtain ⟨kn, hkn_, rfl, hkne⟩ := ni_of (x := k) (by omega)
    have hkt : kz.toNat = kn := by omega
    have hk3 := hL.2.2.2 kn (by omega)
    have hS1 := hag kn (by omega)
    have hS2 := hag (kn + 1) (by omega)
    refine lv_iload_n hex hby dX9_leaf_10 rfl (lv_at hl 2 rfl) ?_
    rcases (Classical.em (0 ≤ wz ∧ wz < 5)) with hw5 | hw5
    · obtain ⟨wn, hwn_, rfl, hwne⟩ := ni_of (x := w) (by omega)
      have hwt : wz.toNat = wn := by omega
      rcases (show wn = 0 ∨ wn = 1 ∨ wn = 2 ∨ wn = 3 ∨ wn = 4 by omega) with rfl | rfl | rfl | rfl | rfl
      · refine lv_tableIn (tgt := 44) (off := 33) hex hby dX9_leaf_11 (by decide +kernel) (by decide +kernel) (by decide +kernel) (by decide) ?_
        refine lv_aload_n hex hby dX9_leaf_44 rfl (lv_at hl 0 rfl) ?_
        refine nv_get (v := .ref hu) CFx in_X9_leaf_X9 hK hP 0 rfl rfl 6 (by decide) (List.mem_of_getElem? (i := 1) rfl) f9_surroundings dX9_leaf_45 ?_
        refine lv_iload_n hex hby dX9_leaf_48 rfl (lv_at hl 1 rfl) ?_
        refine ro_Vi (As := [.int (nI kn)]) (rest := []) CFx (c_X7_leftOf (hz := hu) (hn := hn) (aC := aC) (hd := hd) (aS := aS) (fz := fz) (fn := fn) (g := g) (fd := fd) (S := S) (k := kn) (T := T) (ns := ns) (m := m) (st := st) (lv := lv) (c := c) fzn fzd fn_C faS hg hSb hN.1 hV hL hag hc hm6 (by omega)) 1 gX9_leaf_X7_leftOf rfl nd_X7_leftOf ⟨Nat.le_of_ble_eq_true rfl, Nat.le_of_ble_eq_true rfl⟩ hK hP [2, 3, 4, 6, 7] rfl rfl rfl rfl hl.1 rfl (Nat.le_of_ble_eq_true rfl) dX9_leaf_49 ⟨Nat.le_refl _, Nat.le_refl _⟩ (fun r_4 hr_4 => ?_)
        obtain rfl := hr_4
        exact hret _ _ _ _ (Or.inl ⟨rfl, _, rfl, rfl, dX9_leaf_52⟩) ⟨_, rfl, Or.inl ⟨(by rw [hkt, hwt]; rfl), (by omega), (by omega)⟩⟩
      · refine lv_tableIn (tgt := 53) (off := 42) hex hby dX9_leaf_11 (by decide +kernel) (by decide +kernel) (by decide +kernel) (by decide) ?_
        refine lv_aload_n hex hby dX9_leaf_53 rfl (lv_at hl 0 rfl) ?_
        refine nv_get (v := .ref hu) CFx in_X9_leaf_X9 hK hP 0 rfl rfl 6 (by decide) (List.mem_of_getElem? (i := 1) rfl) f9_surroundings dX9_leaf_54 ?_
        refine lv_iload_n hex hby dX9_leaf_57 rfl (lv_at hl 1 rfl) ?_
        refine ro_Vi (As := [.int (nI kn)]) (rest := []) CFx (c_X7_belowOf (hz := hu) (hn := hn) (aC := aC) (hd := hd) (aS := aS) (fz := fz) (fn := fn) (g := g) (fd := fd) (S := S) (k := kn) (T := T) (ns := ns) (m := m) (st := st) (lv := lv) (c := c) fzn fzd fn_C faS hg hSb hN.1 hV hL hag hc hm6 (by omega)) 1 gX9_leaf_X7_belowOf rfl nd_X7_belowOf ⟨Nat.le_of_ble_eq_true rfl, Nat.le_of_ble_eq_true rfl⟩ hK hP [2, 3, 4, 6, 7] rfl rfl rfl rfl hl.1 rfl (Nat.le_of_ble_eq_true rfl) dX9_leaf_58 ⟨Nat.le_refl _, Nat.le_refl _⟩ (fun r_5 hr_5 => ?_)
        obtain rfl := hr_5
        exact hret _ _ _ _ (Or.inl ⟨rfl, _, rfl, rfl, dX9_leaf_61⟩) ⟨_, rfl, Or.inl ⟨(by rw [hkt, hwt]; rfl), (by omega), (by omega)⟩⟩
      · refine lv_tableIn (tgt := 62) (off := 51) hex hby dX9_leaf_11 (by decide +kernel) (by decide +kernel) (by decide +kernel) (by decide) ?_
        refine lv_aload_n hex hby dX9_leaf_62 rfl (lv_at hl 0 rfl) ?_
        refine nv_get (v := .ref hw) CFx in_X9_leaf_X9 hK hP 0 rfl rfl 0 (by decide) (List.mem_of_getElem? (i := 2) rfl) f9_now dX9_leaf_63 ?_
        refine nv_get (v := .ref hd) CFx in_X9_leaf_X5 hK hP 1 rfl rfl 6 (by decide) (List.mem_of_getElem? (i := 3) rfl) f5_division dX9_leaf_66 ?_
        refine lv_iload_n hex hby dX9_leaf_69 rfl (lv_at hl 1 rfl) ?_
        refine ro_Vi (As := [.int (nI kn)]) (rest := []) CFx (c_X1_sideOf (hd := hd) (aS := aS) (fd := fd) (S := S) (k := kn) (L := lv kn) faS hSb (by omega) (by rw [hS2, hS1]; exact hk3.1) (by omega)) 1 gX9_leaf_X1_sideOf rfl nd_X1_sideOf ⟨Nat.le_of_ble_eq_true rfl, Nat.le_of_ble_eq_true rfl⟩ hK hP [6, 7] rfl rfl rfl rfl hl.1 rfl (Nat.le_of_ble_eq_true rfl) dX9_leaf_70 ⟨Nat.le_refl _, Nat.le_refl _⟩ (fun r_6 hr_6 => ?_)
        obtain rfl := hr_6
        exact hret _ _ _ _ (Or.inl ⟨rfl, _, rfl, rfl, dX9_leaf_73⟩) ⟨_, rfl, Or.inl ⟨(by rw [hkt, hwt]; rfl), (by omega), (by omega)⟩⟩
      · refine lv_tableIn (tgt := 74) (off := 63) hex hby dX9_leaf_11 (by decide +kernel) (by decide +kernel) (by decide +kernel) (by decide) ?_
        refine lv_aload_n hex hby dX9_leaf_74 rfl (lv_at hl 0 rfl) ?_
        refine nv_get (v := .ref hw) CFx in_X9_leaf_X9 hK hP 0 rfl rfl 0 (by decide) (List.mem_of_getElem? (i := 2) rfl) f9_now dX9_leaf_75 ?_
        refine nv_get (v := .ref hd) CFx in_X9_leaf_X5 hK hP 1 rfl rfl 6 (by decide) (List.mem_of_getElem? (i := 3) rfl) f5_division dX9_leaf_78 ?_
        refine lv_iload_n hex hby dX9_leaf_81 rfl (lv_at hl 1 rfl) ?_
        refine lv_aload_n hex hby dX9_leaf_82 rfl (lv_at hl 0 rfl) ?_
        refine nv_get (v := .ref hn) CFx in_X9_leaf_X9 hK hP 0 rfl rfl 4 (by decide) (List.mem_of_getElem? (i := 4) rfl) f9_numbering dX9_leaf_83 ?_
        refine lv_aload_n hex hby dX9_leaf_86 rfl (lv_at hl 0 rfl) ?_
        refine nv_get (v := .ref hw) CFx in_X9_leaf_X9 hK hP 0 rfl rfl 0 (by decide) (List.mem_of_getElem? (i := 2) rfl) f9_now dX9_leaf_87 ?_
        refine nv_get (v := .ref hq) CFx in_X9_leaf_X5 hK hP 1 rfl rfl 4 (by decide) (List.mem_of_getElem? (i := 5) rfl) f5_points dX9_leaf_90 ?_
        refine ro_Vi (As := [.int (nI kn), .ref hn, .ref hq]) (rest := []) CFx (c_X1_countPoints (hd := hd) (aS := aS) (hn := hn) (aI := aI) (hq := hq) (aP := aP) (fd := fd) (S := S) (fn := fn) (ix := ix) (fq := fq) (pc := pc) (P := P) (k := kn) faS fn_I fpc faP hSb hPb hpc hix (by omega)) 3 gX9_leaf_X1_countPoints rfl nd_X1_countPoints ⟨Nat.le_of_ble_eq_true rfl, Nat.le_of_ble_eq_true rfl⟩ hK hP [6, 7, 3, 5, 8, 9] rfl rfl rfl rfl hl.1 rfl (Nat.le_of_ble_eq_true rfl) dX9_leaf_93 ⟨Nat.le_refl _, Nat.le_refl _⟩ (fun r_7 hr_7 => ?_)
        obtain rfl := hr_7
        exact hret _ _ _ _ (Or.inl ⟨rfl, _, rfl, rfl, dX9_leaf_96⟩) ⟨_, rfl, Or.inl ⟨(congrArg nI (by rw [hkt, hwt]; unfold tlV; simp; rw [cnt_eq (pt := fun j => ix (P j)) hL hag (by omega)]; exact pcb_congr (fun i hi => hN.iv hV (hpg i hi).1 (hpg i hi).2))), (by omega), (by omega)⟩⟩
      · refine lv_tableIn (tgt := 97) (off := 86) hex hby dX9_leaf_11 (by decide +kernel) (by decide +kernel) (by decide +kernel) (by decide) ?_
        refine lv_aload_n hex hby dX9_leaf_97 rfl (lv_at hl 0 rfl) ?_
        refine nv_get (v := .ref hw) CFx in_X9_leaf_X9 hK hP 0 rfl rfl 0 (by decide) (List.mem_of_getElem? (i := 2) rfl) f9_now dX9_leaf_98 ?_
        refine nv_get (v := .ref hd) CFx in_X9_leaf_X5 hK hP 1 rfl rfl 6 (by decide) (List.mem_of_getElem? (i := 3) rfl) f5_division dX9_leaf_101 ?_
        refine nv_get (v := .ref aS) CFx in_X9_leaf_X1 hK hP 6 rfl rfl 1 (by decide) (List.mem_of_getElem? (i := 6) rfl) faS dX9_leaf_104 ?_
        refine lv_iload_n hex hby dX9_leaf_107 rfl (lv_at hl 1 rfl) ?_
        refine nv_iald hex hby hK hP 7 0 rfl rfl (by omega) (by omega) dX9_leaf_108 ?_
        have hb_8 := hSb kn
        exact hret _ _ _ _ (Or.inl ⟨rfl, _, rfl, rfl, dX9_leaf_109⟩) ⟨_, rfl, Or.inl ⟨(congrArg nI (by rw [hkt, hwt]; unfold tlV; simp; exact hS1)), (by omega), (by omega)⟩⟩
    · refine lv_tableOut (tgt := 110) hex hby dX9_leaf_11 (by omega) (by decide) ?_
      refine lv_bipush (v := zI (-2)) hex hby dX9_leaf_110 rfl ?_
      exact hret _ _ _ _ (Or.inl ⟨rfl, _, rfl, rfl, dX9_leaf_112⟩) ⟨_, rfl, Or.inr (Or.inr (⟨rfl, (by omega), (by omega)⟩))⟩
  · refine nv_if_ne (tgt := 10) hex hby dX9_leaf_5 (by decide) (by omega) (fun c => absurd c (by omega)) (fun _ => ?_)
    refine lv_iconst (v := zI (-1)) hex hby dX9_leaf_8 rfl ?_
    exact hret _ _ _ _ (Or.inl ⟨rfl, _, rfl, rfl, dX9_leaf_9⟩) ⟨_, rfl, Or.inr (Or.inl ⟨rfl, (by omega)⟩)⟩
theorem nd_X9_balance : ndV yX9_balance RX9 0 := by decide +kernel
theorem in_X9_balance_X9 : ∀ w ∈ wsX90, w ∈ wsX9_balance := fun _ h => List.mem_cons_of_mem _ (List.mem_append_left _ (List.mem_append_left _ (List.mem_append_left _ (List.mem_append_right _ (h)))))
set_option maxHeartbeats 4000000 in
set_option maxRecDepth 100000 in
theorem c_X9_balance {h : Nat} {hu : Nat} {aB : Nat} {hn : Nat} {aC : Nat} {aI : Nat} {hd : Nat} {aS : Nat} {f9 : List Value} {bs : Nat} {fb : Nat → Nat} {fn : List Value} {g : Nat → Nat} {ix : Nat → Nat} {c : Nat} {S : Nat → Nat} {T : Nat → Nat} {ns : Nat} {m : Nat} {st : Nat → Nat} {lv : Nat → Nat} {pc : Nat} {pt : Nat → Nat} (f9_surroundings : f9[6]? = some (.ref hu)) (fn_side : fn[0]? = some (.int (nI (2 ^ m)))) (fn_C : fn[2]? = some (.ref aC)) (fn_I : fn[3]? = some (.ref aI)) (hfb : ∀ j, fb j < 4096) (hg : ∀ j, g j < 4096) (hSb : ∀ j, S j < 4097) (hV : VT T ns) (hag : ∀ j, j ≤ c → S j = st j) (hm6 : m ≤ 6) (hix : ∀ j, ix j < 4096) (hN : NumOK T m g ix) (hLD : LD T m pc pt c st lv) (hpc : pc ≤ 40) : MU l yX9_balance wsX9_balance 6 142 (dC, dI) (tyK cI cZ cS) [(h, .inr (9, f9)), (hu, .inr (7, [.ref hn, .ref hd, .int (nI bs), .ref aB])), (aB, .inl (cI, 64, .inl (nA fb))), (hn, .inr (2, fn)), (aC, .inl (cI, 4096, .inl (nA g))), (aI, .inl (cI, 4096, .inl (nA ix))), (hd, .inr (1, [.int (nI c), .ref aS])), (aS, .inl (cI, 497, .inl (nA S)))] [] [.ref h] (fun rv_ (u_ : Nat × (Nat → Nat) × Nat × (Nat → Nat)) => rI (fun r => ∃ n : Nat, ∃ st' : Nat → Nat, ∃ lv' : Nat → Nat, r = nI n ∧ BalN T m n c st lv u_.2.2.1 st' lv' ∧ LD T m pc pt u_.2.2.1 st' lv' ∧ (∀ j, j ≤ u_.2.2.1 → u_.2.2.2 j = st' j) ∧ (∀ j, u_.2.2.2 j < 4097) ∧ (∀ j, u_.2.1 j < 4096)) rv_) (fun (u_ : Nat × (Nat → Nat) × Nat × (Nat → Nat)) => [(h, .inr (9, f9)), (hu, .inr (7, [.ref hn, .ref hd, .int (nI u_.1), .ref aB])), (aB, .inl (cI, 64, .inl (nA u_.2.1))), (hn, .inr (2, fn)), (aC, .inl (cI, 4096, .inl (nA g))), (aI, .inl (cI, 4096, .inl (nA ix))), (hd, .inr (1, [.int (nI u_.2.2.1), .ref aS])), (aS, .inl (cI, 497, .inl (nA u_.2.2.2)))]) := by
  refine mu_of (by decide) rfl (Nat.le_of_ble_eq_true rfl) ?_
  intro pp ee ss mm bb mt cd Q A CFx hP hK hD hS hA hTr hret ls hl
  obtain ⟨hex, hby, hml, hown, hts⟩ := id CFx
  have hl : lv_has ls 1 [(0, .ref h)] := hl
  refine lv_aload_n hex hby dX9_balance_0 rfl (lv_at hl 0 rfl) ?_
  refine nv_get (v := .ref hu) CFx in_X9_balance_X9 hK hP 0 rfl rfl 6 (by decide) (List.mem_of_getElem? (i := 1) rfl) f9_surroundings dX9_balance_1 ?_
  refine mu_Vi (As := []) (rest := []) (wr := [(h, .inr (9, f9))]) CFx (c_X7_divideAllTooLarge (hz := hu) (aB := aB) (hn := hn) (aC := aC) (aI := aI) (hd := hd) (aS := aS) (bs := bs) (f := fb) (fn := fn) (sd := 2 ^ m) (g := g) (ix := ix) (c := c) (S := S) (T := T) (ns := ns) (m := m) (st := st) (lv := lv) (pc := pc) (pt := pt) fn_side fn_C fn_I hfb hg hSb hN.1 hV hag hm6 hix rfl hN hLD hpc) 0 gX9_balance_X7_divideAllTooLarge rfl nd_X7_divideAllTooLarge ⟨Nat.le_of_ble_eq_true rfl, Nat.le_of_ble_eq_true rfl⟩ hK hP hD hS hA [1, 2, 3, 4, 5, 6, 7] [0] rfl rfl (by decide) (by decide) (by decide) TR.nil rfl rfl rfl hl.1 rfl (Nat.le_of_ble_eq_true rfl) dX9_balance_4 ⟨Nat.le_refl _, Nat.le_refl _⟩ (fun r_1 u H locs hr_1 hP hD hS => ?_)
  obtain ⟨b1, f1, c1, S1⟩ := u
  dsimp only at hr_1 hP hD
  have hP : va_P (dC, dI) vwCl [(h, .inr (9, f9)), (hu, .inr (7, [.ref hn, .ref hd, .int (nI b1), .ref aB])), (aB, .inl (cI, 64, .inl (nA f1))), (hn, .inr (2, fn)), (aC, .inl (cI, 4096, .inl (nA g))), (aI, .inl (cI, 4096, .inl (nA ix))), (hd, .inr (1, [.int (nI c1), .ref aS])), (aS, .inl (cI, 497, .inl (nA S1)))] H := hP
  have hD : va_D A [(h, .inr (9, f9)), (hu, .inr (7, [.ref hn, .ref hd, .int (nI b1), .ref aB])), (aB, .inl (cI, 64, .inl (nA f1))), (hn, .inr (2, fn)), (aC, .inl (cI, 4096, .inl (nA g))), (aI, .inl (cI, 4096, .inl (nA ix))), (hd, .inr (1, [.int (nI c1), .ref aS])), (aS, .inl (cI, 497, .inl (nA S1)))] := hD
  obtain ⟨n1, sn, ln, rfl, hb1, hb2, hb3, hb4, hb5⟩ := hr_1
  exact hret _ (b1, f1, c1, S1) _ _ _ _ _ (Or.inl ⟨rfl, _, rfl, rfl, dX9_balance_7⟩) ⟨_, rfl, ⟨n1, sn, ln, rfl, hb1, hb2, hb3, hb4, hb5⟩⟩ hP hD hS
theorem nd_X9_sumIntervals : ndV yX9_sumIntervals RX9 1 := by decide +kernel
set_option maxHeartbeats 4000000 in
set_option maxRecDepth 100000 in
theorem c_X9_sumIntervals {h : Nat} {ho : Nat} {aF : Nat} {aG : Nat} {f9 : List Value} {fo : List Value} {cn : Nat} {F : Nat → Nat} {G : Nat → Nat} {v : Int64} {T : Nat → Nat} {ns : Nat} {m : Nat} {rl : Nat} {rb : Nat} {rr : Nat} {ra : Nat} (f9_cover : f9[5]? = some (.ref ho)) (fcn : fo[0]? = some (.int (nI cn))) (faF : fo[1]? = some (.ref aF)) (faG : fo[2]? = some (.ref aG)) (hFb : ∀ j, F j < 4096) (hGb : ∀ j, G j < 4096) (hcn : cn ≤ 505) (hI : IvOK (inG (cvc T m) rl rb rr ra) (4 ^ m) cn F G) : RO l yX9_sumIntervals wsX9_sumIntervals 1 22 (dC, dI) (tyK cI cZ cS) [(h, .inr (9, f9)), (ho, .inr (0, fo)), (aF, .inl (cI, 505, .inl (nA F))), (aG, .inl (cI, 505, .inl (nA G)))] [.ref h, .long v] (rL (fun r => r = mri F G (mr v cn) cn)) := by
  refine ro_of (by decide) rfl (Nat.le_of_ble_eq_true rfl) ?_
  intro pp ee ss mm bb mt cd Q CFx hP hK hret ls hl
  obtain ⟨hex, hby, hml, hown, hts⟩ := id CFx
  have hl : lv_has ls 6 [(0, .ref h), (1, .long v)] := hl
  have hc1 := hI.1
  refine lv_lload_n hex hby dX9_sumIntervals_0 rfl (lv_at hl 1 rfl) ?_
  refine lv_aload_n hex hby dX9_sumIntervals_1 rfl (lv_at hl 0 rfl) ?_
  refine ro_Vi (As := []) (rest := [.long v]) CFx (c_X9_intervals (h := h) (ho := ho) (f9 := f9) (fo := fo) (cn := cn) f9_cover fcn) 0 gX9_sumIntervals_X9_intervals rfl nd_X9_intervals ⟨Nat.le_of_ble_eq_true rfl, Nat.le_of_ble_eq_true rfl⟩ hK hP [0, 1] rfl rfl rfl rfl hl.1 rfl (Nat.le_of_ble_eq_true rfl) dX9_sumIntervals_2 ⟨Nat.le_refl _, Nat.le_refl _⟩ (fun r_1 hr_1 => ?_)
  obtain rfl := hr_1
  refine ro_Sl (As := [.long v, .int (nI cn)]) (rest := []) (C := RX9) CFx (c_X9_sumValue (v := v) (w := cn) ) 2 gX9_sumIntervals_X9_sumValue rfl nd_X9_sumValue ⟨Nat.le_of_ble_eq_true rfl, Nat.le_of_ble_eq_true rfl⟩ hK hP [] rfl rfl hl.1 rfl (Nat.le_of_ble_eq_true rfl) dX9_sumIntervals_5 ⟨Nat.le_refl _, Nat.le_refl _⟩ (fun r_2 hr_2 => ?_)
  obtain rfl := hr_2
  refine lv_lstore_n (lv' := [(3, .long (mr v cn)), (0, .ref h), (1, .long v)]) hex hby dX9_sumIntervals_8 rfl hl (by decide) rfl (fun ls hl => ?_)
  refine lv_iconst (v := nI 0) hex hby dX9_sumIntervals_9 rfl ?_
  refine lv_istore (lv' := [(5, .int (nI 0)), (3, .long (mr v cn)), (0, .ref h), (1, .long v)]) hex hby dX9_sumIntervals_10 hl (by decide) rfl (fun ls hl => ?_)
  have loop12 : ∀ (nn : Nat) (z1 : Int64) (i : Nat), (cn - i) < nn → (i ≤ cn) → (z1 = mri F G (mr v cn) i) → ∀ ls : Array Slot, lv_has ls 6 [(5, .int (nI i)), (3, .long z1), (0, .ref h), (1, .long v)] → W pp l ee (rmO 1 22) ss mm ([.ref h, .long v] : List Value).toArray bb mt cd ss.heap [] 0 0 Q (F0 mm 12 ls []) := by
    intro nn
    induction nn with
    | zero => intro z1 i hms12; exact absurd hms12 (Nat.not_lt_zero _)
    | succ nn ih12 =>
      intro z1 i hms12 hi hz ls hl
      refine lv_iload hex hby dX9_sumIntervals_12 (lv_at hl 0 rfl) ?_
      refine lv_aload_n hex hby dX9_sumIntervals_14 rfl (lv_at hl 2 rfl) ?_
      refine ro_Vi (As := []) (rest := [.int (nI i)]) CFx (c_X9_intervals (h := h) (ho := ho) (f9 := f9) (fo := fo) (cn := cn) f9_cover fcn) 0 gX9_sumIntervals_X9_intervals rfl nd_X9_intervals ⟨Nat.le_of_ble_eq_true rfl, Nat.le_of_ble_eq_true rfl⟩ hK hP [0, 1] rfl rfl rfl rfl hl.1 rfl (Nat.le_of_ble_eq_true rfl) dX9_sumIntervals_15 ⟨Nat.le_refl _, Nat.le_refl _⟩ (fun r_3 hr_3 => ?_)
      obtain rfl := hr_3
      refine nv_icmp_ge (tgt := 49) hex hby dX9_sumIntervals_18 (by decide) (by omega) (by omega) (fun c_4 => ?_) (fun c_4 => ?_)
      · refine lv_lload_n hex hby dX9_sumIntervals_49 rfl (lv_at hl 1 rfl) ?_
        exact hret _ _ _ _ (Or.inr (Or.inr (Or.inr (Or.inl ⟨rfl, _, rfl, rfl, dX9_sumIntervals_50⟩)))) ⟨_, rfl, (by rw [hz, show i = cn by omega])⟩
      · refine lv_lload_n hex hby dX9_sumIntervals_21 rfl (lv_at hl 1 rfl) ?_
        refine lv_aload_n hex hby dX9_sumIntervals_22 rfl (lv_at hl 2 rfl) ?_
        refine lv_iload hex hby dX9_sumIntervals_23 (lv_at hl 0 rfl) ?_
        refine lv_iconst (v := nI 0) hex hby dX9_sumIntervals_25 rfl ?_
        refine ro_Vi (As := [.int (nI i), .int (nI 0)]) (rest := [.long z1]) CFx (c_X9_interval (h := h) (ho := ho) (aF := aF) (aG := aG) (f9 := f9) (fo := fo) (cn := cn) (F := F) (G := G) (k := nI i) (kz := (i : Int)) (w := nI 0) (wz := (0 : Int)) (T := T) (ns := ns) (m := m) (rl := rl) (rb := rb) (rr := rr) (ra := ra) f9_cover fcn faF faG (ni_toInt (by omega)) (by rfl) hFb hGb hcn hI) 2 gX9_sumIntervals_X9_interval rfl nd_X9_interval ⟨Nat.le_of_ble_eq_true rfl, Nat.le_of_ble_eq_true rfl⟩ hK hP [0, 1, 2, 3] rfl rfl rfl rfl hl.1 rfl (Nat.le_of_ble_eq_true rfl) dX9_sumIntervals_26 ⟨Nat.le_refl _, Nat.le_refl _⟩ (fun r_5 hr_5 => ?_)
        rcases hr_5 with ⟨v1, rfl, hk1, hv1⟩ | ⟨rfl, hno1⟩
        · have e1 : v1 = F i := hv1.uniq ⟨cn, F, G, hI, by omega, fun z => absurd rfl z, fun _ => rfl⟩
          refine nv_top (y := nI (F i)) (congrArg nI e1) ?_
          refine ro_Sl (As := [.long z1, .int (nI (F i))]) (rest := []) (C := RX9) CFx (c_X9_sumValue (v := z1) (w := F i) ) 2 gX9_sumIntervals_X9_sumValue rfl nd_X9_sumValue ⟨Nat.le_of_ble_eq_true rfl, Nat.le_of_ble_eq_true rfl⟩ hK hP [] rfl rfl hl.1 rfl (Nat.le_of_ble_eq_true rfl) dX9_sumIntervals_29 ⟨Nat.le_refl _, Nat.le_refl _⟩ (fun r_6 hr_6 => ?_)
          obtain rfl := hr_6
          refine lv_aload_n hex hby dX9_sumIntervals_32 rfl (lv_at hl 2 rfl) ?_
          refine lv_iload hex hby dX9_sumIntervals_33 (lv_at hl 0 rfl) ?_
          refine lv_iconst (v := nI 1) hex hby dX9_sumIntervals_35 rfl ?_
          refine ro_Vi (As := [.int (nI i), .int (nI 1)]) (rest := [.long (mr z1 (F i))]) CFx (c_X9_interval (h := h) (ho := ho) (aF := aF) (aG := aG) (f9 := f9) (fo := fo) (cn := cn) (F := F) (G := G) (k := nI i) (kz := (i : Int)) (w := nI 1) (wz := (1 : Int)) (T := T) (ns := ns) (m := m) (rl := rl) (rb := rb) (rr := rr) (ra := ra) f9_cover fcn faF faG (ni_toInt (by omega)) (by rfl) hFb hGb hcn hI) 2 gX9_sumIntervals_X9_interval rfl nd_X9_interval ⟨Nat.le_of_ble_eq_true rfl, Nat.le_of_ble_eq_true rfl⟩ hK hP [0, 1, 2, 3] rfl rfl rfl rfl hl.1 rfl (Nat.le_of_ble_eq_true rfl) dX9_sumIntervals_36 ⟨Nat.le_refl _, Nat.le_refl _⟩ (fun r_7 hr_7 => ?_)
          rcases hr_7 with ⟨v2, rfl, hk2, hv2⟩ | ⟨rfl, hno2⟩
          · have e2 : v2 = G i := hv2.uniq ⟨cn, F, G, hI, by omega, fun _ => rfl, fun z => absurd (by decide) z⟩
            refine nv_top (y := nI (G i)) (congrArg nI e2) ?_
            refine ro_Sl (As := [.long (mr z1 (F i)), .int (nI (G i))]) (rest := []) (C := RX9) CFx (c_X9_sumValue (v := mr z1 (F i)) (w := G i) ) 2 gX9_sumIntervals_X9_sumValue rfl nd_X9_sumValue ⟨Nat.le_of_ble_eq_true rfl, Nat.le_of_ble_eq_true rfl⟩ hK hP [] rfl rfl hl.1 rfl (Nat.le_of_ble_eq_true rfl) dX9_sumIntervals_39 ⟨Nat.le_refl _, Nat.le_refl _⟩ (fun r_8 hr_8 => ?_)
            obtain rfl := hr_8
            refine lv_lstore_n (lv' := [(3, .long (mr (mr z1 (F i)) (G i))), (5, .int (nI i)), (0, .ref h), (1, .long v)]) hex hby dX9_sumIntervals_42 rfl hl (by decide) rfl (fun ls hl => ?_)
            refine lv_iinc (v := nI (i + 1)) (lv' := [(5, .int (nI (i + 1))), (3, .long (mr (mr z1 (F i)) (G i))), (0, .ref h), (1, .long v)]) hex hby dX9_sumIntervals_43 hl (k := 1) rfl (ni_inc _) (by decide) rfl (fun ls hl => ?_)
            refine lv_goto (tgt := 12) hex hby dX9_sumIntervals_46 (by decide) ?_
            have pf_9 : (mr (mr z1 (F i)) (G i)) = mri F G (mr v cn) (i + 1) := by
              skip
              rw [hz]; rfl
            exact ih12 (mr (mr z1 (F i)) (G i)) (i + 1) (by omega) (by omega) pf_9 _ (lv_sub hl [0, 1, 2, 3] rfl)
          · exact absurd (by omega) hno2
        · exact absurd (by omega) hno1
  exact loop12 _ (mr v cn) 0 (Nat.lt_succ_self _) (by omega) rfl _ (lv_sub hl [0, 1, 2, 3] rfl)
theorem nd_X9_sumLeaves : ndV yX9_sumLeaves RX9 1 := by decide +kernel
theorem in_X9_sumLeaves_X5 : ∀ w ∈ wsX50, w ∈ wsX9_sumLeaves := fun _ h => List.mem_cons_of_mem _ (List.mem_append_left _ (List.mem_append_left _ (List.mem_append_left _ (List.mem_append_left _ (List.mem_append_right _ (h))))))
theorem in_X9_sumLeaves_X9 : ∀ w ∈ wsX90, w ∈ wsX9_sumLeaves := fun _ h => List.mem_cons_of_mem _ (List.mem_append_left _ (List.mem_append_left _ (List.mem_append_left _ (List.mem_append_left _ (List.mem_append_left _ (List.mem_append_right _ (h)))))))
set_option maxHeartbeats 4000000 in
set_option maxRecDepth 100000 in
theorem c_X9_sumLeaves {h : Nat} {hw : Nat} {hu : Nat} {hn : Nat} {aC : Nat} {aI : Nat} {hd : Nat} {aS : Nat} {hq : Nat} {aP : Nat} {f9 : List Value} {f5 : List Value} {bk : Nat} {fz : List Value} {fn : List Value} {g : Nat → Nat} {ix : Nat → Nat} {fd : List Value} {c : Nat} {S : Nat → Nat} {fq : List Value} {pc : Nat} {P : Nat → Nat} {v : Int64} {T : Nat → Nat} {ns : Nat} {m : Nat} {st : Nat → Nat} {lv : Nat → Nat} (f9_now : f9[0]? = some (.ref hw)) (f9_numbering : f9[4]? = some (.ref hn)) (f9_surroundings : f9[6]? = some (.ref hu)) (f5_points : f5[4]? = some (.ref hq)) (f5_bucket : f5[5]? = some (.int (nI bk))) (f5_division : f5[6]? = some (.ref hd)) (fzn : fz[0]? = some (.ref hn)) (fzd : fz[1]? = some (.ref hd)) (fn_C : fn[2]? = some (.ref aC)) (fn_I : fn[3]? = some (.ref aI)) (fdc : fd[0]? = some (.int (nI c))) (faS : fd[1]? = some (.ref aS)) (fpc : fq[0]? = some (.int (nI pc))) (faP : fq[1]? = some (.ref aP)) (hg : ∀ j, g j < 4096) (hix : ∀ j, ix j < 4096) (hSb : ∀ j, S j < 4097) (hPb : ∀ j, P j < 4096) (hpc : pc ≤ 40) (hm6 : m ≤ 6) (hV : VT T ns) (hN : NumOK T m g ix) (hL : LvL m c st lv) (hag : ∀ j, j ≤ c → S j = st j) (hc : c ≤ 496) (hpg : ∀ j, j < pc → P j % 64 < 2 ^ m ∧ P j / 64 < 2 ^ m) : RO l yX9_sumLeaves wsX9_sumLeaves 5 115 (dC, dI) (tyK cI cZ cS) [(h, .inr (9, f9)), (hw, .inr (5, f5)), (hu, .inr (7, fz)), (hn, .inr (2, fn)), (aC, .inl (cI, 4096, .inl (nA g))), (aI, .inl (cI, 4096, .inl (nA ix))), (hd, .inr (1, fd)), (aS, .inl (cI, 497, .inl (nA S))), (hq, .inr (3, fq)), (aP, .inl (cI, 40, .inl (nA P)))] [.ref h, .long v] (rL (fun r => r = ckL T m pc bk c P st lv v)) := by
  refine ro_of (by decide) rfl (Nat.le_of_ble_eq_true rfl) ?_
  intro pp ee ss mm bb mt cd Q CFx hP hK hret ls hl
  obtain ⟨hex, hby, hml, hown, hts⟩ := id CFx
  have hl : lv_has ls 7 [(0, .ref h), (1, .long v)] := hl
  refine lv_lload_n hex hby dX9_sumLeaves_0 rfl (lv_at hl 1 rfl) ?_
  refine lv_aload_n hex hby dX9_sumLeaves_1 rfl (lv_at hl 0 rfl) ?_
  refine ro_Vi (As := []) (rest := [.long v]) CFx (c_X9_points (h := h) (hw := hw) (hq := hq) (f9 := f9) (f5 := f5) (fq := fq) (pc := pc) f9_now f5_points fpc) 0 gX9_sumLeaves_X9_points rfl nd_X9_points ⟨Nat.le_of_ble_eq_true rfl, Nat.le_of_ble_eq_true rfl⟩ hK hP [0, 1, 8] rfl rfl rfl rfl hl.1 rfl (Nat.le_of_ble_eq_true rfl) dX9_sumLeaves_2 ⟨Nat.le_refl _, Nat.le_refl _⟩ (fun r_1 hr_1 => ?_)
  obtain rfl := hr_1
  refine ro_Sl (As := [.long v, .int (nI pc)]) (rest := []) (C := RX9) CFx (c_X9_sumValue (v := v) (w := pc) ) 2 gX9_sumLeaves_X9_sumValue rfl nd_X9_sumValue ⟨Nat.le_of_ble_eq_true rfl, Nat.le_of_ble_eq_true rfl⟩ hK hP [] rfl rfl hl.1 rfl (Nat.le_of_ble_eq_true rfl) dX9_sumLeaves_5 ⟨Nat.le_refl _, Nat.le_refl _⟩ (fun r_2 hr_2 => ?_)
  obtain rfl := hr_2
  refine lv_aload_n hex hby dX9_sumLeaves_8 rfl (lv_at hl 0 rfl) ?_
  refine nv_get (v := .ref hw) CFx in_X9_sumLeaves_X9 hK hP 0 rfl rfl 0 (by decide) (List.mem_of_getElem? (i := 1) rfl) f9_now dX9_sumLeaves_9 ?_
  refine nv_get (v := .int (nI bk)) CFx in_X9_sumLeaves_X5 hK hP 1 rfl rfl 5 (by decide) (List.mem_of_getElem? (i := 2) rfl) f5_bucket dX9_sumLeaves_12 ?_
  refine ro_Sl (As := [.long (mr v pc), .int (nI bk)]) (rest := []) (C := RX9) CFx (c_X9_sumValue (v := mr v pc) (w := bk) ) 2 gX9_sumLeaves_X9_sumValue rfl nd_X9_sumValue ⟨Nat.le_of_ble_eq_true rfl, Nat.le_of_ble_eq_true rfl⟩ hK hP [] rfl rfl hl.1 rfl (Nat.le_of_ble_eq_true rfl) dX9_sumLeaves_15 ⟨Nat.le_refl _, Nat.le_refl _⟩ (fun r_3 hr_3 => ?_)
  obtain rfl := hr_3
  refine lv_aload_n hex hby dX9_sumLeaves_18 rfl (lv_at hl 0 rfl) ?_
  refine ro_Vi (As := []) (rest := [.long (mr (mr v pc) bk)]) CFx (c_X9_leaves (h := h) (hw := hw) (hd := hd) (f9 := f9) (f5 := f5) (fd := fd) (c := c) f9_now f5_division fdc) 0 gX9_sumLeaves_X9_leaves rfl nd_X9_leaves ⟨Nat.le_of_ble_eq_true rfl, Nat.le_of_ble_eq_true rfl⟩ hK hP [0, 1, 6] rfl rfl rfl rfl hl.1 rfl (Nat.le_of_ble_eq_true rfl) dX9_sumLeaves_19 ⟨Nat.le_refl _, Nat.le_refl _⟩ (fun r_4 hr_4 => ?_)
  obtain rfl := hr_4
  refine ro_Sl (As := [.long (mr (mr v pc) bk), .int (nI c)]) (rest := []) (C := RX9) CFx (c_X9_sumValue (v := mr (mr v pc) bk) (w := c) ) 2 gX9_sumLeaves_X9_sumValue rfl nd_X9_sumValue ⟨Nat.le_of_ble_eq_true rfl, Nat.le_of_ble_eq_true rfl⟩ hK hP [] rfl rfl hl.1 rfl (Nat.le_of_ble_eq_true rfl) dX9_sumLeaves_22 ⟨Nat.le_refl _, Nat.le_refl _⟩ (fun r_5 hr_5 => ?_)
  obtain rfl := hr_5
  refine lv_lstore_n (lv' := [(3, .long (mr (mr (mr v pc) bk) c)), (0, .ref h), (1, .long v)]) hex hby dX9_sumLeaves_25 rfl hl (by decide) rfl (fun ls hl => ?_)
  refine lv_iconst (v := nI 0) hex hby dX9_sumLeaves_26 rfl ?_
  refine lv_istore (lv' := [(5, .int (nI 0)), (3, .long (mr (mr (mr v pc) bk) c)), (0, .ref h), (1, .long v)]) hex hby dX9_sumLeaves_27 hl (by decide) rfl (fun ls hl => ?_)
  have loop29 : ∀ (nn : Nat) (z3 : Int64) (i : Nat), (c - i) < nn → (i ≤ c) → (z3 = mrl (tlV T m pc (ptv T m P) st lv) (mr (mr (mr v pc) bk) c) i) → ∀ ls : Array Slot, lv_has ls 7 [(5, .int (nI i)), (3, .long z3), (0, .ref h), (1, .long v)] → W pp l ee (rmO 5 115) ss mm ([.ref h, .long v] : List Value).toArray bb mt cd ss.heap [] 0 0 Q (F0 mm 29 ls []) := by
    intro nn
    induction nn with
    | zero => intro z3 i hms29; exact absurd hms29 (Nat.not_lt_zero _)
    | succ nn ih29 =>
      intro z3 i hms29 hi hz3 ls hl
      refine lv_iload hex hby dX9_sumLeaves_29 (lv_at hl 0 rfl) ?_
      refine lv_aload_n hex hby dX9_sumLeaves_31 rfl (lv_at hl 2 rfl) ?_
      refine ro_Vi (As := []) (rest := [.int (nI i)]) CFx (c_X9_leaves (h := h) (hw := hw) (hd := hd) (f9 := f9) (f5 := f5) (fd := fd) (c := c) f9_now f5_division fdc) 0 gX9_sumLeaves_X9_leaves rfl nd_X9_leaves ⟨Nat.le_of_ble_eq_true rfl, Nat.le_of_ble_eq_true rfl⟩ hK hP [0, 1, 6] rfl rfl rfl rfl hl.1 rfl (Nat.le_of_ble_eq_true rfl) dX9_sumLeaves_32 ⟨Nat.le_refl _, Nat.le_refl _⟩ (fun r_6 hr_6 => ?_)
      obtain rfl := hr_6
      refine nv_icmp_ge (tgt := 72) hex hby dX9_sumLeaves_35 (by decide) (by omega) (by omega) (fun c_7 => ?_) (fun c_7 => ?_)
      · refine lv_lload_n hex hby dX9_sumLeaves_72 rfl (lv_at hl 1 rfl) ?_
        exact hret _ _ _ _ (Or.inr (Or.inr (Or.inr (Or.inl ⟨rfl, _, rfl, rfl, dX9_sumLeaves_73⟩)))) ⟨_, rfl, (by rw [hz3, show i = c by omega]; rfl)⟩
      · refine lv_iconst (v := nI 0) hex hby dX9_sumLeaves_38 rfl ?_
        refine lv_istore (lv' := [(6, .int (nI 0)), (5, .int (nI i)), (3, .long z3), (0, .ref h), (1, .long v)]) hex hby dX9_sumLeaves_39 hl (by decide) rfl (fun ls hl => ?_)
        have loop41 : ∀ (nn : Nat) (z4 : Int64) (w : Nat), (5 - w) < nn → (w ≤ 5) → (z4 = mrs ((tlV T m pc (ptv T m P) st lv) i) z3 w) → ∀ ls : Array Slot, lv_has ls 7 [(6, .int (nI w)), (5, .int (nI i)), (3, .long z4), (0, .ref h), (1, .long v)] → W pp l ee (rmO 5 115) ss mm ([.ref h, .long v] : List Value).toArray bb mt cd ss.heap [] 0 0 Q (F0 mm 41 ls []) := by
          intro nn
          induction nn with
          | zero => intro z4 w hms41; exact absurd hms41 (Nat.not_lt_zero _)
          | succ nn ih41 =>
            intro z4 w hms41 hw5 hz4 ls hl
            refine lv_iload hex hby dX9_sumLeaves_41 (lv_at hl 0 rfl) ?_
            refine lv_iconst (v := nI 5) hex hby dX9_sumLeaves_43 rfl ?_
            refine nv_icmp_ge (tgt := 66) hex hby dX9_sumLeaves_44 (by decide) (by omega) (by omega) (fun c_8 => ?_) (fun c_8 => ?_)
            · refine lv_iinc (v := nI (i + 1)) (lv' := [(5, .int (nI (i + 1))), (6, .int (nI w)), (3, .long z4), (0, .ref h), (1, .long v)]) hex hby dX9_sumLeaves_66 hl (k := 1) rfl (ni_inc _) (by decide) rfl (fun ls hl => ?_)
              refine lv_goto (tgt := 29) hex hby dX9_sumLeaves_69 (by decide) ?_
              have pf_9 : z4 = mrl (tlV T m pc (ptv T m P) st lv) (mr (mr (mr v pc) bk) c) (i + 1) := by
                skip
                rw [hz4, hz3, show w = 5 by omega]; rfl
              exact ih29 z4 (i + 1) (by omega) (by omega) pf_9 _ (lv_sub hl [0, 2, 3, 4] rfl)
            · refine lv_lload_n hex hby dX9_sumLeaves_47 rfl (lv_at hl 2 rfl) ?_
              refine lv_aload_n hex hby dX9_sumLeaves_48 rfl (lv_at hl 3 rfl) ?_
              refine lv_iload hex hby dX9_sumLeaves_49 (lv_at hl 1 rfl) ?_
              refine lv_iload hex hby dX9_sumLeaves_51 (lv_at hl 0 rfl) ?_
              refine ro_Vi (As := [.int (nI i), .int (nI w)]) (rest := [.long z4]) CFx (c_X9_leaf (h := h) (hw := hw) (hu := hu) (hn := hn) (aC := aC) (aI := aI) (hd := hd) (aS := aS) (hq := hq) (aP := aP) (f9 := f9) (f5 := f5) (fz := fz) (fn := fn) (g := g) (ix := ix) (fd := fd) (c := c) (S := S) (fq := fq) (pc := pc) (P := P) (k := nI i) (kz := (i : Int)) (w := nI w) (wz := (w : Int)) (T := T) (ns := ns) (m := m) (st := st) (lv := lv) f9_now f9_numbering f9_surroundings f5_points f5_division fzn fzd fn_C fn_I fdc faS fpc faP (ni_toInt (by omega)) (ni_toInt (by omega)) hg hix hSb hPb hpc hm6 hV hN hL hag hc hpg) 2 gX9_sumLeaves_X9_leaf rfl nd_X9_leaf ⟨Nat.le_of_ble_eq_true rfl, Nat.le_of_ble_eq_true rfl⟩ hK hP [0, 1, 2, 3, 4, 5, 6, 7, 8, 9] rfl rfl rfl rfl hl.1 rfl (Nat.le_of_ble_eq_true rfl) dX9_sumLeaves_53 ⟨Nat.le_refl _, Nat.le_refl _⟩ (fun r_10 hr_10 => ?_)
              rcases hr_10 with ⟨rfl, hq1, hq2⟩ | ⟨rfl, hq1⟩ | ⟨rfl, hq1, hq2⟩
              · refine nv_top (y := nI ((tlV T m pc (ptv T m P) st lv) i w)) rfl ?_
                refine ro_Sl (As := [.long z4, .int (nI ((tlV T m pc (ptv T m P) st lv) i w))]) (rest := []) (C := RX9) CFx (c_X9_sumValue (v := z4) (w := (tlV T m pc (ptv T m P) st lv) i w) ) 2 gX9_sumLeaves_X9_sumValue rfl nd_X9_sumValue ⟨Nat.le_of_ble_eq_true rfl, Nat.le_of_ble_eq_true rfl⟩ hK hP [] rfl rfl hl.1 rfl (Nat.le_of_ble_eq_true rfl) dX9_sumLeaves_56 ⟨Nat.le_refl _, Nat.le_refl _⟩ (fun r_11 hr_11 => ?_)
                obtain rfl := hr_11
                refine lv_lstore_n (lv' := [(3, .long (mr z4 ((tlV T m pc (ptv T m P) st lv) i w))), (6, .int (nI w)), (5, .int (nI i)), (0, .ref h), (1, .long v)]) hex hby dX9_sumLeaves_59 rfl hl (by decide) rfl (fun ls hl => ?_)
                refine lv_iinc (v := nI (w + 1)) (lv' := [(6, .int (nI (w + 1))), (3, .long (mr z4 ((tlV T m pc (ptv T m P) st lv) i w))), (5, .int (nI i)), (0, .ref h), (1, .long v)]) hex hby dX9_sumLeaves_60 hl (k := 1) rfl (ni_inc _) (by decide) rfl (fun ls hl => ?_)
                refine lv_goto (tgt := 41) hex hby dX9_sumLeaves_63 (by decide) ?_
                have pf_12 : (mr z4 ((tlV T m pc (ptv T m P) st lv) i w)) = mrs ((tlV T m pc (ptv T m P) st lv) i) z3 (w + 1) := by
                  skip
                  rw [hz4]; rfl
                exact ih41 (mr z4 ((tlV T m pc (ptv T m P) st lv) i w)) (w + 1) (by omega) (by omega) pf_12 _ (lv_sub hl [0, 2, 1, 3, 4] rfl)
              · exact absurd (by omega) hq1
              · exact absurd (by omega) hq2
        exact loop41 _ z3 0 (Nat.lt_succ_self _) (by omega) rfl _ (lv_sub hl [0, 1, 2, 3, 4] rfl)
  exact loop29 _ (mr (mr (mr v pc) bk) c) 0 (Nat.lt_succ_self _) (by omega) rfl _ (lv_sub hl [0, 1, 2, 3] rfl)
def upA (K : Nat → Nat → Nat) (k : Nat) (x : Nat → Nat) : Nat → Nat → Nat := fun j => if j = k then x else K j
theorem upA_s (g : Nat → Nat → Nat) (k : Nat) (x : Nat → Nat) : upA g k x k = x := if_pos rfl
theorem upA_n {g : Nat → Nat → Nat} {k j : Nat} {x : Nat → Nat} (h : j ≠ k) : upA g k x j = g j := if_neg h
theorem nd_X9_save : ndV yX9_save RX9 1 := by decide +kernel
theorem in_X9_save_X1 : ∀ w ∈ wsX10, w ∈ wsX9_save := fun _ h => List.mem_cons_of_mem _ (List.mem_append_left _ (List.mem_append_left _ (List.mem_append_left _ (List.mem_append_right _ (h)))))
theorem in_X9_save_X5 : ∀ w ∈ wsX50, w ∈ wsX9_save := fun _ h => List.mem_cons_of_mem _ (List.mem_append_left _ (List.mem_append_left _ (List.mem_append_left _ (List.mem_append_left _ (List.mem_append_right _ (h))))))
theorem in_X9_save_X9 : ∀ w ∈ wsX90, w ∈ wsX9_save := fun _ h => List.mem_cons_of_mem _ (List.mem_append_left _ (List.mem_append_left _ (List.mem_append_left _ (List.mem_append_left _ (List.mem_append_left _ (List.mem_append_right _ (h)))))))
set_option maxHeartbeats 4000000 in
set_option maxRecDepth 100000 in
theorem c_X9_save {h : Nat} {aW : Nat} {aU : Nat} {hw : Nat} {ht : Nat} {aV : Nat} {hr : Nat} {hq : Nat} {aP : Nat} {hd : Nat} {aS : Nat} {w0 : Nat} {w0t : Nat} {w0v : Nat} {w0r : Nat} {w0q : Nat} {w0p : Nat} {w0d : Nat} {w0s : Nat} {w1 : Nat} {w1t : Nat} {w1v : Nat} {w1r : Nat} {w1q : Nat} {w1p : Nat} {w1d : Nat} {w1s : Nat} {f9 : List Value} {fW : Nat → Option Nat} {ku : Nat → Nat} {m : Nat} {cu : Nat} {bk : Nat} {tc : Nat} {rl : Nat} {rb : Nat} {rr : Nat} {ra : Nat} {pc : Nat} {c : Nat} {w : Int32} {wz : Int} {km : Nat → Nat} {kcu : Nat → Nat} {ktc : Nat → Nat} {krl : Nat → Nat} {krb : Nat → Nat} {krr : Nat → Nat} {kra : Nat → Nat} {kpc : Nat → Nat} {kbk : Nat → Nat} {kc : Nat → Nat} {kV : Nat → Nat → Nat} {kP : Nat → Nat → Nat} {kS : Nat → Nat → Nat} {V : Nat → Nat} {P : Nat → Nat} {S : Nat → Nat} (f9_now : f9[0]? = some (.ref hw)) (f9_slots : f9[1]? = some (.ref aW)) (f9_slotUsed : f9[2]? = some (.ref aU)) (hwz : w.toInt = wz) (hku : ∀ j, ku j < 2) (hW0 : fW 0 = some w0) (hW1 : fW 1 = some w1) : MU l yX9_save wsX9_save 3 82 (dC, dI) (tyK cI cZ cS) [(h, .inr (9, f9)), (aW, .inl (cS, 2, .inr (.inr (.inr (.inr fW))))), (aU, .inl (cZ, 2, .inl (nA ku))), (hw, .inr (5, [.int (nI m), .int (nI cu), .ref ht, .ref hr, .ref hq, .int (nI bk), .ref hd])), (ht, .inr (6, [.int (nI tc), .ref aV])), (aV, .inl (cI, 32, .inl (nA V))), (hr, .inr (4, [.int (nI rl), .int (nI rb), .int (nI rr), .int (nI ra)])), (hq, .inr (3, [.int (nI pc), .ref aP])), (aP, .inl (cI, 40, .inl (nA P))), (hd, .inr (1, [.int (nI c), .ref aS])), (aS, .inl (cI, 497, .inl (nA S))), (w0, .inr (5, [.int (nI (km 0)), .int (nI (kcu 0)), .ref w0t, .ref w0r, .ref w0q, .int (nI (kbk 0)), .ref w0d])), (w0t, .inr (6, [.int (nI (ktc 0)), .ref w0v])), (w0v, .inl (cI, 32, .inl (nA (kV 0)))), (w0r, .inr (4, [.int (nI (krl 0)), .int (nI (krb 0)), .int (nI (krr 0)), .int (nI (kra 0))])), (w0q, .inr (3, [.int (nI (kpc 0)), .ref w0p])), (w0p, .inl (cI, 40, .inl (nA (kP 0)))), (w0d, .inr (1, [.int (nI (kc 0)), .ref w0s])), (w0s, .inl (cI, 497, .inl (nA (kS 0)))), (w1, .inr (5, [.int (nI (km 1)), .int (nI (kcu 1)), .ref w1t, .ref w1r, .ref w1q, .int (nI (kbk 1)), .ref w1d])), (w1t, .inr (6, [.int (nI (ktc 1)), .ref w1v])), (w1v, .inl (cI, 32, .inl (nA (kV 1)))), (w1r, .inr (4, [.int (nI (krl 1)), .int (nI (krb 1)), .int (nI (krr 1)), .int (nI (kra 1))])), (w1q, .inr (3, [.int (nI (kpc 1)), .ref w1p])), (w1p, .inl (cI, 40, .inl (nA (kP 1)))), (w1d, .inr (1, [.int (nI (kc 1)), .ref w1s])), (w1s, .inl (cI, 497, .inl (nA (kS 1))))] [] [.ref h, .int w] (fun rv_ (u_ : (Nat → Nat) × (Nat → Nat) × (Nat → Nat) × (Nat → Nat) × (Nat → Nat) × (Nat → Nat) × (Nat → Nat) × (Nat → Nat) × (Nat → Nat) × (Nat → Nat) × (Nat → Nat → Nat) × (Nat → Nat → Nat) × (Nat → Nat → Nat) × (Nat → Nat)) => rI (fun r => (r = nI c ∧ (0 ≤ wz ∧ wz ≤ 1) ∧ upN km wz.toNat m = u_.1 ∧ upN kcu wz.toNat cu = u_.2.1 ∧ upN ktc wz.toNat tc = u_.2.2.1 ∧ upN krl wz.toNat rl = u_.2.2.2.1 ∧ upN krb wz.toNat rb = u_.2.2.2.2.1 ∧ upN krr wz.toNat rr = u_.2.2.2.2.2.1 ∧ upN kra wz.toNat ra = u_.2.2.2.2.2.2.1 ∧ upN kpc wz.toNat pc = u_.2.2.2.2.2.2.2.1 ∧ upN kbk wz.toNat bk = u_.2.2.2.2.2.2.2.2.1 ∧ upN kc wz.toNat c = u_.2.2.2.2.2.2.2.2.2.1 ∧ upA kV wz.toNat V = u_.2.2.2.2.2.2.2.2.2.2.1 ∧ upA kP wz.toNat P = u_.2.2.2.2.2.2.2.2.2.2.2.1 ∧ upA kS wz.toNat S = u_.2.2.2.2.2.2.2.2.2.2.2.2.1 ∧ upN ku wz.toNat 1 = u_.2.2.2.2.2.2.2.2.2.2.2.2.2) ∨ (r = zI (-1) ∧ (¬ (0 ≤ wz ∧ wz ≤ 1)) ∧ km = u_.1 ∧ kcu = u_.2.1 ∧ ktc = u_.2.2.1 ∧ krl = u_.2.2.2.1 ∧ krb = u_.2.2.2.2.1 ∧ krr = u_.2.2.2.2.2.1 ∧ kra = u_.2.2.2.2.2.2.1 ∧ kpc = u_.2.2.2.2.2.2.2.1 ∧ kbk = u_.2.2.2.2.2.2.2.2.1 ∧ kc = u_.2.2.2.2.2.2.2.2.2.1 ∧ kV = u_.2.2.2.2.2.2.2.2.2.2.1 ∧ kP = u_.2.2.2.2.2.2.2.2.2.2.2.1 ∧ kS = u_.2.2.2.2.2.2.2.2.2.2.2.2.1 ∧ ku = u_.2.2.2.2.2.2.2.2.2.2.2.2.2)) rv_) (fun (u_ : (Nat → Nat) × (Nat → Nat) × (Nat → Nat) × (Nat → Nat) × (Nat → Nat) × (Nat → Nat) × (Nat → Nat) × (Nat → Nat) × (Nat → Nat) × (Nat → Nat) × (Nat → Nat → Nat) × (Nat → Nat → Nat) × (Nat → Nat → Nat) × (Nat → Nat)) => [(h, .inr (9, f9)), (aW, .inl (cS, 2, .inr (.inr (.inr (.inr fW))))), (aU, .inl (cZ, 2, .inl (nA u_.2.2.2.2.2.2.2.2.2.2.2.2.2))), (hw, .inr (5, [.int (nI m), .int (nI cu), .ref ht, .ref hr, .ref hq, .int (nI bk), .ref hd])), (ht, .inr (6, [.int (nI tc), .ref aV])), (aV, .inl (cI, 32, .inl (nA V))), (hr, .inr (4, [.int (nI rl), .int (nI rb), .int (nI rr), .int (nI ra)])), (hq, .inr (3, [.int (nI pc), .ref aP])), (aP, .inl (cI, 40, .inl (nA P))), (hd, .inr (1, [.int (nI c), .ref aS])), (aS, .inl (cI, 497, .inl (nA S))), (w0, .inr (5, [.int (nI (u_.1 0)), .int (nI (u_.2.1 0)), .ref w0t, .ref w0r, .ref w0q, .int (nI (u_.2.2.2.2.2.2.2.2.1 0)), .ref w0d])), (w0t, .inr (6, [.int (nI (u_.2.2.1 0)), .ref w0v])), (w0v, .inl (cI, 32, .inl (nA (u_.2.2.2.2.2.2.2.2.2.2.1 0)))), (w0r, .inr (4, [.int (nI (u_.2.2.2.1 0)), .int (nI (u_.2.2.2.2.1 0)), .int (nI (u_.2.2.2.2.2.1 0)), .int (nI (u_.2.2.2.2.2.2.1 0))])), (w0q, .inr (3, [.int (nI (u_.2.2.2.2.2.2.2.1 0)), .ref w0p])), (w0p, .inl (cI, 40, .inl (nA (u_.2.2.2.2.2.2.2.2.2.2.2.1 0)))), (w0d, .inr (1, [.int (nI (u_.2.2.2.2.2.2.2.2.2.1 0)), .ref w0s])), (w0s, .inl (cI, 497, .inl (nA (u_.2.2.2.2.2.2.2.2.2.2.2.2.1 0)))), (w1, .inr (5, [.int (nI (u_.1 1)), .int (nI (u_.2.1 1)), .ref w1t, .ref w1r, .ref w1q, .int (nI (u_.2.2.2.2.2.2.2.2.1 1)), .ref w1d])), (w1t, .inr (6, [.int (nI (u_.2.2.1 1)), .ref w1v])), (w1v, .inl (cI, 32, .inl (nA (u_.2.2.2.2.2.2.2.2.2.2.1 1)))), (w1r, .inr (4, [.int (nI (u_.2.2.2.1 1)), .int (nI (u_.2.2.2.2.1 1)), .int (nI (u_.2.2.2.2.2.1 1)), .int (nI (u_.2.2.2.2.2.2.1 1))])), (w1q, .inr (3, [.int (nI (u_.2.2.2.2.2.2.2.1 1)), .ref w1p])), (w1p, .inl (cI, 40, .inl (nA (u_.2.2.2.2.2.2.2.2.2.2.2.1 1)))), (w1d, .inr (1, [.int (nI (u_.2.2.2.2.2.2.2.2.2.1 1)), .ref w1s])), (w1s, .inl (cI, 497, .inl (nA (u_.2.2.2.2.2.2.2.2.2.2.2.2.1 1))))]) := by
  refine mu_of (by decide) rfl (Nat.le_of_ble_eq_true rfl) ?_
  intro pp ee ss mm bb mt cd Q A CFx hP hK hD hS hA hTr hret ls hl
  obtain ⟨hex, hby, hml, hown, hts⟩ := id CFx
  have hl : lv_has ls 2 [(0, .ref h), (1, .int w)] := hl
  refine lv_iload_n hex hby dX9_save_0 rfl (lv_at hl 1 rfl) ?_
  refine ni_if_lt (tgt := 9) (a := w.toInt) hex hby dX9_save_1 (by decide) rfl (fun c_1 => ?_) (fun c_1 => ?_)
  · refine lv_iconst (v := zI (-1)) hex hby dX9_save_9 rfl ?_
    exact hret _ (km, kcu, ktc, krl, krb, krr, kra, kpc, kbk, kc, kV, kP, kS, ku) _ _ _ _ _ (Or.inl ⟨rfl, _, rfl, rfl, dX9_save_10⟩) ⟨_, rfl, Or.inr ⟨rfl, (by omega), rfl, rfl, rfl, rfl, rfl, rfl, rfl, rfl, rfl, rfl, rfl, rfl, rfl, rfl⟩⟩ hP hD hS
  · refine lv_iload_n hex hby dX9_save_4 rfl (lv_at hl 1 rfl) ?_
    refine lv_iconst (v := nI 2) hex hby dX9_save_5 rfl ?_
    refine ni_icmp_lt (tgt := 11) (a := w.toInt) (b := (2 : Int)) hex hby dX9_save_6 (by decide) rfl (by rfl) (fun c_2 => ?_) (fun c_2 => ?_)
    · obtain ⟨wn, hwn_, rfl, hwne⟩ := ni_of (x := w) (by omega)
      have hwt : wz.toNat = wn := by omega
      refine lv_aload_n hex hby dX9_save_11 rfl (lv_at hl 0 rfl) ?_
      rcases (show wn = 0 ∨ wn = 1 by omega) with rfl | rfl
      · refine nv_get (v := .ref aW) CFx in_X9_save_X9 hK hP 0 rfl rfl 1 (by decide) (List.mem_of_getElem? (i := 1) rfl) f9_slots dX9_save_12 ?_
        refine lv_iload_n hex hby dX9_save_15 rfl (lv_at hl 1 rfl) ?_
        refine nv_aald (v := w0) hex hby hK hP 1 2 rfl rfl (by omega) (by omega) hW0 dX9_save_16 ?_
        refine lv_aload_n hex hby dX9_save_17 rfl (lv_at hl 0 rfl) ?_
        refine nv_get (v := .ref hw) CFx in_X9_save_X9 hK hP 0 rfl rfl 0 (by decide) (List.mem_of_getElem? (i := 2) rfl) f9_now dX9_save_18 ?_
        refine mu_Vv (As := [.ref hw]) (rest := []) (wr := [(h, .inr (9, f9)), (aW, .inl (cS, 2, .inr (.inr (.inr (.inr fW))))), (aU, .inl (cZ, 2, .inl (nA ku))), (w1, .inr (5, [.int (nI (km 1)), .int (nI (kcu 1)), .ref w1t, .ref w1r, .ref w1q, .int (nI (kbk 1)), .ref w1d])), (w1t, .inr (6, [.int (nI (ktc 1)), .ref w1v])), (w1v, .inl (cI, 32, .inl (nA (kV 1)))), (w1r, .inr (4, [.int (nI (krl 1)), .int (nI (krb 1)), .int (nI (krr 1)), .int (nI (kra 1))])), (w1q, .inr (3, [.int (nI (kpc 1)), .ref w1p])), (w1p, .inl (cI, 40, .inl (nA (kP 1)))), (w1d, .inr (1, [.int (nI (kc 1)), .ref w1s])), (w1s, .inl (cI, 497, .inl (nA (kS 1))))]) CFx (c_X5_copyFrom (ha := w0) (dat := w0t) (datv := w0v) (dar := w0r) (dap := w0q) (dapc := w0p) (dad := w0d) (dads := w0s) (hb := hw) (sat := ht) (satv := aV) (sar := hr) (sap := hq) (sapc := aP) (sad := hd) (sads := aS) (u0 := .int (nI (km 0))) (u1 := .int (nI (kcu 0))) (u8 := .int (nI (kbk 0))) (u2 := .int (nI (ktc 0))) (V0 := kV 0) (u3 := .int (nI (krl 0))) (u4 := .int (nI (krb 0))) (u5 := .int (nI (krr 0))) (u6 := .int (nI (kra 0))) (u7 := .int (nI (kpc 0))) (P0 := kP 0) (u9 := .int (nI (kc 0))) (S0 := kS 0) (m := m) (cu := cu) (bk := bk) (tc := tc) (V := V) (rl := rl) (rb := rb) (rr := rr) (ra := ra) (pc := pc) (P := P) (c := c) (S := S) ) 1 gX9_save_X5_copyFrom rfl nd_X5_copyFrom ⟨Nat.le_of_ble_eq_true rfl, Nat.le_of_ble_eq_true rfl⟩ hK hP hD hS hA [11, 12, 13, 14, 15, 16, 17, 18, 3, 4, 5, 6, 7, 8, 9, 10] [0, 1, 2, 19, 20, 21, 22, 23, 24, 25, 26] rfl rfl (by decide) (by decide) (by decide) TR.nil rfl rfl rfl hl.1 rfl (Nat.le_of_ble_eq_true rfl) dX9_save_21 ⟨Nat.le_refl _, Nat.le_refl _⟩ (fun u H locs hr_3 hP hD hS => ?_)
        have hP : va_P (dC, dI) vwCl [(h, .inr (9, f9)), (aW, .inl (cS, 2, .inr (.inr (.inr (.inr fW))))), (aU, .inl (cZ, 2, .inl (nA ku))), (w1, .inr (5, [.int (nI (km 1)), .int (nI (kcu 1)), .ref w1t, .ref w1r, .ref w1q, .int (nI (kbk 1)), .ref w1d])), (w1t, .inr (6, [.int (nI (ktc 1)), .ref w1v])), (w1v, .inl (cI, 32, .inl (nA (kV 1)))), (w1r, .inr (4, [.int (nI (krl 1)), .int (nI (krb 1)), .int (nI (krr 1)), .int (nI (kra 1))])), (w1q, .inr (3, [.int (nI (kpc 1)), .ref w1p])), (w1p, .inl (cI, 40, .inl (nA (kP 1)))), (w1d, .inr (1, [.int (nI (kc 1)), .ref w1s])), (w1s, .inl (cI, 497, .inl (nA (kS 1)))), (w0, .inr (5, [.int (nI m), .int (nI cu), .ref w0t, .ref w0r, .ref w0q, .int (nI bk), .ref w0d])), (w0t, .inr (6, [.int (nI tc), .ref w0v])), (w0v, .inl (cI, 32, .inl (nA V))), (w0r, .inr (4, [.int (nI rl), .int (nI rb), .int (nI rr), .int (nI ra)])), (w0q, .inr (3, [.int (nI pc), .ref w0p])), (w0p, .inl (cI, 40, .inl (nA P))), (w0d, .inr (1, [.int (nI c), .ref w0s])), (w0s, .inl (cI, 497, .inl (nA S))), (hw, .inr (5, [.int (nI m), .int (nI cu), .ref ht, .ref hr, .ref hq, .int (nI bk), .ref hd])), (ht, .inr (6, [.int (nI tc), .ref aV])), (aV, .inl (cI, 32, .inl (nA V))), (hr, .inr (4, [.int (nI rl), .int (nI rb), .int (nI rr), .int (nI ra)])), (hq, .inr (3, [.int (nI pc), .ref aP])), (aP, .inl (cI, 40, .inl (nA P))), (hd, .inr (1, [.int (nI c), .ref aS])), (aS, .inl (cI, 497, .inl (nA S)))] H := hP
        have hD : va_D A [(h, .inr (9, f9)), (aW, .inl (cS, 2, .inr (.inr (.inr (.inr fW))))), (aU, .inl (cZ, 2, .inl (nA ku))), (w1, .inr (5, [.int (nI (km 1)), .int (nI (kcu 1)), .ref w1t, .ref w1r, .ref w1q, .int (nI (kbk 1)), .ref w1d])), (w1t, .inr (6, [.int (nI (ktc 1)), .ref w1v])), (w1v, .inl (cI, 32, .inl (nA (kV 1)))), (w1r, .inr (4, [.int (nI (krl 1)), .int (nI (krb 1)), .int (nI (krr 1)), .int (nI (kra 1))])), (w1q, .inr (3, [.int (nI (kpc 1)), .ref w1p])), (w1p, .inl (cI, 40, .inl (nA (kP 1)))), (w1d, .inr (1, [.int (nI (kc 1)), .ref w1s])), (w1s, .inl (cI, 497, .inl (nA (kS 1)))), (w0, .inr (5, [.int (nI m), .int (nI cu), .ref w0t, .ref w0r, .ref w0q, .int (nI bk), .ref w0d])), (w0t, .inr (6, [.int (nI tc), .ref w0v])), (w0v, .inl (cI, 32, .inl (nA V))), (w0r, .inr (4, [.int (nI rl), .int (nI rb), .int (nI rr), .int (nI ra)])), (w0q, .inr (3, [.int (nI pc), .ref w0p])), (w0p, .inl (cI, 40, .inl (nA P))), (w0d, .inr (1, [.int (nI c), .ref w0s])), (w0s, .inl (cI, 497, .inl (nA S))), (hw, .inr (5, [.int (nI m), .int (nI cu), .ref ht, .ref hr, .ref hq, .int (nI bk), .ref hd])), (ht, .inr (6, [.int (nI tc), .ref aV])), (aV, .inl (cI, 32, .inl (nA V))), (hr, .inr (4, [.int (nI rl), .int (nI rb), .int (nI rr), .int (nI ra)])), (hq, .inr (3, [.int (nI pc), .ref aP])), (aP, .inl (cI, 40, .inl (nA P))), (hd, .inr (1, [.int (nI c), .ref aS])), (aS, .inl (cI, 497, .inl (nA S)))] := hD
        refine lv_aload_n hex hby dX9_save_24 rfl (lv_at hl 0 rfl) ?_
        refine nv_get (v := .ref aU) CFx in_X9_save_X9 hK hP 0 rfl rfl 2 (by decide) (List.mem_of_getElem? (i := 3) rfl) f9_slotUsed dX9_save_25 ?_
        refine lv_iload_n hex hby dX9_save_28 rfl (lv_at hl 1 rfl) ?_
        refine lv_iconst (v := nI 1) hex hby dX9_save_29 rfl ?_
        refine nv_zast hex hby hK hP hD hS 2 1 rfl rfl (by omega) (by omega) (by omega) dX9_save_30 (fun H locs hP hD hS => ?_)
        have hP : va_P (dC, dI) vwCl [(h, .inr (9, f9)), (aW, .inl (cS, 2, .inr (.inr (.inr (.inr fW))))), (aU, .inl (cZ, 2, .inl (nA (upN ku 0 1)))), (w1, .inr (5, [.int (nI (km 1)), .int (nI (kcu 1)), .ref w1t, .ref w1r, .ref w1q, .int (nI (kbk 1)), .ref w1d])), (w1t, .inr (6, [.int (nI (ktc 1)), .ref w1v])), (w1v, .inl (cI, 32, .inl (nA (kV 1)))), (w1r, .inr (4, [.int (nI (krl 1)), .int (nI (krb 1)), .int (nI (krr 1)), .int (nI (kra 1))])), (w1q, .inr (3, [.int (nI (kpc 1)), .ref w1p])), (w1p, .inl (cI, 40, .inl (nA (kP 1)))), (w1d, .inr (1, [.int (nI (kc 1)), .ref w1s])), (w1s, .inl (cI, 497, .inl (nA (kS 1)))), (w0, .inr (5, [.int (nI m), .int (nI cu), .ref w0t, .ref w0r, .ref w0q, .int (nI bk), .ref w0d])), (w0t, .inr (6, [.int (nI tc), .ref w0v])), (w0v, .inl (cI, 32, .inl (nA V))), (w0r, .inr (4, [.int (nI rl), .int (nI rb), .int (nI rr), .int (nI ra)])), (w0q, .inr (3, [.int (nI pc), .ref w0p])), (w0p, .inl (cI, 40, .inl (nA P))), (w0d, .inr (1, [.int (nI c), .ref w0s])), (w0s, .inl (cI, 497, .inl (nA S))), (hw, .inr (5, [.int (nI m), .int (nI cu), .ref ht, .ref hr, .ref hq, .int (nI bk), .ref hd])), (ht, .inr (6, [.int (nI tc), .ref aV])), (aV, .inl (cI, 32, .inl (nA V))), (hr, .inr (4, [.int (nI rl), .int (nI rb), .int (nI rr), .int (nI ra)])), (hq, .inr (3, [.int (nI pc), .ref aP])), (aP, .inl (cI, 40, .inl (nA P))), (hd, .inr (1, [.int (nI c), .ref aS])), (aS, .inl (cI, 497, .inl (nA S)))] H := hP
        have hD : va_D A [(h, .inr (9, f9)), (aW, .inl (cS, 2, .inr (.inr (.inr (.inr fW))))), (aU, .inl (cZ, 2, .inl (nA (upN ku 0 1)))), (w1, .inr (5, [.int (nI (km 1)), .int (nI (kcu 1)), .ref w1t, .ref w1r, .ref w1q, .int (nI (kbk 1)), .ref w1d])), (w1t, .inr (6, [.int (nI (ktc 1)), .ref w1v])), (w1v, .inl (cI, 32, .inl (nA (kV 1)))), (w1r, .inr (4, [.int (nI (krl 1)), .int (nI (krb 1)), .int (nI (krr 1)), .int (nI (kra 1))])), (w1q, .inr (3, [.int (nI (kpc 1)), .ref w1p])), (w1p, .inl (cI, 40, .inl (nA (kP 1)))), (w1d, .inr (1, [.int (nI (kc 1)), .ref w1s])), (w1s, .inl (cI, 497, .inl (nA (kS 1)))), (w0, .inr (5, [.int (nI m), .int (nI cu), .ref w0t, .ref w0r, .ref w0q, .int (nI bk), .ref w0d])), (w0t, .inr (6, [.int (nI tc), .ref w0v])), (w0v, .inl (cI, 32, .inl (nA V))), (w0r, .inr (4, [.int (nI rl), .int (nI rb), .int (nI rr), .int (nI ra)])), (w0q, .inr (3, [.int (nI pc), .ref w0p])), (w0p, .inl (cI, 40, .inl (nA P))), (w0d, .inr (1, [.int (nI c), .ref w0s])), (w0s, .inl (cI, 497, .inl (nA S))), (hw, .inr (5, [.int (nI m), .int (nI cu), .ref ht, .ref hr, .ref hq, .int (nI bk), .ref hd])), (ht, .inr (6, [.int (nI tc), .ref aV])), (aV, .inl (cI, 32, .inl (nA V))), (hr, .inr (4, [.int (nI rl), .int (nI rb), .int (nI rr), .int (nI ra)])), (hq, .inr (3, [.int (nI pc), .ref aP])), (aP, .inl (cI, 40, .inl (nA P))), (hd, .inr (1, [.int (nI c), .ref aS])), (aS, .inl (cI, 497, .inl (nA S)))] := hD
        refine lv_aload_n hex hby dX9_save_31 rfl (lv_at hl 0 rfl) ?_
        refine nv_get (v := .ref hw) CFx in_X9_save_X9 hK hP 0 rfl rfl 0 (by decide) (List.mem_of_getElem? (i := 2) rfl) f9_now dX9_save_32 ?_
        refine nv_get (v := .ref hd) CFx in_X9_save_X5 hK hP 19 rfl rfl 6 (by decide) (List.mem_of_getElem? (i := 4) rfl) rfl dX9_save_35 ?_
        refine nv_get (v := .int (nI c)) CFx in_X9_save_X1 hK hP 25 rfl rfl 0 (by decide) (List.mem_of_getElem? (i := 5) rfl) rfl dX9_save_38 ?_
        exact hret _ (upN km 0 m, upN kcu 0 cu, upN ktc 0 tc, upN krl 0 rl, upN krb 0 rb, upN krr 0 rr, upN kra 0 ra, upN kpc 0 pc, upN kbk 0 bk, upN kc 0 c, upA kV 0 V, upA kP 0 P, upA kS 0 S, upN ku 0 1) _ _ _ _ _ (Or.inl ⟨rfl, _, rfl, rfl, dX9_save_41⟩) ⟨_, rfl, Or.inl ⟨rfl, (by omega), (by rw [hwt]), (by rw [hwt]), (by rw [hwt]), (by rw [hwt]), (by rw [hwt]), (by rw [hwt]), (by rw [hwt]), (by rw [hwt]), (by rw [hwt]), (by rw [hwt]), (by rw [hwt]), (by rw [hwt]), (by rw [hwt]), (by rw [hwt])⟩⟩ (hP.sub [0, 1, 2, 19, 20, 21, 22, 23, 24, 25, 26, 11, 12, 13, 14, 15, 16, 17, 18, 3, 4, 5, 6, 7, 8, 9, 10] rfl) (hD.sub [0, 1, 2, 19, 20, 21, 22, 23, 24, 25, 26, 11, 12, 13, 14, 15, 16, 17, 18, 3, 4, 5, 6, 7, 8, 9, 10] (by decide) rfl) hS
      · refine nv_get (v := .ref aW) CFx in_X9_save_X9 hK hP 0 rfl rfl 1 (by decide) (List.mem_of_getElem? (i := 1) rfl) f9_slots dX9_save_12 ?_
        refine lv_iload_n hex hby dX9_save_15 rfl (lv_at hl 1 rfl) ?_
        refine nv_aald (v := w1) hex hby hK hP 1 2 rfl rfl (by omega) (by omega) hW1 dX9_save_16 ?_
        refine lv_aload_n hex hby dX9_save_17 rfl (lv_at hl 0 rfl) ?_
        refine nv_get (v := .ref hw) CFx in_X9_save_X9 hK hP 0 rfl rfl 0 (by decide) (List.mem_of_getElem? (i := 2) rfl) f9_now dX9_save_18 ?_
        refine mu_Vv (As := [.ref hw]) (rest := []) (wr := [(h, .inr (9, f9)), (aW, .inl (cS, 2, .inr (.inr (.inr (.inr fW))))), (aU, .inl (cZ, 2, .inl (nA ku))), (w0, .inr (5, [.int (nI (km 0)), .int (nI (kcu 0)), .ref w0t, .ref w0r, .ref w0q, .int (nI (kbk 0)), .ref w0d])), (w0t, .inr (6, [.int (nI (ktc 0)), .ref w0v])), (w0v, .inl (cI, 32, .inl (nA (kV 0)))), (w0r, .inr (4, [.int (nI (krl 0)), .int (nI (krb 0)), .int (nI (krr 0)), .int (nI (kra 0))])), (w0q, .inr (3, [.int (nI (kpc 0)), .ref w0p])), (w0p, .inl (cI, 40, .inl (nA (kP 0)))), (w0d, .inr (1, [.int (nI (kc 0)), .ref w0s])), (w0s, .inl (cI, 497, .inl (nA (kS 0))))]) CFx (c_X5_copyFrom (ha := w1) (dat := w1t) (datv := w1v) (dar := w1r) (dap := w1q) (dapc := w1p) (dad := w1d) (dads := w1s) (hb := hw) (sat := ht) (satv := aV) (sar := hr) (sap := hq) (sapc := aP) (sad := hd) (sads := aS) (u0 := .int (nI (km 1))) (u1 := .int (nI (kcu 1))) (u8 := .int (nI (kbk 1))) (u2 := .int (nI (ktc 1))) (V0 := kV 1) (u3 := .int (nI (krl 1))) (u4 := .int (nI (krb 1))) (u5 := .int (nI (krr 1))) (u6 := .int (nI (kra 1))) (u7 := .int (nI (kpc 1))) (P0 := kP 1) (u9 := .int (nI (kc 1))) (S0 := kS 1) (m := m) (cu := cu) (bk := bk) (tc := tc) (V := V) (rl := rl) (rb := rb) (rr := rr) (ra := ra) (pc := pc) (P := P) (c := c) (S := S) ) 1 gX9_save_X5_copyFrom rfl nd_X5_copyFrom ⟨Nat.le_of_ble_eq_true rfl, Nat.le_of_ble_eq_true rfl⟩ hK hP hD hS hA [19, 20, 21, 22, 23, 24, 25, 26, 3, 4, 5, 6, 7, 8, 9, 10] [0, 1, 2, 11, 12, 13, 14, 15, 16, 17, 18] rfl rfl (by decide) (by decide) (by decide) TR.nil rfl rfl rfl hl.1 rfl (Nat.le_of_ble_eq_true rfl) dX9_save_21 ⟨Nat.le_refl _, Nat.le_refl _⟩ (fun u H locs hr_4 hP hD hS => ?_)
        have hP : va_P (dC, dI) vwCl [(h, .inr (9, f9)), (aW, .inl (cS, 2, .inr (.inr (.inr (.inr fW))))), (aU, .inl (cZ, 2, .inl (nA ku))), (w0, .inr (5, [.int (nI (km 0)), .int (nI (kcu 0)), .ref w0t, .ref w0r, .ref w0q, .int (nI (kbk 0)), .ref w0d])), (w0t, .inr (6, [.int (nI (ktc 0)), .ref w0v])), (w0v, .inl (cI, 32, .inl (nA (kV 0)))), (w0r, .inr (4, [.int (nI (krl 0)), .int (nI (krb 0)), .int (nI (krr 0)), .int (nI (kra 0))])), (w0q, .inr (3, [.int (nI (kpc 0)), .ref w0p])), (w0p, .inl (cI, 40, .inl (nA (kP 0)))), (w0d, .inr (1, [.int (nI (kc 0)), .ref w0s])), (w0s, .inl (cI, 497, .inl (nA (kS 0)))), (w1, .inr (5, [.int (nI m), .int (nI cu), .ref w1t, .ref w1r, .ref w1q, .int (nI bk), .ref w1d])), (w1t, .inr (6, [.int (nI tc), .ref w1v])), (w1v, .inl (cI, 32, .inl (nA V))), (w1r, .inr (4, [.int (nI rl), .int (nI rb), .int (nI rr), .int (nI ra)])), (w1q, .inr (3, [.int (nI pc), .ref w1p])), (w1p, .inl (cI, 40, .inl (nA P))), (w1d, .inr (1, [.int (nI c), .ref w1s])), (w1s, .inl (cI, 497, .inl (nA S))), (hw, .inr (5, [.int (nI m), .int (nI cu), .ref ht, .ref hr, .ref hq, .int (nI bk), .ref hd])), (ht, .inr (6, [.int (nI tc), .ref aV])), (aV, .inl (cI, 32, .inl (nA V))), (hr, .inr (4, [.int (nI rl), .int (nI rb), .int (nI rr), .int (nI ra)])), (hq, .inr (3, [.int (nI pc), .ref aP])), (aP, .inl (cI, 40, .inl (nA P))), (hd, .inr (1, [.int (nI c), .ref aS])), (aS, .inl (cI, 497, .inl (nA S)))] H := hP
        have hD : va_D A [(h, .inr (9, f9)), (aW, .inl (cS, 2, .inr (.inr (.inr (.inr fW))))), (aU, .inl (cZ, 2, .inl (nA ku))), (w0, .inr (5, [.int (nI (km 0)), .int (nI (kcu 0)), .ref w0t, .ref w0r, .ref w0q, .int (nI (kbk 0)), .ref w0d])), (w0t, .inr (6, [.int (nI (ktc 0)), .ref w0v])), (w0v, .inl (cI, 32, .inl (nA (kV 0)))), (w0r, .inr (4, [.int (nI (krl 0)), .int (nI (krb 0)), .int (nI (krr 0)), .int (nI (kra 0))])), (w0q, .inr (3, [.int (nI (kpc 0)), .ref w0p])), (w0p, .inl (cI, 40, .inl (nA (kP 0)))), (w0d, .inr (1, [.int (nI (kc 0)), .ref w0s])), (w0s, .inl (cI, 497, .inl (nA (kS 0)))), (w1, .inr (5, [.int (nI m), .int (nI cu), .ref w1t, .ref w1r, .ref w1q, .int (nI bk), .ref w1d])), (w1t, .inr (6, [.int (nI tc), .ref w1v])), (w1v, .inl (cI, 32, .inl (nA V))), (w1r, .inr (4, [.int (nI rl), .int (nI rb), .int (nI rr), .int (nI ra)])), (w1q, .inr (3, [.int (nI pc), .ref w1p])), (w1p, .inl (cI, 40, .inl (nA P))), (w1d, .inr (1, [.int (nI c), .ref w1s])), (w1s, .inl (cI, 497, .inl (nA S))), (hw, .inr (5, [.int (nI m), .int (nI cu), .ref ht, .ref hr, .ref hq, .int (nI bk), .ref hd])), (ht, .inr (6, [.int (nI tc), .ref aV])), (aV, .inl (cI, 32, .inl (nA V))), (hr, .inr (4, [.int (nI rl), .int (nI rb), .int (nI rr), .int (nI ra)])), (hq, .inr (3, [.int (nI pc), .ref aP])), (aP, .inl (cI, 40, .inl (nA P))), (hd, .inr (1, [.int (nI c), .ref aS])), (aS, .inl (cI, 497, .inl (nA S)))] := hD
        refine lv_aload_n hex hby dX9_save_24 rfl (lv_at hl 0 rfl) ?_
        refine nv_get (v := .ref aU) CFx in_X9_save_X9 hK hP 0 rfl rfl 2 (by decide) (List.mem_of_getElem? (i := 3) rfl) f9_slotUsed dX9_save_25 ?_
        refine lv_iload_n hex hby dX9_save_28 rfl (lv_at hl 1 rfl) ?_
        refine lv_iconst (v := nI 1) hex hby dX9_save_29 rfl ?_
        refine nv_zast hex hby hK hP hD hS 2 1 rfl rfl (by omega) (by omega) (by omega) dX9_save_30 (fun H locs hP hD hS => ?_)
        have hP : va_P (dC, dI) vwCl [(h, .inr (9, f9)), (aW, .inl (cS, 2, .inr (.inr (.inr (.inr fW))))), (aU, .inl (cZ, 2, .inl (nA (upN ku 1 1)))), (w0, .inr (5, [.int (nI (km 0)), .int (nI (kcu 0)), .ref w0t, .ref w0r, .ref w0q, .int (nI (kbk 0)), .ref w0d])), (w0t, .inr (6, [.int (nI (ktc 0)), .ref w0v])), (w0v, .inl (cI, 32, .inl (nA (kV 0)))), (w0r, .inr (4, [.int (nI (krl 0)), .int (nI (krb 0)), .int (nI (krr 0)), .int (nI (kra 0))])), (w0q, .inr (3, [.int (nI (kpc 0)), .ref w0p])), (w0p, .inl (cI, 40, .inl (nA (kP 0)))), (w0d, .inr (1, [.int (nI (kc 0)), .ref w0s])), (w0s, .inl (cI, 497, .inl (nA (kS 0)))), (w1, .inr (5, [.int (nI m), .int (nI cu), .ref w1t, .ref w1r, .ref w1q, .int (nI bk), .ref w1d])), (w1t, .inr (6, [.int (nI tc), .ref w1v])), (w1v, .inl (cI, 32, .inl (nA V))), (w1r, .inr (4, [.int (nI rl), .int (nI rb), .int (nI rr), .int (nI ra)])), (w1q, .inr (3, [.int (nI pc), .ref w1p])), (w1p, .inl (cI, 40, .inl (nA P))), (w1d, .inr (1, [.int (nI c), .ref w1s])), (w1s, .inl (cI, 497, .inl (nA S))), (hw, .inr (5, [.int (nI m), .int (nI cu), .ref ht, .ref hr, .ref hq, .int (nI bk), .ref hd])), (ht, .inr (6, [.int (nI tc), .ref aV])), (aV, .inl (cI, 32, .inl (nA V))), (hr, .inr (4, [.int (nI rl), .int (nI rb), .int (nI rr), .int (nI ra)])), (hq, .inr (3, [.int (nI pc), .ref aP])), (aP, .inl (cI, 40, .inl (nA P))), (hd, .inr (1, [.int (nI c), .ref aS])), (aS, .inl (cI, 497, .inl (nA S)))] H := hP
        have hD : va_D A [(h, .inr (9, f9)), (aW, .inl (cS, 2, .inr (.inr (.inr (.inr fW))))), (aU, .inl (cZ, 2, .inl (nA (upN ku 1 1)))), (w0, .inr (5, [.int (nI (km 0)), .int (nI (kcu 0)), .ref w0t, .ref w0r, .ref w0q, .int (nI (kbk 0)), .ref w0d])), (w0t, .inr (6, [.int (nI (ktc 0)), .ref w0v])), (w0v, .inl (cI, 32, .inl (nA (kV 0)))), (w0r, .inr (4, [.int (nI (krl 0)), .int (nI (krb 0)), .int (nI (krr 0)), .int (nI (kra 0))])), (w0q, .inr (3, [.int (nI (kpc 0)), .ref w0p])), (w0p, .inl (cI, 40, .inl (nA (kP 0)))), (w0d, .inr (1, [.int (nI (kc 0)), .ref w0s])), (w0s, .inl (cI, 497, .inl (nA (kS 0)))), (w1, .inr (5, [.int (nI m), .int (nI cu), .ref w1t, .ref w1r, .ref w1q, .int (nI bk), .ref w1d])), (w1t, .inr (6, [.int (nI tc), .ref w1v])), (w1v, .inl (cI, 32, .inl (nA V))), (w1r, .inr (4, [.int (nI rl), .int (nI rb), .int (nI rr), .int (nI ra)])), (w1q, .inr (3, [.int (nI pc), .ref w1p])), (w1p, .inl (cI, 40, .inl (nA P))), (w1d, .inr (1, [.int (nI c), .ref w1s])), (w1s, .inl (cI, 497, .inl (nA S))), (hw, .inr (5, [.int (nI m), .int (nI cu), .ref ht, .ref hr, .ref hq, .int (nI bk), .ref hd])), (ht, .inr (6, [.int (nI tc), .ref aV])), (aV, .inl (cI, 32, .inl (nA V))), (hr, .inr (4, [.int (nI rl), .int (nI rb), .int (nI rr), .int (nI ra)])), (hq, .inr (3, [.int (nI pc), .ref aP])), (aP, .inl (cI, 40, .inl (nA P))), (hd, .inr (1, [.int (nI c), .ref aS])), (aS, .inl (cI, 497, .inl (nA S)))] := hD
        refine lv_aload_n hex hby dX9_save_31 rfl (lv_at hl 0 rfl) ?_
        refine nv_get (v := .ref hw) CFx in_X9_save_X9 hK hP 0 rfl rfl 0 (by decide) (List.mem_of_getElem? (i := 2) rfl) f9_now dX9_save_32 ?_
        refine nv_get (v := .ref hd) CFx in_X9_save_X5 hK hP 19 rfl rfl 6 (by decide) (List.mem_of_getElem? (i := 4) rfl) rfl dX9_save_35 ?_
        refine nv_get (v := .int (nI c)) CFx in_X9_save_X1 hK hP 25 rfl rfl 0 (by decide) (List.mem_of_getElem? (i := 5) rfl) rfl dX9_save_38 ?_
        exact hret _ (upN km 1 m, upN kcu 1 cu, upN ktc 1 tc, upN krl 1 rl, upN krb 1 rb, upN krr 1 rr, upN kra 1 ra, upN kpc 1 pc, upN kbk 1 bk, upN kc 1 c, upA kV 1 V, upA kP 1 P, upA kS 1 S, upN ku 1 1) _ _ _ _ _ (Or.inl ⟨rfl, _, rfl, rfl, dX9_save_41⟩) ⟨_, rfl, Or.inl ⟨rfl, (by omega), (by rw [hwt]), (by rw [hwt]), (by rw [hwt]), (by rw [hwt]), (by rw [hwt]), (by rw [hwt]), (by rw [hwt]), (by rw [hwt]), (by rw [hwt]), (by rw [hwt]), (by rw [hwt]), (by rw [hwt]), (by rw [hwt]), (by rw [hwt])⟩⟩ (hP.sub [0, 1, 2, 19, 20, 21, 22, 23, 24, 25, 26, 3, 4, 5, 6, 7, 8, 9, 10, 11, 12, 13, 14, 15, 16, 17, 18] rfl) (hD.sub [0, 1, 2, 19, 20, 21, 22, 23, 24, 25, 26, 3, 4, 5, 6, 7, 8, 9, 10, 11, 12, 13, 14, 15, 16, 17, 18] (by decide) rfl) hS
    · refine lv_iconst (v := zI (-1)) hex hby dX9_save_9 rfl ?_
      exact hret _ (km, kcu, ktc, krl, krb, krr, kra, kpc, kbk, kc, kV, kP, kS, ku) _ _ _ _ _ (Or.inl ⟨rfl, _, rfl, rfl, dX9_save_10⟩) ⟨_, rfl, Or.inr ⟨rfl, (by omega), rfl, rfl, rfl, rfl, rfl, rfl, rfl, rfl, rfl, rfl, rfl, rfl, rfl, rfl⟩⟩ hP hD hS
end CSR
