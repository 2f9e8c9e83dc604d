section BRK
variable {l : Launch} {dC : Nat → ClassId} {dI : Nat → Nat → Nat} {cI cZ cS : ClassId}
def dsN (a b : Nat) : Nat := (((a / 64 : Nat) : Int) - ((b / 64 : Nat) : Int)).natAbs + (((a % 64 : Nat) : Int) - ((b % 64 : Nat) : Int)).natAbs
noncomputable def brN (g : Nat → Nat) (n : Nat) : Nat := ctP (fun j => dsN (g j) (g (j + 1)) ≠ 1) n
theorem brN_yes {g : Nat → Nat} {n : Nat} (h : dsN (g n) (g (n + 1)) ≠ 1) : brN g (n + 1) = brN g n + 1 := ctP_yes (p := fun j => dsN (g j) (g (j + 1)) ≠ 1) h
theorem brN_no {g : Nat → Nat} {n : Nat} (h : dsN (g n) (g (n + 1)) = 1) : brN g (n + 1) = brN g n := ctP_no (p := fun j => dsN (g j) (g (j + 1)) ≠ 1) (fun q => q h)
theorem brN_le (g : Nat → Nat) (n : Nat) : brN g n ≤ n := ctP_le _ n
def hdf (ix : Nat → Nat) (x y : Nat) : Nat := (((ix (y * 64 + (x + 1)) : Nat) : Int) - ((ix (y * 64 + x) : Nat) : Int)).natAbs
def vdf (ix : Nat → Nat) (x y : Nat) : Nat := (((ix ((y + 1) * 64 + x) : Nat) : Int) - ((ix (y * 64 + x) : Nat) : Int)).natAbs
def StA (n : Nat) (ix : Nat → Nat) (r : Nat) : Prop := r = 0 ∨ (∃ x y, x + 1 < n ∧ y < n ∧ hdf ix x y = r) ∨ ∃ x y, x < n ∧ y + 1 < n ∧ vdf ix x y = r
/-- r is the greatest difference of the indices of two neighbours -/
def StrOK (n : Nat) (ix : Nat → Nat) (r : Nat) : Prop := (∀ x y, x + 1 < n → y < n → hdf ix x y ≤ r) ∧ (∀ x y, x < n → y + 1 < n → vdf ix x y ≤ r) ∧ StA n ix r
theorem StrOK.uniq {n : Nat} {ix ix' : Nat → Nat} {r r' : Nat} (hc : ∀ x y, x < n → y < n → ix (y * 64 + x) = ix' (y * 64 + x)) (h : StrOK n ix r) (h' : StrOK n ix' r') : r = r' := by
  have eh : ∀ x y, x + 1 < n → y < n → hdf ix x y = hdf ix' x y := fun x y h1 h2 => by unfold hdf; rw [hc (x + 1) y h1 h2, hc x y (by omega) h2]
  have ev : ∀ x y, x < n → y + 1 < n → vdf ix x y = vdf ix' x y := fun x y h1 h2 => by unfold vdf; rw [hc x (y + 1) h1 h2, hc x y h1 (by omega)]
  apply Nat.le_antisymm
  · rcases h.2.2 with e | ⟨x, y, h1, h2, e⟩ | ⟨x, y, h1, h2, e⟩
    · omega
    · rw [← e, eh x y h1 h2]; exact h'.1 x y h1 h2
    · rw [← e, ev x y h1 h2]; exact h'.2.1 x y h1 h2
  · rcases h'.2.2 with e | ⟨x, y, h1, h2, e⟩ | ⟨x, y, h1, h2, e⟩
    · omega
    · rw [← e, ← eh x y h1 h2]; exact h.1 x y h1 h2
    · rw [← e, ← ev x y h1 h2]; exact h.2.1 x y h1 h2
theorem StA.max {n : Nat} {ix : Nat → Nat} {r s : Nat} (h : StA n ix r) (h' : StA n ix s) : StA n ix (max r s) := by
  rcases Nat.le_total r s with q | q
  · rw [Nat.max_eq_right q]; exact h'
  · rw [Nat.max_eq_left q]; exact h
theorem hdf_lt {ix : Nat → Nat} (h : ∀ j, ix j < 4096) (x y : Nat) : hdf ix x y < 4096 := by
  have := h (y * 64 + (x + 1)); have := h (y * 64 + x); unfold hdf; omega
theorem vdf_lt {ix : Nat → Nat} (h : ∀ j, ix j < 4096) (x y : Nat) : vdf ix x y < 4096 := by
  have := h ((y + 1) * 64 + x); have := h (y * 64 + x); unfold vdf; omega
def plN (n a b w : Nat) : Nat := (min (min a b) (n - w) + 1) - (max a b + 1 - w)
theorem plN_comm (n a b w : Nat) : plN n a b w = plN n b a w := by unfold plN; rw [Nat.min_comm a b, Nat.max_comm a b]
theorem plN_le {n a b w : Nat} (hn : n ≤ 64) (hw : 1 ≤ w) : plN n a b w ≤ 64 := by unfold plN; omega
def clS (n : Nat) (g : Nat → Nat) (w h : Nat) : Nat → Int
  | 0 => 0
  | i + 1 => clS n g w h i + ((plN n (g i % 64) (g i % 64) w * plN n (g i / 64) (g i / 64) h : Nat) : Int) - (if i = 0 then 0 else ((plN n (g (i - 1) % 64) (g i % 64) w * plN n (g (i - 1) / 64) (g i / 64) h : Nat) : Int))
theorem nd_X2_countBreaks : ndV yX2_countBreaks RX2 0 := by decide +kernel
theorem in_X2_countBreaks_X2 : ∀ w ∈ wsX20, w ∈ wsX2_countBreaks := fun _ h => List.mem_cons_of_mem _ (List.mem_append_right _ (h))
set_option maxHeartbeats 4000000 in
set_option maxRecDepth 100000 in
theorem c_X2_countBreaks {h : Nat} {aC : Nat} {fs : List Value} {ce : Nat} {g : Nat → Nat} (fce : fs[1]? = some (.int (nI ce))) (faC : fs[2]? = some (.ref aC)) (hg : ∀ j, g j < 4096) (hce : ce ≤ 4096) (hce1 : 1 ≤ ce) : RO l yX2_countBreaks wsX2_countBreaks 1 40 (dC, dI) (tyK cI cZ cS) [(h, .inr (2, fs)), (aC, .inl (cI, 4096, .inl (nA g)))] [.ref h] (rI (fun r => r = nI (brN g (ce - 1)))) := by
  refine ro_of (by decide) rfl (Nat.le_of_ble_eq_true rfl) ?_
  intro pp ee ss mm bb mt cd Q CFx hP hK hret ls hl
  obtain ⟨hex, hby, hml, hown, hts⟩ := id CFx
  have hl : lv_has ls 3 [(0, .ref h)] := hl
  refine lv_iconst (v := nI 0) hex hby dX2_countBreaks_0 rfl ?_
  refine lv_istore_n (lv' := [(1, .int (nI 0)), (0, .ref h)]) hex hby dX2_countBreaks_1 rfl hl (by decide) rfl (fun ls hl => ?_)
  refine lv_iconst (v := nI 1) hex hby dX2_countBreaks_2 rfl ?_
  refine lv_istore_n (lv' := [(2, .int (nI 1)), (1, .int (nI 0)), (0, .ref h)]) hex hby dX2_countBreaks_3 rfl hl (by decide) rfl (fun ls hl => ?_)
  have loop4 : ∀ (nn : Nat) (f : Nat) (i : Nat), (ce - i) < nn → (1 ≤ i) → (i ≤ ce) → (f = brN g (i - 1)) → (f ≤ i) → ∀ ls : Array Slot, lv_has ls 3 [(2, .int (nI i)), (1, .int (nI f)), (0, .ref h)] → W pp l ee (rmO 1 40) ss mm ([.ref h] : List Value).toArray bb mt cd ss.heap [] 0 0 Q (F0 mm 4 ls []) := by
    intro nn
    induction nn with
    | zero => intro f i hms4; exact absurd hms4 (Nat.not_lt_zero _)
    | succ nn ih4 =>
      intro f i hms4 hi1 hi hf hfi ls hl
      refine lv_iload_n hex hby dX2_countBreaks_4 rfl (lv_at hl 0 rfl) ?_
      refine lv_aload_n hex hby dX2_countBreaks_5 rfl (lv_at hl 2 rfl) ?_
      refine nv_get (v := .int (nI ce)) CFx in_X2_countBreaks_X2 hK hP 0 rfl rfl 1 (by decide) (List.mem_of_getElem? (i := 1) rfl) fce dX2_countBreaks_6 ?_
      refine nv_icmp_ge (tgt := 58) hex hby dX2_countBreaks_9 (by decide) (by omega) (by omega) (fun c_1 => ?_) (fun c_1 => ?_)
      · have hei : i = ce := by omega
        refine lv_iload_n hex hby dX2_countBreaks_58 rfl (lv_at hl 1 rfl) ?_
        exact hret _ _ _ _ (Or.inl ⟨rfl, _, rfl, rfl, dX2_countBreaks_59⟩) ⟨_, rfl, (by rw [hf, hei])⟩
      · have hb1 := hg i
        have hb2 := hg (i - 1)
        refine lv_aload_n hex hby dX2_countBreaks_12 rfl (lv_at hl 2 rfl) ?_
        refine lv_iload_n hex hby dX2_countBreaks_13 rfl (lv_at hl 0 rfl) ?_
        refine ro_Vi (As := [.int (nI i)]) (rest := []) CFx (c_X2_xAt (h := h) (aC := aC) (fs := fs) (g := g) (i := i) faC hg (by omega)) 1 gX2_countBreaks_X2_xAt rfl nd_X2_xAt ⟨Nat.le_of_ble_eq_true rfl, Nat.le_of_ble_eq_true rfl⟩ hK hP [0, 1] rfl rfl rfl rfl hl.1 rfl (Nat.le_of_ble_eq_true rfl) dX2_countBreaks_14 ⟨Nat.le_refl _, Nat.le_refl _⟩ (fun r_2 hr_2 => ?_)
        obtain rfl := hr_2
        refine lv_aload_n hex hby dX2_countBreaks_17 rfl (lv_at hl 2 rfl) ?_
        refine lv_iload_n hex hby dX2_countBreaks_18 rfl (lv_at hl 0 rfl) ?_
        refine lv_iconst (v := nI 1) hex hby dX2_countBreaks_19 rfl ?_
        refine nv_isub hex hby dX2_countBreaks_20 (by omega) ?_
        refine ro_Vi (As := [.int (nI (i - 1))]) (rest := [.int (nI (g i % 64))]) CFx (c_X2_xAt (h := h) (aC := aC) (fs := fs) (g := g) (i := i - 1) faC hg (by omega)) 1 gX2_countBreaks_X2_xAt rfl nd_X2_xAt ⟨Nat.le_of_ble_eq_true rfl, Nat.le_of_ble_eq_true rfl⟩ hK hP [0, 1] rfl rfl rfl rfl hl.1 rfl (Nat.le_of_ble_eq_true rfl) dX2_countBreaks_21 ⟨Nat.le_refl _, Nat.le_refl _⟩ (fun r_3 hr_3 => ?_)
        obtain rfl := hr_3
        refine nz_isub (a := ((g i % 64 : Nat) : Int)) (b := ((g (i - 1) % 64 : Nat) : Int)) hex hby dX2_countBreaks_24 (ni_nz _) (ni_nz _) ?_
        refine va_mabs hex hby (hml.trans hl.1.symm) hown (hts _ (List.mem_of_getElem? (i := 2) rfl)) (hts _ (List.mem_of_getElem? (i := 3) rfl)) (hts _ (List.mem_of_getElem? (i := 4) rfl)) (hts _ (List.mem_of_getElem? (i := 5) rfl)) (Nat.le_of_ble_eq_true rfl) (Nat.le_of_ble_eq_true rfl) (Nat.le_refl _) (Nat.le_refl _) dX2_countBreaks_25 ?_
        refine nv_top (zI_abs (a := ((g i % 64 : Nat) : Int) - ((g (i - 1) % 64 : Nat) : Int)) (zI_toInt (by omega) (by omega)) (by omega)) ?_
        refine lv_aload_n hex hby dX2_countBreaks_28 rfl (lv_at hl 2 rfl) ?_
        refine lv_iload_n hex hby dX2_countBreaks_29 rfl (lv_at hl 0 rfl) ?_
        refine ro_Vi (As := [.int (nI i)]) (rest := [.int (nI ((((g i % 64 : Nat) : Int) - ((g (i - 1) % 64 : Nat) : Int)).natAbs))]) CFx (c_X2_yAt (h := h) (aC := aC) (fs := fs) (g := g) (i := i) faC hg (by omega)) 1 gX2_countBreaks_X2_yAt rfl nd_X2_yAt ⟨Nat.le_of_ble_eq_true rfl, Nat.le_of_ble_eq_true rfl⟩ hK hP [0, 1] rfl rfl rfl rfl hl.1 rfl (Nat.le_of_ble_eq_true rfl) dX2_countBreaks_30 ⟨Nat.le_refl _, Nat.le_refl _⟩ (fun r_4 hr_4 => ?_)
        obtain rfl := hr_4
        refine lv_aload_n hex hby dX2_countBreaks_33 rfl (lv_at hl 2 rfl) ?_
        refine lv_iload_n hex hby dX2_countBreaks_34 rfl (lv_at hl 0 rfl) ?_
        refine lv_iconst (v := nI 1) hex hby dX2_countBreaks_35 rfl ?_
        refine nv_isub hex hby dX2_countBreaks_36 (by omega) ?_
        refine ro_Vi (As := [.int (nI (i - 1))]) (rest := [.int (nI (g i / 64)), .int (nI ((((g i % 64 : Nat) : Int) - ((g (i - 1) % 64 : Nat) : Int)).natAbs))]) CFx (c_X2_yAt (h := h) (aC := aC) (fs := fs) (g := g) (i := i - 1) faC hg (by omega)) 1 gX2_countBreaks_X2_yAt rfl nd_X2_yAt ⟨Nat.le_of_ble_eq_true rfl, Nat.le_of_ble_eq_true rfl⟩ hK hP [0, 1] rfl rfl rfl rfl hl.1 rfl (Nat.le_of_ble_eq_true rfl) dX2_countBreaks_37 ⟨Nat.le_refl _, Nat.le_refl _⟩ (fun r_5 hr_5 => ?_)
        obtain rfl := hr_5
        refine nz_isub (a := ((g i / 64 : Nat) : Int)) (b := ((g (i - 1) / 64 : Nat) : Int)) hex hby dX2_countBreaks_40 (ni_nz _) (ni_nz _) ?_
        refine va_mabs hex hby (hml.trans hl.1.symm) hown (hts _ (List.mem_of_getElem? (i := 2) rfl)) (hts _ (List.mem_of_getElem? (i := 3) rfl)) (hts _ (List.mem_of_getElem? (i := 4) rfl)) (hts _ (List.mem_of_getElem? (i := 5) rfl)) (Nat.le_of_ble_eq_true rfl) (Nat.le_of_ble_eq_true rfl) (Nat.le_refl _) (Nat.le_refl _) dX2_countBreaks_41 ?_
        refine nv_top (zI_abs (a := ((g i / 64 : Nat) : Int) - ((g (i - 1) / 64 : Nat) : Int)) (zI_toInt (by omega) (by omega)) (by omega)) ?_
        refine nv_iadd hex hby dX2_countBreaks_44 ?_
        refine lv_iconst (v := nI 1) hex hby dX2_countBreaks_45 rfl ?_
        refine nv_icmp_eq (tgt := 52) hex hby dX2_countBreaks_46 (by decide) (by omega) (by omega) (fun c_6 => ?_) (fun c_6 => ?_)
        · have hcnd := c_6
          refine lv_iinc (v := nI (i + 1)) (lv' := [(2, .int (nI (i + 1))), (1, .int (nI f)), (0, .ref h)]) hex hby dX2_countBreaks_52 hl (k := 0) rfl (ni_inc _) (by decide) rfl (fun ls hl => ?_)
          refine lv_goto (tgt := 4) hex hby dX2_countBreaks_55 (by decide) ?_
          have pf_7 : f = brN g ((i + 1) - 1) := by
            have q := brN_no (g := g) (n := i - 1) (by rw [show i - 1 + 1 = i by omega]; unfold dsN; omega)
            rw [show i - 1 + 1 = i by omega] at q
            rw [show i + 1 - 1 = i by omega, q]; exact hf
          exact ih4 f (i + 1) (by omega) (by omega) (by omega) pf_7 (by omega) _ (lv_sub hl [0, 1, 2] rfl)
        · have hcnd := c_6
          refine lv_iinc (v := nI (f + 1)) (lv' := [(1, .int (nI (f + 1))), (2, .int (nI i)), (0, .ref h)]) hex hby dX2_countBreaks_49 hl (k := 1) rfl (ni_inc _) (by decide) rfl (fun ls hl => ?_)
          refine lv_iinc (v := nI (i + 1)) (lv' := [(2, .int (nI (i + 1))), (1, .int (nI (f + 1))), (0, .ref h)]) hex hby dX2_countBreaks_52 hl (k := 1) rfl (ni_inc _) (by decide) rfl (fun ls hl => ?_)
          refine lv_goto (tgt := 4) hex hby dX2_countBreaks_55 (by decide) ?_
          have pf_8 : (f + 1) = brN g ((i + 1) - 1) := by
            have q := brN_yes (g := g) (n := i - 1) (by rw [show i - 1 + 1 = i by omega]; unfold dsN; omega)
            rw [show i - 1 + 1 = i by omega] at q
            rw [show i + 1 - 1 = i by omega, q, hf]
          exact ih4 (f + 1) (i + 1) (by omega) (by omega) (by omega) pf_8 (by omega) _ (lv_sub hl [0, 1, 2] rfl)
  exact loop4 _ 0 1 (Nat.lt_succ_self _) (by omega) (by omega) rfl (by omega) _ (lv_sub hl [0, 1, 2] rfl)
theorem nd_X10_breaksNow : ndV yX10_breaksNow RX10 0 := by decide +kernel
theorem in_X10_breaksNow_X10 : ∀ w ∈ wsX100, w ∈ wsX10_breaksNow := fun _ h => List.mem_cons_of_mem _ (List.mem_append_right _ (h))
set_option maxHeartbeats 4000000 in
set_option maxRecDepth 100000 in
theorem c_X10_breaksNow {h : Nat} {aC : Nat} {fs : List Value} {m : Nat} {g : Nat → Nat} (f_m : fs[0]? = some (.int (nI m))) (f_cellOf : fs[22]? = some (.ref aC)) (hg : ∀ j, g j < 4096) (hm6 : m ≤ 6) : RO l yX10_breaksNow wsX10_breaksNow 2 41 (dC, dI) (tyK cI cZ cS) [(h, .inr (10, fs)), (aC, .inl (cI, 4096, .inl (nA g)))] [.ref h] (rI (fun r => r = nI (brN g (4 ^ m - 1)))) := by
  refine ro_of (by decide) rfl (Nat.le_of_ble_eq_true rfl) ?_
  intro pp ee ss mm bb mt cd Q CFx hP hK hret ls hl
  obtain ⟨hex, hby, hml, hown, hts⟩ := id CFx
  have hl : lv_has ls 3 [(0, .ref h)] := hl
  have h46 := p4_6 hm6
  have h4p := p4_pos m
  refine lv_iconst (v := nI 0) hex hby dX10_breaksNow_0 rfl ?_
  refine lv_istore_n (lv' := [(1, .int (nI 0)), (0, .ref h)]) hex hby dX10_breaksNow_1 rfl hl (by decide) rfl (fun ls hl => ?_)
  refine lv_iconst (v := nI 0) hex hby dX10_breaksNow_2 rfl ?_
  refine lv_istore_n (lv' := [(2, .int (nI 0)), (1, .int (nI 0)), (0, .ref h)]) hex hby dX10_breaksNow_3 rfl hl (by decide) rfl (fun ls hl => ?_)
  have loop4 : ∀ (nn : Nat) (f : Nat) (i : Nat), (4 ^ m - i) < nn → (i + 1 ≤ 4 ^ m) → (f = brN g i) → (f ≤ i) → ∀ ls : Array Slot, lv_has ls 3 [(2, .int (nI i)), (1, .int (nI f)), (0, .ref h)] → W pp l ee (rmO 2 41) ss mm ([.ref h] : List Value).toArray bb mt cd ss.heap [] 0 0 Q (F0 mm 4 ls []) := by
    intro nn
    induction nn with
    | zero => intro f i hms4; exact absurd hms4 (Nat.not_lt_zero _)
    | succ nn ih4 =>
      intro f i hms4 hi hf hfi ls hl
      refine lv_iload_n hex hby dX10_breaksNow_4 rfl (lv_at hl 0 rfl) ?_
      refine lv_iconst (v := nI 1) hex hby dX10_breaksNow_5 rfl ?_
      refine nv_iadd hex hby dX10_breaksNow_6 ?_
      refine lv_aload_n hex hby dX10_breaksNow_7 rfl (lv_at hl 2 rfl) ?_
      refine ro_Vi (As := []) (rest := [.int (nI (i + 1))]) CFx (c_X10_all (h := h) (fs := fs) (m := m) f_m hm6) 0 gX10_breaksNow_X10_all rfl nd_X10_all ⟨Nat.le_of_ble_eq_true rfl, Nat.le_of_ble_eq_true rfl⟩ hK hP [0] rfl rfl rfl rfl hl.1 rfl (Nat.le_of_ble_eq_true rfl) dX10_breaksNow_8 ⟨Nat.le_refl _, Nat.le_refl _⟩ (fun r_1 hr_1 => ?_)
      obtain rfl := hr_1
      refine nv_icmp_ge (tgt := 49) hex hby dX10_breaksNow_11 (by decide) (by omega) (by omega) (fun c_2 => ?_) (fun c_2 => ?_)
      · have hei : i = 4 ^ m - 1 := by omega
        refine lv_iload_n hex hby dX10_breaksNow_49 rfl (lv_at hl 1 rfl) ?_
        exact hret _ _ _ _ (Or.inl ⟨rfl, _, rfl, rfl, dX10_breaksNow_50⟩) ⟨_, rfl, (by rw [hf, hei])⟩
      · refine lv_iload_n hex hby dX10_breaksNow_14 rfl (lv_at hl 1 rfl) ?_
        refine lv_aload_n hex hby dX10_breaksNow_15 rfl (lv_at hl 2 rfl) ?_
        refine nv_get (v := .ref aC) CFx in_X10_breaksNow_X10 hK hP 0 rfl rfl 22 (by decide) (List.mem_of_getElem? (i := 1) rfl) f_cellOf dX10_breaksNow_16 ?_
        refine lv_iload_n hex hby dX10_breaksNow_19 rfl (lv_at hl 0 rfl) ?_
        refine nv_iald hex hby hK hP 1 0 rfl rfl (by omega) (by omega) dX10_breaksNow_20 ?_
        have hb_3 := hg i
        refine lv_aload_n hex hby dX10_breaksNow_21 rfl (lv_at hl 2 rfl) ?_
        refine nv_get (v := .ref aC) CFx in_X10_breaksNow_X10 hK hP 0 rfl rfl 22 (by decide) (List.mem_of_getElem? (i := 1) rfl) f_cellOf dX10_breaksNow_22 ?_
        refine lv_iload_n hex hby dX10_breaksNow_25 rfl (lv_at hl 0 rfl) ?_
        refine lv_iconst (v := nI 1) hex hby dX10_breaksNow_26 rfl ?_
        refine nv_iadd hex hby dX10_breaksNow_27 ?_
        refine nv_iald hex hby hK hP 1 0 rfl rfl (by omega) (by omega) dX10_breaksNow_28 ?_
        have hb_4 := hg (i + 1)
        refine ro_Si (As := [.int (nI (g i)), .int (nI (g (i + 1)))]) (rest := [.int (nI f)]) (C := RX10) CFx (c_X10_far (a := g i) (b := g (i + 1)) (by omega) (by omega)) 2 gX10_breaksNow_X10_far rfl nd_X10_far ⟨Nat.le_of_ble_eq_true rfl, Nat.le_of_ble_eq_true rfl⟩ hK hP [] rfl rfl hl.1 rfl (Nat.le_of_ble_eq_true rfl) dX10_breaksNow_29 ⟨Nat.le_refl _, Nat.le_refl _⟩ (fun r_5 hr_5 => ?_)
        obtain rfl := hr_5
        have hdf : dsN (g i) (g (i + 1)) < 2147483648 := by unfold dsN; omega
        refine lv_iconst (v := nI 1) hex hby dX10_breaksNow_32 rfl ?_
        refine nv_icmp_ne (tgt := 40) hex hby dX10_breaksNow_33 (by decide) (by omega) (by omega) (fun c_6 => ?_) (fun c_6 => ?_)
        · have hcnd := c_6
          refine lv_iconst (v := nI 1) hex hby dX10_breaksNow_40 rfl ?_
          refine nv_iadd hex hby dX10_breaksNow_41 ?_
          refine lv_istore_n (lv' := [(1, .int (nI (f + 1))), (2, .int (nI i)), (0, .ref h)]) hex hby dX10_breaksNow_42 rfl hl (by decide) rfl (fun ls hl => ?_)
          refine lv_iinc (v := nI (i + 1)) (lv' := [(2, .int (nI (i + 1))), (1, .int (nI (f + 1))), (0, .ref h)]) hex hby dX10_breaksNow_43 hl (k := 1) rfl (ni_inc _) (by decide) rfl (fun ls hl => ?_)
          refine lv_goto (tgt := 4) hex hby dX10_breaksNow_46 (by decide) ?_
          exact ih4 (f + 1) (i + 1) (by omega) (by omega) (by rw [brN_yes hcnd, hf]) (by omega) _ (lv_sub hl [0, 1, 2] rfl)
        · have hcnd := c_6
          refine lv_iconst (v := nI 0) hex hby dX10_breaksNow_36 rfl ?_
          refine lv_goto (tgt := 41) hex hby dX10_breaksNow_37 (by decide) ?_
          refine nv_iadd hex hby dX10_breaksNow_41 ?_
          refine lv_istore_n (lv' := [(1, .int (nI (f + 0))), (2, .int (nI i)), (0, .ref h)]) hex hby dX10_breaksNow_42 rfl hl (by decide) rfl (fun ls hl => ?_)
          refine lv_iinc (v := nI (i + 1)) (lv' := [(2, .int (nI (i + 1))), (1, .int (nI (f + 0))), (0, .ref h)]) hex hby dX10_breaksNow_43 hl (k := 1) rfl (ni_inc _) (by decide) rfl (fun ls hl => ?_)
          refine lv_goto (tgt := 4) hex hby dX10_breaksNow_46 (by decide) ?_
          exact ih4 (f + 0) (i + 1) (by omega) (by omega) (by rw [brN_no hcnd]; exact hf) (by omega) _ (lv_sub hl [0, 1, 2] rfl)
  exact loop4 _ 0 0 (Nat.lt_succ_self _) (by omega) rfl (by omega) _ (lv_sub hl [0, 1, 2] rfl)
theorem nd_X2_greatestDifference : ndV yX2_greatestDifference RX2 0 := by decide +kernel
theorem in_X2_greatestDifference_X2 : ∀ w ∈ wsX20, w ∈ wsX2_greatestDifference := fun _ h => List.mem_cons_of_mem _ (List.mem_append_right _ (h))
set_option maxHeartbeats 4000000 in
set_option maxRecDepth 100000 in
theorem c_X2_greatestDifference {h : Nat} {aI : Nat} {fs : List Value} {sd : Nat} {ix : Nat → Nat} (fsd : fs[0]? = some (.int (nI sd))) (faI : fs[3]? = some (.ref aI)) (hix : ∀ j, ix j < 4096) (hsd : sd ≤ 64) (hsd1 : 1 ≤ sd) : RO l yX2_greatestDifference wsX2_greatestDifference 1 40 (dC, dI) (tyK cI cZ cS) [(h, .inr (2, fs)), (aI, .inl (cI, 4096, .inl (nA ix)))] [.ref h] (rI (fun r => ∃ r_ : Nat, r = nI r_ ∧ StrOK sd ix r_)) := by
  refine ro_of (by decide) rfl (Nat.le_of_ble_eq_true rfl) ?_
  intro pp ee ss mm bb mt cd Q CFx hP hK hret ls hl
  obtain ⟨hex, hby, hml, hown, hts⟩ := id CFx
  have hl : lv_has ls 6 [(0, .ref h)] := hl
  refine lv_iconst (v := nI 0) hex hby dX2_greatestDifference_0 rfl ?_
  refine lv_istore_n (lv' := [(1, .int (nI 0)), (0, .ref h)]) hex hby dX2_greatestDifference_1 rfl hl (by decide) rfl (fun ls hl => ?_)
  refine lv_iconst (v := nI 0) hex hby dX2_greatestDifference_2 rfl ?_
  refine lv_istore_n (lv' := [(2, .int (nI 0)), (1, .int (nI 0)), (0, .ref h)]) hex hby dX2_greatestDifference_3 rfl hl (by decide) rfl (fun ls hl => ?_)
  have loop4 : ∀ (nn : Nat) (gr : Nat) (ne : Nat), (sd - ne) < nn → (ne + 1 ≤ sd) → (gr < 4096) → (StA sd ix gr) → (∀ x y, x < ne → y < sd → hdf ix x y ≤ gr) → (∀ x y, x < sd → y < ne → vdf ix x y ≤ gr) → ∀ ls : Array Slot, lv_has ls 6 [(2, .int (nI ne)), (1, .int (nI gr)), (0, .ref h)] → W pp l ee (rmO 1 40) ss mm ([.ref h] : List Value).toArray bb mt cd ss.heap [] 0 0 Q (F0 mm 4 ls []) := by
    intro nn
    induction nn with
    | zero => intro gr ne hms4; exact absurd hms4 (Nat.not_lt_zero _)
    | succ nn ih4 =>
      intro gr ne hms4 hne hgr hA hh hv ls hl
      refine lv_iload_n hex hby dX2_greatestDifference_4 rfl (lv_at hl 0 rfl) ?_
      refine lv_iconst (v := nI 1) hex hby dX2_greatestDifference_5 rfl ?_
      refine nv_iadd hex hby dX2_greatestDifference_6 ?_
      refine lv_aload_n hex hby dX2_greatestDifference_7 rfl (lv_at hl 2 rfl) ?_
      refine nv_get (v := .int (nI sd)) CFx in_X2_greatestDifference_X2 hK hP 0 rfl rfl 0 (by decide) (List.mem_of_getElem? (i := 1) rfl) fsd dX2_greatestDifference_8 ?_
      refine nv_icmp_ge (tgt := 88) hex hby dX2_greatestDifference_11 (by decide) (by omega) (by omega) (fun c_1 => ?_) (fun c_1 => ?_)
      · refine lv_iload_n hex hby dX2_greatestDifference_88 rfl (lv_at hl 1 rfl) ?_
        exact hret _ _ _ _ (Or.inl ⟨rfl, _, rfl, rfl, dX2_greatestDifference_89⟩) ⟨_, rfl, ⟨gr, rfl, ⟨fun x y h1 h2 => hh x y (by omega) h2, fun x y h1 h2 => hv x y h1 (by omega), hA⟩⟩⟩
      · refine lv_iconst (v := nI 0) hex hby dX2_greatestDifference_14 rfl ?_
        refine lv_istore_n (lv' := [(3, .int (nI 0)), (2, .int (nI ne)), (1, .int (nI gr)), (0, .ref h)]) hex hby dX2_greatestDifference_15 rfl hl (by decide) rfl (fun ls hl => ?_)
        have loop16 : ∀ (nn : Nat) (g2 : Nat) (al : Nat), (sd - al) < nn → (al ≤ sd) → (g2 < 4096) → (StA sd ix g2) → (∀ x y, x < ne → y < sd → hdf ix x y ≤ g2) → (∀ x y, x < sd → y < ne → vdf ix x y ≤ g2) → (∀ y, y < al → hdf ix ne y ≤ g2) → (∀ x, x < al → vdf ix x ne ≤ g2) → ∀ ls : Array Slot, lv_has ls 6 [(3, .int (nI al)), (2, .int (nI ne)), (1, .int (nI g2)), (0, .ref h)] → W pp l ee (rmO 1 40) ss mm ([.ref h] : List Value).toArray bb mt cd ss.heap [] 0 0 Q (F0 mm 16 ls []) := by
          intro nn
          induction nn with
          | zero => intro g2 al hms16; exact absurd hms16 (Nat.not_lt_zero _)
          | succ nn ih16 =>
            intro g2 al hms16 hal hg2 hA2 hh2 hv2 hhr hvr ls hl
            refine lv_iload_n hex hby dX2_greatestDifference_16 rfl (lv_at hl 0 rfl) ?_
            refine lv_aload_n hex hby dX2_greatestDifference_17 rfl (lv_at hl 3 rfl) ?_
            refine nv_get (v := .int (nI sd)) CFx in_X2_greatestDifference_X2 hK hP 0 rfl rfl 0 (by decide) (List.mem_of_getElem? (i := 1) rfl) fsd dX2_greatestDifference_18 ?_
            refine nv_icmp_ge (tgt := 82) hex hby dX2_greatestDifference_21 (by decide) (by omega) (by omega) (fun c_2 => ?_) (fun c_2 => ?_)
            · refine lv_iinc (v := nI (ne + 1)) (lv' := [(2, .int (nI (ne + 1))), (3, .int (nI al)), (1, .int (nI g2)), (0, .ref h)]) hex hby dX2_greatestDifference_82 hl (k := 1) rfl (ni_inc _) (by decide) rfl (fun ls hl => ?_)
              refine lv_goto (tgt := 4) hex hby dX2_greatestDifference_85 (by decide) ?_
              have pf_3 : ∀ x y, x < (ne + 1) → y < sd → hdf ix x y ≤ g2 := by
                intro x y h1 h2
                rcases Nat.lt_or_ge x ne with q | q
                · exact hh2 x y q h2
                · rw [show x = ne by omega]; exact hhr y (by omega)
              have pf_4 : ∀ x y, x < sd → y < (ne + 1) → vdf ix x y ≤ g2 := by
                intro x y h1 h2
                rcases Nat.lt_or_ge y ne with q | q
                · exact hv2 x y h1 q
                · rw [show y = ne by omega]; exact hvr x (by omega)
              exact ih4 g2 (ne + 1) (by omega) (by omega) (by omega) hA2 pf_3 pf_4 _ (lv_sub hl [0, 2, 3] rfl)
            · have hb1 := hix (al * 64 + (ne + 1))
              have hb2 := hix (al * 64 + ne)
              have hb3 := hix ((ne + 1) * 64 + al)
              have hb4 := hix (ne * 64 + al)
              refine lv_aload_n hex hby dX2_greatestDifference_24 rfl (lv_at hl 3 rfl) ?_
              refine lv_iload_n hex hby dX2_greatestDifference_25 rfl (lv_at hl 1 rfl) ?_
              refine lv_iconst (v := nI 1) hex hby dX2_greatestDifference_26 rfl ?_
              refine nv_iadd hex hby dX2_greatestDifference_27 ?_
              refine lv_iload_n hex hby dX2_greatestDifference_28 rfl (lv_at hl 0 rfl) ?_
              refine ro_Vi (As := [.int (nI (ne + 1)), .int (nI al)]) (rest := []) CFx (c_X2_indexOf (h := h) (aI := aI) (fs := fs) (ix := ix) (x := ne + 1) (y := al) faI hix (by omega) (by omega)) 2 gX2_greatestDifference_X2_indexOf rfl nd_X2_indexOf ⟨Nat.le_of_ble_eq_true rfl, Nat.le_of_ble_eq_true rfl⟩ hK hP [0, 1] rfl rfl rfl rfl hl.1 rfl (Nat.le_of_ble_eq_true rfl) dX2_greatestDifference_29 ⟨Nat.le_refl _, Nat.le_refl _⟩ (fun r_5 hr_5 => ?_)
              obtain rfl := hr_5
              refine lv_aload_n hex hby dX2_greatestDifference_32 rfl (lv_at hl 3 rfl) ?_
              refine lv_iload_n hex hby dX2_greatestDifference_33 rfl (lv_at hl 1 rfl) ?_
              refine lv_iload_n hex hby dX2_greatestDifference_34 rfl (lv_at hl 0 rfl) ?_
              refine ro_Vi (As := [.int (nI ne), .int (nI al)]) (rest := [.int (nI (ix (al * 64 + (ne + 1))))]) CFx (c_X2_indexOf (h := h) (aI := aI) (fs := fs) (ix := ix) (x := ne) (y := al) faI hix (by omega) (by omega)) 2 gX2_greatestDifference_X2_indexOf rfl nd_X2_indexOf ⟨Nat.le_of_ble_eq_true rfl, Nat.le_of_ble_eq_true rfl⟩ hK hP [0, 1] rfl rfl rfl rfl hl.1 rfl (Nat.le_of_ble_eq_true rfl) dX2_greatestDifference_35 ⟨Nat.le_refl _, Nat.le_refl _⟩ (fun r_6 hr_6 => ?_)
              obtain rfl := hr_6
              refine nz_isub (a := ((ix (al * 64 + (ne + 1)) : Nat) : Int)) (b := ((ix (al * 64 + ne) : Nat) : Int)) hex hby dX2_greatestDifference_38 (ni_nz _) (ni_nz _) ?_
              refine va_mabs hex hby (hml.trans hl.1.symm) hown (hts _ (List.mem_of_getElem? (i := 2) rfl)) (hts _ (List.mem_of_getElem? (i := 3) rfl)) (hts _ (List.mem_of_getElem? (i := 4) rfl)) (hts _ (List.mem_of_getElem? (i := 5) rfl)) (Nat.le_of_ble_eq_true rfl) (Nat.le_of_ble_eq_true rfl) (Nat.le_refl _) (Nat.le_refl _) dX2_greatestDifference_39 ?_
              refine nv_top (zI_abs (a := ((ix (al * 64 + (ne + 1)) : Nat) : Int) - ((ix (al * 64 + ne) : Nat) : Int)) (zI_toInt (by omega) (by omega)) (by omega)) ?_
              refine nv_top (y := nI (hdf ix ne al)) rfl ?_
              refine lv_istore (lv' := [(4, .int (nI (hdf ix ne al))), (3, .int (nI al)), (2, .int (nI ne)), (1, .int (nI g2)), (0, .ref h)]) hex hby dX2_greatestDifference_42 hl (by decide) rfl (fun ls hl => ?_)
              refine lv_aload_n hex hby dX2_greatestDifference_44 rfl (lv_at hl 4 rfl) ?_
              refine lv_iload_n hex hby dX2_greatestDifference_45 rfl (lv_at hl 1 rfl) ?_
              refine lv_iload_n hex hby dX2_greatestDifference_46 rfl (lv_at hl 2 rfl) ?_
              refine lv_iconst (v := nI 1) hex hby dX2_greatestDifference_47 rfl ?_
              refine nv_iadd hex hby dX2_greatestDifference_48 ?_
              refine ro_Vi (As := [.int (nI al), .int (nI (ne + 1))]) (rest := []) CFx (c_X2_indexOf (h := h) (aI := aI) (fs := fs) (ix := ix) (x := al) (y := ne + 1) faI hix (by omega) (by omega)) 2 gX2_greatestDifference_X2_indexOf rfl nd_X2_indexOf ⟨Nat.le_of_ble_eq_true rfl, Nat.le_of_ble_eq_true rfl⟩ hK hP [0, 1] rfl rfl rfl rfl hl.1 rfl (Nat.le_of_ble_eq_true rfl) dX2_greatestDifference_49 ⟨Nat.le_refl _, Nat.le_refl _⟩ (fun r_7 hr_7 => ?_)
              obtain rfl := hr_7
              refine lv_aload_n hex hby dX2_greatestDifference_52 rfl (lv_at hl 4 rfl) ?_
              refine lv_iload_n hex hby dX2_greatestDifference_53 rfl (lv_at hl 1 rfl) ?_
              refine lv_iload_n hex hby dX2_greatestDifference_54 rfl (lv_at hl 2 rfl) ?_
              refine ro_Vi (As := [.int (nI al), .int (nI ne)]) (rest := [.int (nI (ix ((ne + 1) * 64 + al)))]) CFx (c_X2_indexOf (h := h) (aI := aI) (fs := fs) (ix := ix) (x := al) (y := ne) faI hix (by omega) (by omega)) 2 gX2_greatestDifference_X2_indexOf rfl nd_X2_indexOf ⟨Nat.le_of_ble_eq_true rfl, Nat.le_of_ble_eq_true rfl⟩ hK hP [0, 1] rfl rfl rfl rfl hl.1 rfl (Nat.le_of_ble_eq_true rfl) dX2_greatestDifference_55 ⟨Nat.le_refl _, Nat.le_refl _⟩ (fun r_8 hr_8 => ?_)
              obtain rfl := hr_8
              refine nz_isub (a := ((ix ((ne + 1) * 64 + al) : Nat) : Int)) (b := ((ix (ne * 64 + al) : Nat) : Int)) hex hby dX2_greatestDifference_58 (ni_nz _) (ni_nz _) ?_
              refine va_mabs hex hby (hml.trans hl.1.symm) hown (hts _ (List.mem_of_getElem? (i := 2) rfl)) (hts _ (List.mem_of_getElem? (i := 3) rfl)) (hts _ (List.mem_of_getElem? (i := 4) rfl)) (hts _ (List.mem_of_getElem? (i := 5) rfl)) (Nat.le_of_ble_eq_true rfl) (Nat.le_of_ble_eq_true rfl) (Nat.le_refl _) (Nat.le_refl _) dX2_greatestDifference_59 ?_
              refine nv_top (zI_abs (a := ((ix ((ne + 1) * 64 + al) : Nat) : Int) - ((ix (ne * 64 + al) : Nat) : Int)) (zI_toInt (by omega) (by omega)) (by omega)) ?_
              refine nv_top (y := nI (vdf ix al ne)) rfl ?_
              have hl1 := hdf_lt hix ne al
              have hl2 := vdf_lt hix al ne
              refine lv_istore (lv' := [(5, .int (nI (vdf ix al ne))), (4, .int (nI (hdf ix ne al))), (3, .int (nI al)), (2, .int (nI ne)), (1, .int (nI g2)), (0, .ref h)]) hex hby dX2_greatestDifference_62 hl (by decide) rfl (fun ls hl => ?_)
              refine lv_iload_n hex hby dX2_greatestDifference_64 rfl (lv_at hl 4 rfl) ?_
              refine lv_iload hex hby dX2_greatestDifference_65 (lv_at hl 1 rfl) ?_
              refine lv_iload hex hby dX2_greatestDifference_67 (lv_at hl 0 rfl) ?_
              refine va_mmax hex hby (hml.trans hl.1.symm) hown (hts _ (List.mem_of_getElem? (i := 6) rfl)) (hts _ (List.mem_of_getElem? (i := 7) rfl)) (hts _ (List.mem_of_getElem? (i := 4) rfl)) (hts _ (List.mem_of_getElem? (i := 8) rfl)) (Nat.le_of_ble_eq_true rfl) (Nat.le_of_ble_eq_true rfl) (Nat.le_refl _) (Nat.le_refl _) dX2_greatestDifference_69 ?_
              refine nv_top (nI_max (by omega) (by omega)) ?_
              refine va_mmax hex hby (hml.trans hl.1.symm) hown (hts _ (List.mem_of_getElem? (i := 6) rfl)) (hts _ (List.mem_of_getElem? (i := 7) rfl)) (hts _ (List.mem_of_getElem? (i := 4) rfl)) (hts _ (List.mem_of_getElem? (i := 8) rfl)) (Nat.le_of_ble_eq_true rfl) (Nat.le_of_ble_eq_true rfl) (Nat.le_refl _) (Nat.le_refl _) dX2_greatestDifference_72 ?_
              refine nv_top (nI_max (by omega) (by omega)) ?_
              refine lv_istore_n (lv' := [(1, .int (nI (max g2 (max (hdf ix ne al) (vdf ix al ne))))), (5, .int (nI (vdf ix al ne))), (4, .int (nI (hdf ix ne al))), (3, .int (nI al)), (2, .int (nI ne)), (0, .ref h)]) hex hby dX2_greatestDifference_75 rfl hl (by decide) rfl (fun ls hl => ?_)
              refine lv_iinc (v := nI (al + 1)) (lv' := [(3, .int (nI (al + 1))), (1, .int (nI (max g2 (max (hdf ix ne al) (vdf ix al ne))))), (5, .int (nI (vdf ix al ne))), (4, .int (nI (hdf ix ne al))), (2, .int (nI ne)), (0, .ref h)]) hex hby dX2_greatestDifference_76 hl (k := 3) rfl (ni_inc _) (by decide) rfl (fun ls hl => ?_)
              refine lv_goto (tgt := 16) hex hby dX2_greatestDifference_79 (by decide) ?_
              have pf_9 : ∀ x y, x < ne → y < sd → hdf ix x y ≤ (max g2 (max (hdf ix ne al) (vdf ix al ne))) := by
                intro x y h1 h2
                have := hh2 x y h1 h2
                omega
              have pf_10 : ∀ x y, x < sd → y < ne → vdf ix x y ≤ (max g2 (max (hdf ix ne al) (vdf ix al ne))) := by
                intro x y h1 h2
                have := hv2 x y h1 h2
                omega
              have pf_11 : ∀ y, y < (al + 1) → hdf ix ne y ≤ (max g2 (max (hdf ix ne al) (vdf ix al ne))) := by
                intro y h
                rcases Nat.lt_or_ge y al with q | q
                · have := hhr y q; omega
                · rw [show y = al by omega]; omega
              have pf_12 : ∀ x, x < (al + 1) → vdf ix x ne ≤ (max g2 (max (hdf ix ne al) (vdf ix al ne))) := by
                intro x h
                rcases Nat.lt_or_ge x al with q | q
                · have := hvr x q; omega
                · rw [show x = al by omega]; omega
              exact ih16 (max g2 (max (hdf ix ne al) (vdf ix al ne))) (al + 1) (by omega) (by omega) (by omega) (hA2.max (StA.max (Or.inr (Or.inl ⟨ne, al, by omega, by omega, rfl⟩)) (Or.inr (Or.inr ⟨al, ne, by omega, by omega, rfl⟩)))) pf_9 pf_10 pf_11 pf_12 _ (lv_sub hl [0, 4, 1, 5] rfl)
        exact loop16 _ gr 0 (Nat.lt_succ_self _) (by omega) (by omega) hA hh hv (fun y h => absurd h (by omega)) (fun y h => absurd h (by omega)) _ (lv_sub hl [0, 1, 2, 3] rfl)
  exact loop4 _ 0 0 (Nat.lt_succ_self _) (by omega) (by omega) (Or.inl rfl) (fun x y h => absurd h (by omega)) (fun x y _ h => absurd h (by omega)) _ (lv_sub hl [0, 1, 2] rfl)
theorem nd_X10_stretchNow : ndV yX10_stretchNow RX10 0 := by decide +kernel
theorem in_X10_stretchNow_X10 : ∀ w ∈ wsX100, w ∈ wsX10_stretchNow := fun _ h => List.mem_cons_of_mem _ (List.mem_append_right _ (h))
set_option maxHeartbeats 4000000 in
set_option maxRecDepth 100000 in
theorem c_X10_stretchNow {h : Nat} {aC : Nat} {aI : Nat} {fs : List Value} {m : Nat} {g : Nat → Nat} {ix : Nat → Nat} {T : Nat → Nat} {ns : Nat} (f_m : fs[0]? = some (.int (nI m))) (f_indexOf : fs[21]? = some (.ref aI)) (f_cellOf : fs[22]? = some (.ref aC)) (hg : ∀ j, g j < 4096) (hix : ∀ j, ix j < 4096) (hm6 : m ≤ 6) (hV : VT T ns) (hN : NumOK T m g ix) : RO l yX10_stretchNow wsX10_stretchNow 1 20 (dC, dI) (tyK cI cZ cS) [(h, .inr (10, fs)), (aC, .inl (cI, 4096, .inl (nA g))), (aI, .inl (cI, 4096, .inl (nA ix)))] [.ref h] (rI (fun r => ∃ r_ : Nat, r = nI r_ ∧ StrOK (2 ^ m) ix r_)) := by
  refine ro_of (by decide) rfl (Nat.le_of_ble_eq_true rfl) ?_
  intro pp ee ss mm bb mt cd Q CFx hP hK hret ls hl
  obtain ⟨hex, hby, hml, hown, hts⟩ := id CFx
  have hl : lv_has ls 6 [(0, .ref h)] := hl
  have h46 := p4_6 hm6
  have h26 := p2_6 hm6
  have h4p := p4_pos m
  refine lv_iconst (v := nI 0) hex hby dX10_stretchNow_0 rfl ?_
  refine lv_istore_n (lv' := [(1, .int (nI 0)), (0, .ref h)]) hex hby dX10_stretchNow_1 rfl hl (by decide) rfl (fun ls hl => ?_)
  refine lv_iconst (v := nI 0) hex hby dX10_stretchNow_2 rfl ?_
  refine lv_istore_n (lv' := [(2, .int (nI 0)), (1, .int (nI 0)), (0, .ref h)]) hex hby dX10_stretchNow_3 rfl hl (by decide) rfl (fun ls hl => ?_)
  have loop4 : ∀ (nn : Nat) (mo : Nat) (i : Nat), (4 ^ m - i) < nn → (i ≤ 4 ^ m) → (mo < 4096) → (StA (2 ^ m) ix mo) → (∀ j, j < i → cvx T m j + 1 < 2 ^ m → hdf ix (cvx T m j) (cvy T m j) ≤ mo) → (∀ j, j < i → cvy T m j + 1 < 2 ^ m → vdf ix (cvx T m j) (cvy T m j) ≤ mo) → ∀ ls : Array Slot, lv_has ls 6 [(2, .int (nI i)), (1, .int (nI mo)), (0, .ref h)] → W pp l ee (rmO 1 20) ss mm ([.ref h] : List Value).toArray bb mt cd ss.heap [] 0 0 Q (F0 mm 4 ls []) := by
    intro nn
    induction nn with
    | zero => intro mo i hms4; exact absurd hms4 (Nat.not_lt_zero _)
    | succ nn ih4 =>
      intro mo i hms4 hi hmo hA hh hv ls hl
      refine lv_iload_n hex hby dX10_stretchNow_4 rfl (lv_at hl 0 rfl) ?_
      refine lv_aload_n hex hby dX10_stretchNow_5 rfl (lv_at hl 2 rfl) ?_
      refine ro_Vi (As := []) (rest := [.int (nI i)]) CFx (c_X10_all (h := h) (fs := fs) (m := m) f_m hm6) 0 gX10_stretchNow_X10_all rfl nd_X10_all ⟨Nat.le_of_ble_eq_true rfl, Nat.le_of_ble_eq_true rfl⟩ hK hP [0] rfl rfl rfl rfl hl.1 rfl (Nat.le_of_ble_eq_true rfl) dX10_stretchNow_6 ⟨Nat.le_refl _, Nat.le_refl _⟩ (fun r_1 hr_1 => ?_)
      obtain rfl := hr_1
      refine nv_icmp_ge (tgt := 116) hex hby dX10_stretchNow_9 (by decide) (by omega) (by omega) (fun c_2 => ?_) (fun c_2 => ?_)
      · have hei : i = 4 ^ m := by omega
        refine lv_iload_n hex hby dX10_stretchNow_116 rfl (lv_at hl 1 rfl) ?_
        have pf_3 : StrOK (2 ^ m) ix mo := by
          refine ⟨fun x y h1 h2 => ?_, fun x y h1 h2 => ?_, hA⟩
          · obtain ⟨j, j1, j2, j3⟩ := cv_sur hV m x y (by omega) h2
            have := hh j (by omega) (by omega)
            rw [j2, j3] at this; exact this
          · obtain ⟨j, j1, j2, j3⟩ := cv_sur hV m x y h1 (by omega)
            have := hv j (by omega) (by omega)
            rw [j2, j3] at this; exact this
        exact hret _ _ _ _ (Or.inl ⟨rfl, _, rfl, rfl, dX10_stretchNow_117⟩) ⟨_, rfl, ⟨mo, rfl, pf_3⟩⟩
      · refine lv_aload_n hex hby dX10_stretchNow_12 rfl (lv_at hl 2 rfl) ?_
        refine nv_get (v := .ref aC) CFx in_X10_stretchNow_X10 hK hP 0 rfl rfl 22 (by decide) (List.mem_of_getElem? (i := 1) rfl) f_cellOf dX10_stretchNow_13 ?_
        refine lv_iload_n hex hby dX10_stretchNow_16 rfl (lv_at hl 0 rfl) ?_
        refine nv_iald hex hby hK hP 1 0 rfl rfl (by omega) (by omega) dX10_stretchNow_17 ?_
        have hb_4 := hg i
        refine lv_istore_n (lv' := [(3, .int (nI (g i))), (2, .int (nI i)), (1, .int (nI mo)), (0, .ref h)]) hex hby dX10_stretchNow_18 rfl hl (by decide) rfl (fun ls hl => ?_)
        have hci : g i = cvc T m i := hN.1 i (by omega)
        have hcm := cvc_mod (T := T) (k := m) i hm6
        have hxl := cvx_lt T m i
        have hyl := cvy_lt hV m i
        have hii : ix (cvc T m i) = i := hN.2 i (by omega)
        have hgx : g i % 64 = cvx T m i := by rw [hci]; exact hcm.1
        have hgy : g i / 64 = cvy T m i := by rw [hci]; exact hcm.2
        have hg64 : g i = cvy T m i * 64 + cvx T m i := by omega
        have hb5 := hix (g i + 1)
        have hb6 := hix (g i + 64)
        have j49 : ∀ (o1 : Nat), (o1 < 4096) → (StA (2 ^ m) ix o1) → (cvx T m i + 1 < 2 ^ m → hdf ix (cvx T m i) (cvy T m i) ≤ o1) → ∀ ls : Array Slot, lv_has ls 6 [(3, .int (nI (g i))), (2, .int (nI i)), (1, .int (nI mo)), (0, .ref h)] → W pp l ee (rmO 1 20) ss mm ([.ref h] : List Value).toArray bb mt cd ss.heap [] 0 0 Q (F0 mm 49 ls [.int (nI o1)]) := by
          intro o1 ho1 ho1a ho1b ls hl
          refine lv_istore (lv' := [(4, .int (nI o1)), (3, .int (nI (g i))), (2, .int (nI i)), (1, .int (nI mo)), (0, .ref h)]) hex hby dX10_stretchNow_49 hl (by decide) rfl (fun ls hl => ?_)
          have j82 : ∀ (o2 : Nat), (o2 < 4096) → (StA (2 ^ m) ix o2) → (cvy T m i + 1 < 2 ^ m → vdf ix (cvx T m i) (cvy T m i) ≤ o2) → ∀ ls : Array Slot, lv_has ls 6 [(4, .int (nI o1)), (3, .int (nI (g i))), (2, .int (nI i)), (1, .int (nI mo)), (0, .ref h)] → W pp l ee (rmO 1 20) ss mm ([.ref h] : List Value).toArray bb mt cd ss.heap [] 0 0 Q (F0 mm 82 ls [.int (nI o2)]) := by
            intro o2 ho2 ho2a ho2b ls hl
            refine lv_istore (lv' := [(5, .int (nI o2)), (4, .int (nI o1)), (3, .int (nI (g i))), (2, .int (nI i)), (1, .int (nI mo)), (0, .ref h)]) hex hby dX10_stretchNow_82 hl (by decide) rfl (fun ls hl => ?_)
            have hl1 := hdf_lt hix (cvx T m i) (cvy T m i)
            have hl2 := vdf_lt hix (cvx T m i) (cvy T m i)
            have j97 : ∀ (mx : Nat), (mx = max mo o1) → ∀ ls : Array Slot, lv_has ls 6 [(5, .int (nI o2)), (4, .int (nI o1)), (3, .int (nI (g i))), (2, .int (nI i)), (1, .int (nI mx)), (0, .ref h)] → W pp l ee (rmO 1 20) ss mm ([.ref h] : List Value).toArray bb mt cd ss.heap [] 0 0 Q (F0 mm 97 ls []) := by
              intro mx hmx ls hl
              have j110 : ∀ (my : Nat), (my = max mx o2) → ∀ ls : Array Slot, lv_has ls 6 [(5, .int (nI o2)), (4, .int (nI o1)), (3, .int (nI (g i))), (2, .int (nI i)), (1, .int (nI my)), (0, .ref h)] → W pp l ee (rmO 1 20) ss mm ([.ref h] : List Value).toArray bb mt cd ss.heap [] 0 0 Q (F0 mm 110 ls []) := by
                intro my hmy ls hl
                refine lv_iinc (v := nI (i + 1)) (lv' := [(2, .int (nI (i + 1))), (5, .int (nI o2)), (4, .int (nI o1)), (3, .int (nI (g i))), (1, .int (nI my)), (0, .ref h)]) hex hby dX10_stretchNow_110 hl (k := 3) rfl (ni_inc _) (by decide) rfl (fun ls hl => ?_)
                refine lv_goto (tgt := 4) hex hby dX10_stretchNow_113 (by decide) ?_
                have pf_5 : ∀ j, j < (i + 1) → cvx T m j + 1 < 2 ^ m → hdf ix (cvx T m j) (cvy T m j) ≤ my := by
                  intro j h1 h2
                  rcases Nat.lt_or_ge j i with q | q
                  · have := hh j q h2; omega
                  · have e : j = i := by omega
                    subst e; have := ho1b h2; omega
                have pf_6 : ∀ j, j < (i + 1) → cvy T m j + 1 < 2 ^ m → vdf ix (cvx T m j) (cvy T m j) ≤ my := by
                  intro j h1 h2
                  rcases Nat.lt_or_ge j i with q | q
                  · have := hv j q h2; omega
                  · have e : j = i := by omega
                    subst e; have := ho2b h2; omega
                exact ih4 my (i + 1) (by omega) (by omega) (by omega) (by rw [hmy, hmx]; exact (hA.max ho1a).max ho2a) pf_5 pf_6 _ (lv_sub hl [0, 4, 5] rfl)
              refine lv_iload hex hby dX10_stretchNow_97 (lv_at hl 0 rfl) ?_
              refine lv_iload_n hex hby dX10_stretchNow_99 rfl (lv_at hl 4 rfl) ?_
              refine nv_icmp_le (tgt := 108) hex hby dX10_stretchNow_100 (by decide) (by omega) (by omega) (fun c_7 => ?_) (fun c_7 => ?_)
              · refine lv_iload_n hex hby dX10_stretchNow_108 rfl (lv_at hl 4 rfl) ?_
                refine lv_istore_n (lv' := [(1, .int (nI mx)), (5, .int (nI o2)), (4, .int (nI o1)), (3, .int (nI (g i))), (2, .int (nI i)), (0, .ref h)]) hex hby dX10_stretchNow_109 rfl hl (by decide) rfl (fun ls hl => ?_)
                exact j110 mx (by omega) _ (lv_sub hl [1, 2, 3, 4, 0, 5] rfl)
              · refine lv_iload hex hby dX10_stretchNow_103 (lv_at hl 0 rfl) ?_
                refine lv_goto (tgt := 109) hex hby dX10_stretchNow_105 (by decide) ?_
                refine lv_istore_n (lv' := [(1, .int (nI o2)), (5, .int (nI o2)), (4, .int (nI o1)), (3, .int (nI (g i))), (2, .int (nI i)), (0, .ref h)]) hex hby dX10_stretchNow_109 rfl hl (by decide) rfl (fun ls hl => ?_)
                exact j110 o2 (by omega) _ (lv_sub hl [1, 2, 3, 4, 0, 5] rfl)
            refine lv_iload hex hby dX10_stretchNow_84 (lv_at hl 1 rfl) ?_
            refine lv_iload_n hex hby dX10_stretchNow_86 rfl (lv_at hl 4 rfl) ?_
            refine nv_icmp_le (tgt := 95) hex hby dX10_stretchNow_87 (by decide) (by omega) (by omega) (fun c_8 => ?_) (fun c_8 => ?_)
            · refine lv_iload_n hex hby dX10_stretchNow_95 rfl (lv_at hl 4 rfl) ?_
              refine lv_istore_n (lv' := [(1, .int (nI mo)), (5, .int (nI o2)), (4, .int (nI o1)), (3, .int (nI (g i))), (2, .int (nI i)), (0, .ref h)]) hex hby dX10_stretchNow_96 rfl hl (by decide) rfl (fun ls hl => ?_)
              exact j97 mo (by omega) _ (lv_sub hl [1, 2, 3, 4, 0, 5] rfl)
            · refine lv_iload hex hby dX10_stretchNow_90 (lv_at hl 1 rfl) ?_
              refine lv_goto (tgt := 96) hex hby dX10_stretchNow_92 (by decide) ?_
              refine lv_istore_n (lv' := [(1, .int (nI o1)), (5, .int (nI o2)), (4, .int (nI o1)), (3, .int (nI (g i))), (2, .int (nI i)), (0, .ref h)]) hex hby dX10_stretchNow_96 rfl hl (by decide) rfl (fun ls hl => ?_)
              exact j97 o1 (by omega) _ (lv_sub hl [1, 2, 3, 4, 0, 5] rfl)
          refine lv_iload_n hex hby dX10_stretchNow_51 rfl (lv_at hl 1 rfl) ?_
          refine lv_bipush (v := nI 64) hex hby dX10_stretchNow_52 rfl ?_
          refine nv_idiv hex hby dX10_stretchNow_54 (by omega) (by omega) (by omega) ?_
          refine lv_iconst (v := nI 1) hex hby dX10_stretchNow_55 rfl ?_
          refine nv_iadd hex hby dX10_stretchNow_56 ?_
          refine lv_aload_n hex hby dX10_stretchNow_57 rfl (lv_at hl 4 rfl) ?_
          refine ro_Vi (As := []) (rest := [.int (nI (g i / 64 + 1))]) CFx (c_X10_side (h := h) (fs := fs) (m := m) f_m hm6) 0 gX10_stretchNow_X10_side rfl nd_X10_side ⟨Nat.le_of_ble_eq_true rfl, Nat.le_of_ble_eq_true rfl⟩ hK hP [0] rfl rfl rfl rfl hl.1 rfl (Nat.le_of_ble_eq_true rfl) dX10_stretchNow_58 ⟨Nat.le_refl _, Nat.le_refl _⟩ (fun r_9 hr_9 => ?_)
          obtain rfl := hr_9
          refine nv_icmp_ge (tgt := 81) hex hby dX10_stretchNow_61 (by decide) (by omega) (by omega) (fun c_10 => ?_) (fun c_10 => ?_)
          · refine lv_iconst (v := nI 0) hex hby dX10_stretchNow_81 rfl ?_
            exact j82 0 (by omega) (Or.inl rfl) (fun h => absurd h (by omega)) _ (lv_sub hl [0, 1, 2, 3, 4] rfl)
          · refine lv_aload_n hex hby dX10_stretchNow_64 rfl (lv_at hl 4 rfl) ?_
            refine nv_get (v := .ref aI) CFx in_X10_stretchNow_X10 hK hP 0 rfl rfl 21 (by decide) (List.mem_of_getElem? (i := 2) rfl) f_indexOf dX10_stretchNow_65 ?_
            refine lv_iload_n hex hby dX10_stretchNow_68 rfl (lv_at hl 1 rfl) ?_
            refine lv_bipush (v := nI 64) hex hby dX10_stretchNow_69 rfl ?_
            refine nv_iadd hex hby dX10_stretchNow_71 ?_
            refine nv_iald hex hby hK hP 2 0 rfl rfl (by omega) (by omega) dX10_stretchNow_72 ?_
            have hb_11 := hix (g i + 64)
            refine lv_iload_n hex hby dX10_stretchNow_73 rfl (lv_at hl 2 rfl) ?_
            refine nz_isub (a := ((ix (g i + 64) : Nat) : Int)) (b := (i : Int)) hex hby dX10_stretchNow_74 (ni_nz _) (ni_nz _) ?_
            refine ro_Si (As := [.int (zI (((ix (g i + 64) : Nat) : Int) - (i : Int)))]) (rest := []) (C := RX10) CFx (c_X10_size (z := ((ix (g i + 64) : Nat) : Int) - (i : Int)) (by omega) (by omega)) 1 gX10_stretchNow_X10_size rfl nd_X10_size ⟨Nat.le_of_ble_eq_true rfl, Nat.le_of_ble_eq_true rfl⟩ hK hP [] rfl rfl hl.1 rfl (Nat.le_of_ble_eq_true rfl) dX10_stretchNow_75 ⟨Nat.le_refl _, Nat.le_refl _⟩ (fun r_12 hr_12 => ?_)
            obtain rfl := hr_12
            refine nv_top (y := nI (vdf ix (cvx T m i) (cvy T m i))) (congrArg nI (by unfold vdf; rw [show (cvy T m i + 1) * 64 + cvx T m i = g i + 64 by omega, show cvy T m i * 64 + cvx T m i = cvc T m i by rw [← hci]; omega, hii])) ?_
            refine lv_goto (tgt := 82) hex hby dX10_stretchNow_78 (by decide) ?_
            exact j82 (vdf ix (cvx T m i) (cvy T m i)) (vdf_lt hix _ _) (Or.inr (Or.inr ⟨cvx T m i, cvy T m i, hxl, by omega, rfl⟩)) (fun _ => Nat.le_refl _) _ (lv_sub hl [0, 1, 2, 3, 4] rfl)
        refine lv_iload_n hex hby dX10_stretchNow_19 rfl (lv_at hl 0 rfl) ?_
        refine lv_bipush (v := nI 64) hex hby dX10_stretchNow_20 rfl ?_
        refine nv_irem hex hby dX10_stretchNow_22 (by omega) (by omega) (by omega) ?_
        refine lv_iconst (v := nI 1) hex hby dX10_stretchNow_23 rfl ?_
        refine nv_iadd hex hby dX10_stretchNow_24 ?_
        refine lv_aload_n hex hby dX10_stretchNow_25 rfl (lv_at hl 3 rfl) ?_
        refine ro_Vi (As := []) (rest := [.int (nI (g i % 64 + 1))]) CFx (c_X10_side (h := h) (fs := fs) (m := m) f_m hm6) 0 gX10_stretchNow_X10_side rfl nd_X10_side ⟨Nat.le_of_ble_eq_true rfl, Nat.le_of_ble_eq_true rfl⟩ hK hP [0] rfl rfl rfl rfl hl.1 rfl (Nat.le_of_ble_eq_true rfl) dX10_stretchNow_26 ⟨Nat.le_refl _, Nat.le_refl _⟩ (fun r_13 hr_13 => ?_)
        obtain rfl := hr_13
        refine nv_icmp_ge (tgt := 48) hex hby dX10_stretchNow_29 (by decide) (by omega) (by omega) (fun c_14 => ?_) (fun c_14 => ?_)
        · refine lv_iconst (v := nI 0) hex hby dX10_stretchNow_48 rfl ?_
          exact j49 0 (by omega) (Or.inl rfl) (fun h => absurd h (by omega)) _ (lv_sub hl [0, 1, 2, 3] rfl)
        · refine lv_aload_n hex hby dX10_stretchNow_32 rfl (lv_at hl 3 rfl) ?_
          refine nv_get (v := .ref aI) CFx in_X10_stretchNow_X10 hK hP 0 rfl rfl 21 (by decide) (List.mem_of_getElem? (i := 2) rfl) f_indexOf dX10_stretchNow_33 ?_
          refine lv_iload_n hex hby dX10_stretchNow_36 rfl (lv_at hl 0 rfl) ?_
          refine lv_iconst (v := nI 1) hex hby dX10_stretchNow_37 rfl ?_
          refine nv_iadd hex hby dX10_stretchNow_38 ?_
          refine nv_iald hex hby hK hP 2 0 rfl rfl (by omega) (by omega) dX10_stretchNow_39 ?_
          have hb_15 := hix (g i + 1)
          refine lv_iload_n hex hby dX10_stretchNow_40 rfl (lv_at hl 1 rfl) ?_
          refine nz_isub (a := ((ix (g i + 1) : Nat) : Int)) (b := (i : Int)) hex hby dX10_stretchNow_41 (ni_nz _) (ni_nz _) ?_
          refine ro_Si (As := [.int (zI (((ix (g i + 1) : Nat) : Int) - (i : Int)))]) (rest := []) (C := RX10) CFx (c_X10_size (z := ((ix (g i + 1) : Nat) : Int) - (i : Int)) (by omega) (by omega)) 1 gX10_stretchNow_X10_size rfl nd_X10_size ⟨Nat.le_of_ble_eq_true rfl, Nat.le_of_ble_eq_true rfl⟩ hK hP [] rfl rfl hl.1 rfl (Nat.le_of_ble_eq_true rfl) dX10_stretchNow_42 ⟨Nat.le_refl _, Nat.le_refl _⟩ (fun r_16 hr_16 => ?_)
          obtain rfl := hr_16
          refine nv_top (y := nI (hdf ix (cvx T m i) (cvy T m i))) (congrArg nI (by unfold hdf; rw [show cvy T m i * 64 + (cvx T m i + 1) = g i + 1 by omega, show cvy T m i * 64 + cvx T m i = cvc T m i by rw [← hci]; omega, hii])) ?_
          refine lv_goto (tgt := 49) hex hby dX10_stretchNow_45 (by decide) ?_
          exact j49 (hdf ix (cvx T m i) (cvy T m i)) (hdf_lt hix _ _) (Or.inr (Or.inl ⟨cvx T m i, cvy T m i, by omega, hyl, rfl⟩)) (fun _ => Nat.le_refl _) _ (lv_sub hl [0, 1, 2, 3] rfl)
  exact loop4 _ 0 0 (Nat.lt_succ_self _) (by omega) (by omega) (Or.inl rfl) (fun j h => absurd h (by omega)) (fun j h => absurd h (by omega)) _ (lv_sub hl [0, 1, 2] rfl)
theorem nd_X2_countPlaces : ndV yX2_countPlaces RX2 3 := by decide +kernel
theorem in_X2_countPlaces_X2 : ∀ w ∈ wsX20, w ∈ wsX2_countPlaces := fun _ h => List.mem_cons_of_mem _ (List.mem_append_right _ (h))
set_option maxHeartbeats 4000000 in
set_option maxRecDepth 100000 in
theorem c_X2_countPlaces {h : Nat} {fs : List Value} {sd : Nat} {a : Nat} {b : Nat} {w : Nat} (fsd : fs[0]? = some (.int (nI sd))) (hsd : sd ≤ 64) (ha : a < 64) (hb0 : b < 64) (hw1 : 1 ≤ w) (hw : w ≤ sd) : RO l yX2_countPlaces wsX2_countPlaces 1 40 (dC, dI) (tyK cI cZ cS) [(h, .inr (2, fs))] [.ref h, .int (nI a), .int (nI b), .int (nI w)] (rI (fun r => r = nI (plN sd a b w))) := by
  refine ro_of (by decide) rfl (Nat.le_of_ble_eq_true rfl) ?_
  intro pp ee ss mm bb mt cd Q CFx hP hK hret ls hl
  obtain ⟨hex, hby, hml, hown, hts⟩ := id CFx
  have hl : lv_has ls 6 [(0, .ref h), (1, .int (nI a)), (2, .int (nI b)), (3, .int (nI w))] := hl
  refine lv_iconst (v := nI 0) hex hby dX2_countPlaces_0 rfl ?_
  refine lv_iload_n hex hby dX2_countPlaces_1 rfl (lv_at hl 1 rfl) ?_
  refine lv_iload_n hex hby dX2_countPlaces_2 rfl (lv_at hl 2 rfl) ?_
  refine va_mmax hex hby (hml.trans hl.1.symm) hown (hts _ (List.mem_of_getElem? (i := 1) rfl)) (hts _ (List.mem_of_getElem? (i := 2) rfl)) (hts _ (List.mem_of_getElem? (i := 3) rfl)) (hts _ (List.mem_of_getElem? (i := 4) rfl)) (Nat.le_of_ble_eq_true rfl) (Nat.le_of_ble_eq_true rfl) (Nat.le_refl _) (Nat.le_refl _) dX2_countPlaces_3 ?_
  refine nv_top (nI_max (by omega) (by omega)) ?_
  refine lv_iload_n hex hby dX2_countPlaces_6 rfl (lv_at hl 3 rfl) ?_
  refine nz_isub (a := ((max a b : Nat) : Int)) (b := (w : Int)) hex hby dX2_countPlaces_7 (ni_nz _) (ni_nz _) ?_
  refine lv_iconst (v := nI 1) hex hby dX2_countPlaces_8 rfl ?_
  refine nz_iadd (a := ((max a b : Nat) : Int) - (w : Int)) (b := (1 : Int)) hex hby dX2_countPlaces_9 rfl rfl ?_
  refine va_mmax hex hby (hml.trans hl.1.symm) hown (hts _ (List.mem_of_getElem? (i := 1) rfl)) (hts _ (List.mem_of_getElem? (i := 2) rfl)) (hts _ (List.mem_of_getElem? (i := 3) rfl)) (hts _ (List.mem_of_getElem? (i := 4) rfl)) (Nat.le_of_ble_eq_true rfl) (Nat.le_of_ble_eq_true rfl) (Nat.le_refl _) (Nat.le_refl _) dX2_countPlaces_10 ?_
  refine nv_top (zI_max (a := (0 : Int)) (b := ((max a b : Nat) : Int) - (w : Int) + (1 : Int)) (by rfl) (zI_toInt (by omega) (by omega))) ?_
  refine lv_istore (lv' := [(4, .int (zI (max ((0 : Int)) (((max a b : Nat) : Int) - (w : Int) + (1 : Int))))), (0, .ref h), (1, .int (nI a)), (2, .int (nI b)), (3, .int (nI w))]) hex hby dX2_countPlaces_13 hl (by decide) rfl (fun ls hl => ?_)
  refine lv_aload_n hex hby dX2_countPlaces_15 rfl (lv_at hl 1 rfl) ?_
  refine nv_get (v := .int (nI sd)) CFx in_X2_countPlaces_X2 hK hP 0 rfl rfl 0 (by decide) (List.mem_of_getElem? (i := 5) rfl) fsd dX2_countPlaces_16 ?_
  refine lv_iload_n hex hby dX2_countPlaces_19 rfl (lv_at hl 4 rfl) ?_
  refine nv_isub hex hby dX2_countPlaces_20 (by omega) ?_
  refine lv_iload_n hex hby dX2_countPlaces_21 rfl (lv_at hl 2 rfl) ?_
  refine lv_iload_n hex hby dX2_countPlaces_22 rfl (lv_at hl 3 rfl) ?_
  refine va_mmin hex hby (hml.trans hl.1.symm) hown (hts _ (List.mem_of_getElem? (i := 6) rfl)) (hts _ (List.mem_of_getElem? (i := 7) rfl)) (hts _ (List.mem_of_getElem? (i := 3) rfl)) (hts _ (List.mem_of_getElem? (i := 8) rfl)) (Nat.le_of_ble_eq_true rfl) (Nat.le_of_ble_eq_true rfl) (Nat.le_refl _) (Nat.le_refl _) dX2_countPlaces_23 ?_
  refine nv_top (nI_min (by omega) (by omega)) ?_
  refine va_mmin hex hby (hml.trans hl.1.symm) hown (hts _ (List.mem_of_getElem? (i := 6) rfl)) (hts _ (List.mem_of_getElem? (i := 7) rfl)) (hts _ (List.mem_of_getElem? (i := 3) rfl)) (hts _ (List.mem_of_getElem? (i := 8) rfl)) (Nat.le_of_ble_eq_true rfl) (Nat.le_of_ble_eq_true rfl) (Nat.le_refl _) (Nat.le_refl _) dX2_countPlaces_26 ?_
  refine nv_top (nI_min (by omega) (by omega)) ?_
  refine lv_istore (lv' := [(5, .int (nI (min (sd - w) (min a b)))), (4, .int (zI (max ((0 : Int)) (((max a b : Nat) : Int) - (w : Int) + (1 : Int))))), (0, .ref h), (1, .int (nI a)), (2, .int (nI b)), (3, .int (nI w))]) hex hby dX2_countPlaces_29 hl (by decide) rfl (fun ls hl => ?_)
  refine lv_iconst (v := nI 0) hex hby dX2_countPlaces_31 rfl ?_
  refine lv_iload hex hby dX2_countPlaces_32 (lv_at hl 0 rfl) ?_
  refine lv_iload hex hby dX2_countPlaces_34 (lv_at hl 1 rfl) ?_
  refine nz_isub (a := ((min (sd - w) (min a b) : Nat) : Int)) (b := max ((0 : Int)) (((max a b : Nat) : Int) - (w : Int) + (1 : Int))) hex hby dX2_countPlaces_36 (ni_nz _) rfl ?_
  refine lv_iconst (v := nI 1) hex hby dX2_countPlaces_37 rfl ?_
  refine nz_iadd (a := ((min (sd - w) (min a b) : Nat) : Int) - max ((0 : Int)) (((max a b : Nat) : Int) - (w : Int) + (1 : Int))) (b := (1 : Int)) hex hby dX2_countPlaces_38 rfl rfl ?_
  refine va_mmax hex hby (hml.trans hl.1.symm) hown (hts _ (List.mem_of_getElem? (i := 1) rfl)) (hts _ (List.mem_of_getElem? (i := 2) rfl)) (hts _ (List.mem_of_getElem? (i := 3) rfl)) (hts _ (List.mem_of_getElem? (i := 4) rfl)) (Nat.le_of_ble_eq_true rfl) (Nat.le_of_ble_eq_true rfl) (Nat.le_refl _) (Nat.le_refl _) dX2_countPlaces_39 ?_
  refine nv_top (zI_max (a := (0 : Int)) (b := ((min (sd - w) (min a b) : Nat) : Int) - max ((0 : Int)) (((max a b : Nat) : Int) - (w : Int) + (1 : Int)) + (1 : Int)) (by rfl) (zI_toInt (by omega) (by omega))) ?_
  refine nv_top (y := nI (plN sd a b w)) (by rw [ni_nz]; exact congrArg zI (by unfold plN; omega)) ?_
  exact hret _ _ _ _ (Or.inl ⟨rfl, _, rfl, rfl, dX2_countPlaces_42⟩) ⟨_, rfl, rfl⟩
theorem nd_X2_countRectangles : ndV yX2_countRectangles RX2 4 := by decide +kernel
set_option maxHeartbeats 4000000 in
set_option maxRecDepth 100000 in
theorem c_X2_countRectangles {h : Nat} {aC : Nat} {fs : List Value} {sd : Nat} {g : Nat → Nat} {i : Nat} {j : Nat} {w : Nat} {ht : Nat} (fsd : fs[0]? = some (.int (nI sd))) (faC : fs[2]? = some (.ref aC)) (hg : ∀ j, g j < 4096) (hsd : sd ≤ 64) (hi0 : i < 4096) (hj0 : j < 4096) (hw1 : 1 ≤ w) (hw : w ≤ sd) (hh1 : 1 ≤ ht) (hh : ht ≤ sd) : RO l yX2_countRectangles wsX2_countRectangles 2 65 (dC, dI) (tyK cI cZ cS) [(h, .inr (2, fs)), (aC, .inl (cI, 4096, .inl (nA g)))] [.ref h, .int (nI i), .int (nI j), .int (nI w), .int (nI ht)] (rI (fun r => r = nI (plN sd (g i % 64) (g j % 64) w * plN sd (g i / 64) (g j / 64) ht))) := by
  refine ro_of (by decide) rfl (Nat.le_of_ble_eq_true rfl) ?_
  intro pp ee ss mm bb mt cd Q CFx hP hK hret ls hl
  obtain ⟨hex, hby, hml, hown, hts⟩ := id CFx
  have hl : lv_has ls 5 [(0, .ref h), (1, .int (nI i)), (2, .int (nI j)), (3, .int (nI w)), (4, .int (nI ht))] := hl
  have hb1 := hg i
  have hb2 := hg j
  refine lv_aload_n hex hby dX2_countRectangles_0 rfl (lv_at hl 0 rfl) ?_
  refine lv_aload_n hex hby dX2_countRectangles_1 rfl (lv_at hl 0 rfl) ?_
  refine lv_iload_n hex hby dX2_countRectangles_2 rfl (lv_at hl 1 rfl) ?_
  refine ro_Vi (As := [.int (nI i)]) (rest := [.ref h]) CFx (c_X2_xAt (h := h) (aC := aC) (fs := fs) (g := g) (i := i) faC hg hi0) 1 gX2_countRectangles_X2_xAt rfl nd_X2_xAt ⟨Nat.le_of_ble_eq_true rfl, Nat.le_of_ble_eq_true rfl⟩ hK hP [0, 1] rfl rfl rfl rfl hl.1 rfl (Nat.le_of_ble_eq_true rfl) dX2_countRectangles_3 ⟨Nat.le_refl _, Nat.le_refl _⟩ (fun r_1 hr_1 => ?_)
  obtain rfl := hr_1
  refine lv_aload_n hex hby dX2_countRectangles_6 rfl (lv_at hl 0 rfl) ?_
  refine lv_iload_n hex hby dX2_countRectangles_7 rfl (lv_at hl 2 rfl) ?_
  refine ro_Vi (As := [.int (nI j)]) (rest := [.int (nI (g i % 64)), .ref h]) CFx (c_X2_xAt (h := h) (aC := aC) (fs := fs) (g := g) (i := j) faC hg hj0) 1 gX2_countRectangles_X2_xAt rfl nd_X2_xAt ⟨Nat.le_of_ble_eq_true rfl, Nat.le_of_ble_eq_true rfl⟩ hK hP [0, 1] rfl rfl rfl rfl hl.1 rfl (Nat.le_of_ble_eq_true rfl) dX2_countRectangles_8 ⟨Nat.le_refl _, Nat.le_refl _⟩ (fun r_2 hr_2 => ?_)
  obtain rfl := hr_2
  refine lv_iload_n hex hby dX2_countRectangles_11 rfl (lv_at hl 3 rfl) ?_
  refine ro_Vi (As := [.int (nI (g i % 64)), .int (nI (g j % 64)), .int (nI w)]) (rest := []) CFx (c_X2_countPlaces (h := h) (fs := fs) (sd := sd) (a := g i % 64) (b := g j % 64) (w := w) fsd hsd (by omega) (by omega) hw1 hw) 3 gX2_countRectangles_X2_countPlaces rfl nd_X2_countPlaces ⟨Nat.le_of_ble_eq_true rfl, Nat.le_of_ble_eq_true rfl⟩ hK hP [0] rfl rfl rfl rfl hl.1 rfl (Nat.le_of_ble_eq_true rfl) dX2_countRectangles_12 ⟨Nat.le_refl _, Nat.le_refl _⟩ (fun r_3 hr_3 => ?_)
  obtain rfl := hr_3
  refine lv_aload_n hex hby dX2_countRectangles_15 rfl (lv_at hl 0 rfl) ?_
  refine lv_aload_n hex hby dX2_countRectangles_16 rfl (lv_at hl 0 rfl) ?_
  refine lv_iload_n hex hby dX2_countRectangles_17 rfl (lv_at hl 1 rfl) ?_
  refine ro_Vi (As := [.int (nI i)]) (rest := [.ref h, .int (nI (plN sd (g i % 64) (g j % 64) w))]) CFx (c_X2_yAt (h := h) (aC := aC) (fs := fs) (g := g) (i := i) faC hg hi0) 1 gX2_countRectangles_X2_yAt rfl nd_X2_yAt ⟨Nat.le_of_ble_eq_true rfl, Nat.le_of_ble_eq_true rfl⟩ hK hP [0, 1] rfl rfl rfl rfl hl.1 rfl (Nat.le_of_ble_eq_true rfl) dX2_countRectangles_18 ⟨Nat.le_refl _, Nat.le_refl _⟩ (fun r_4 hr_4 => ?_)
  obtain rfl := hr_4
  refine lv_aload_n hex hby dX2_countRectangles_21 rfl (lv_at hl 0 rfl) ?_
  refine lv_iload_n hex hby dX2_countRectangles_22 rfl (lv_at hl 2 rfl) ?_
  refine ro_Vi (As := [.int (nI j)]) (rest := [.int (nI (g i / 64)), .ref h, .int (nI (plN sd (g i % 64) (g j % 64) w))]) CFx (c_X2_yAt (h := h) (aC := aC) (fs := fs) (g := g) (i := j) faC hg hj0) 1 gX2_countRectangles_X2_yAt rfl nd_X2_yAt ⟨Nat.le_of_ble_eq_true rfl, Nat.le_of_ble_eq_true rfl⟩ hK hP [0, 1] rfl rfl rfl rfl hl.1 rfl (Nat.le_of_ble_eq_true rfl) dX2_countRectangles_23 ⟨Nat.le_refl _, Nat.le_refl _⟩ (fun r_5 hr_5 => ?_)
  obtain rfl := hr_5
  refine lv_iload hex hby dX2_countRectangles_26 (lv_at hl 4 rfl) ?_
  refine ro_Vi (As := [.int (nI (g i / 64)), .int (nI (g j / 64)), .int (nI ht)]) (rest := [.int (nI (plN sd (g i % 64) (g j % 64) w))]) CFx (c_X2_countPlaces (h := h) (fs := fs) (sd := sd) (a := g i / 64) (b := g j / 64) (w := ht) fsd hsd (by omega) (by omega) hh1 hh) 3 gX2_countRectangles_X2_countPlaces rfl nd_X2_countPlaces ⟨Nat.le_of_ble_eq_true rfl, Nat.le_of_ble_eq_true rfl⟩ hK hP [0] rfl rfl rfl rfl hl.1 rfl (Nat.le_of_ble_eq_true rfl) dX2_countRectangles_28 ⟨Nat.le_refl _, Nat.le_refl _⟩ (fun r_6 hr_6 => ?_)
  obtain rfl := hr_6
  refine nv_imul hex hby dX2_countRectangles_31 ?_
  exact hret _ _ _ _ (Or.inl ⟨rfl, _, rfl, rfl, dX2_countRectangles_32⟩) ⟨_, rfl, rfl⟩
theorem nd_X2_countIntervalsOfAll : ndV yX2_countIntervalsOfAll RX2 2 := by decide +kernel
theorem in_X2_countIntervalsOfAll_X2 : ∀ w ∈ wsX20, w ∈ wsX2_countIntervalsOfAll := fun _ h => List.mem_cons_of_mem _ (List.mem_append_right _ (h))
set_option maxHeartbeats 4000000 in
set_option maxRecDepth 100000 in
theorem c_X2_countIntervalsOfAll {h : Nat} {aC : Nat} {fs : List Value} {sd : Nat} {ce : Nat} {g : Nat → Nat} {w : Nat} {ht : Nat} (fsd : fs[0]? = some (.int (nI sd))) (fce : fs[1]? = some (.int (nI ce))) (faC : fs[2]? = some (.ref aC)) (hg : ∀ j, g j < 4096) (hsd : sd ≤ 64) (hce : ce ≤ 4096) (hw1 : 1 ≤ w) (hw : w ≤ sd) (hh1 : 1 ≤ ht) (hh : ht ≤ sd) : RO l yX2_countIntervalsOfAll wsX2_countIntervalsOfAll 3 89 (dC, dI) (tyK cI cZ cS) [(h, .inr (2, fs)), (aC, .inl (cI, 4096, .inl (nA g)))] [.ref h, .int (nI w), .int (nI ht)] (rI (fun r => r = zI (clS sd g w ht ce))) := by
  refine ro_of (by decide) rfl (Nat.le_of_ble_eq_true rfl) ?_
  intro pp ee ss mm bb mt cd Q CFx hP hK hret ls hl
  obtain ⟨hex, hby, hml, hown, hts⟩ := id CFx
  have hl : lv_has ls 5 [(0, .ref h), (1, .int (nI w)), (2, .int (nI ht))] := hl
  refine lv_iconst (v := nI 0) hex hby dX2_countIntervalsOfAll_0 rfl ?_
  refine lv_istore_n (lv' := [(3, .int (nI 0)), (0, .ref h), (1, .int (nI w)), (2, .int (nI ht))]) hex hby dX2_countIntervalsOfAll_1 rfl hl (by decide) rfl (fun ls hl => ?_)
  refine lv_iconst (v := nI 0) hex hby dX2_countIntervalsOfAll_2 rfl ?_
  refine lv_istore (lv' := [(4, .int (nI 0)), (3, .int (nI 0)), (0, .ref h), (1, .int (nI w)), (2, .int (nI ht))]) hex hby dX2_countIntervalsOfAll_3 hl (by decide) rfl (fun ls hl => ?_)
  have loop5 : ∀ (nn : Nat) (z : Int) (i : Nat), (ce - i) < nn → (i ≤ ce) → (z = clS sd g w ht i) → ∀ ls : Array Slot, lv_has ls 5 [(4, .int (nI i)), (3, .int (zI z)), (0, .ref h), (1, .int (nI w)), (2, .int (nI ht))] → W pp l ee (rmO 3 89) ss mm ([.ref h, .int (nI w), .int (nI ht)] : List Value).toArray bb mt cd ss.heap [] 0 0 Q (F0 mm 5 ls []) := by
    intro nn
    induction nn with
    | zero => intro z i hms5; exact absurd hms5 (Nat.not_lt_zero _)
    | succ nn ih5 =>
      intro z i hms5 hi hz ls hl
      refine lv_iload hex hby dX2_countIntervalsOfAll_5 (lv_at hl 0 rfl) ?_
      refine lv_aload_n hex hby dX2_countIntervalsOfAll_7 rfl (lv_at hl 2 rfl) ?_
      refine nv_get (v := .int (nI ce)) CFx in_X2_countIntervalsOfAll_X2 hK hP 0 rfl rfl 1 (by decide) (List.mem_of_getElem? (i := 1) rfl) fce dX2_countIntervalsOfAll_8 ?_
      refine nv_icmp_ge (tgt := 53) hex hby dX2_countIntervalsOfAll_11 (by decide) (by omega) (by omega) (fun c_1 => ?_) (fun c_1 => ?_)
      · have hei : i = ce := by omega
        refine lv_iload_n hex hby dX2_countIntervalsOfAll_53 rfl (lv_at hl 1 rfl) ?_
        exact hret _ _ _ _ (Or.inl ⟨rfl, _, rfl, rfl, dX2_countIntervalsOfAll_54⟩) ⟨_, rfl, (by rw [hz, hei])⟩
      · refine lv_iload_n hex hby dX2_countIntervalsOfAll_14 rfl (lv_at hl 1 rfl) ?_
        refine lv_aload_n hex hby dX2_countIntervalsOfAll_15 rfl (lv_at hl 2 rfl) ?_
        refine lv_iload hex hby dX2_countIntervalsOfAll_16 (lv_at hl 0 rfl) ?_
        refine lv_iload hex hby dX2_countIntervalsOfAll_18 (lv_at hl 0 rfl) ?_
        refine lv_iload_n hex hby dX2_countIntervalsOfAll_20 rfl (lv_at hl 3 rfl) ?_
        refine lv_iload_n hex hby dX2_countIntervalsOfAll_21 rfl (lv_at hl 4 rfl) ?_
        refine ro_Vi (As := [.int (nI i), .int (nI i), .int (nI w), .int (nI ht)]) (rest := [.int (zI z)]) CFx (c_X2_countRectangles (h := h) (aC := aC) (fs := fs) (sd := sd) (g := g) (i := i) (j := i) (w := w) (ht := ht) fsd faC (by omega) hsd (by omega) (by omega) hw1 hw hh1 hh) 4 gX2_countIntervalsOfAll_X2_countRectangles rfl nd_X2_countRectangles ⟨Nat.le_of_ble_eq_true rfl, Nat.le_of_ble_eq_true rfl⟩ hK hP [0, 1] rfl rfl rfl rfl hl.1 rfl (Nat.le_of_ble_eq_true rfl) dX2_countIntervalsOfAll_22 ⟨Nat.le_refl _, Nat.le_refl _⟩ (fun r_2 hr_2 => ?_)
        obtain rfl := hr_2
        refine nz_iadd (a := z) (b := ((plN sd (g i % 64) (g i % 64) w * plN sd (g i / 64) (g i / 64) ht : Nat) : Int)) hex hby dX2_countIntervalsOfAll_25 rfl (ni_nz _) ?_
        refine lv_istore_n (lv' := [(3, .int (zI (z + ((plN sd (g i % 64) (g i % 64) w * plN sd (g i / 64) (g i / 64) ht : Nat) : Int)))), (4, .int (nI i)), (0, .ref h), (1, .int (nI w)), (2, .int (nI ht))]) hex hby dX2_countIntervalsOfAll_26 rfl hl (by decide) rfl (fun ls hl => ?_)
        refine lv_iload hex hby dX2_countIntervalsOfAll_27 (lv_at hl 1 rfl) ?_
        refine nv_if_le (tgt := 47) hex hby dX2_countIntervalsOfAll_29 (by decide) (by omega) (fun c_3 => ?_) (fun c_3 => ?_)
        · refine lv_iinc (v := nI (i + 1)) (lv' := [(4, .int (nI (i + 1))), (3, .int (zI (z + ((plN sd (g i % 64) (g i % 64) w * plN sd (g i / 64) (g i / 64) ht : Nat) : Int)))), (0, .ref h), (1, .int (nI w)), (2, .int (nI ht))]) hex hby dX2_countIntervalsOfAll_47 hl (k := 1) rfl (ni_inc _) (by decide) rfl (fun ls hl => ?_)
          refine lv_goto (tgt := 5) hex hby dX2_countIntervalsOfAll_50 (by decide) ?_
          exact ih5 (z + ((plN sd (g i % 64) (g i % 64) w * plN sd (g i / 64) (g i / 64) ht : Nat) : Int)) (i + 1) (by omega) (by omega) (by rw [clS, ← hz, if_pos (by omega)]; omega) _ (lv_sub hl [0, 1, 2, 3, 4] rfl)
        · refine lv_iload_n hex hby dX2_countIntervalsOfAll_32 rfl (lv_at hl 0 rfl) ?_
          refine lv_aload_n hex hby dX2_countIntervalsOfAll_33 rfl (lv_at hl 2 rfl) ?_
          refine lv_iload hex hby dX2_countIntervalsOfAll_34 (lv_at hl 1 rfl) ?_
          refine lv_iconst (v := nI 1) hex hby dX2_countIntervalsOfAll_36 rfl ?_
          refine nv_isub hex hby dX2_countIntervalsOfAll_37 (by omega) ?_
          refine lv_iload hex hby dX2_countIntervalsOfAll_38 (lv_at hl 1 rfl) ?_
          refine lv_iload_n hex hby dX2_countIntervalsOfAll_40 rfl (lv_at hl 3 rfl) ?_
          refine lv_iload_n hex hby dX2_countIntervalsOfAll_41 rfl (lv_at hl 4 rfl) ?_
          refine ro_Vi (As := [.int (nI (i - 1)), .int (nI i), .int (nI w), .int (nI ht)]) (rest := [.int (zI (z + ((plN sd (g i % 64) (g i % 64) w * plN sd (g i / 64) (g i / 64) ht : Nat) : Int)))]) CFx (c_X2_countRectangles (h := h) (aC := aC) (fs := fs) (sd := sd) (g := g) (i := i - 1) (j := i) (w := w) (ht := ht) fsd faC (by omega) hsd (by omega) (by omega) hw1 hw hh1 hh) 4 gX2_countIntervalsOfAll_X2_countRectangles rfl nd_X2_countRectangles ⟨Nat.le_of_ble_eq_true rfl, Nat.le_of_ble_eq_true rfl⟩ hK hP [0, 1] rfl rfl rfl rfl hl.1 rfl (Nat.le_of_ble_eq_true rfl) dX2_countIntervalsOfAll_42 ⟨Nat.le_refl _, Nat.le_refl _⟩ (fun r_4 hr_4 => ?_)
          obtain rfl := hr_4
          refine nz_isub (a := z + ((plN sd (g i % 64) (g i % 64) w * plN sd (g i / 64) (g i / 64) ht : Nat) : Int)) (b := ((plN sd (g (i - 1) % 64) (g i % 64) w * plN sd (g (i - 1) / 64) (g i / 64) ht : Nat) : Int)) hex hby dX2_countIntervalsOfAll_45 rfl (ni_nz _) ?_
          refine lv_istore_n (lv' := [(3, .int (zI (z + ((plN sd (g i % 64) (g i % 64) w * plN sd (g i / 64) (g i / 64) ht : Nat) : Int) - ((plN sd (g (i - 1) % 64) (g i % 64) w * plN sd (g (i - 1) / 64) (g i / 64) ht : Nat) : Int)))), (4, .int (nI i)), (0, .ref h), (1, .int (nI w)), (2, .int (nI ht))]) hex hby dX2_countIntervalsOfAll_46 rfl hl (by decide) rfl (fun ls hl => ?_)
          refine lv_iinc (v := nI (i + 1)) (lv' := [(4, .int (nI (i + 1))), (3, .int (zI (z + ((plN sd (g i % 64) (g i % 64) w * plN sd (g i / 64) (g i / 64) ht : Nat) : Int) - ((plN sd (g (i - 1) % 64) (g i % 64) w * plN sd (g (i - 1) / 64) (g i / 64) ht : Nat) : Int)))), (0, .ref h), (1, .int (nI w)), (2, .int (nI ht))]) hex hby dX2_countIntervalsOfAll_47 hl (k := 1) rfl (ni_inc _) (by decide) rfl (fun ls hl => ?_)
          refine lv_goto (tgt := 5) hex hby dX2_countIntervalsOfAll_50 (by decide) ?_
          exact ih5 (z + ((plN sd (g i % 64) (g i % 64) w * plN sd (g i / 64) (g i / 64) ht : Nat) : Int) - ((plN sd (g (i - 1) % 64) (g i % 64) w * plN sd (g (i - 1) / 64) (g i / 64) ht : Nat) : Int)) (i + 1) (by omega) (by omega) (by rw [clS, ← hz, if_neg (by omega)]) _ (lv_sub hl [0, 1, 2, 3, 4] rfl)
  exact loop5 _ (0 : Int) 0 (Nat.lt_succ_self _) (by omega) rfl _ (lv_sub hl [0, 1, 2, 3, 4] rfl)
theorem nd_X10_places : ndV yX10_places RX10 3 := by decide +kernel
set_option maxHeartbeats 4000000 in
set_option maxRecDepth 100000 in
theorem c_X10_places {h : Nat} {fs : List Value} {m : Nat} {a : Nat} {b : Nat} {w : Nat} (f_m : fs[0]? = some (.int (nI m))) (hm6 : m ≤ 6) (ha : a < 64) (hb0 : b < 64) (hw1 : 1 ≤ w) (hw : w ≤ 2 ^ m) : RO l yX10_places wsX10_places 1 20 (dC, dI) (tyK cI cZ cS) [(h, .inr (10, fs))] [.ref h, .int (nI a), .int (nI b), .int (nI w)] (rI (fun r => r = nI (plN (2 ^ m) a b w))) := by
  refine ro_of (by decide) rfl (Nat.le_of_ble_eq_true rfl) ?_
  intro pp ee ss mm bb mt cd Q CFx hP hK hret ls hl
  obtain ⟨hex, hby, hml, hown, hts⟩ := id CFx
  have hl : lv_has ls 8 [(0, .ref h), (1, .int (nI a)), (2, .int (nI b)), (3, .int (nI w))] := hl
  have h26 := p2_6 hm6
  have j12 : ∀ (lo : Nat), (lo = min a b) → ∀ ls : Array Slot, lv_has ls 8 [(0, .ref h), (1, .int (nI a)), (2, .int (nI b)), (3, .int (nI w)), (4, .int (nI lo))] → W pp l ee (rmO 1 20) ss mm ([.ref h, .int (nI a), .int (nI b), .int (nI w)] : List Value).toArray bb mt cd ss.heap [] 0 0 Q (F0 mm 12 ls []) := by
    intro lo hlo ls hl
    have j24 : ∀ (hi : Nat), (hi = max a b) → ∀ ls : Array Slot, lv_has ls 8 [(0, .ref h), (1, .int (nI a)), (2, .int (nI b)), (3, .int (nI w)), (4, .int (nI lo)), (5, .int (nI hi))] → W pp l ee (rmO 1 20) ss mm ([.ref h, .int (nI a), .int (nI b), .int (nI w)] : List Value).toArray bb mt cd ss.heap [] 0 0 Q (F0 mm 24 ls []) := by
      intro hi hhi ls hl
      have j45 : ∀ (fr : Nat), (fr = max a b + 1 - w) → ∀ ls : Array Slot, lv_has ls 8 [(0, .ref h), (1, .int (nI a)), (2, .int (nI b)), (3, .int (nI w)), (4, .int (nI lo)), (5, .int (nI hi)), (6, .int (nI fr))] → W pp l ee (rmO 1 20) ss mm ([.ref h, .int (nI a), .int (nI b), .int (nI w)] : List Value).toArray bb mt cd ss.heap [] 0 0 Q (F0 mm 45 ls []) := by
        intro fr hfr ls hl
        have j69 : ∀ (to : Nat), (to = min (min a b) (2 ^ m - w)) → ∀ ls : Array Slot, lv_has ls 8 [(0, .ref h), (1, .int (nI a)), (2, .int (nI b)), (3, .int (nI w)), (4, .int (nI lo)), (5, .int (nI hi)), (6, .int (nI fr)), (7, .int (nI to))] → W pp l ee (rmO 1 20) ss mm ([.ref h, .int (nI a), .int (nI b), .int (nI w)] : List Value).toArray bb mt cd ss.heap [] 0 0 Q (F0 mm 69 ls []) := by
          intro to hto ls hl
          refine lv_iload hex hby dX10_places_69 (lv_at hl 7 rfl) ?_
          refine lv_iload hex hby dX10_places_71 (lv_at hl 6 rfl) ?_
          refine nv_icmp_ge (tgt := 80) hex hby dX10_places_73 (by decide) (by omega) (by omega) (fun c_1 => ?_) (fun c_1 => ?_)
          · refine lv_iload hex hby dX10_places_80 (lv_at hl 7 rfl) ?_
            refine lv_iload hex hby dX10_places_82 (lv_at hl 6 rfl) ?_
            refine nv_isub hex hby dX10_places_84 (by omega) ?_
            refine lv_iconst (v := nI 1) hex hby dX10_places_85 rfl ?_
            refine nv_iadd hex hby dX10_places_86 ?_
            exact hret _ _ _ _ (Or.inl ⟨rfl, _, rfl, rfl, dX10_places_87⟩) ⟨_, rfl, (congrArg nI (by unfold plN; omega))⟩
          · refine lv_iconst (v := nI 0) hex hby dX10_places_76 rfl ?_
            refine lv_goto (tgt := 87) hex hby dX10_places_77 (by decide) ?_
            exact hret _ _ _ _ (Or.inl ⟨rfl, _, rfl, rfl, dX10_places_87⟩) ⟨_, rfl, (congrArg nI (by unfold plN; omega))⟩
        refine lv_iload hex hby dX10_places_45 (lv_at hl 4 rfl) ?_
        refine lv_aload_n hex hby dX10_places_47 rfl (lv_at hl 0 rfl) ?_
        refine ro_Vi (As := []) (rest := [.int (nI lo)]) CFx (c_X10_side (h := h) (fs := fs) (m := m) f_m hm6) 0 gX10_places_X10_side rfl nd_X10_side ⟨Nat.le_of_ble_eq_true rfl, Nat.le_of_ble_eq_true rfl⟩ hK hP [0] rfl rfl rfl rfl hl.1 rfl (Nat.le_of_ble_eq_true rfl) dX10_places_48 ⟨Nat.le_refl _, Nat.le_refl _⟩ (fun r_2 hr_2 => ?_)
        obtain rfl := hr_2
        refine lv_iload_n hex hby dX10_places_51 rfl (lv_at hl 3 rfl) ?_
        refine nv_isub hex hby dX10_places_52 (by omega) ?_
        refine nv_icmp_ge (tgt := 61) hex hby dX10_places_53 (by decide) (by omega) (by omega) (fun c_3 => ?_) (fun c_3 => ?_)
        · refine lv_aload_n hex hby dX10_places_61 rfl (lv_at hl 0 rfl) ?_
          refine ro_Vi (As := []) (rest := []) CFx (c_X10_side (h := h) (fs := fs) (m := m) f_m hm6) 0 gX10_places_X10_side rfl nd_X10_side ⟨Nat.le_of_ble_eq_true rfl, Nat.le_of_ble_eq_true rfl⟩ hK hP [0] rfl rfl rfl rfl hl.1 rfl (Nat.le_of_ble_eq_true rfl) dX10_places_62 ⟨Nat.le_refl _, Nat.le_refl _⟩ (fun r_4 hr_4 => ?_)
          obtain rfl := hr_4
          refine lv_iload_n hex hby dX10_places_65 rfl (lv_at hl 3 rfl) ?_
          refine nv_isub hex hby dX10_places_66 (by omega) ?_
          refine lv_istore (lv' := [(7, .int (nI (2 ^ m - w))), (0, .ref h), (1, .int (nI a)), (2, .int (nI b)), (3, .int (nI w)), (4, .int (nI lo)), (5, .int (nI hi)), (6, .int (nI fr))]) hex hby dX10_places_67 hl (by decide) rfl (fun ls hl => ?_)
          exact j69 (2 ^ m - w) (by omega) _ (lv_sub hl [1, 2, 3, 4, 5, 6, 7, 0] rfl)
        · refine lv_iload hex hby dX10_places_56 (lv_at hl 4 rfl) ?_
          refine lv_goto (tgt := 67) hex hby dX10_places_58 (by decide) ?_
          refine lv_istore (lv' := [(7, .int (nI lo)), (0, .ref h), (1, .int (nI a)), (2, .int (nI b)), (3, .int (nI w)), (4, .int (nI lo)), (5, .int (nI hi)), (6, .int (nI fr))]) hex hby dX10_places_67 hl (by decide) rfl (fun ls hl => ?_)
          exact j69 lo (by omega) _ (lv_sub hl [1, 2, 3, 4, 5, 6, 7, 0] rfl)
      refine lv_iload hex hby dX10_places_24 (lv_at hl 5 rfl) ?_
      refine lv_iload_n hex hby dX10_places_26 rfl (lv_at hl 3 rfl) ?_
      refine nz_isub (a := (hi : Int)) (b := (w : Int)) hex hby dX10_places_27 (ni_nz _) (ni_nz _) ?_
      refine lv_iconst (v := nI 1) hex hby dX10_places_28 rfl ?_
      refine nz_iadd (a := (hi : Int) - (w : Int)) (b := (1 : Int)) hex hby dX10_places_29 rfl rfl ?_
      refine ni_if_ge (tgt := 37) (a := (hi : Int) - (w : Int) + (1 : Int)) hex hby dX10_places_30 (by decide) (zI_toInt (by omega) (by omega)) (fun c_5 => ?_) (fun c_5 => ?_)
      · refine lv_iload hex hby dX10_places_37 (lv_at hl 5 rfl) ?_
        refine lv_iload_n hex hby dX10_places_39 rfl (lv_at hl 3 rfl) ?_
        refine nz_isub (a := (hi : Int)) (b := (w : Int)) hex hby dX10_places_40 (ni_nz _) (ni_nz _) ?_
        refine lv_iconst (v := nI 1) hex hby dX10_places_41 rfl ?_
        refine nz_iadd (a := (hi : Int) - (w : Int)) (b := (1 : Int)) hex hby dX10_places_42 rfl rfl ?_
        refine nv_top (y := nI (((hi : Int) - (w : Int) + (1 : Int)).toNat)) (by rw [ni_nz]; exact congrArg zI (by omega)) ?_
        refine lv_istore (lv' := [(6, .int (nI (((hi : Int) - (w : Int) + (1 : Int)).toNat))), (0, .ref h), (1, .int (nI a)), (2, .int (nI b)), (3, .int (nI w)), (4, .int (nI lo)), (5, .int (nI hi))]) hex hby dX10_places_43 hl (by decide) rfl (fun ls hl => ?_)
        exact j45 (((hi : Int) - (w : Int) + (1 : Int)).toNat) (by omega) _ (lv_sub hl [1, 2, 3, 4, 5, 6, 0] rfl)
      · refine lv_iconst (v := nI 0) hex hby dX10_places_33 rfl ?_
        refine lv_goto (tgt := 43) hex hby dX10_places_34 (by decide) ?_
        refine lv_istore (lv' := [(6, .int (nI 0)), (0, .ref h), (1, .int (nI a)), (2, .int (nI b)), (3, .int (nI w)), (4, .int (nI lo)), (5, .int (nI hi))]) hex hby dX10_places_43 hl (by decide) rfl (fun ls hl => ?_)
        exact j45 0 (by omega) _ (lv_sub hl [1, 2, 3, 4, 5, 6, 0] rfl)
    refine lv_iload_n hex hby dX10_places_12 rfl (lv_at hl 1 rfl) ?_
    refine lv_iload_n hex hby dX10_places_13 rfl (lv_at hl 2 rfl) ?_
    refine nv_icmp_ge (tgt := 21) hex hby dX10_places_14 (by decide) (by omega) (by omega) (fun c_6 => ?_) (fun c_6 => ?_)
    · refine lv_iload_n hex hby dX10_places_21 rfl (lv_at hl 1 rfl) ?_
      refine lv_istore (lv' := [(5, .int (nI a)), (0, .ref h), (1, .int (nI a)), (2, .int (nI b)), (3, .int (nI w)), (4, .int (nI lo))]) hex hby dX10_places_22 hl (by decide) rfl (fun ls hl => ?_)
      exact j24 a (by omega) _ (lv_sub hl [1, 2, 3, 4, 5, 0] rfl)
    · refine lv_iload_n hex hby dX10_places_17 rfl (lv_at hl 2 rfl) ?_
      refine lv_goto (tgt := 22) hex hby dX10_places_18 (by decide) ?_
      refine lv_istore (lv' := [(5, .int (nI b)), (0, .ref h), (1, .int (nI a)), (2, .int (nI b)), (3, .int (nI w)), (4, .int (nI lo))]) hex hby dX10_places_22 hl (by decide) rfl (fun ls hl => ?_)
      exact j24 b (by omega) _ (lv_sub hl [1, 2, 3, 4, 5, 0] rfl)
  refine lv_iload_n hex hby dX10_places_0 rfl (lv_at hl 1 rfl) ?_
  refine lv_iload_n hex hby dX10_places_1 rfl (lv_at hl 2 rfl) ?_
  refine nv_icmp_ge (tgt := 9) hex hby dX10_places_2 (by decide) (by omega) (by omega) (fun c_7 => ?_) (fun c_7 => ?_)
  · refine lv_iload_n hex hby dX10_places_9 rfl (lv_at hl 2 rfl) ?_
    refine lv_istore (lv' := [(4, .int (nI b)), (0, .ref h), (1, .int (nI a)), (2, .int (nI b)), (3, .int (nI w))]) hex hby dX10_places_10 hl (by decide) rfl (fun ls hl => ?_)
    exact j12 b (by omega) _ (lv_sub hl [1, 2, 3, 4, 0] rfl)
  · refine lv_iload_n hex hby dX10_places_5 rfl (lv_at hl 1 rfl) ?_
    refine lv_goto (tgt := 10) hex hby dX10_places_6 (by decide) ?_
    refine lv_istore (lv' := [(4, .int (nI a)), (0, .ref h), (1, .int (nI a)), (2, .int (nI b)), (3, .int (nI w))]) hex hby dX10_places_10 hl (by decide) rfl (fun ls hl => ?_)
    exact j12 a (by omega) _ (lv_sub hl [1, 2, 3, 4, 0] rfl)
theorem nd_X10_clusters : ndV yX10_clusters RX10 2 := by decide +kernel
theorem in_X10_clusters_X10 : ∀ w ∈ wsX100, w ∈ wsX10_clusters := fun _ h => List.mem_cons_of_mem _ (List.mem_append_right _ (h))
set_option maxHeartbeats 4000000 in
set_option maxRecDepth 100000 in
theorem c_X10_clusters {h : Nat} {aC : Nat} {fs : List Value} {m : Nat} {g : Nat → Nat} {w : Int32} {wz : Int} {ht : Int32} {htz : Int} (f_m : fs[0]? = some (.int (nI m))) (f_cellOf : fs[22]? = some (.ref aC)) (hwz : w.toInt = wz) (hhtz : ht.toInt = htz) (hg : ∀ j, g j < 4096) (hm6 : m ≤ 6) : RO l yX10_clusters wsX10_clusters 2 47 (dC, dI) (tyK cI cZ cS) [(h, .inr (10, fs)), (aC, .inl (cI, 4096, .inl (nA g)))] [.ref h, .int w, .int ht] (rI (fun r => (r = zI (-2) ∧ (¬ (1 ≤ wz ∧ wz ≤ ((2 ^ m : Nat) : Int) ∧ 1 ≤ htz ∧ htz ≤ ((2 ^ m : Nat) : Int)))) ∨ (r = zI (clS (2 ^ m) g wz.toNat htz.toNat (4 ^ m)) ∧ (1 ≤ wz ∧ wz ≤ ((2 ^ m : Nat) : Int) ∧ 1 ≤ htz ∧ htz ≤ ((2 ^ m : Nat) : Int))))) := by
  refine ro_of (by decide) rfl (Nat.le_of_ble_eq_true rfl) ?_
  intro pp ee ss mm bb mt cd Q CFx hP hK hret ls hl
  obtain ⟨hex, hby, hml, hown, hts⟩ := id CFx
  have hl : lv_has ls 7 [(0, .ref h), (1, .int w), (2, .int ht)] := hl
  have h46 := p4_6 hm6
  have h26 := p2_6 hm6
  have h4p := p4_pos m
  refine lv_iload_n hex hby dX10_clusters_0 rfl (lv_at hl 1 rfl) ?_
  refine lv_iconst (v := nI 1) hex hby dX10_clusters_1 rfl ?_
  refine lv_aload_n hex hby dX10_clusters_2 rfl (lv_at hl 0 rfl) ?_
  refine ro_Vi (As := []) (rest := [.int (nI 1), .int w]) CFx (c_X10_side (h := h) (fs := fs) (m := m) f_m hm6) 0 gX10_clusters_X10_side rfl nd_X10_side ⟨Nat.le_of_ble_eq_true rfl, Nat.le_of_ble_eq_true rfl⟩ hK hP [0] rfl rfl rfl rfl hl.1 rfl (Nat.le_of_ble_eq_true rfl) dX10_clusters_3 ⟨Nat.le_refl _, Nat.le_refl _⟩ (fun r_1 hr_1 => ?_)
  obtain rfl := hr_1
  refine ro_Si (As := [.int w, .int (nI 1), .int (nI (2 ^ m))]) (rest := []) (C := RX10) CFx (c_X10_in (x := w) (xz := w.toInt) (lo := nI 1) (loz := (1 : Int)) (hi := nI (2 ^ m)) (hiz := ((2 ^ m : Nat) : Int)) rfl (by rfl) (ni_toInt (by omega))) 3 gX10_clusters_X10_in rfl nd_X10_in ⟨Nat.le_of_ble_eq_true rfl, Nat.le_of_ble_eq_true rfl⟩ hK hP [] rfl rfl hl.1 rfl (Nat.le_of_ble_eq_true rfl) dX10_clusters_6 ⟨Nat.le_refl _, Nat.le_refl _⟩ (fun r_2 hr_2 => ?_)
  rcases hr_2 with ⟨rfl, h_3⟩ | ⟨rfl, h_4⟩
  · refine nv_if_eq (tgt := 24) hex hby dX10_clusters_9 (by decide) (by omega) (fun c => absurd c (by omega)) (fun _ => ?_)
    refine lv_iload_n hex hby dX10_clusters_12 rfl (lv_at hl 2 rfl) ?_
    refine lv_iconst (v := nI 1) hex hby dX10_clusters_13 rfl ?_
    refine lv_aload_n hex hby dX10_clusters_14 rfl (lv_at hl 0 rfl) ?_
    refine ro_Vi (As := []) (rest := [.int (nI 1), .int ht]) CFx (c_X10_side (h := h) (fs := fs) (m := m) f_m hm6) 0 gX10_clusters_X10_side rfl nd_X10_side ⟨Nat.le_of_ble_eq_true rfl, Nat.le_of_ble_eq_true rfl⟩ hK hP [0] rfl rfl rfl rfl hl.1 rfl (Nat.le_of_ble_eq_true rfl) dX10_clusters_15 ⟨Nat.le_refl _, Nat.le_refl _⟩ (fun r_5 hr_5 => ?_)
    obtain rfl := hr_5
    refine ro_Si (As := [.int ht, .int (nI 1), .int (nI (2 ^ m))]) (rest := []) (C := RX10) CFx (c_X10_in (x := ht) (xz := ht.toInt) (lo := nI 1) (loz := (1 : Int)) (hi := nI (2 ^ m)) (hiz := ((2 ^ m : Nat) : Int)) rfl (by rfl) (ni_toInt (by omega))) 3 gX10_clusters_X10_in rfl nd_X10_in ⟨Nat.le_of_ble_eq_true rfl, Nat.le_of_ble_eq_true rfl⟩ hK hP [] rfl rfl hl.1 rfl (Nat.le_of_ble_eq_true rfl) dX10_clusters_18 ⟨Nat.le_refl _, Nat.le_refl _⟩ (fun r_6 hr_6 => ?_)
    rcases hr_6 with ⟨rfl, h_7⟩ | ⟨rfl, h_8⟩
    · refine nv_if_ne (tgt := 27) hex hby dX10_clusters_21 (by decide) (by omega) (fun _ => ?_) (fun c => absurd c (by omega))
      obtain ⟨wn, hwn_, rfl, hwne⟩ := ni_of (x := w) (by omega)
      obtain ⟨hn, hhn_, rfl, hhne⟩ := ni_of (x := ht) (by omega)
      have hwt : wz.toNat = wn := by omega
      have hht : htz.toNat = hn := by omega
      refine lv_iconst (v := nI 0) hex hby dX10_clusters_27 rfl ?_
      refine lv_istore_n (lv' := [(3, .int (nI 0)), (0, .ref h), (1, .int (nI wn)), (2, .int (nI hn))]) hex hby dX10_clusters_28 rfl hl (by decide) rfl (fun ls hl => ?_)
      refine lv_iconst (v := nI 0) hex hby dX10_clusters_29 rfl ?_
      refine lv_istore (lv' := [(4, .int (nI 0)), (3, .int (nI 0)), (0, .ref h), (1, .int (nI wn)), (2, .int (nI hn))]) hex hby dX10_clusters_30 hl (by decide) rfl (fun ls hl => ?_)
      have loop32 : ∀ (nn : Nat) (z : Int) (i : Nat), (4 ^ m - i) < nn → (i ≤ 4 ^ m) → (z = clS (2 ^ m) g wn hn i) → ∀ ls : Array Slot, lv_has ls 7 [(4, .int (nI i)), (3, .int (zI z)), (0, .ref h), (1, .int (nI wn)), (2, .int (nI hn))] → W pp l ee (rmO 2 47) ss mm ([.ref h, .int (nI wn), .int (nI hn)] : List Value).toArray bb mt cd ss.heap [] 0 0 Q (F0 mm 32 ls []) := by
        intro nn
        induction nn with
        | zero => intro z i hms32; exact absurd hms32 (Nat.not_lt_zero _)
        | succ nn ih32 =>
          intro z i hms32 hi hz ls hl
          refine lv_iload hex hby dX10_clusters_32 (lv_at hl 0 rfl) ?_
          refine lv_aload_n hex hby dX10_clusters_34 rfl (lv_at hl 2 rfl) ?_
          refine ro_Vi (As := []) (rest := [.int (nI i)]) CFx (c_X10_all (h := h) (fs := fs) (m := m) f_m hm6) 0 gX10_clusters_X10_all rfl nd_X10_all ⟨Nat.le_of_ble_eq_true rfl, Nat.le_of_ble_eq_true rfl⟩ hK hP [0] rfl rfl rfl rfl hl.1 rfl (Nat.le_of_ble_eq_true rfl) dX10_clusters_35 ⟨Nat.le_refl _, Nat.le_refl _⟩ (fun r_9 hr_9 => ?_)
          obtain rfl := hr_9
          refine nv_icmp_ge (tgt := 154) hex hby dX10_clusters_38 (by decide) (by omega) (by omega) (fun c_10 => ?_) (fun c_10 => ?_)
          · have hei : i = 4 ^ m := by omega
            refine lv_iload_n hex hby dX10_clusters_154 rfl (lv_at hl 1 rfl) ?_
            exact hret _ _ _ _ (Or.inl ⟨rfl, _, rfl, rfl, dX10_clusters_155⟩) ⟨_, rfl, Or.inr ⟨(by rw [hz, hei, hwt, hht]), (by omega)⟩⟩
          · refine lv_aload_n hex hby dX10_clusters_41 rfl (lv_at hl 2 rfl) ?_
            refine nv_get (v := .ref aC) CFx in_X10_clusters_X10 hK hP 0 rfl rfl 22 (by decide) (List.mem_of_getElem? (i := 1) rfl) f_cellOf dX10_clusters_42 ?_
            refine lv_iload hex hby dX10_clusters_45 (lv_at hl 0 rfl) ?_
            refine nv_iald hex hby hK hP 1 0 rfl rfl (by omega) (by omega) dX10_clusters_47 ?_
            have hb_11 := hg i
            refine lv_istore (lv' := [(5, .int (nI (g i))), (4, .int (nI i)), (3, .int (zI z)), (0, .ref h), (1, .int (nI wn)), (2, .int (nI hn))]) hex hby dX10_clusters_48 hl (by decide) rfl (fun ls hl => ?_)
            have hb1 := hg i
            have hb2 := hg (i - 1)
            have j71 : ∀ (b : Nat), (b = if i = 0 then g i else g (i - 1)) → (b < 4096) → ∀ ls : Array Slot, lv_has ls 7 [(5, .int (nI (g i))), (4, .int (nI i)), (3, .int (zI z)), (0, .ref h), (1, .int (nI wn)), (2, .int (nI hn)), (6, .int (nI b))] → W pp l ee (rmO 2 47) ss mm ([.ref h, .int (nI wn), .int (nI hn)] : List Value).toArray bb mt cd ss.heap [] 0 0 Q (F0 mm 71 ls []) := by
              intro b hb hb0 ls hl
              refine lv_iload_n hex hby dX10_clusters_71 rfl (lv_at hl 2 rfl) ?_
              refine lv_aload_n hex hby dX10_clusters_72 rfl (lv_at hl 3 rfl) ?_
              refine lv_iload hex hby dX10_clusters_73 (lv_at hl 0 rfl) ?_
              refine lv_bipush (v := nI 64) hex hby dX10_clusters_75 rfl ?_
              refine nv_irem hex hby dX10_clusters_77 (by omega) (by omega) (by omega) ?_
              refine lv_iload hex hby dX10_clusters_78 (lv_at hl 0 rfl) ?_
              refine lv_bipush (v := nI 64) hex hby dX10_clusters_80 rfl ?_
              refine nv_irem hex hby dX10_clusters_82 (by omega) (by omega) (by omega) ?_
              refine lv_iload_n hex hby dX10_clusters_83 rfl (lv_at hl 4 rfl) ?_
              refine ro_Vi (As := [.int (nI (g i % 64)), .int (nI (g i % 64)), .int (nI wn)]) (rest := [.int (zI z)]) CFx (c_X10_places (h := h) (fs := fs) (m := m) (a := g i % 64) (b := g i % 64) (w := wn) f_m hm6 (by omega) (by omega) (by omega) (by omega)) 3 gX10_clusters_X10_places rfl nd_X10_places ⟨Nat.le_of_ble_eq_true rfl, Nat.le_of_ble_eq_true rfl⟩ hK hP [0] rfl rfl rfl rfl hl.1 rfl (Nat.le_of_ble_eq_true rfl) dX10_clusters_84 ⟨Nat.le_refl _, Nat.le_refl _⟩ (fun r_12 hr_12 => ?_)
              obtain rfl := hr_12
              refine lv_aload_n hex hby dX10_clusters_87 rfl (lv_at hl 3 rfl) ?_
              refine lv_iload hex hby dX10_clusters_88 (lv_at hl 0 rfl) ?_
              refine lv_bipush (v := nI 64) hex hby dX10_clusters_90 rfl ?_
              refine nv_idiv hex hby dX10_clusters_92 (by omega) (by omega) (by omega) ?_
              refine lv_iload hex hby dX10_clusters_93 (lv_at hl 0 rfl) ?_
              refine lv_bipush (v := nI 64) hex hby dX10_clusters_95 rfl ?_
              refine nv_idiv hex hby dX10_clusters_97 (by omega) (by omega) (by omega) ?_
              refine lv_iload_n hex hby dX10_clusters_98 rfl (lv_at hl 5 rfl) ?_
              refine ro_Vi (As := [.int (nI (g i / 64)), .int (nI (g i / 64)), .int (nI hn)]) (rest := [.int (nI (plN (2 ^ m) (g i % 64) (g i % 64) wn)), .int (zI z)]) CFx (c_X10_places (h := h) (fs := fs) (m := m) (a := g i / 64) (b := g i / 64) (w := hn) f_m hm6 (by omega) (by omega) (by omega) (by omega)) 3 gX10_clusters_X10_places rfl nd_X10_places ⟨Nat.le_of_ble_eq_true rfl, Nat.le_of_ble_eq_true rfl⟩ hK hP [0] rfl rfl rfl rfl hl.1 rfl (Nat.le_of_ble_eq_true rfl) dX10_clusters_99 ⟨Nat.le_refl _, Nat.le_refl _⟩ (fun r_13 hr_13 => ?_)
              obtain rfl := hr_13
              refine nv_imul hex hby dX10_clusters_102 ?_
              refine nz_iadd (a := z) (b := ((plN (2 ^ m) (g i % 64) (g i % 64) wn * plN (2 ^ m) (g i / 64) (g i / 64) hn : Nat) : Int)) hex hby dX10_clusters_103 rfl (ni_nz _) ?_
              refine lv_istore_n (lv' := [(3, .int (zI (z + ((plN (2 ^ m) (g i % 64) (g i % 64) wn * plN (2 ^ m) (g i / 64) (g i / 64) hn : Nat) : Int)))), (5, .int (nI (g i))), (4, .int (nI i)), (0, .ref h), (1, .int (nI wn)), (2, .int (nI hn)), (6, .int (nI b))]) hex hby dX10_clusters_104 rfl hl (by decide) rfl (fun ls hl => ?_)
              refine lv_iload_n hex hby dX10_clusters_105 rfl (lv_at hl 0 rfl) ?_
              refine lv_iload hex hby dX10_clusters_106 (lv_at hl 2 rfl) ?_
              refine nv_if_ne (tgt := 115) hex hby dX10_clusters_108 (by decide) (by omega) (fun c_14 => ?_) (fun c_14 => ?_)
              · refine lv_aload_n hex hby dX10_clusters_115 rfl (lv_at hl 3 rfl) ?_
                refine lv_iload hex hby dX10_clusters_116 (lv_at hl 1 rfl) ?_
                refine lv_bipush (v := nI 64) hex hby dX10_clusters_118 rfl ?_
                refine nv_irem hex hby dX10_clusters_120 (by omega) (by omega) (by omega) ?_
                refine lv_iload hex hby dX10_clusters_121 (lv_at hl 6 rfl) ?_
                refine lv_bipush (v := nI 64) hex hby dX10_clusters_123 rfl ?_
                refine nv_irem hex hby dX10_clusters_125 (by omega) (by omega) (by omega) ?_
                refine lv_iload_n hex hby dX10_clusters_126 rfl (lv_at hl 4 rfl) ?_
                refine ro_Vi (As := [.int (nI (g i % 64)), .int (nI (b % 64)), .int (nI wn)]) (rest := [.int (zI (z + ((plN (2 ^ m) (g i % 64) (g i % 64) wn * plN (2 ^ m) (g i / 64) (g i / 64) hn : Nat) : Int)))]) CFx (c_X10_places (h := h) (fs := fs) (m := m) (a := g i % 64) (b := b % 64) (w := wn) f_m hm6 (by omega) (by omega) (by omega) (by omega)) 3 gX10_clusters_X10_places rfl nd_X10_places ⟨Nat.le_of_ble_eq_true rfl, Nat.le_of_ble_eq_true rfl⟩ hK hP [0] rfl rfl rfl rfl hl.1 rfl (Nat.le_of_ble_eq_true rfl) dX10_clusters_127 ⟨Nat.le_refl _, Nat.le_refl _⟩ (fun r_15 hr_15 => ?_)
                obtain rfl := hr_15
                refine lv_aload_n hex hby dX10_clusters_130 rfl (lv_at hl 3 rfl) ?_
                refine lv_iload hex hby dX10_clusters_131 (lv_at hl 1 rfl) ?_
                refine lv_bipush (v := nI 64) hex hby dX10_clusters_133 rfl ?_
                refine nv_idiv hex hby dX10_clusters_135 (by omega) (by omega) (by omega) ?_
                refine lv_iload hex hby dX10_clusters_136 (lv_at hl 6 rfl) ?_
                refine lv_bipush (v := nI 64) hex hby dX10_clusters_138 rfl ?_
                refine nv_idiv hex hby dX10_clusters_140 (by omega) (by omega) (by omega) ?_
                refine lv_iload_n hex hby dX10_clusters_141 rfl (lv_at hl 5 rfl) ?_
                refine ro_Vi (As := [.int (nI (g i / 64)), .int (nI (b / 64)), .int (nI hn)]) (rest := [.int (nI (plN (2 ^ m) (g i % 64) (b % 64) wn)), .int (zI (z + ((plN (2 ^ m) (g i % 64) (g i % 64) wn * plN (2 ^ m) (g i / 64) (g i / 64) hn : Nat) : Int)))]) CFx (c_X10_places (h := h) (fs := fs) (m := m) (a := g i / 64) (b := b / 64) (w := hn) f_m hm6 (by omega) (by omega) (by omega) (by omega)) 3 gX10_clusters_X10_places rfl nd_X10_places ⟨Nat.le_of_ble_eq_true rfl, Nat.le_of_ble_eq_true rfl⟩ hK hP [0] rfl rfl rfl rfl hl.1 rfl (Nat.le_of_ble_eq_true rfl) dX10_clusters_142 ⟨Nat.le_refl _, Nat.le_refl _⟩ (fun r_16 hr_16 => ?_)
                obtain rfl := hr_16
                refine nv_imul hex hby dX10_clusters_145 ?_
                refine nz_isub (a := z + ((plN (2 ^ m) (g i % 64) (g i % 64) wn * plN (2 ^ m) (g i / 64) (g i / 64) hn : Nat) : Int)) (b := ((plN (2 ^ m) (g i % 64) (b % 64) wn * plN (2 ^ m) (g i / 64) (b / 64) hn : Nat) : Int)) hex hby dX10_clusters_146 rfl (ni_nz _) ?_
                refine lv_istore_n (lv' := [(3, .int (zI (z + ((plN (2 ^ m) (g i % 64) (g i % 64) wn * plN (2 ^ m) (g i / 64) (g i / 64) hn : Nat) : Int) - ((plN (2 ^ m) (g i % 64) (b % 64) wn * plN (2 ^ m) (g i / 64) (b / 64) hn : Nat) : Int)))), (5, .int (nI (g i))), (4, .int (nI i)), (0, .ref h), (1, .int (nI wn)), (2, .int (nI hn)), (6, .int (nI b))]) hex hby dX10_clusters_147 rfl hl (by decide) rfl (fun ls hl => ?_)
                refine lv_iinc (v := nI (i + 1)) (lv' := [(4, .int (nI (i + 1))), (3, .int (zI (z + ((plN (2 ^ m) (g i % 64) (g i % 64) wn * plN (2 ^ m) (g i / 64) (g i / 64) hn : Nat) : Int) - ((plN (2 ^ m) (g i % 64) (b % 64) wn * plN (2 ^ m) (g i / 64) (b / 64) hn : Nat) : Int)))), (5, .int (nI (g i))), (0, .ref h), (1, .int (nI wn)), (2, .int (nI hn)), (6, .int (nI b))]) hex hby dX10_clusters_148 hl (k := 2) rfl (ni_inc _) (by decide) rfl (fun ls hl => ?_)
                refine lv_goto (tgt := 32) hex hby dX10_clusters_151 (by decide) ?_
                exact ih32 (z + ((plN (2 ^ m) (g i % 64) (g i % 64) wn * plN (2 ^ m) (g i / 64) (g i / 64) hn : Nat) : Int) - ((plN (2 ^ m) (g i % 64) (b % 64) wn * plN (2 ^ m) (g i / 64) (b / 64) hn : Nat) : Int)) (i + 1) (by omega) (by omega) (by rw [clS, ← hz, if_neg (by omega), plN_comm _ (g (i - 1) % 64), plN_comm _ (g (i - 1) / 64)]; rw [if_neg (by omega)] at hb; rw [hb]) _ (lv_sub hl [0, 1, 3, 4, 5] rfl)
              · refine lv_iconst (v := nI 0) hex hby dX10_clusters_111 rfl ?_
                refine lv_goto (tgt := 146) hex hby dX10_clusters_112 (by decide) ?_
                refine nz_isub (a := z + ((plN (2 ^ m) (g i % 64) (g i % 64) wn * plN (2 ^ m) (g i / 64) (g i / 64) hn : Nat) : Int)) (b := (0 : Int)) hex hby dX10_clusters_146 rfl rfl ?_
                refine lv_istore_n (lv' := [(3, .int (zI (z + ((plN (2 ^ m) (g i % 64) (g i % 64) wn * plN (2 ^ m) (g i / 64) (g i / 64) hn : Nat) : Int) - (0 : Int)))), (5, .int (nI (g i))), (4, .int (nI i)), (0, .ref h), (1, .int (nI wn)), (2, .int (nI hn)), (6, .int (nI b))]) hex hby dX10_clusters_147 rfl hl (by decide) rfl (fun ls hl => ?_)
                refine lv_iinc (v := nI (i + 1)) (lv' := [(4, .int (nI (i + 1))), (3, .int (zI (z + ((plN (2 ^ m) (g i % 64) (g i % 64) wn * plN (2 ^ m) (g i / 64) (g i / 64) hn : Nat) : Int) - (0 : Int)))), (5, .int (nI (g i))), (0, .ref h), (1, .int (nI wn)), (2, .int (nI hn)), (6, .int (nI b))]) hex hby dX10_clusters_148 hl (k := 2) rfl (ni_inc _) (by decide) rfl (fun ls hl => ?_)
                refine lv_goto (tgt := 32) hex hby dX10_clusters_151 (by decide) ?_
                exact ih32 (z + ((plN (2 ^ m) (g i % 64) (g i % 64) wn * plN (2 ^ m) (g i / 64) (g i / 64) hn : Nat) : Int) - (0 : Int)) (i + 1) (by omega) (by omega) (by rw [clS, ← hz, if_pos (by omega)]) _ (lv_sub hl [0, 1, 3, 4, 5] rfl)
            refine lv_iload hex hby dX10_clusters_50 (lv_at hl 1 rfl) ?_
            refine nv_if_ne (tgt := 60) hex hby dX10_clusters_52 (by decide) (by omega) (fun c_17 => ?_) (fun c_17 => ?_)
            · refine lv_aload_n hex hby dX10_clusters_60 rfl (lv_at hl 3 rfl) ?_
              refine nv_get (v := .ref aC) CFx in_X10_clusters_X10 hK hP 0 rfl rfl 22 (by decide) (List.mem_of_getElem? (i := 1) rfl) f_cellOf dX10_clusters_61 ?_
              refine lv_iload hex hby dX10_clusters_64 (lv_at hl 1 rfl) ?_
              refine lv_iconst (v := nI 1) hex hby dX10_clusters_66 rfl ?_
              refine nv_isub hex hby dX10_clusters_67 (by omega) ?_
              refine nv_iald hex hby hK hP 1 0 rfl rfl (by omega) (by omega) dX10_clusters_68 ?_
              have hb_18 := hg (i - 1)
              refine lv_istore (lv' := [(6, .int (nI (g (i - 1)))), (5, .int (nI (g i))), (4, .int (nI i)), (3, .int (zI z)), (0, .ref h), (1, .int (nI wn)), (2, .int (nI hn))]) hex hby dX10_clusters_69 hl (by decide) rfl (fun ls hl => ?_)
              exact j71 (g (i - 1)) (by rw [if_neg (by omega)]) (by omega) _ (lv_sub hl [1, 2, 3, 4, 5, 6, 0] rfl)
            · refine lv_iload hex hby dX10_clusters_55 (lv_at hl 0 rfl) ?_
              refine lv_goto (tgt := 69) hex hby dX10_clusters_57 (by decide) ?_
              refine lv_istore (lv' := [(6, .int (nI (g i))), (5, .int (nI (g i))), (4, .int (nI i)), (3, .int (zI z)), (0, .ref h), (1, .int (nI wn)), (2, .int (nI hn))]) hex hby dX10_clusters_69 hl (by decide) rfl (fun ls hl => ?_)
              exact j71 (g i) (by rw [if_pos (by omega)]) (by omega) _ (lv_sub hl [1, 2, 3, 4, 5, 6, 0] rfl)
      exact loop32 _ (0 : Int) 0 (Nat.lt_succ_self _) (by omega) rfl _ (lv_sub hl [0, 1, 2, 3, 4] rfl)
    · refine nv_if_ne (tgt := 27) hex hby dX10_clusters_21 (by decide) (by omega) (fun c => absurd c (by omega)) (fun _ => ?_)
      refine lv_bipush (v := zI (-2)) hex hby dX10_clusters_24 rfl ?_
      exact hret _ _ _ _ (Or.inl ⟨rfl, _, rfl, rfl, dX10_clusters_26⟩) ⟨_, rfl, Or.inl ⟨rfl, (by omega)⟩⟩
  · refine nv_if_eq (tgt := 24) hex hby dX10_clusters_9 (by decide) (by omega) (fun _ => ?_) (fun c => absurd c (by omega))
    refine lv_bipush (v := zI (-2)) hex hby dX10_clusters_24 rfl ?_
    exact hret _ _ _ _ (Or.inl ⟨rfl, _, rfl, rfl, dX10_clusters_26⟩) ⟨_, rfl, Or.inl ⟨rfl, (by omega)⟩⟩
end BRK
