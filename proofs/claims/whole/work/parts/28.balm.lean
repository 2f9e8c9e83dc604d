-- balancing: the lowest leaf that has a neighbour of less than half its side is divided, as long as there is one
def TLf (T : Nat → Nat) (m c : Nat) (st lv : Nat → Nat) (k : Nat) : Prop := ∃ s, s < 4 ∧ ∃ v, Nbr T m c st lv s k v ∧ lv v + 1 < lv k
def BalN (T : Nat → Nat) (m : Nat) : Nat → Nat → (Nat → Nat) → (Nat → Nat) → Nat → (Nat → Nat) → (Nat → Nat) → Prop
  | 0, c, st, lv, c', st', lv' => (∀ k, k < c → ¬ TLf T m c st lv k) ∧ c = c' ∧ st = st' ∧ lv = lv'
  | n + 1, c, st, lv, c', st', lv' => ∃ k, k < c ∧ TLf T m c st lv k ∧ (∀ j, j < k → ¬ TLf T m c st lv j) ∧ BalN T m n (c + 3) (dst st lv k) (dlv lv k) c' st' lv'
theorem BalN.uniq {T : Nat → Nat} {m : Nat} : ∀ {n n' c : Nat} {st lv : Nat → Nat} {c1 c2 : Nat} {st1 lv1 st2 lv2 : Nat → Nat}, BalN T m n c st lv c1 st1 lv1 → BalN T m n' c st lv c2 st2 lv2 → n = n' ∧ c1 = c2 ∧ st1 = st2 ∧ lv1 = lv2
  | 0, 0, _, _, _, _, _, _, _, _, _, h, h' => by
    obtain ⟨_, a1, a2, a3⟩ := h
    obtain ⟨_, b1, b2, b3⟩ := h'
    exact ⟨rfl, a1.symm.trans b1, a2.symm.trans b2, a3.symm.trans b3⟩
  | 0, n' + 1, _, _, _, _, _, _, _, _, _, h, h' => by
    obtain ⟨k, k1, k2, _⟩ := h'
    exact absurd k2 (h.1 k k1)
  | n + 1, 0, _, _, _, _, _, _, _, _, _, h, h' => by
    obtain ⟨k, k1, k2, _⟩ := h
    exact absurd k2 (h'.1 k k1)
  | n + 1, n' + 1, _, _, _, _, _, _, _, _, _, h, h' => by
    obtain ⟨k, k1, k2, k3, k4⟩ := h
    obtain ⟨j, j1, j2, j3, j4⟩ := h'
    have e : k = j := first_one (p := fun k => TLf T m _ _ _ k) k2 k3 j2 j3
    subst e
    obtain ⟨e1, e2⟩ := BalN.uniq k4 j4
    exact ⟨by rw [e1], e2⟩
theorem lxv_lo {T : Nat → Nat} {m : Nat} {st lv : Nat → Nat} {k j : Nat} (h : j < k) : lxv T m (dst st lv k) (dlv lv k) j = lxv T m st lv j ∧ lyv T m (dst st lv k) (dlv lv k) j = lyv T m st lv j := by
  unfold lxv lyv
  rw [dst_lo (by omega), dlv_lo h]
  exact ⟨rfl, rfl⟩
theorem lxv_hi {T : Nat → Nat} {m : Nat} {st lv : Nat → Nat} {k j : Nat} (h : k < j) : lxv T m (dst st lv k) (dlv lv k) (j + 3) = lxv T m st lv j ∧ lyv T m (dst st lv k) (dlv lv k) (j + 3) = lyv T m st lv j := by
  unfold lxv lyv
  rw [dst_hi (by omega), dlv_hi (by omega), Nat.add_sub_cancel]
  exact ⟨rfl, rfl⟩
theorem TL_keep {T : Nat → Nat} {n m c : Nat} {st lv : Nat → Nat} (hV : VT T n) (hL : LvL m c st lv) {k j : Nat} (hk : k < c) (hl : 1 ≤ lv k) (hj : j < k) (h : TLf T m (c + 3) (dst st lv k) (dlv lv k) j) : TLf T m c st lv j ∨ ∃ s, s < 4 ∧ Nbr T m c st lv s j k := by
  obtain ⟨s, hs, w, ⟨hb, hw, t, ht, hin⟩, hlv⟩ := h
  have hx := lxv_lo (T := T) (m := m) (st := st) (lv := lv) hj
  have eL : dlv lv k j = lv j := dlv_lo hj
  have hb' : byd T m st lv s j := by
    unfold byd at hb ⊢
    rw [hx.1, hx.2, eL] at hb
    exact hb
  rw [eL] at ht hlv
  have ex : bcx T m (dst st lv k) (dlv lv k) s j t = bcx T m st lv s j t := by unfold bcx; rw [hx.1, eL]
  have ey : bcy T m (dst st lv k) (dlv lv k) s j t = bcy T m st lv s j t := by unfold bcy; rw [hx.2, eL]
  rw [ex, ey] at hin
  have hg := bc_in hV hL (show j < c by omega) hb' ht
  -- the old leaf of the cell
  obtain ⟨i, hi, e1, e2⟩ := cv_sur hV m _ _ hg.1 hg.2
  obtain ⟨u, hu, u1, u2⟩ := hL.at hi
  have hu3 := (geo hV hL hu hi).mp ⟨u1, u2⟩
  rw [e1, e2] at hu3
  rcases Nat.lt_trichotomy u k with q | q | q
  · have hx' := lxv_lo (T := T) (m := m) (st := st) (lv := lv) q
    have eU : dlv lv k u = lv u := dlv_lo q
    have hin' : inLf T m (dst st lv k) (dlv lv k) u (bcx T m st lv s j t) (bcy T m st lv s j t) := by
      unfold inLf; rw [hx'.1, hx'.2, eU]; exact hu3
    have e := inLf.uniq hV (hL.div hk hl) hw (show u < c + 3 by omega) hg.1 hg.2 hin hin'
    rw [e, eU] at hlv
    exact Or.inl ⟨s, hs, u, ⟨hb', hu, t, ht, hu3⟩, hlv⟩
  · subst q
    exact Or.inr ⟨s, hs, hb', hu, t, ht, hu3⟩
  · have hx' := lxv_hi (T := T) (m := m) (st := st) (lv := lv) q
    have eU : dlv lv k (u + 3) = lv u := by rw [dlv_hi (by omega), Nat.add_sub_cancel]
    have hin' : inLf T m (dst st lv k) (dlv lv k) (u + 3) (bcx T m st lv s j t) (bcy T m st lv s j t) := by
      unfold inLf; rw [hx'.1, hx'.2, eU]; exact hu3
    have e := inLf.uniq hV (hL.div hk hl) hw (show u + 3 < c + 3 by omega) hg.1 hg.2 hin hin'
    rw [e, eU] at hlv
    exact Or.inl ⟨s, hs, u, ⟨hb', hu, t, ht, hu3⟩, hlv⟩
/-- a neighbour has its neighbour at the other side -/
theorem Nbr.symm {T : Nat → Nat} {n m c : Nat} {st lv : Nat → Nat} (hV : VT T n) (hL : LvL m c st lv) {s j k : Nat} (hs : s < 4) (hj : j < c) (hjk : j ≠ k) (h : Nbr T m c st lv s j k) : ∃ s', s' < 4 ∧ Nbr T m c st lv s' k j := by
  obtain ⟨hb, hk, t, ht, hin⟩ := h
  have hg := bc_in hV hL hj hb ht
  have htj := lxv_top hV hL hj
  have htk := lxv_top hV hL hk
  have hpj := p2_pos (lv j)
  -- cells that are in both leaves are none
  have hno : ∀ x y, x < 2 ^ m → y < 2 ^ m → inLf T m st lv j x y → ¬ inLf T m st lv k x y := fun x y h1 h2 h3 h4 => hjk (inLf.uniq hV hL hj hk h1 h2 h3 h4)
  rcases (show s = 0 ∨ s = 1 ∨ s = 2 ∨ s = 3 by omega) with e | e | e | e
  · subst e
    unfold bcx bcy at hin hg
    simp at hin hg
    unfold byd at hb
    simp at hb
    have h1 := hno (lxv T m st lv j) (lyv T m st lv j + t) (by omega) (by omega)
    unfold inLf at hin h1
    have e1 : lxv T m st lv k + 2 ^ lv k = lxv T m st lv j := by
      rcases Nat.lt_or_ge (lxv T m st lv j) (lxv T m st lv k + 2 ^ lv k) with z | z
      · exact absurd ⟨⟨by omega, z⟩, hin.2⟩ (h1 ⟨by omega, by omega⟩)
      · omega
    refine ⟨1, by decide, Or.inr (Or.inl ⟨rfl, by omega⟩), hj, lyv T m st lv j + t - lyv T m st lv k, by omega, ?_⟩
    unfold inLf bcx bcy
    simp
    omega
  · subst e
    unfold bcx bcy at hin hg
    simp at hin hg
    unfold byd at hb
    simp at hb
    have h1 := hno (lxv T m st lv j + 2 ^ lv j - 1) (lyv T m st lv j + t) (by omega) (by omega)
    unfold inLf at hin h1
    have e1 : lxv T m st lv k = lxv T m st lv j + 2 ^ lv j := by
      rcases Nat.lt_or_ge (lxv T m st lv k) (lxv T m st lv j + 2 ^ lv j) with z | z
      · exact absurd ⟨⟨by omega, by omega⟩, hin.2⟩ (h1 ⟨by omega, by omega⟩)
      · omega
    refine ⟨0, by decide, Or.inl ⟨rfl, by omega⟩, hj, lyv T m st lv j + t - lyv T m st lv k, by omega, ?_⟩
    unfold inLf bcx bcy
    simp
    omega
  · subst e
    unfold bcx bcy at hin hg
    simp at hin hg
    unfold byd at hb
    simp at hb
    have h1 := hno (lxv T m st lv j + t) (lyv T m st lv j) (by omega) (by omega)
    unfold inLf at hin h1
    have e1 : lyv T m st lv k + 2 ^ lv k = lyv T m st lv j := by
      rcases Nat.lt_or_ge (lyv T m st lv j) (lyv T m st lv k + 2 ^ lv k) with z | z
      · exact absurd ⟨hin.1, ⟨by omega, z⟩⟩ (h1 ⟨by omega, by omega⟩)
      · omega
    refine ⟨3, by decide, Or.inr (Or.inr (Or.inr ⟨rfl, by omega⟩)), hj, lxv T m st lv j + t - lxv T m st lv k, by omega, ?_⟩
    unfold inLf bcx bcy
    simp
    omega
  · subst e
    unfold bcx bcy at hin hg
    simp at hin hg
    unfold byd at hb
    simp at hb
    have h1 := hno (lxv T m st lv j + t) (lyv T m st lv j + 2 ^ lv j - 1) (by omega) (by omega)
    unfold inLf at hin h1
    have e1 : lyv T m st lv k = lyv T m st lv j + 2 ^ lv j := by
      rcases Nat.lt_or_ge (lyv T m st lv k) (lyv T m st lv j + 2 ^ lv j) with z | z
      · exact absurd ⟨hin.1, ⟨by omega, by omega⟩⟩ (h1 ⟨by omega, by omega⟩)
      · omega
    refine ⟨2, by decide, Or.inr (Or.inr (Or.inl ⟨rfl, by omega⟩)), hj, lxv T m st lv j + t - lxv T m st lv k, by omega, ?_⟩
    unfold inLf bcx bcy
    simp
    omega
/-- behind a division no leaf below the lowest neighbour is too large -/
theorem TL_back {T : Nat → Nat} {n m c : Nat} {st lv : Nat → Nat} (hV : VT T n) (hL : LvL m c st lv) {k b : Nat} (hk : k < c) (hl : 1 ≤ lv k) (hbk : b ≤ k) (hlow : ∀ j, j < k → ¬ TLf T m c st lv j) (hb : ∀ s, s < 4 → ∀ v, Nbr T m c st lv s k v → b ≤ v) : ∀ j, j < b → ¬ TLf T m (c + 3) (dst st lv k) (dlv lv k) j := by
  intro j hj h
  rcases TL_keep hV hL hk hl (by omega) h with q | ⟨s, hs, q⟩
  · exact hlow j (by omega) q
  · obtain ⟨s', h1, h2⟩ := q.symm hV hL hs (by omega) (by omega)
    have := hb s' h1 j h2
    omega
theorem TL_lv {T : Nat → Nat} {m c : Nat} {st lv : Nat → Nat} {k : Nat} (h : TLf T m c st lv k) : 2 ≤ lv k := by
  obtain ⟨_, _, v, _, h⟩ := h
  omega
theorem TL_LD {T : Nat → Nat} {n m pc c : Nat} {pt st lv : Nat → Nat} (hV : VT T n) (hD : LD T m pc pt c st lv) {k : Nat} (hk : k < c) (h : TLf T m c st lv k) : LD T m pc pt (c + 3) (dst st lv k) (dlv lv k) := by
  have hl := TL_lv h
  refine hD.div hk (by omega) (fun e => by omega) (fun e => ?_)
  obtain ⟨s, hs, v, ⟨hb, hv, t, ht, hin⟩, hlv⟩ := h
  have hL := hD.1
  have h0 : lv v = 0 := by omega
  have hm := (hL.2.2.2 k hk).2.2
  have htv := hL.top hv
  have hp := p4_pos (lv v)
  have ax := cvx_blk T m 1 (st v) (by omega)
  have ay := cvy_blk hV m 1 (st v) (by omega)
  have kx := cvx_blk T m 2 (st k) (by omega)
  have ky := cvy_blk hV m 2 (st k) (by omega)
  right
  refine ⟨st v / 4 ^ 1, blk_lt (by omega) (by omega), ⟨v, hv, by omega, rfl⟩, ?_⟩
  unfold tch
  rw [← ax, ← ay, ← kx, ← ky]
  have hlx : lxv T m st lv v = cvx T m (st v) := by unfold lxv; rw [h0]; simp
  have hly : lyv T m st lv v = cvy T m (st v) := by unfold lyv; rw [h0]; simp
  have hkx : lxv T m st lv k = cvx T m (st k) / 4 * 4 := by unfold lxv; rw [e]
  have hky : lyv T m st lv k = cvy T m (st k) / 4 * 4 := by unfold lyv; rw [e]
  rw [e] at ht
  unfold inLf bcx bcy at hin
  rw [hlx, hly, h0, hkx, hky, e] at hin
  unfold byd at hb
  rw [hkx, hky, e] at hb
  have e4 : (2 : Nat) ^ 2 = 4 := rfl
  have e1 : (2 : Nat) ^ 0 = 1 := rfl
  have e2 : (2 : Nat) ^ 1 = 2 := rfl
  rw [e4] at ht hin hb ⊢
  rw [e1] at hin
  rw [e2]
  rcases (show s = 0 ∨ s = 1 ∨ s = 2 ∨ s = 3 by omega) with z | z | z | z <;> subst z <;> simp at hin hb <;> omega
theorem p2_half {a b : Nat} : 2 * 2 ^ a < 2 ^ b ↔ a + 1 < b := by
  rw [← p2_s]
  exact Nat.pow_lt_pow_iff_right (by decide)
