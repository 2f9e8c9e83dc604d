-- numbers: nI of naturals, zI of integers, arrays of naturals
def zI (z : Int) : Int32 := Int32.ofInt z
def nA (g : Nat → Nat) : Nat → Int32 := fun j => nI (g j)
def upN (g : Nat → Nat) (k x : Nat) : Nat → Nat := fun j => if j = k then x else g j
theorem nA_upd (g : Nat → Nat) (k x : Nat) : upd (nA g) k (nI x) = nA (upN g k x) := by
  funext j
  unfold upd nA upN
  by_cases h : j = k
  · rw [if_pos h, if_pos h]
  · rw [if_neg h, if_neg h]
theorem upN_s (g : Nat → Nat) (k x : Nat) : upN g k x k = x := if_pos rfl
theorem upN_n {g : Nat → Nat} {k x j : Nat} (h : j ≠ k) : upN g k x j = g j := if_neg h
theorem upN_lt {g : Nat → Nat} {k x B : Nat} (h : ∀ j, g j < B) (hx : x < B) : ∀ j, upN g k x j < B := by
  intro j
  unfold upN
  by_cases q : j = k
  · rw [if_pos q]; exact hx
  · rw [if_neg q]; exact h j
theorem nA_0 : (fun _ => (0 : Int32)) = nA (fun _ => 0) := rfl
theorem zI_nat (n : Nat) : zI (n : Int) = nI n := by
  unfold zI nI
  exact Int32.ofInt_eq_ofNat
theorem zI_add (a b : Int) : zI a + zI b = zI (a + b) := (Int32.ofInt_add a b).symm
theorem zI_sub (a b : Int) : zI a - zI b = zI (a - b) := (Int32.ofInt_sub a b).symm
theorem zI_mul (a b : Int) : zI a * zI b = zI (a * b) := (Int32.ofInt_mul a b).symm
theorem zI_neg (a : Int) : - zI a = zI (-a) := (Int32.ofInt_neg a).symm
theorem zI_toInt {z : Int} (h1 : -2147483648 ≤ z) (h2 : z < 2147483648) : (zI z).toInt = z := by
  unfold zI
  rw [Int32.toInt_ofInt, show Int32.size = 4294967296 from rfl, Int.bmod_def]
  split <;> omega
theorem ni_toInt {n : Nat} (h : n < 2147483648) : (nI n).toInt = (n : Int) := nI_toInt h
theorem ni_lt {x y : Int32} : x < y ↔ x.toInt < y.toInt := Int32.lt_iff_toInt_lt
theorem ni_le {x y : Int32} : x ≤ y ↔ x.toInt ≤ y.toInt := Int32.le_iff_toInt_le
theorem ni_eq {x y : Int32} : x = y ↔ x.toInt = y.toInt := ⟨fun h => by rw [h], fun h => Int32.toInt_inj.mp h⟩
theorem ni_0 : (0 : Int32).toInt = 0 := rfl
theorem ni_rng (x : Int32) : -2147483648 ≤ x.toInt ∧ x.toInt < 2147483648 := ⟨Int32.le_toInt x, Int32.toInt_lt x⟩
/-- an int that isn't negative is a natural's -/
theorem ni_of {x : Int32} (h : 0 ≤ x.toInt) : ∃ j : Nat, j < 2147483648 ∧ x = nI j ∧ x.toInt = (j : Int) := by
  have hr := ni_rng x
  refine ⟨x.toInt.toNat, by omega, ?_, by omega⟩
  rw [ni_eq, ni_toInt (by omega)]
  omega
theorem ni_z {x : Int32} {z : Int} (h : x.toInt = z) : x = zI z := by
  have hr := ni_rng x
  rw [ni_eq, zI_toInt (by omega) (by omega)]
  exact h
theorem ni_idiv {a d : Nat} (ha : a < 2147483648) (h0 : 0 < d) (hd : d < 2147483648) : nI a / nI d = nI (a / d) := pk_div ha h0 hd
theorem ni_irem {a d : Nat} (ha : a < 2147483648) (h0 : 0 < d) (hd : d < 2147483648) : nI a - nI a / nI d * nI d = nI (a % d) := pk_rem ha h0 hd
theorem ni_sm : ∀ n, n < 32 → ((nI n &&& 31).toBitVec.smod 32).toNat = n := by decide +kernel
theorem ni_shl {a k : Nat} (hk : k < 32) (h : a * 2 ^ k < 4294967296) : nI a <<< (nI k &&& 31) = nI (a * 2 ^ k) := pk_shlN _ k (ni_sm k hk) h
theorem ni_shr {a k : Nat} (ha : a < 2147483648) (hk : k < 32) : nI a >>> (nI k &&& 31) = nI (a / 2 ^ k) := pk_shrN ha _ k (ni_sm k hk)
theorem ni_dne {d : Nat} (h0 : 0 < d) (hd : d < 2147483648) : ¬ nI d = 0 := nI_ne0 h0 hd
theorem ni_inc (a : Nat) : nI a + Int32.ofInt 1 = nI (a + 1) := nI_1 a
theorem ni_inc5 (a : Nat) : nI a + Int32.ofInt 5 = nI (a + 5) := nI_add a 5
theorem ni_dec {a : Nat} (h : 1 ≤ a) : nI a + Int32.ofInt (-1) = nI (a - 1) := by
  obtain ⟨b, rfl⟩ : ∃ b, a = b + 1 := ⟨a - 1, by omega⟩
  have := pk_m1 b
  rw [Nat.add_sub_cancel]
  exact this
theorem ni_incz (z : Int) : zI z + Int32.ofInt 1 = zI (z + 1) := zI_add z 1
theorem ni_decz (z : Int) : zI z + Int32.ofInt (-1) = zI (z - 1) := by
  have h := zI_add z (-1)
  rw [← Int.sub_eq_add_neg] at h
  exact h
theorem ni_nz (n : Nat) : nI n = zI (n : Int) := (zI_nat n).symm
theorem ni_in {i n : Nat} (h : i < n) (hn : n < 2147483648) : vp_in (nI i) n := vp_in_nI h hn
theorem ni_cl {i : Nat} (h : i < 2147483648) : (nI i).toNatClampNeg = i := nI_clamp h
/-- the answer of a boolean method -/
abbrev BP (r : Int32) (P : Prop) : Prop := (r = nI 1 ∧ P) ∨ (r = nI 0 ∧ ¬ P)
section NV
variable {p : Program} {l : Launch} {e : Env} {R : Room} {s : State} {m : MethodId} {args : Array Value} {below : List Frame} {meth : Method} {c : Code} {H : Heap} {locs : List Loc} {cells slots : Nat} {Q : State → Prop} {cc : ByteArray} {pc : Nat} {ls : Array Slot} {rest : List Value}
theorem nv_top {x y : Int32} (h : x = y) (k : W p l e R s m args below meth c H locs cells slots Q (F0 m pc ls (.int y :: rest))) : W p l e R s m args below meth c H locs cells slots Q (F0 m pc ls (.int x :: rest)) := by rw [h]; exact k
theorem nv_iadd (hx : p.tables.exec = Jvm.exec) (hb : c.code = cc) {a b : Nat} (hd : decode cc pc = .ok (.iadd, 1)) (k : W p l e R s m args below meth c H locs cells slots Q (F0 m (pc + 1) ls (.int (nI (a + b)) :: rest))) : W p l e R s m args below meth c H locs cells slots Q (F0 m pc ls (.int (nI b) :: .int (nI a) :: rest)) := lv_iadd hx hb hd (nv_top (nI_add a b) k)
theorem nv_imul (hx : p.tables.exec = Jvm.exec) (hb : c.code = cc) {a b : Nat} (hd : decode cc pc = .ok (.imul, 1)) (k : W p l e R s m args below meth c H locs cells slots Q (F0 m (pc + 1) ls (.int (nI (a * b)) :: rest))) : W p l e R s m args below meth c H locs cells slots Q (F0 m pc ls (.int (nI b) :: .int (nI a) :: rest)) := lv_imul hx hb hd (nv_top (pk_mul a b) k)
theorem nv_isub (hx : p.tables.exec = Jvm.exec) (hb : c.code = cc) {a b : Nat} (hd : decode cc pc = .ok (.isub, 1)) (h : b ≤ a) (k : W p l e R s m args below meth c H locs cells slots Q (F0 m (pc + 1) ls (.int (nI (a - b)) :: rest))) : W p l e R s m args below meth c H locs cells slots Q (F0 m pc ls (.int (nI b) :: .int (nI a) :: rest)) := lv_isub hx hb hd (nv_top (pk_sub h) k)
theorem nz_iadd (hx : p.tables.exec = Jvm.exec) (hb : c.code = cc) {x y : Int32} {a b : Int} (hd : decode cc pc = .ok (.iadd, 1)) (ha : x = zI a) (hb' : y = zI b) (k : W p l e R s m args below meth c H locs cells slots Q (F0 m (pc + 1) ls (.int (zI (a + b)) :: rest))) : W p l e R s m args below meth c H locs cells slots Q (F0 m pc ls (.int y :: .int x :: rest)) := by
  subst ha; subst hb'
  exact lv_iadd hx hb hd (nv_top (zI_add a b) k)
theorem nz_isub (hx : p.tables.exec = Jvm.exec) (hb : c.code = cc) {x y : Int32} {a b : Int} (hd : decode cc pc = .ok (.isub, 1)) (ha : x = zI a) (hb' : y = zI b) (k : W p l e R s m args below meth c H locs cells slots Q (F0 m (pc + 1) ls (.int (zI (a - b)) :: rest))) : W p l e R s m args below meth c H locs cells slots Q (F0 m pc ls (.int y :: .int x :: rest)) := by
  subst ha; subst hb'
  exact lv_isub hx hb hd (nv_top (zI_sub a b) k)
theorem nz_imul (hx : p.tables.exec = Jvm.exec) (hb : c.code = cc) {x y : Int32} {a b : Int} (hd : decode cc pc = .ok (.imul, 1)) (ha : x = zI a) (hb' : y = zI b) (k : W p l e R s m args below meth c H locs cells slots Q (F0 m (pc + 1) ls (.int (zI (a * b)) :: rest))) : W p l e R s m args below meth c H locs cells slots Q (F0 m pc ls (.int y :: .int x :: rest)) := by
  subst ha; subst hb'
  exact lv_imul hx hb hd (nv_top (zI_mul a b) k)
theorem nv_idiv (hx : p.tables.exec = Jvm.exec) (hb : c.code = cc) {a d : Nat} (hd : decode cc pc = .ok (.idiv, 1)) (ha : a < 2147483648) (h0 : 0 < d) (hd2 : d < 2147483648) (k : W p l e R s m args below meth c H locs cells slots Q (F0 m (pc + 1) ls (.int (nI (a / d)) :: rest))) : W p l e R s m args below meth c H locs cells slots Q (F0 m pc ls (.int (nI d) :: .int (nI a) :: rest)) := lv_idiv hx hb hd (ni_dne h0 hd2) (nv_top (ni_idiv ha h0 hd2) k)
theorem nv_irem (hx : p.tables.exec = Jvm.exec) (hb : c.code = cc) {a d : Nat} (hd : decode cc pc = .ok (.irem, 1)) (ha : a < 2147483648) (h0 : 0 < d) (hd2 : d < 2147483648) (k : W p l e R s m args below meth c H locs cells slots Q (F0 m (pc + 1) ls (.int (nI (a % d)) :: rest))) : W p l e R s m args below meth c H locs cells slots Q (F0 m pc ls (.int (nI d) :: .int (nI a) :: rest)) := lv_irem hx hb hd (ni_dne h0 hd2) (nv_top (ni_irem ha h0 hd2) k)
theorem nv_ishl (hx : p.tables.exec = Jvm.exec) (hb : c.code = cc) {a k0 : Nat} (hd : decode cc pc = .ok (.ishl, 1)) (hk : k0 < 32) (h : a * 2 ^ k0 < 4294967296) (k : W p l e R s m args below meth c H locs cells slots Q (F0 m (pc + 1) ls (.int (nI (a * 2 ^ k0)) :: rest))) : W p l e R s m args below meth c H locs cells slots Q (F0 m pc ls (.int (nI k0) :: .int (nI a) :: rest)) := lv_ishl hx hb hd (nv_top (ni_shl hk h) k)
theorem nv_ishr (hx : p.tables.exec = Jvm.exec) (hb : c.code = cc) {a k0 : Nat} (hd : decode cc pc = .ok (.ishr, 1)) (ha : a < 2147483648) (hk : k0 < 32) (k : W p l e R s m args below meth c H locs cells slots Q (F0 m (pc + 1) ls (.int (nI (a / 2 ^ k0)) :: rest))) : W p l e R s m args below meth c H locs cells slots Q (F0 m pc ls (.int (nI k0) :: .int (nI a) :: rest)) := lv_ishr hx hb hd (nv_top (ni_shr ha hk) k)
-- comparisons of two ints by their integers
theorem ni_icmp_lt (hx : p.tables.exec = Jvm.exec) (hb : c.code = cc) {x y : Int32} {a b : Int} {off : Int} {tgt : Nat} (hd : decode cc pc = .ok (.if_icmp .lt off, 3)) (ht : (pc : Int) + off = (tgt : Int)) (ha : x.toInt = a) (hb' : y.toInt = b) (kt : a < b → W p l e R s m args below meth c H locs cells slots Q (F0 m tgt ls rest)) (kf : b ≤ a → W p l e R s m args below meth c H locs cells slots Q (F0 m (pc + 3) ls rest)) : W p l e R s m args below meth c H locs cells slots Q (F0 m pc ls (.int y :: .int x :: rest)) := by
  subst ha; subst hb'
  exact lv_icmp_lt hx hb hd ht (fun h => kt (ni_lt.mp h)) (fun h => kf (Int.not_lt.mp fun q => h (ni_lt.mpr q)))
theorem ni_icmp_ge (hx : p.tables.exec = Jvm.exec) (hb : c.code = cc) {x y : Int32} {a b : Int} {off : Int} {tgt : Nat} (hd : decode cc pc = .ok (.if_icmp .ge off, 3)) (ht : (pc : Int) + off = (tgt : Int)) (ha : x.toInt = a) (hb' : y.toInt = b) (kt : b ≤ a → W p l e R s m args below meth c H locs cells slots Q (F0 m tgt ls rest)) (kf : a < b → W p l e R s m args below meth c H locs cells slots Q (F0 m (pc + 3) ls rest)) : W p l e R s m args below meth c H locs cells slots Q (F0 m pc ls (.int y :: .int x :: rest)) := by
  subst ha; subst hb'
  exact lv_icmp_ge hx hb hd ht (fun h => kt (ni_le.mp h)) (fun h => kf (Int.not_le.mp fun q => h (ni_le.mpr q)))
theorem ni_icmp_gt (hx : p.tables.exec = Jvm.exec) (hb : c.code = cc) {x y : Int32} {a b : Int} {off : Int} {tgt : Nat} (hd : decode cc pc = .ok (.if_icmp .gt off, 3)) (ht : (pc : Int) + off = (tgt : Int)) (ha : x.toInt = a) (hb' : y.toInt = b) (kt : b < a → W p l e R s m args below meth c H locs cells slots Q (F0 m tgt ls rest)) (kf : a ≤ b → W p l e R s m args below meth c H locs cells slots Q (F0 m (pc + 3) ls rest)) : W p l e R s m args below meth c H locs cells slots Q (F0 m pc ls (.int y :: .int x :: rest)) := by
  subst ha; subst hb'
  exact lv_icmp_gt hx hb hd ht (fun h => kt (ni_lt.mp h)) (fun h => kf (Int.not_lt.mp fun q => h (ni_lt.mpr q)))
theorem ni_icmp_le (hx : p.tables.exec = Jvm.exec) (hb : c.code = cc) {x y : Int32} {a b : Int} {off : Int} {tgt : Nat} (hd : decode cc pc = .ok (.if_icmp .le off, 3)) (ht : (pc : Int) + off = (tgt : Int)) (ha : x.toInt = a) (hb' : y.toInt = b) (kt : a ≤ b → W p l e R s m args below meth c H locs cells slots Q (F0 m tgt ls rest)) (kf : b < a → W p l e R s m args below meth c H locs cells slots Q (F0 m (pc + 3) ls rest)) : W p l e R s m args below meth c H locs cells slots Q (F0 m pc ls (.int y :: .int x :: rest)) := by
  subst ha; subst hb'
  exact lv_icmp_le hx hb hd ht (fun h => kt (ni_le.mp h)) (fun h => kf (Int.not_le.mp fun q => h (ni_le.mpr q)))
theorem ni_icmp_eq (hx : p.tables.exec = Jvm.exec) (hb : c.code = cc) {x y : Int32} {a b : Int} {off : Int} {tgt : Nat} (hd : decode cc pc = .ok (.if_icmp .eq off, 3)) (ht : (pc : Int) + off = (tgt : Int)) (ha : x.toInt = a) (hb' : y.toInt = b) (kt : a = b → W p l e R s m args below meth c H locs cells slots Q (F0 m tgt ls rest)) (kf : a ≠ b → W p l e R s m args below meth c H locs cells slots Q (F0 m (pc + 3) ls rest)) : W p l e R s m args below meth c H locs cells slots Q (F0 m pc ls (.int y :: .int x :: rest)) := by
  subst ha; subst hb'
  exact lv_icmp_eq hx hb hd ht (fun h => kt (ni_eq.mp h)) (fun h => kf (fun q => h (ni_eq.mpr q)))
theorem ni_icmp_ne (hx : p.tables.exec = Jvm.exec) (hb : c.code = cc) {x y : Int32} {a b : Int} {off : Int} {tgt : Nat} (hd : decode cc pc = .ok (.if_icmp .ne off, 3)) (ht : (pc : Int) + off = (tgt : Int)) (ha : x.toInt = a) (hb' : y.toInt = b) (kt : a ≠ b → W p l e R s m args below meth c H locs cells slots Q (F0 m tgt ls rest)) (kf : a = b → W p l e R s m args below meth c H locs cells slots Q (F0 m (pc + 3) ls rest)) : W p l e R s m args below meth c H locs cells slots Q (F0 m pc ls (.int y :: .int x :: rest)) := by
  subst ha; subst hb'
  exact lv_icmp_ne hx hb hd ht (fun h => kt (fun q => h (ni_eq.mpr q))) (fun h => kf (by rw [h]))
-- comparisons of an int with 0
theorem ni_if_lt (hx : p.tables.exec = Jvm.exec) (hb : c.code = cc) {x : Int32} {a : Int} {off : Int} {tgt : Nat} (hd : decode cc pc = .ok (.ifCond .lt off, 3)) (ht : (pc : Int) + off = (tgt : Int)) (ha : x.toInt = a) (kt : a < 0 → W p l e R s m args below meth c H locs cells slots Q (F0 m tgt ls rest)) (kf : 0 ≤ a → W p l e R s m args below meth c H locs cells slots Q (F0 m (pc + 3) ls rest)) : W p l e R s m args below meth c H locs cells slots Q (F0 m pc ls (.int x :: rest)) := by
  subst ha
  exact lv_if_lt hx hb hd ht (fun h => kt (ni_lt.mp h)) (fun h => kf (Int.not_lt.mp fun q => h (ni_lt.mpr q)))
theorem ni_if_ge (hx : p.tables.exec = Jvm.exec) (hb : c.code = cc) {x : Int32} {a : Int} {off : Int} {tgt : Nat} (hd : decode cc pc = .ok (.ifCond .ge off, 3)) (ht : (pc : Int) + off = (tgt : Int)) (ha : x.toInt = a) (kt : 0 ≤ a → W p l e R s m args below meth c H locs cells slots Q (F0 m tgt ls rest)) (kf : a < 0 → W p l e R s m args below meth c H locs cells slots Q (F0 m (pc + 3) ls rest)) : W p l e R s m args below meth c H locs cells slots Q (F0 m pc ls (.int x :: rest)) := by
  subst ha
  exact lv_if_ge hx hb hd ht (fun h => kt (ni_le.mp h)) (fun h => kf (Int.not_le.mp fun q => h (ni_le.mpr q)))
theorem ni_if_gt (hx : p.tables.exec = Jvm.exec) (hb : c.code = cc) {x : Int32} {a : Int} {off : Int} {tgt : Nat} (hd : decode cc pc = .ok (.ifCond .gt off, 3)) (ht : (pc : Int) + off = (tgt : Int)) (ha : x.toInt = a) (kt : 0 < a → W p l e R s m args below meth c H locs cells slots Q (F0 m tgt ls rest)) (kf : a ≤ 0 → W p l e R s m args below meth c H locs cells slots Q (F0 m (pc + 3) ls rest)) : W p l e R s m args below meth c H locs cells slots Q (F0 m pc ls (.int x :: rest)) := by
  subst ha
  exact lv_if_gt hx hb hd ht (fun h => kt (ni_lt.mp h)) (fun h => kf (Int.not_lt.mp fun q => h (ni_lt.mpr q)))
theorem ni_if_le (hx : p.tables.exec = Jvm.exec) (hb : c.code = cc) {x : Int32} {a : Int} {off : Int} {tgt : Nat} (hd : decode cc pc = .ok (.ifCond .le off, 3)) (ht : (pc : Int) + off = (tgt : Int)) (ha : x.toInt = a) (kt : a ≤ 0 → W p l e R s m args below meth c H locs cells slots Q (F0 m tgt ls rest)) (kf : 0 < a → W p l e R s m args below meth c H locs cells slots Q (F0 m (pc + 3) ls rest)) : W p l e R s m args below meth c H locs cells slots Q (F0 m pc ls (.int x :: rest)) := by
  subst ha
  exact lv_if_le hx hb hd ht (fun h => kt (ni_le.mp h)) (fun h => kf (Int.not_le.mp fun q => h (ni_le.mpr q)))
theorem ni_if_eq (hx : p.tables.exec = Jvm.exec) (hb : c.code = cc) {x : Int32} {a : Int} {off : Int} {tgt : Nat} (hd : decode cc pc = .ok (.ifCond .eq off, 3)) (ht : (pc : Int) + off = (tgt : Int)) (ha : x.toInt = a) (kt : a = 0 → W p l e R s m args below meth c H locs cells slots Q (F0 m tgt ls rest)) (kf : a ≠ 0 → W p l e R s m args below meth c H locs cells slots Q (F0 m (pc + 3) ls rest)) : W p l e R s m args below meth c H locs cells slots Q (F0 m pc ls (.int x :: rest)) := by
  subst ha
  exact lv_if_eq hx hb hd ht (fun h => kt (ni_eq.mp h)) (fun h => kf (fun q => h (ni_eq.mpr q)))
theorem ni_if_ne (hx : p.tables.exec = Jvm.exec) (hb : c.code = cc) {x : Int32} {a : Int} {off : Int} {tgt : Nat} (hd : decode cc pc = .ok (.ifCond .ne off, 3)) (ht : (pc : Int) + off = (tgt : Int)) (ha : x.toInt = a) (kt : a ≠ 0 → W p l e R s m args below meth c H locs cells slots Q (F0 m tgt ls rest)) (kf : a = 0 → W p l e R s m args below meth c H locs cells slots Q (F0 m (pc + 3) ls rest)) : W p l e R s m args below meth c H locs cells slots Q (F0 m pc ls (.int x :: rest)) := by
  subst ha
  exact lv_if_ne hx hb hd ht (fun h => kt (fun q => h (ni_eq.mpr q))) (fun h => kf (by rw [h]; rfl))
theorem nv_icmp_lt (hx : p.tables.exec = Jvm.exec) (hb : c.code = cc) {a b : Nat} {off : Int} {tgt : Nat} (hd : decode cc pc = .ok (.if_icmp .lt off, 3)) (ht : (pc : Int) + off = (tgt : Int)) (ha : a < 2147483648) (hb' : b < 2147483648) (kt : a < b → W p l e R s m args below meth c H locs cells slots Q (F0 m tgt ls rest)) (kf : b ≤ a → W p l e R s m args below meth c H locs cells slots Q (F0 m (pc + 3) ls rest)) : W p l e R s m args below meth c H locs cells slots Q (F0 m pc ls (.int (nI b) :: .int (nI a) :: rest)) := ni_icmp_lt hx hb hd ht (ni_toInt ha) (ni_toInt hb') (fun h => kt (by omega)) (fun h => kf (by omega))
theorem nv_icmp_ge (hx : p.tables.exec = Jvm.exec) (hb : c.code = cc) {a b : Nat} {off : Int} {tgt : Nat} (hd : decode cc pc = .ok (.if_icmp .ge off, 3)) (ht : (pc : Int) + off = (tgt : Int)) (ha : a < 2147483648) (hb' : b < 2147483648) (kt : b ≤ a → W p l e R s m args below meth c H locs cells slots Q (F0 m tgt ls rest)) (kf : a < b → W p l e R s m args below meth c H locs cells slots Q (F0 m (pc + 3) ls rest)) : W p l e R s m args below meth c H locs cells slots Q (F0 m pc ls (.int (nI b) :: .int (nI a) :: rest)) := ni_icmp_ge hx hb hd ht (ni_toInt ha) (ni_toInt hb') (fun h => kt (by omega)) (fun h => kf (by omega))
theorem nv_icmp_gt (hx : p.tables.exec = Jvm.exec) (hb : c.code = cc) {a b : Nat} {off : Int} {tgt : Nat} (hd : decode cc pc = .ok (.if_icmp .gt off, 3)) (ht : (pc : Int) + off = (tgt : Int)) (ha : a < 2147483648) (hb' : b < 2147483648) (kt : b < a → W p l e R s m args below meth c H locs cells slots Q (F0 m tgt ls rest)) (kf : a ≤ b → W p l e R s m args below meth c H locs cells slots Q (F0 m (pc + 3) ls rest)) : W p l e R s m args below meth c H locs cells slots Q (F0 m pc ls (.int (nI b) :: .int (nI a) :: rest)) := ni_icmp_gt hx hb hd ht (ni_toInt ha) (ni_toInt hb') (fun h => kt (by omega)) (fun h => kf (by omega))
theorem nv_icmp_le (hx : p.tables.exec = Jvm.exec) (hb : c.code = cc) {a b : Nat} {off : Int} {tgt : Nat} (hd : decode cc pc = .ok (.if_icmp .le off, 3)) (ht : (pc : Int) + off = (tgt : Int)) (ha : a < 2147483648) (hb' : b < 2147483648) (kt : a ≤ b → W p l e R s m args below meth c H locs cells slots Q (F0 m tgt ls rest)) (kf : b < a → W p l e R s m args below meth c H locs cells slots Q (F0 m (pc + 3) ls rest)) : W p l e R s m args below meth c H locs cells slots Q (F0 m pc ls (.int (nI b) :: .int (nI a) :: rest)) := ni_icmp_le hx hb hd ht (ni_toInt ha) (ni_toInt hb') (fun h => kt (by omega)) (fun h => kf (by omega))
theorem nv_icmp_eq (hx : p.tables.exec = Jvm.exec) (hb : c.code = cc) {a b : Nat} {off : Int} {tgt : Nat} (hd : decode cc pc = .ok (.if_icmp .eq off, 3)) (ht : (pc : Int) + off = (tgt : Int)) (ha : a < 2147483648) (hb' : b < 2147483648) (kt : a = b → W p l e R s m args below meth c H locs cells slots Q (F0 m tgt ls rest)) (kf : a ≠ b → W p l e R s m args below meth c H locs cells slots Q (F0 m (pc + 3) ls rest)) : W p l e R s m args below meth c H locs cells slots Q (F0 m pc ls (.int (nI b) :: .int (nI a) :: rest)) := ni_icmp_eq hx hb hd ht (ni_toInt ha) (ni_toInt hb') (fun h => kt (by omega)) (fun h => kf (by omega))
theorem nv_icmp_ne (hx : p.tables.exec = Jvm.exec) (hb : c.code = cc) {a b : Nat} {off : Int} {tgt : Nat} (hd : decode cc pc = .ok (.if_icmp .ne off, 3)) (ht : (pc : Int) + off = (tgt : Int)) (ha : a < 2147483648) (hb' : b < 2147483648) (kt : a ≠ b → W p l e R s m args below meth c H locs cells slots Q (F0 m tgt ls rest)) (kf : a = b → W p l e R s m args below meth c H locs cells slots Q (F0 m (pc + 3) ls rest)) : W p l e R s m args below meth c H locs cells slots Q (F0 m pc ls (.int (nI b) :: .int (nI a) :: rest)) := ni_icmp_ne hx hb hd ht (ni_toInt ha) (ni_toInt hb') (fun h => kt (by omega)) (fun h => kf (by omega))
theorem nv_if_gt (hx : p.tables.exec = Jvm.exec) (hb : c.code = cc) {a : Nat} {off : Int} {tgt : Nat} (hd : decode cc pc = .ok (.ifCond .gt off, 3)) (ht : (pc : Int) + off = (tgt : Int)) (ha : a < 2147483648) (kt : 0 < a → W p l e R s m args below meth c H locs cells slots Q (F0 m tgt ls rest)) (kf : a = 0 → W p l e R s m args below meth c H locs cells slots Q (F0 m (pc + 3) ls rest)) : W p l e R s m args below meth c H locs cells slots Q (F0 m pc ls (.int (nI a) :: rest)) := ni_if_gt hx hb hd ht (ni_toInt ha) (fun h => kt (by omega)) (fun h => kf (by omega))
theorem nv_if_le (hx : p.tables.exec = Jvm.exec) (hb : c.code = cc) {a : Nat} {off : Int} {tgt : Nat} (hd : decode cc pc = .ok (.ifCond .le off, 3)) (ht : (pc : Int) + off = (tgt : Int)) (ha : a < 2147483648) (kt : a = 0 → W p l e R s m args below meth c H locs cells slots Q (F0 m tgt ls rest)) (kf : 0 < a → W p l e R s m args below meth c H locs cells slots Q (F0 m (pc + 3) ls rest)) : W p l e R s m args below meth c H locs cells slots Q (F0 m pc ls (.int (nI a) :: rest)) := ni_if_le hx hb hd ht (ni_toInt ha) (fun h => kt (by omega)) (fun h => kf (by omega))
theorem nv_if_eq (hx : p.tables.exec = Jvm.exec) (hb : c.code = cc) {a : Nat} {off : Int} {tgt : Nat} (hd : decode cc pc = .ok (.ifCond .eq off, 3)) (ht : (pc : Int) + off = (tgt : Int)) (ha : a < 2147483648) (kt : a = 0 → W p l e R s m args below meth c H locs cells slots Q (F0 m tgt ls rest)) (kf : a ≠ 0 → W p l e R s m args below meth c H locs cells slots Q (F0 m (pc + 3) ls rest)) : W p l e R s m args below meth c H locs cells slots Q (F0 m pc ls (.int (nI a) :: rest)) := ni_if_eq hx hb hd ht (ni_toInt ha) (fun h => kt (by omega)) (fun h => kf (by omega))
theorem nv_if_ne (hx : p.tables.exec = Jvm.exec) (hb : c.code = cc) {a : Nat} {off : Int} {tgt : Nat} (hd : decode cc pc = .ok (.ifCond .ne off, 3)) (ht : (pc : Int) + off = (tgt : Int)) (ha : a < 2147483648) (kt : a ≠ 0 → W p l e R s m args below meth c H locs cells slots Q (F0 m tgt ls rest)) (kf : a = 0 → W p l e R s m args below meth c H locs cells slots Q (F0 m (pc + 3) ls rest)) : W p l e R s m args below meth c H locs cells slots Q (F0 m pc ls (.int (nI a) :: rest)) := ni_if_ne hx hb hd ht (ni_toInt ha) (fun h => kt (by omega)) (fun h => kf (by omega))
theorem nv_if_lt (hx : p.tables.exec = Jvm.exec) (hb : c.code = cc) {a : Nat} {off : Int} {tgt : Nat} (hd : decode cc pc = .ok (.ifCond .lt off, 3)) (ht : (pc : Int) + off = (tgt : Int)) (ha : a < 2147483648) (kf : W p l e R s m args below meth c H locs cells slots Q (F0 m (pc + 3) ls rest)) : W p l e R s m args below meth c H locs cells slots Q (F0 m pc ls (.int (nI a) :: rest)) := ni_if_lt hx hb hd ht (ni_toInt ha) (fun h => absurd h (by omega)) (fun h => kf)
theorem nv_if_ge (hx : p.tables.exec = Jvm.exec) (hb : c.code = cc) {a : Nat} {off : Int} {tgt : Nat} (hd : decode cc pc = .ok (.ifCond .ge off, 3)) (ht : (pc : Int) + off = (tgt : Int)) (ha : a < 2147483648) (kt : W p l e R s m args below meth c H locs cells slots Q (F0 m tgt ls rest)) : W p l e R s m args below meth c H locs cells slots Q (F0 m pc ls (.int (nI a) :: rest)) := ni_if_ge hx hb hd ht (ni_toInt ha) (fun h => kt) (fun h => absurd h (by omega))
-- reads and writes of arrays of naturals
variable {D : va_G} {cl : List vw_C} {tys : List (ClassId × FieldType)} {ws : va_W} {A : Nat → Prop} {H0 : Heap} {a : Nat}
theorem nv_iald (hx : p.tables.exec = Jvm.exec) (hb : c.code = cc) (hK : va_K D cl tys s) (hP : va_P D cl ws H) (q0 t0 : Nat) {cA : ClassId} {n : Nat} {g : Nat → Nat} (ha : ws[q0]? = some (a, .inl (cA, n, .inl (nA g)))) (ht : tys[t0]? = some (cA, .int)) {i : Nat} (hi : i < n) (hn : n < 2147483648) (hd : decode cc pc = .ok (.iaload, 1)) (k : W p l e R s m args below meth c H locs cells slots Q (F0 m (pc + 1) ls (.int (nI (g i)) :: rest))) : W p l e R s m args below meth c H locs cells slots Q (F0 m pc ls (.int (nI i) :: .ref a :: rest)) := by
  refine va_iald hx hb hK hP q0 t0 ha ht (ni_in hi hn) hd ?_
  rw [ni_cl (by omega)]
  exact k
theorem nv_iast (hx : p.tables.exec = Jvm.exec) (hb : c.code = cc) (hK : va_K D cl tys s) (hP : va_P D cl ws H) (hD : va_D A ws) (hS : va_S A H0 H locs) (q0 t0 : Nat) {cA : ClassId} {n : Nat} {g : Nat → Nat} (ha : ws[q0]? = some (a, .inl (cA, n, .inl (nA g)))) (ht : tys[t0]? = some (cA, .int)) {i x : Nat} (hi : i < n) (hn : n < 2147483648) (hd : decode cc pc = .ok (.iastore, 1))
    (kk : ∀ (H1 : Heap) (locs1 : List Loc), va_P D cl (ws.set q0 (a, .inl (cA, n, .inl (nA (upN g i x))))) H1 → va_D A (ws.set q0 (a, .inl (cA, n, .inl (nA (upN g i x))))) → va_S A H0 H1 locs1 → W p l e R s m args below meth c H1 locs1 cells slots Q (F0 m (pc + 1) ls rest)) : W p l e R s m args below meth c H locs cells slots Q (F0 m pc ls (.int (nI x) :: .int (nI i) :: .ref a :: rest)) := by
  refine va_iast hx hb hK hP hD hS q0 t0 ha ht (ni_in hi hn) hd ?_
  rw [ni_cl (by omega), nA_upd]
  exact kk
theorem nv_get {own C : String} {T : u_T} {N ci index nL : Nat} {Ts : List Cond} (F : CallFix p m c cc nL s args Ts own) (hin : ∀ w ∈ u_ws C T N, w ∈ Ts) (hK : va_K D cl tys s) (hP : va_P D cl ws H) (q0 : Nat) {fs : List Value} (he : ws[q0]? = some (a, .inr (ci, fs))) (hc : cl[ci]? = some (C, T, N)) (k : Nat) (hk : k < N) (hl : Cond.fieldLink own index (T k).1 (T k).2.1 (T k).2.2.1 ∈ Ts) {v : Value} (hv : fs[k]? = some v) (hd : decode cc pc = .ok (.getfield index, 3)) (kk : W p l e R s m args below meth c H locs cells slots Q (F0 m (pc + 3) ls (v :: rest))) : W p l e R s m args below meth c H locs cells slots Q (F0 m pc ls (.ref a :: rest)) :=
  va_get F.1 F.2.1 F.2.2.2.2 hin F.2.2.2.1 hK hP q0 he hc k hk (F.2.2.2.2 _ hl) (fun _ h => h) hv hd kk
theorem nv_put {own C : String} {T : u_T} {N ci index nL : Nat} {Ts : List Cond} (F : CallFix p m c cc nL s args Ts own) (hin : ∀ w ∈ u_ws C T N, w ∈ Ts) (ty0 : Nat → FieldType) (hty : ∀ k, k < N → parseFieldDescriptor (T k).2.2.1 = some (ty0 k)) (hnm : ∀ a, a < N → ∀ b, b < N → a ≠ b → (T a).2.1 ≠ (T b).2.1) (hK : va_K D cl tys s) (hP : va_P D cl ws H) (hD : va_D A ws) (hS : va_S A H0 H locs) (q0 : Nat) {fs : List Value} (he : ws[q0]? = some (a, .inr (ci, fs))) (hc : cl[ci]? = some (C, T, N)) (k : Nat) (hk : k < N) (hl : Cond.fieldLink own index (T k).1 (T k).2.1 (T k).2.2.1 ∈ Ts) (hfin : (T k).2.2.2 = false) {x : Int32} (hd0 : parseFieldDescriptor (T k).2.2.1 = some .int) (hlen : k < fs.length) (hd : decode cc pc = .ok (.putfield index, 3)) (kk : ∀ (H1 : Heap) (locs1 : List Loc), va_P D cl (ws.set q0 (a, .inr (ci, fs.set k (.int x)))) H1 → va_D A (ws.set q0 (a, .inr (ci, fs.set k (.int x)))) → va_S A H0 H1 locs1 → W p l e R s m args below meth c H1 locs1 cells slots Q (F0 m (pc + 3) ls rest)) : W p l e R s m args below meth c H locs cells slots Q (F0 m pc ls (.int x :: .ref a :: rest)) :=
  va_put F.1 F.2.1 F.2.2.2.2 hin ty0 hty hnm F.2.2.2.1 hK hP hD hS q0 he hc k hk (F.2.2.2.2 _ hl) (fun _ h => h) hfin hd0 rfl rfl hlen hd kk
-- Math.max, min, abs
theorem nI_max {a b : Nat} (ha : a < 2147483648) (hb : b < 2147483648) : (if nI a < nI b then nI b else nI a) = nI (max a b) := by
  by_cases h : a < b
  · rw [if_pos (nI_lt h hb), Nat.max_eq_right (by omega)]
  · rw [if_neg (nI_nlt (by omega) ha), Nat.max_eq_left (by omega)]
theorem nI_min {a b : Nat} (ha : a < 2147483648) (hb : b < 2147483648) : (if nI b < nI a then nI b else nI a) = nI (min a b) := by
  by_cases h : b < a
  · rw [if_pos (nI_lt h ha), Nat.min_eq_right (by omega)]
  · rw [if_neg (nI_nlt (by omega) hb), Nat.min_eq_left (by omega)]
theorem zI_max {x y : Int32} {a b : Int} (ha : x.toInt = a) (hb : y.toInt = b) : (if x < y then y else x) = zI (max a b) := by
  by_cases h : x < y
  · rw [if_pos h, ← ni_z (x := y)]
    have := ni_lt.mp h
    omega
  · rw [if_neg h, ← ni_z (x := x)]
    have : ¬ x.toInt < y.toInt := fun q => h (ni_lt.mpr q)
    omega
theorem zI_min {x y : Int32} {a b : Int} (ha : x.toInt = a) (hb : y.toInt = b) : (if y < x then y else x) = zI (min a b) := by
  by_cases h : y < x
  · rw [if_pos h, ← ni_z (x := y)]
    have := ni_lt.mp h
    omega
  · rw [if_neg h, ← ni_z (x := x)]
    have : ¬ y.toInt < x.toInt := fun q => h (ni_lt.mpr q)
    omega
theorem zI_abs {x : Int32} {a : Int} (ha : x.toInt = a) (h1 : -2147483648 < a) : (if 0 ≤ x then x else 0 - x) = nI a.natAbs := by
  have hr := ni_rng x
  by_cases h : 0 ≤ x
  · have h2 : 0 ≤ x.toInt := ni_le.mp h
    rw [if_pos h, ni_eq, ni_toInt (by omega)]
    omega
  · have h2 : ¬ 0 ≤ x.toInt := fun q => h (ni_le.mpr q)
    rw [if_neg h, ni_z ha, show (0 : Int32) = zI 0 from rfl, zI_sub, ni_eq, zI_toInt (by omega) (by omega), ni_toInt (by omega)]
    omega
end NV
-- contracts: RO reads alone, MU changes the cells of its world; TR: static arrays that it reads
abbrev rmO (fr lo : Nat) : Room := { frames := fr, cells := 0, slots := 0, locals := lo }
abbrev tyK (cI cZ cS : ClassId) : List (ClassId × FieldType) := [(cI, .int), (cZ, .boolean), (cS, .object "CurveOrders$Setup")]
def QRO (post : Option Value → Prop) : Array Value → State → Outcome → State → Prop := fun _ st o t => ∃ v, o = .returned v ∧ post v ∧ t.heap = st.heap
def TR (tr : List (Nat × Nat × (Nat → Nat))) (A : Nat → Prop) (U : State) (H : Heap) : Prop := ∀ q ∈ tr, va_T .int q.1 q.2.1 (fun j => .int (nA q.2.2 j)) A U H
def QMU (D : va_G) {S : Type} (post : Option Value → S → Prop) (w' : S → va_W) (A : Nat → Prop) : Array Value → State → Outcome → State → Prop := fun _ st o t => (∃ v u, o = .returned v ∧ post v u ∧ va_P D vwCl (w' u) t.heap ∧ va_D A (w' u)) ∧ va_F A st t
def RO (l : Launch) (y : MethodName) (wsM : List Cond) (fr lo : Nat) (D : va_G) (tys : List (ClassId × FieldType)) (wc : va_W) (av : List Value) (post : Option Value → Prop) : Prop := Met l y wsM (rmO fr lo) (va_Pc av (fun U => va_P D vwCl wc U.heap ∧ va_K D vwCl tys U)) (QRO post) 0 0 (fun _ => False)
def MU (l : Launch) (y : MethodName) (wsM : List Cond) (fr lo : Nat) (D : va_G) (tys : List (ClassId × FieldType)) (wc : va_W) (tr : List (Nat × Nat × (Nat → Nat))) (av : List Value) {S : Type} (post : Option Value → S → Prop) (w' : S → va_W) : Prop := ∀ sz, Met l y wsM (rmO fr lo) (va_Pc av (fun U => U.heap.size = sz ∧ va_P D vwCl wc U.heap ∧ va_K D vwCl tys U ∧ va_D (fun _ => True) wc ∧ TR tr (va_A wc sz) U U.heap)) (QMU D post w' (va_A wc sz)) 0 0 (va_A wc sz)
abbrev rI (P : Int32 → Prop) : Option Value → Prop := fun v => ∃ r, v = some (.int r) ∧ P r
abbrev rL (P : Int64 → Prop) : Option Value → Prop := fun v => ∃ r, v = some (.long r) ∧ P r
abbrev rA (P : Nat → Prop) : Option Value → Prop := fun v => ∃ r, v = some (.ref r) ∧ P r
abbrev rV (P : Prop) : Option Value → Prop := fun v => v = none ∧ P
def RetOk (cc : ByteArray) (pc : Nat) (ret : Option FieldType) (v : Option Value) (st : List Value) : Prop :=
  (ret = some .int ∧ ∃ r, v = some (.int r) ∧ st = [.int r] ∧ decode cc pc = .ok (.ireturn, 1)) ∨
  (ret = some .boolean ∧ ∃ r, (r = nI 1 ∨ r = nI 0) ∧ v = some (.int r) ∧ st = [.int r] ∧ decode cc pc = .ok (.ireturn, 1)) ∨
  (ret = none ∧ v = none ∧ st = [] ∧ decode cc pc = .ok (.return_, 1)) ∨
  (ret = some .long ∧ ∃ r, v = some (.long r) ∧ st = [.long r] ∧ decode cc pc = .ok (.lreturn, 1)) ∨
  (ret = some (.array .int) ∧ ∃ r, v = some (.ref r) ∧ st = [.ref r] ∧ decode cc pc = .ok (.areturn, 1))
theorem ro_blind {D : va_G} {cl : List vw_C} {wc : va_W} {tys : List (ClassId × FieldType)} {av : List Value} : FrameBlind (va_Pc av (fun U => va_P D cl wc U.heap ∧ va_K D cl tys U)) := fun a U g mk q => ⟨q.1, q.2.1, va_K.moved (u := U) (U := U.calling g mk a) (Vm.Alike.refl U.vm) q.2.2⟩
theorem TR.moved {tr : List (Nat × Nat × (Nat → Nat))} {A : Nat → Prop} {u U : State} {H : Heap} (hvm : u.vm.Alike U.vm) (h : TR tr A u H) : TR tr A U H := fun q hq => (h q hq).moved hvm
theorem TR.nil {A : Nat → Prop} {U : State} {H : Heap} : TR [] A U H := fun q hq => absurd hq List.not_mem_nil
theorem mu_blind {D : va_G} {cl : List vw_C} {wc : va_W} {tys : List (ClassId × FieldType)} {av : List Value} {sz : Nat} {tr : List (Nat × Nat × (Nat → Nat))} {A B : Nat → Prop} : FrameBlind (va_Pc av (fun U => U.heap.size = sz ∧ va_P D cl wc U.heap ∧ va_K D cl tys U ∧ va_D B wc ∧ TR tr A U U.heap)) := fun a U g mk q => ⟨q.1, q.2.1, q.2.2.1, va_K.moved (u := U) (U := U.calling g mk a) (Vm.Alike.refl U.vm) q.2.2.2.1, q.2.2.2.2.1, TR.moved (u := U) (U := U.calling g mk a) (Vm.Alike.refl U.vm) q.2.2.2.2.2⟩
section OFW
variable {p : Program} {l : Launch} {e : Env} {R : Room} {s : State} {m : MethodId} {args : Array Value} {below : List Frame} {meth : Method} {c : Code} {H : Heap} {locs : List Loc} {cells slots : Nat} {cc : ByteArray} {pc : Nat} {ls : Array Slot}
theorem ret_ok {Qc : Array Value → State → Outcome → State → Prop} {free : Addr → Prop} {ret : Option FieldType} {v : Option Value} {st : List Value} (hx : p.tables.exec = Jvm.exec) (hb : c.code = cc) (hr : meth.sig.returnType = ret) (hlocks : meth.locks = false) (h : RetOk cc pc ret v st) (hq : ∀ t : State, t.heap = H → s.WarmedH t.vm → Qc args s (.returned v) t) (hf : ∀ q ∈ locs, free q.base) : W p l e R s m args below meth c H locs cells slots (MQ below Qc args s cells slots free) (F0 m pc ls st) := by
  rcases h with ⟨rfl, r, rfl, rfl, hd⟩ | ⟨rfl, r, hz, rfl, rfl, hd⟩ | ⟨rfl, rfl, rfl, hd⟩ | ⟨rfl, r, rfl, rfl, hd⟩ | ⟨rfl, r, rfl, rfl, hd⟩
  · exact W.iret hx hb hr hq hf hd hlocks
  · refine W.zret hx hb hr ?_ hq hf hd hlocks
    rcases hz with rfl | rfl
    · rfl
    · rfl
  · exact W.vret hx hb hr hq hf hd hlocks
  · exact W.lret hx hb hr hq hf hd hlocks
  · exact W.aret hx hb hr (Or.inr ⟨_, rfl⟩) (Or.inr ⟨_, rfl⟩) hq hf hd hlocks
end OFW
theorem ro_of {l : Launch} {y : MethodName} {wsM ws' : List Cond} {fr lo : Nat} {D : va_G} {tys : List (ClassId × FieldType)} {wc : va_W} {av : List Value} {post : Option Value → Prop} {cc : ByteArray} {maxL : Nat} {ret : Option FieldType}
    (hy : plainName y.cls = true) (hw : wsM = Cond.code y cc maxL ret :: ws') (hlen : (lg_sl av).length ≤ maxL)
    (body : ∀ (p : Program) (e : Env) (s : State) (m : MethodId) (below : List Frame) (meth : Method) (c : Code) (Q : State → Prop), CallFix p m c cc maxL s av.toArray wsM y.cls → va_P D vwCl wc s.heap → va_K D vwCl tys s →
      (∀ (v : Option Value) (pc : Nat) (ls : Array Slot) (st : List Value), RetOk cc pc ret v st → post v → W p l e (rmO fr lo) s m av.toArray below meth c s.heap [] 0 0 Q (F0 m pc ls st)) →
      ∀ ls : Array Slot, lv_has ls maxL (lv_args 0 av) → W p l e (rmO fr lo) s m av.toArray below meth c s.heap [] 0 0 Q (F0 m 0 ls [])) : RO l y wsM fr lo D tys wc av post := by
  refine Met.ofW (cc := cc) (maxL := maxL) (ret := ret) hy hw ?_
  intro p e s m args below meth c s₁ B hml hv
  obtain ⟨rfl, hP, hK⟩ := hv
  have hx := B.exec
  have hb := B.bytes
  have hr := B.returns
  have hts := atoms_spec (ws := wsM) B.pre
  have hown : s.vm.findClass y.cls = some m.cls := findClass_of_methodNamed B.named
  have hlocks := B.notSynchronized
  have hl := lv_entry av (n := maxL) hlen
  rw [lg_entry_eq]
  exact body p e s m below meth c _ ⟨hx, hb, hml, hown, hts⟩ hP hK (fun v pc ls st h hp => ret_ok hx hb hr hlocks h (fun t ht hW => ⟨v, rfl, hp, ht⟩) (fun q h => absurd h List.not_mem_nil)) _ hl
theorem mu_of {l : Launch} {y : MethodName} {wsM ws' : List Cond} {fr lo : Nat} {D : va_G} {tys : List (ClassId × FieldType)} {wc : va_W} {tr : List (Nat × Nat × (Nat → Nat))} {av : List Value} {S : Type} {post : Option Value → S → Prop} {w' : S → va_W} {cc : ByteArray} {maxL : Nat} {ret : Option FieldType}
    (hy : plainName y.cls = true) (hw : wsM = Cond.code y cc maxL ret :: ws') (hlen : (lg_sl av).length ≤ maxL)
    (body : ∀ (p : Program) (e : Env) (s : State) (m : MethodId) (below : List Frame) (meth : Method) (c : Code) (Q : State → Prop) (A : Nat → Prop), CallFix p m c cc maxL s av.toArray wsM y.cls → va_P D vwCl wc s.heap → va_K D vwCl tys s → va_D A wc → va_S A s.heap s.heap [] → (∀ q : Nat, s.heap.size ≤ q → A q) → TR tr A s s.heap →
      (∀ (v : Option Value) (u : S) (pc : Nat) (ls : Array Slot) (st : List Value) (H : Heap) (locs : List Loc), RetOk cc pc ret v st → post v u → va_P D vwCl (w' u) H → va_D A (w' u) → va_S A s.heap H locs → W p l e (rmO fr lo) s m av.toArray below meth c H locs 0 0 Q (F0 m pc ls st)) →
      ∀ ls : Array Slot, lv_has ls maxL (lv_args 0 av) → W p l e (rmO fr lo) s m av.toArray below meth c s.heap [] 0 0 Q (F0 m 0 ls [])) : MU l y wsM fr lo D tys wc tr av post w' := by
  intro sz
  refine Met.ofW (cc := cc) (maxL := maxL) (ret := ret) hy hw ?_
  intro p e s m args below meth c s₁ B hml hv
  obtain ⟨rfl, hsz, hP, hK, hD0, hT⟩ := hv
  have hx := B.exec
  have hb := B.bytes
  have hr := B.returns
  have hts := atoms_spec (ws := wsM) B.pre
  have hown : s.vm.findClass y.cls = some m.cls := findClass_of_methodNamed B.named
  have hlocks := B.notSynchronized
  subst hsz
  have hl := lv_entry av (n := maxL) hlen
  rw [lg_entry_eq]
  exact body p e s m below meth c _ (va_A wc s.heap.size) ⟨hx, hb, hml, hown, hts⟩ hP hK (hD0.self (sz := s.heap.size)) va_S.rf (fun q h => Or.inr h) hT (fun v u pc ls st H locs h hp hP1 hD1 hS1 => ret_ok hx hb hr hlocks h (fun t ht hW => ⟨⟨v, u, rfl, hp, by rw [ht]; exact hP1, hD1⟩, hS1.F ht⟩) hS1.2.2) _ hl
section CALLS
variable {p : Program} {l : Launch} {e : Env} {R : Room} {s : State} {m : MethodId} {args : Array Value} {below : List Frame} {meth : Method} {c : Code} {H : Heap} {locs : List Loc} {cells slots : Nat} {Q : State → Prop} {cc : ByteArray} {pc nL : Nat} {ls : Array Slot} {rest st0 : List Value} {a : Array Value}
  {D : va_G} {tys : List (ClassId × FieldType)} {ws wc wr : va_W} {A0 A1 : Nat → Prop} {H0 : Heap} {free : Addr → Prop} {y : MethodName} {wsM ws' Ts : List Cond} {fr lo maxL index ci N b : Nat} {ret : Option FieldType} {bytes : ByteArray} {own C : String} {T : u_T} {fs As : List Value} {tr : List (Nat × Nat × (Nat → Nat))}
theorem ro_call {post : Option Value → Prop} (hr : CallRun p l e R s m args below meth c H locs cells slots 0 0 (F0 m pc ls st0) rest (QRO post a) (fun _ => False))
    (kk : ∀ v, post v → W p l e R s m args below meth c H locs cells slots Q (F0 m (pc + 3) ls (v.toList ++ rest))) : W p l e R s m args below meth c H locs cells slots Q (F0 m pc ls st0) := by
  intro T hT X
  obtain ⟨v, st₀, t, T', L, h0, X', hL, e1, ⟨v', hv, hp, hh⟩, st⟩ := hr T hT X
  cases hv
  obtain ⟨t2, a1, b1⟩ := kk v hp T' (by rw [e1, hh, h0]) (Stand.forget X' (fun q h => (hL q h).elim))
  exact ⟨t2, st t2 a1, b1⟩
theorem mu_call {S : Type} {post : Option Value → S → Prop} {w' : S → va_W} (hr : va_Run p l e R s m args below meth c H locs cells slots 0 0 (F0 m pc ls st0) rest (QMU D post w' A1 a) free) (hS : va_S A0 H0 H locs) (hA : ∀ q, q < H.size → A1 q → A0 q) (hf : ∀ q, free q → A0 q)
    (kk : ∀ (v : Option Value) (u : S) (H1 : Heap) (locs1 : List Loc), post v u → va_P D vwCl (w' u) H1 → va_D A1 (w' u) → (∀ q : Nat, q < H.size → ¬ A1 q → H1[q]? = H[q]?) → va_S A0 H0 H1 locs1 → W p l e R s m args below meth c H1 locs1 cells slots Q (F0 m (pc + 3) ls (v.toList ++ rest))) : W p l e R s m args below meth c H locs cells slots Q (F0 m pc ls st0) := by
  intro T hT X
  obtain ⟨v, st₀, t, T', L, h0, X', hL, e1, e2, ⟨⟨v', u, hv, hp, hb, hd⟩, hz, hk⟩, st⟩ := hr T hT X
  cases hv
  rw [h0] at hz hk
  obtain ⟨t2, a1, b1⟩ := kk v u T'.heap (locs ++ L) hp (by rw [e1]; exact hb) hd (fun q h1 h2 => by rw [e1]; exact hk q h1 h2)
    ⟨Nat.le_trans hS.1 (by rw [e1]; exact hz), fun q h1 h2 => by rw [e1, hk q (Nat.lt_of_lt_of_le h1 hS.1) (fun z => h2 (hA q (Nat.lt_of_lt_of_le h1 hS.1) z))]; exact hS.2.1 q h1 h2, fun q hq => by
      rcases List.mem_append.mp hq with h | h
      · exact hS.2.2 q h
      · exact hf _ (hL q h)⟩ T' rfl X'
  exact ⟨t2, st t2 a1, b1⟩
abbrev ndV (y : MethodName) (C : String) (n : Nat) : Prop := y.cls = C ∧ y.cls ≠ "java/lang/invoke/MethodHandle" ∧ y.cls ≠ "java/lang/invoke/VarHandle" ∧ (parseMethodDescriptor y.desc).map (fun d => d.parameters.length) = some n
theorem ro_V {post : Option Value → Prop} (F : CallFix p m c cc nL s args Ts own) (hM : RO l y wsM fr lo D tys wc (.ref b :: As) post) (n : Nat) (hG : GoodIn Ts (wsV own index C y wsM)) (hw : wsM = Cond.code y bytes maxL ret :: ws') (hd : ndV y C n) (hR : fr + 1 ≤ R.frames ∧ 8 + (maxL + 11) + lo ≤ R.locals)
    (hK : va_K D vwCl tys s) (hP : va_P D vwCl ws H) (is : List Nat) (hs : is.filterMap (fun i => ws[i]?) = wc) (hc : vwCl[ci]? = some (C, T, N)) (he : wc[0]? = some (b, .inr (ci, fs))) (hn : As.length = n) (hsz : ls.size = nL) (hst : st0 = As.reverse ++ .ref b :: rest) (hcat : (rest.map fun v => v.category).sum ≤ 8) (hdg : decode cc pc = .ok (.invokevirtual index, 3)) (hcs : cells ≤ R.cells ∧ slots ≤ R.slots)
    (kk : ∀ v, post v → W p l e R s m args below meth c H locs cells slots Q (F0 m (pc + 3) ls (v.toList ++ rest))) : W p l e R s m args below meth c H locs cells slots Q (F0 m pc ls st0) := by
  have hPc := hP.sub (ws' := wc) is hs
  exact ro_call (W.runV (As := As) (rest := rest) F hM (cwV n F.2.2.2.2 hG hw rfl rfl hd hR) ⟨ro_blind, va_recv hK hPc hc he, fun U hU hW => ⟨rfl, by rw [hU]; exact hPc, va_K.moved hW.alike hK⟩⟩ rfl hn hsz hst (lv_room hcat) hdg hcs) kk
theorem ro_S {post : Option Value → Prop} (F : CallFix p m c cc nL s args Ts own) (hM : RO l y wsM fr lo D tys wc As post) (n : Nat) (hG : GoodIn Ts (va_wsS own index y wsM)) (hw : wsM = Cond.code y bytes maxL ret :: ws') (hd : ndV y C n) (hR : fr + 1 ≤ R.frames ∧ 8 + (maxL + 11) + lo ≤ R.locals)
    (hK : va_K D vwCl tys s) (hP : va_P D vwCl ws H) (is : List Nat) (hs : is.filterMap (fun i => ws[i]?) = wc) (hn : As.length = n) (hsz : ls.size = nL) (hst : st0 = As.reverse ++ rest) (hcat : (rest.map fun v => v.category).sum ≤ 8) (hdg : decode cc pc = .ok (.invokestatic index, 3)) (hcs : cells ≤ R.cells ∧ slots ≤ R.slots)
    (kk : ∀ v, post v → W p l e R s m args below meth c H locs cells slots Q (F0 m (pc + 3) ls (v.toList ++ rest))) : W p l e R s m args below meth c H locs cells slots Q (F0 m pc ls st0) := by
  have hPc := hP.sub (ws' := wc) is hs
  exact ro_call (W.runS (As := As) (rest := rest) F hM (va_cwS n F.2.2.2.2 hG hw rfl rfl hd.2 hR) ⟨ro_blind, fun U hU hW => ⟨rfl, by rw [hU]; exact hPc, va_K.moved hW.alike hK⟩⟩ rfl hn hsz hst (lv_room hcat) hdg hcs) kk
theorem mu_V {S : Type} {post : Option Value → S → Prop} {w' : S → va_W} (F : CallFix p m c cc nL s args Ts own) (hM : MU l y wsM fr lo D tys wc tr (.ref b :: As) post w') (n : Nat) (hG : GoodIn Ts (wsV own index C y wsM)) (hw : wsM = Cond.code y bytes maxL ret :: ws') (hd : ndV y C n) (hR : fr + 1 ≤ R.frames ∧ 8 + (maxL + 11) + lo ≤ R.locals)
    (hK : va_K D vwCl tys s) (hP : va_P D vwCl ws H) (hD : va_D A0 ws) (hS : va_S A0 H0 H locs) (hA : ∀ q : Nat, H0.size ≤ q → A0 q) (isC isR : List Nat) (hC : isC.map (fun i => ws[i]?) = wc.map some) (hRr : isR.map (fun i => ws[i]?) = wr.map some) (hnC : va_nd isC = true) (hnR : va_nd isR = true) (hdis : ∀ i ∈ isR, i ∉ isC) (htr : TR tr (va_A wc H.size) s H)
    (hc : vwCl[ci]? = some (C, T, N)) (he : wc[0]? = some (b, .inr (ci, fs))) (hn : As.length = n) (hsz : ls.size = nL) (hst : st0 = As.reverse ++ .ref b :: rest) (hcat : (rest.map fun v => v.category).sum ≤ 8) (hdg : decode cc pc = .ok (.invokevirtual index, 3)) (hcs : cells ≤ R.cells ∧ slots ≤ R.slots)
    (kk : ∀ (v : Option Value) (u : S) (H1 : Heap) (locs1 : List Loc), post v u → va_P D vwCl (wr ++ w' u) H1 → va_D A0 (wr ++ w' u) → va_S A0 H0 H1 locs1 → W p l e R s m args below meth c H1 locs1 cells slots Q (F0 m (pc + 3) ls (v.toList ++ rest))) : W p l e R s m args below meth c H locs cells slots Q (F0 m pc ls st0) := by
  have hDc := hD.sub (ws' := wc) isC hnC hC
  have hPc : va_P D vwCl wc H := fun k q hk => by
    have h1 : (isC.map (fun i => ws[i]?))[k]? = some (some q) := by rw [hC, List.getElem?_map, hk]; rfl
    rw [List.getElem?_map] at h1
    cases hi : isC[k]? with
    | none => rw [hi] at h1; cases h1
    | some i => rw [hi] at h1; exact hP i q (Option.some.inj h1)
  have hFc := va_free (wc := wc) hD hS hA isC hC
  refine mu_call (va_runV (As := As) (rest := rest) F (hM H.size) (cwV n F.2.2.2.2 hG hw rfl rfl hd hR) ⟨mu_blind, va_recv hK hPc hc he, fun U hU hW => ⟨rfl, by rw [hU], by rw [hU]; exact hPc, va_K.moved hW.alike hK, hDc.weaken (fun _ _ _ _ => trivial), by rw [hU]; exact htr.moved hW.alike⟩⟩ rfl hn hsz hst (lv_room hcat) hdg hcs) hS (fun q _ h => hFc q h) hFc ?_
  intro v u H1 locs1 hp hP1 hD1 hk1 hS1
  obtain ⟨hP2, hD2⟩ := va_join (wr := wr) (w1 := w' u) hP hD isC isR hC hRr hnR hdis hk1 hFc hP1 hD1
  exact kk v u H1 locs1 hp hP2 hD2 hS1
theorem ro_Vi {post : Int32 → Prop} (F : CallFix p m c cc nL s args Ts own) (hM : RO l y wsM fr lo D tys wc (.ref b :: As) (rI post)) (n : Nat) (hG : GoodIn Ts (wsV own index C y wsM)) (hw : wsM = Cond.code y bytes maxL ret :: ws') (hd : ndV y C n) (hR : fr + 1 ≤ R.frames ∧ 8 + (maxL + 11) + lo ≤ R.locals)
    (hK : va_K D vwCl tys s) (hP : va_P D vwCl ws H) (is : List Nat) (hs : is.filterMap (fun i => ws[i]?) = wc) (hc : vwCl[ci]? = some (C, T, N)) (he : wc[0]? = some (b, .inr (ci, fs))) (hn : As.length = n) (hsz : ls.size = nL) (hst : st0 = As.reverse ++ .ref b :: rest) (hcat : (rest.map fun v => v.category).sum ≤ 8) (hdg : decode cc pc = .ok (.invokevirtual index, 3)) (hcs : cells ≤ R.cells ∧ slots ≤ R.slots)
    (kk : ∀ r : Int32, post r → W p l e R s m args below meth c H locs cells slots Q (F0 m (pc + 3) ls (.int r :: rest))) : W p l e R s m args below meth c H locs cells slots Q (F0 m pc ls st0) := ro_V F hM n hG hw hd hR hK hP is hs hc he hn hsz hst hcat hdg hcs (fun v hv => by obtain ⟨r, rfl, h⟩ := hv; exact kk r h)
theorem ro_Vl {post : Int64 → Prop} (F : CallFix p m c cc nL s args Ts own) (hM : RO l y wsM fr lo D tys wc (.ref b :: As) (rL post)) (n : Nat) (hG : GoodIn Ts (wsV own index C y wsM)) (hw : wsM = Cond.code y bytes maxL ret :: ws') (hd : ndV y C n) (hR : fr + 1 ≤ R.frames ∧ 8 + (maxL + 11) + lo ≤ R.locals)
    (hK : va_K D vwCl tys s) (hP : va_P D vwCl ws H) (is : List Nat) (hs : is.filterMap (fun i => ws[i]?) = wc) (hc : vwCl[ci]? = some (C, T, N)) (he : wc[0]? = some (b, .inr (ci, fs))) (hn : As.length = n) (hsz : ls.size = nL) (hst : st0 = As.reverse ++ .ref b :: rest) (hcat : (rest.map fun v => v.category).sum ≤ 8) (hdg : decode cc pc = .ok (.invokevirtual index, 3)) (hcs : cells ≤ R.cells ∧ slots ≤ R.slots)
    (kk : ∀ r : Int64, post r → W p l e R s m args below meth c H locs cells slots Q (F0 m (pc + 3) ls (.long r :: rest))) : W p l e R s m args below meth c H locs cells slots Q (F0 m pc ls st0) := ro_V F hM n hG hw hd hR hK hP is hs hc he hn hsz hst hcat hdg hcs (fun v hv => by obtain ⟨r, rfl, h⟩ := hv; exact kk r h)
theorem ro_Va {post : Nat → Prop} (F : CallFix p m c cc nL s args Ts own) (hM : RO l y wsM fr lo D tys wc (.ref b :: As) (rA post)) (n : Nat) (hG : GoodIn Ts (wsV own index C y wsM)) (hw : wsM = Cond.code y bytes maxL ret :: ws') (hd : ndV y C n) (hR : fr + 1 ≤ R.frames ∧ 8 + (maxL + 11) + lo ≤ R.locals)
    (hK : va_K D vwCl tys s) (hP : va_P D vwCl ws H) (is : List Nat) (hs : is.filterMap (fun i => ws[i]?) = wc) (hc : vwCl[ci]? = some (C, T, N)) (he : wc[0]? = some (b, .inr (ci, fs))) (hn : As.length = n) (hsz : ls.size = nL) (hst : st0 = As.reverse ++ .ref b :: rest) (hcat : (rest.map fun v => v.category).sum ≤ 8) (hdg : decode cc pc = .ok (.invokevirtual index, 3)) (hcs : cells ≤ R.cells ∧ slots ≤ R.slots)
    (kk : ∀ r : Nat, post r → W p l e R s m args below meth c H locs cells slots Q (F0 m (pc + 3) ls (.ref r :: rest))) : W p l e R s m args below meth c H locs cells slots Q (F0 m pc ls st0) := ro_V F hM n hG hw hd hR hK hP is hs hc he hn hsz hst hcat hdg hcs (fun v hv => by obtain ⟨r, rfl, h⟩ := hv; exact kk r h)
theorem ro_Si {post : Int32 → Prop} (F : CallFix p m c cc nL s args Ts own) (hM : RO l y wsM fr lo D tys wc As (rI post)) (n : Nat) (hG : GoodIn Ts (va_wsS own index y wsM)) (hw : wsM = Cond.code y bytes maxL ret :: ws') (hd : ndV y C n) (hR : fr + 1 ≤ R.frames ∧ 8 + (maxL + 11) + lo ≤ R.locals)
    (hK : va_K D vwCl tys s) (hP : va_P D vwCl ws H) (is : List Nat) (hs : is.filterMap (fun i => ws[i]?) = wc) (hn : As.length = n) (hsz : ls.size = nL) (hst : st0 = As.reverse ++ rest) (hcat : (rest.map fun v => v.category).sum ≤ 8) (hdg : decode cc pc = .ok (.invokestatic index, 3)) (hcs : cells ≤ R.cells ∧ slots ≤ R.slots)
    (kk : ∀ r : Int32, post r → W p l e R s m args below meth c H locs cells slots Q (F0 m (pc + 3) ls (.int r :: rest))) : W p l e R s m args below meth c H locs cells slots Q (F0 m pc ls st0) := ro_S F hM n hG hw hd hR hK hP is hs hn hsz hst hcat hdg hcs (fun v hv => by obtain ⟨r, rfl, h⟩ := hv; exact kk r h)
theorem ro_Sl {post : Int64 → Prop} (F : CallFix p m c cc nL s args Ts own) (hM : RO l y wsM fr lo D tys wc As (rL post)) (n : Nat) (hG : GoodIn Ts (va_wsS own index y wsM)) (hw : wsM = Cond.code y bytes maxL ret :: ws') (hd : ndV y C n) (hR : fr + 1 ≤ R.frames ∧ 8 + (maxL + 11) + lo ≤ R.locals)
    (hK : va_K D vwCl tys s) (hP : va_P D vwCl ws H) (is : List Nat) (hs : is.filterMap (fun i => ws[i]?) = wc) (hn : As.length = n) (hsz : ls.size = nL) (hst : st0 = As.reverse ++ rest) (hcat : (rest.map fun v => v.category).sum ≤ 8) (hdg : decode cc pc = .ok (.invokestatic index, 3)) (hcs : cells ≤ R.cells ∧ slots ≤ R.slots)
    (kk : ∀ r : Int64, post r → W p l e R s m args below meth c H locs cells slots Q (F0 m (pc + 3) ls (.long r :: rest))) : W p l e R s m args below meth c H locs cells slots Q (F0 m pc ls st0) := ro_S F hM n hG hw hd hR hK hP is hs hn hsz hst hcat hdg hcs (fun v hv => by obtain ⟨r, rfl, h⟩ := hv; exact kk r h)
theorem ro_Sa {post : Nat → Prop} (F : CallFix p m c cc nL s args Ts own) (hM : RO l y wsM fr lo D tys wc As (rA post)) (n : Nat) (hG : GoodIn Ts (va_wsS own index y wsM)) (hw : wsM = Cond.code y bytes maxL ret :: ws') (hd : ndV y C n) (hR : fr + 1 ≤ R.frames ∧ 8 + (maxL + 11) + lo ≤ R.locals)
    (hK : va_K D vwCl tys s) (hP : va_P D vwCl ws H) (is : List Nat) (hs : is.filterMap (fun i => ws[i]?) = wc) (hn : As.length = n) (hsz : ls.size = nL) (hst : st0 = As.reverse ++ rest) (hcat : (rest.map fun v => v.category).sum ≤ 8) (hdg : decode cc pc = .ok (.invokestatic index, 3)) (hcs : cells ≤ R.cells ∧ slots ≤ R.slots)
    (kk : ∀ r : Nat, post r → W p l e R s m args below meth c H locs cells slots Q (F0 m (pc + 3) ls (.ref r :: rest))) : W p l e R s m args below meth c H locs cells slots Q (F0 m pc ls st0) := ro_S F hM n hG hw hd hR hK hP is hs hn hsz hst hcat hdg hcs (fun v hv => by obtain ⟨r, rfl, h⟩ := hv; exact kk r h)
theorem mu_Vi {S : Type} {post : Int32 → S → Prop} {w' : S → va_W} (F : CallFix p m c cc nL s args Ts own) (hM : MU l y wsM fr lo D tys wc tr (.ref b :: As) (fun v u => rI (fun r => post r u) v) w') (n : Nat) (hG : GoodIn Ts (wsV own index C y wsM)) (hw : wsM = Cond.code y bytes maxL ret :: ws') (hd : ndV y C n) (hR : fr + 1 ≤ R.frames ∧ 8 + (maxL + 11) + lo ≤ R.locals)
    (hK : va_K D vwCl tys s) (hP : va_P D vwCl ws H) (hD : va_D A0 ws) (hS : va_S A0 H0 H locs) (hA : ∀ q : Nat, H0.size ≤ q → A0 q) (isC isR : List Nat) (hC : isC.map (fun i => ws[i]?) = wc.map some) (hRr : isR.map (fun i => ws[i]?) = wr.map some) (hnC : va_nd isC = true) (hnR : va_nd isR = true) (hdis : ∀ i ∈ isR, i ∉ isC) (htr : TR tr (va_A wc H.size) s H)
    (hc : vwCl[ci]? = some (C, T, N)) (he : wc[0]? = some (b, .inr (ci, fs))) (hn : As.length = n) (hsz : ls.size = nL) (hst : st0 = As.reverse ++ .ref b :: rest) (hcat : (rest.map fun v => v.category).sum ≤ 8) (hdg : decode cc pc = .ok (.invokevirtual index, 3)) (hcs : cells ≤ R.cells ∧ slots ≤ R.slots)
    (kk : ∀ (r : Int32) (u : S) (H1 : Heap) (locs1 : List Loc), post r u → va_P D vwCl (wr ++ w' u) H1 → va_D A0 (wr ++ w' u) → va_S A0 H0 H1 locs1 → W p l e R s m args below meth c H1 locs1 cells slots Q (F0 m (pc + 3) ls (.int r :: rest))) : W p l e R s m args below meth c H locs cells slots Q (F0 m pc ls st0) := mu_V F hM n hG hw hd hR hK hP hD hS hA isC isR hC hRr hnC hnR hdis htr hc he hn hsz hst hcat hdg hcs (fun v u H1 locs1 hv h1 h2 h3 => by obtain ⟨r, rfl, h⟩ := hv; exact kk r u H1 locs1 h h1 h2 h3)
theorem mu_Vl {S : Type} {post : Int64 → S → Prop} {w' : S → va_W} (F : CallFix p m c cc nL s args Ts own) (hM : MU l y wsM fr lo D tys wc tr (.ref b :: As) (fun v u => rL (fun r => post r u) v) w') (n : Nat) (hG : GoodIn Ts (wsV own index C y wsM)) (hw : wsM = Cond.code y bytes maxL ret :: ws') (hd : ndV y C n) (hR : fr + 1 ≤ R.frames ∧ 8 + (maxL + 11) + lo ≤ R.locals)
    (hK : va_K D vwCl tys s) (hP : va_P D vwCl ws H) (hD : va_D A0 ws) (hS : va_S A0 H0 H locs) (hA : ∀ q : Nat, H0.size ≤ q → A0 q) (isC isR : List Nat) (hC : isC.map (fun i => ws[i]?) = wc.map some) (hRr : isR.map (fun i => ws[i]?) = wr.map some) (hnC : va_nd isC = true) (hnR : va_nd isR = true) (hdis : ∀ i ∈ isR, i ∉ isC) (htr : TR tr (va_A wc H.size) s H)
    (hc : vwCl[ci]? = some (C, T, N)) (he : wc[0]? = some (b, .inr (ci, fs))) (hn : As.length = n) (hsz : ls.size = nL) (hst : st0 = As.reverse ++ .ref b :: rest) (hcat : (rest.map fun v => v.category).sum ≤ 8) (hdg : decode cc pc = .ok (.invokevirtual index, 3)) (hcs : cells ≤ R.cells ∧ slots ≤ R.slots)
    (kk : ∀ (r : Int64) (u : S) (H1 : Heap) (locs1 : List Loc), post r u → va_P D vwCl (wr ++ w' u) H1 → va_D A0 (wr ++ w' u) → va_S A0 H0 H1 locs1 → W p l e R s m args below meth c H1 locs1 cells slots Q (F0 m (pc + 3) ls (.long r :: rest))) : W p l e R s m args below meth c H locs cells slots Q (F0 m pc ls st0) := mu_V F hM n hG hw hd hR hK hP hD hS hA isC isR hC hRr hnC hnR hdis htr hc he hn hsz hst hcat hdg hcs (fun v u H1 locs1 hv h1 h2 h3 => by obtain ⟨r, rfl, h⟩ := hv; exact kk r u H1 locs1 h h1 h2 h3)
theorem mu_Va {S : Type} {post : Nat → S → Prop} {w' : S → va_W} (F : CallFix p m c cc nL s args Ts own) (hM : MU l y wsM fr lo D tys wc tr (.ref b :: As) (fun v u => rA (fun r => post r u) v) w') (n : Nat) (hG : GoodIn Ts (wsV own index C y wsM)) (hw : wsM = Cond.code y bytes maxL ret :: ws') (hd : ndV y C n) (hR : fr + 1 ≤ R.frames ∧ 8 + (maxL + 11) + lo ≤ R.locals)
    (hK : va_K D vwCl tys s) (hP : va_P D vwCl ws H) (hD : va_D A0 ws) (hS : va_S A0 H0 H locs) (hA : ∀ q : Nat, H0.size ≤ q → A0 q) (isC isR : List Nat) (hC : isC.map (fun i => ws[i]?) = wc.map some) (hRr : isR.map (fun i => ws[i]?) = wr.map some) (hnC : va_nd isC = true) (hnR : va_nd isR = true) (hdis : ∀ i ∈ isR, i ∉ isC) (htr : TR tr (va_A wc H.size) s H)
    (hc : vwCl[ci]? = some (C, T, N)) (he : wc[0]? = some (b, .inr (ci, fs))) (hn : As.length = n) (hsz : ls.size = nL) (hst : st0 = As.reverse ++ .ref b :: rest) (hcat : (rest.map fun v => v.category).sum ≤ 8) (hdg : decode cc pc = .ok (.invokevirtual index, 3)) (hcs : cells ≤ R.cells ∧ slots ≤ R.slots)
    (kk : ∀ (r : Nat) (u : S) (H1 : Heap) (locs1 : List Loc), post r u → va_P D vwCl (wr ++ w' u) H1 → va_D A0 (wr ++ w' u) → va_S A0 H0 H1 locs1 → W p l e R s m args below meth c H1 locs1 cells slots Q (F0 m (pc + 3) ls (.ref r :: rest))) : W p l e R s m args below meth c H locs cells slots Q (F0 m pc ls st0) := mu_V F hM n hG hw hd hR hK hP hD hS hA isC isR hC hRr hnC hnR hdis htr hc he hn hsz hst hcat hdg hcs (fun v u H1 locs1 hv h1 h2 h3 => by obtain ⟨r, rfl, h⟩ := hv; exact kk r u H1 locs1 h h1 h2 h3)
theorem mu_Vv {S : Type} {post : S → Prop} {w' : S → va_W} (F : CallFix p m c cc nL s args Ts own) (hM : MU l y wsM fr lo D tys wc tr (.ref b :: As) (fun v u => rV (post u) v) w') (n : Nat) (hG : GoodIn Ts (wsV own index C y wsM)) (hw : wsM = Cond.code y bytes maxL ret :: ws') (hd : ndV y C n) (hR : fr + 1 ≤ R.frames ∧ 8 + (maxL + 11) + lo ≤ R.locals)
    (hK : va_K D vwCl tys s) (hP : va_P D vwCl ws H) (hD : va_D A0 ws) (hS : va_S A0 H0 H locs) (hA : ∀ q : Nat, H0.size ≤ q → A0 q) (isC isR : List Nat) (hC : isC.map (fun i => ws[i]?) = wc.map some) (hRr : isR.map (fun i => ws[i]?) = wr.map some) (hnC : va_nd isC = true) (hnR : va_nd isR = true) (hdis : ∀ i ∈ isR, i ∉ isC) (htr : TR tr (va_A wc H.size) s H)
    (hc : vwCl[ci]? = some (C, T, N)) (he : wc[0]? = some (b, .inr (ci, fs))) (hn : As.length = n) (hsz : ls.size = nL) (hst : st0 = As.reverse ++ .ref b :: rest) (hcat : (rest.map fun v => v.category).sum ≤ 8) (hdg : decode cc pc = .ok (.invokevirtual index, 3)) (hcs : cells ≤ R.cells ∧ slots ≤ R.slots)
    (kk : ∀ (u : S) (H1 : Heap) (locs1 : List Loc), post u → va_P D vwCl (wr ++ w' u) H1 → va_D A0 (wr ++ w' u) → va_S A0 H0 H1 locs1 → W p l e R s m args below meth c H1 locs1 cells slots Q (F0 m (pc + 3) ls (rest))) : W p l e R s m args below meth c H locs cells slots Q (F0 m pc ls st0) := mu_V F hM n hG hw hd hR hK hP hD hS hA isC isR hC hRr hnC hnR hdis htr hc he hn hsz hst hcat hdg hcs (fun v u H1 locs1 hv h1 h2 h3 => by obtain ⟨rfl, h⟩ := hv; exact kk u H1 locs1 h h1 h2 h3)
end CALLS
-- an array of the world that a callee doesn't write, as a table that it reads
theorem tr_world {D : va_G} {tys : List (ClassId × FieldType)} {ws wc : va_W} {A0 : Nat → Prop} {s : State} {H : Heap} (hK : va_K D vwCl tys s) (hP : va_P D vwCl ws H) (hD : va_D A0 ws) (isC : List Nat) (hC : isC.map (fun i => ws[i]?) = wc.map some) (q0 t0 : Nat) (hq : q0 ∉ isC) {cA : ClassId} {t n : Nat} {g : Nat → Nat} (ha : ws[q0]? = some (t, .inl (cA, n, .inl (nA g)))) (ht : tys[t0]? = some (cA, .int)) : va_T .int t n (fun j => .int (nA g j)) (va_A wc H.size) s H := by
  have h1 : H[t]? = some (vp_cell cA (n, .inl (nA g))) := hP q0 _ ha
  refine ⟨_, h1, (hK.2 t0 _ ht).1 n (fun j => .int (nA g j)), (fun q => by cases q), ?_, ?_, ?_, ?_⟩
  · show n ≤ (arrV _ _ _).slots.size
    rw [arrV_size]; exact Nat.le_refl n
  · show (arrV _ _ _).slots.size.toInt32 = _
    rw [arrV_size]
  · intro j hj
    exact arrV_read _ _ hj
  · rintro (⟨k, e, h⟩ | h)
    · have h2 : (isC.map (fun i => ws[i]?))[k]? = some (some (t, e)) := by rw [hC, List.getElem?_map, h]; rfl
      rw [List.getElem?_map] at h2
      cases hi : isC[k]? with
      | none => rw [hi] at h2; cases h2
      | some i =>
        rw [hi] at h2
        have h3 := hD.1 i q0 (t, e) _ (Option.some.inj h2) ha rfl
        subst h3
        exact hq (List.mem_of_getElem? hi)
    · have := (Array.getElem?_eq_some_iff.mp h1).1
      omega
