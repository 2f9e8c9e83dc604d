-- arrays of truth values, arrays of references, copies
section ZA
variable {p : Program} {l : Launch} {e : Env} {R : Room} {s : State} {m : MethodId} {args : Array Value} {below : List Frame} {meth : Method} {c : Code} {H : Heap} {locs : List Loc} {cells slots : Nat} {Q : State → Prop} {cc : ByteArray} {pc : Nat} {ls : Array Slot} {rest : List Value}
variable {D : va_G} {cl : List vw_C} {tys : List (ClassId × FieldType)} {ws : va_W} {A : Nat → Prop} {H0 : Heap} {a : Nat}
theorem nv_zald (hx : p.tables.exec = Jvm.exec) (hb : c.code = cc) (hK : va_K D cl tys s) (hP : va_P D cl ws H) (q0 t0 : Nat) {cA : ClassId} {n : Nat} {g : Nat → Nat} (ha : ws[q0]? = some (a, .inl (cA, n, .inl (nA g)))) (ht : tys[t0]? = some (cA, .boolean)) {i : Nat} (hi : i < n) (hn : n < 2147483648) (hd : decode cc pc = .ok (.baload, 1)) (k : W p l e R s m args below meth c H locs cells slots Q (F0 m (pc + 1) ls (.int (nI (g i)) :: rest))) : W p l e R s m args below meth c H locs cells slots Q (F0 m pc ls (.int (nI i) :: .ref a :: rest)) := by
  refine va_zald hx hb hK hP q0 t0 ha ht (ni_in hi hn) hd ?_
  rw [ni_cl (by omega)]
  exact k
theorem nar_z {x : Nat} (h : x < 2) : vp_nar .boolean (nI x) = nI x := by
  rcases (show x = 0 ∨ x = 1 by omega) with q | q
  · subst q; rfl
  · subst q; rfl
theorem nv_zast (hx : p.tables.exec = Jvm.exec) (hb : c.code = cc) (hK : va_K D cl tys s) (hP : va_P D cl ws H) (hD : va_D A ws) (hS : va_S A H0 H locs) (q0 t0 : Nat) {cA : ClassId} {n : Nat} {g : Nat → Nat} (ha : ws[q0]? = some (a, .inl (cA, n, .inl (nA g)))) (ht : tys[t0]? = some (cA, .boolean)) {i x : Nat} (hi : i < n) (hn : n < 2147483648) (hx2 : x < 2) (hd : decode cc pc = .ok (.bastore, 1))
    (kk : ∀ (H1 : Heap) (locs1 : List Loc), va_P D cl (ws.set q0 (a, .inl (cA, n, .inl (nA (upN g i x))))) H1 → va_D A (ws.set q0 (a, .inl (cA, n, .inl (nA (upN g i x))))) → va_S A H0 H1 locs1 → W p l e R s m args below meth c H1 locs1 cells slots Q (F0 m (pc + 1) ls rest)) : W p l e R s m args below meth c H locs cells slots Q (F0 m pc ls (.int (nI x) :: .int (nI i) :: .ref a :: rest)) := by
  refine va_zast hx hb hK hP hD hS q0 t0 ha ht (ni_in hi hn) hd ?_
  rw [ni_cl (by omega), nar_z hx2, nA_upd]
  exact kk
theorem nv_aald (hx : p.tables.exec = Jvm.exec) (hb : c.code = cc) (hK : va_K D cl tys s) (hP : va_P D cl ws H) (q0 t0 : Nat) {cA : ClassId} {C : String} {n v : Nat} {f : Nat → Option Nat} (ha : ws[q0]? = some (a, .inl (cA, n, .inr (.inr (.inr (.inr f)))))) (ht : tys[t0]? = some (cA, .object C)) {i : Nat} (hi : i < n) (hn : n < 2147483648) (hv : f i = some v) (hd : decode cc pc = .ok (.aaload, 1)) (k : W p l e R s m args below meth c H locs cells slots Q (F0 m (pc + 1) ls (.ref v :: rest))) : W p l e R s m args below meth c H locs cells slots Q (F0 m pc ls (.int (nI i) :: .ref a :: rest)) := by
  refine va_aldq hx hb hK hP q0 t0 ha ht (ni_in hi hn) hd ?_
  rw [ni_cl (by omega), hv]
  exact k
def cpN (f g : Nat → Nat) (n : Nat) : Nat → Nat := fun k => if k < n then f k else g k
theorem cpN_in {f g : Nat → Nat} {n k : Nat} (h : k < n) : cpN f g n k = f k := if_pos h
theorem cpN_lt {f g : Nat → Nat} {n b : Nat} (hf : ∀ j, f j < b) (hg : ∀ j, g j < b) : ∀ j, cpN f g n j < b := by
  intro j
  unfold cpN
  split
  · exact hf j
  · exact hg j
theorem cpN_nA (f g : Nat → Nat) (n : Nat) : va_cpy (nA f) (nA g) 0 0 n = nA (cpN f g n) := by
  funext k
  unfold va_cpy nA cpN
  by_cases h : k < n
  · rw [if_pos ⟨Nat.zero_le _, by omega⟩, if_pos h, Nat.zero_add, Nat.sub_zero]
  · rw [if_neg (by omega), if_neg h]
theorem nn_nI {x : Nat} (h : x < 2147483648) : ¬ nI x < 0 := by
  rw [Int32.lt_iff_toInt_lt, ni_toInt h]
  show ¬ (x : Int) < 0
  omega
theorem nv_copy (hx : p.tables.exec = Jvm.exec) (hb : c.code = cc) (hml : c.maxLocals = ls.size) {own : String} {index : Nat} (hown : s.vm.findClass own = some m.cls) (hlink : (Cond.methodLink own index arraycopyName).before args s = true) (hnat : (Cond.native arraycopyName).before args s = true) (hstat : (Cond.static arraycopyName).before args s = true) (hini : (Cond.initialized "java/lang/System").before args s = true)
    (hK : va_K D cl tys s) (hP : va_P D cl ws H) (hD : va_D A ws) (hS : va_S A H0 H locs) (q0 q1 t0 : Nat) {a0 : Nat} {cA : ClassId} {n0 n1 n : Nat} {f g : Nat → Nat} (ha0 : ws[q0]? = some (a0, .inl (cA, n0, .inl (nA f)))) (ha1 : ws[q1]? = some (a, .inl (cA, n1, .inl (nA g)))) (ht0 : tys[t0]? = some (cA, .int)) (h4 : n ≤ n0) (h5 : n ≤ n1) (h6 : n < 2147483648)
    (hframes : 1 ≤ R.frames) (hlocals : (rest.map fun v => v.category).sum + (nativeFrameWords "java/lang/System" "arraycopy" 5 + 11) ≤ R.locals) (hdg : decode cc pc = .ok (.invokestatic index, 3))
    (kk : ∀ (H1 : Heap) (locs1 : List Loc), va_P D cl (ws.set q1 (a, .inl (cA, n1, .inl (nA (cpN f g n))))) H1 → va_D A (ws.set q1 (a, .inl (cA, n1, .inl (nA (cpN f g n))))) → va_S A H0 H1 locs1 → W p l e R s m args below meth c H1 locs1 cells slots Q (F0 m (pc + 3) ls rest)) : W p l e R s m args below meth c H locs cells slots Q (F0 m pc ls (.int (nI n) :: .int (nI 0) :: .ref a :: .int (nI 0) :: .ref a0 :: rest)) := by
  refine va_copyi hx hb hml hown hlink hnat hstat hini hK hP hD hS q0 q1 t0 t0 ha0 ha1 ht0 ht0 rfl (nn_nI (by omega)) (nn_nI (by omega)) (nn_nI h6) (by rw [ni_cl h6, ni_cl (by omega)]; omega) (by rw [ni_cl h6, ni_cl (by omega)]; omega) (fun i _ => rfl) hframes hlocals hdg ?_
  rw [ni_cl h6, ni_cl (by omega), cpN_nA]
  exact kk
theorem arr_agree {cA : ClassId} {n : Nat} {f g : Nat → Int32} (h : ∀ j, j < n → f j = g j) : vp_cell cA (n, .inl f) = vp_cell cA (n, .inl g) := by
  rw [vp_cell_i, vp_cell_i]
  unfold arrV
  congr 1
  congr 1
  funext j
  exact congrArg Value.int (h j.val j.isLt)
theorem P_agree {q0 : Nat} {cA : ClassId} {n : Nat} {f g : Nat → Int32} (hq : q0 < ws.length) (hP : va_P D cl (ws.set q0 (a, .inl (cA, n, .inl f))) H) (h : ∀ j, j < n → f j = g j) : va_P D cl (ws.set q0 (a, .inl (cA, n, .inl g))) H := by
  intro k q hk
  by_cases hkp : k = q0
  · subst hkp
    rw [List.getElem?_set_self hq] at hk
    cases hk
    have h1 : H[a]? = some (vp_cell cA (n, .inl f)) := hP k _ (List.getElem?_set_self hq)
    show H[a]? = some (vp_cell cA (n, .inl g))
    rw [h1, arr_agree h]
  · rw [List.getElem?_set_ne (fun e => hkp e.symm)] at hk
    exact hP k q (by rw [List.getElem?_set_ne (fun e => hkp e.symm)]; exact hk)
theorem nv_copyA (hx : p.tables.exec = Jvm.exec) (hb : c.code = cc) (hml : c.maxLocals = ls.size) {own : String} {index : Nat} (hown : s.vm.findClass own = some m.cls) (hlink : (Cond.methodLink own index arraycopyName).before args s = true) (hnat : (Cond.native arraycopyName).before args s = true) (hstat : (Cond.static arraycopyName).before args s = true) (hini : (Cond.initialized "java/lang/System").before args s = true)
    (hK : va_K D cl tys s) (hP : va_P D cl ws H) (hD : va_D A ws) (hS : va_S A H0 H locs) (q0 q1 t0 : Nat) {a0 : Nat} {cA : ClassId} {n0 n : Nat} {f g : Nat → Nat} (ha0 : ws[q0]? = some (a0, .inl (cA, n0, .inl (nA f)))) (ha1 : ws[q1]? = some (a, .inl (cA, n, .inl (nA g)))) (ht0 : tys[t0]? = some (cA, .int)) (h4 : n ≤ n0) (h6 : n < 2147483648)
    (hframes : 1 ≤ R.frames) (hlocals : (rest.map fun v => v.category).sum + (nativeFrameWords "java/lang/System" "arraycopy" 5 + 11) ≤ R.locals) (hdg : decode cc pc = .ok (.invokestatic index, 3))
    (kk : ∀ (H1 : Heap) (locs1 : List Loc), va_P D cl (ws.set q1 (a, .inl (cA, n, .inl (nA f)))) H1 → va_D A (ws.set q1 (a, .inl (cA, n, .inl (nA f)))) → va_S A H0 H1 locs1 → W p l e R s m args below meth c H1 locs1 cells slots Q (F0 m (pc + 3) ls rest)) : W p l e R s m args below meth c H locs cells slots Q (F0 m pc ls (.int (nI n) :: .int (nI 0) :: .ref a :: .int (nI 0) :: .ref a0 :: rest)) :=
  nv_copy hx hb hml hown hlink hnat hstat hini hK hP hD hS q0 q1 t0 ha0 ha1 ht0 h4 (Nat.le_refl n) h6 hframes hlocals hdg (fun H1 locs1 hP1 hD1 hS1 => kk H1 locs1 (P_agree (List.getElem?_eq_some_iff.mp ha1).1 hP1 (fun j hj => congrArg nI (cpN_in hj))) (hD.set ha1) hS1)
end ZA
