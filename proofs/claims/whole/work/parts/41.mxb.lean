-- contracts that read the class's static arrays, or make cells
def hostN : String := "CurveOrders"
def nwL : List Cond := [.fieldLinkNest RX6 19 RX9 "MORTON_VISITS" "[I" RX9, .fieldLinkNest RX5 52 RX9 "HILBERT_VISITS" "[I" RX9, .fieldLinkNest RX5 59 RX9 "MORTON_VISITS" "[I" RX9, .methodLinkNest RX9 9 yX5_init RX9, .methodLinkNest RX5 27 yX4_init RX9, .methodLinkNest RX5 34 yX3_init RX9, .methodLinkNest RX5 44 yX1_init RX9, .methodLinkNest RX9 26 yX8_init RX9, .methodLinkNest RX9 33 yX2_init RX9, .methodLinkNest RX9 40 yX0_init RX9]
theorem nwL_warm {s U : State} (hW : s.WarmedH U.vm) (h : ∀ w ∈ nwL, va_Nw w s) : ∀ w ∈ nwL, va_Nw w U := by
  intro w hw
  have h0 := h w hw
  simp only [nwL, List.mem_cons, List.not_mem_nil, or_false] at hw
  rcases hw with rfl | rfl | rfl | rfl | rfl | rfl | rfl | rfl | rfl | rfl
  · exact va_Nw.warmF hW h0
  · exact va_Nw.warmF hW h0
  · exact va_Nw.warmF hW h0
  · exact va_Nw.warmM hW h0
  · exact va_Nw.warmM hW h0
  · exact va_Nw.warmM hW h0
  · exact va_Nw.warmM hW h0
  · exact va_Nw.warmM hW h0
  · exact va_Nw.warmM hW h0
  · exact va_Nw.warmM hW h0
theorem nwL_same {s U : State} (hW : s.vm = U.vm) (h : ∀ w ∈ nwL, va_Nw w s) : ∀ w ∈ nwL, va_Nw w U := by
  intro w hw
  have h0 := h w hw
  simp only [nwL, List.mem_cons, List.not_mem_nil, or_false] at hw
  rcases hw with rfl | rfl | rfl | rfl | rfl | rfl | rfl | rfl | rfl | rfl <;> exact va_Nw.same rfl hW h0
/-- the class's two static arrays at tM and tH, outside A; the nest's links -/
def STc (tM tH : Nat) (A : Nat → Prop) (U : State) (H : Heap) : Prop := (∀ w ∈ nwL, va_Nw w U) ∧ va_AO RX5 U ∧ va_Z RX9 "MORTON_VISITS" "[I" (.ref tM) A U H ∧ va_Z RX9 "HILBERT_VISITS" "[I" (.ref tH) A U H ∧ va_T .int tM 4 (fun j => .int (nA mortT j)) A U H ∧ va_T .int tH 16 (fun j => .int (nA hilT j)) A U H
theorem STc.warm {tM tH : Nat} {A : Nat → Prop} {s U : State} {H : Heap} (hW : s.WarmedH U.vm) (h : STc tM tH A s H) : STc tM tH A U H := ⟨nwL_warm hW h.1, h.2.1.moved hW.alike, h.2.2.1.moved hW.alike, h.2.2.2.1.moved hW.alike, h.2.2.2.2.1.moved hW.alike, h.2.2.2.2.2.moved hW.alike⟩
theorem STc.same {tM tH : Nat} {A : Nat → Prop} {s U : State} {H : Heap} (hW : s.vm = U.vm) (h : STc tM tH A s H) : STc tM tH A U H := by
  have ha : s.vm.Alike U.vm := by rw [hW]; exact Vm.Alike.refl _
  exact ⟨nwL_same hW h.1, h.2.1.moved ha, h.2.2.1.moved ha, h.2.2.2.1.moved ha, h.2.2.2.2.1.moved ha, h.2.2.2.2.2.moved ha⟩
theorem STc.kept {tM tH : Nat} {A : Nat → Prop} {s : State} {H0 H : Heap} {locs : List Loc} (h : STc tM tH A s H0) (hS : va_S A H0 H locs) : STc tM tH A s H := ⟨h.1, h.2.1, h.2.2.1.kept hS.2.1, h.2.2.2.1.kept hS.2.1, h.2.2.2.2.1.kept hS.2.1, h.2.2.2.2.2.kept hS.2.1⟩
theorem STc.narrow {tM tH : Nat} {A B : Nat → Prop} {s : State} {H : Heap} (h : STc tM tH A s H) (hAB : ∀ q, B q → A q) : STc tM tH B s H := ⟨h.1, h.2.1, h.2.2.1.narrow hAB, h.2.2.2.1.narrow hAB, h.2.2.2.2.1.narrow hAB, h.2.2.2.2.2.narrow hAB⟩
theorem TR.one {t n : Nat} {g : Nat → Nat} {A : Nat → Prop} {U : State} {H : Heap} (h : va_T .int t n (fun j => .int (nA g j)) A U H) : TR [(t, n, g)] A U H := fun q hq => by rw [List.mem_singleton.mp hq]; exact h
theorem STc.trM {tM tH : Nat} {A B : Nat → Prop} {s : State} {H0 H : Heap} {locs : List Loc} (h : STc tM tH A s H0) (hS : va_S A H0 H locs) (hAB : ∀ q, B q → A q) : TR [(tM, 4, mortT)] B s H := TR.one ((h.kept hS).narrow hAB).2.2.2.2.1
theorem STc.trH {tM tH : Nat} {A B : Nat → Prop} {s : State} {H0 H : Heap} {locs : List Loc} (h : STc tM tH A s H0) (hS : va_S A H0 H locs) (hAB : ∀ q, B q → A q) : TR [(tH, 16, hilT)] B s H := TR.one ((h.kept hS).narrow hAB).2.2.2.2.2
abbrev rmX (fr lo mc ms : Nat) : Room := { frames := fr, cells := mc, slots := ms, locals := lo }
def MX (l : Launch) (y : MethodName) (wsM : List Cond) (fr lo mc ms : Nat) (D : va_G) (tys : List (ClassId × FieldType)) (wc : va_W) (tM tH : Nat) (av : List Value) {S : Type} (post : Option Value → S → Prop) (w' : S → va_W) : Prop := ∀ sz, Met l y wsM (rmX fr lo mc ms) (va_Pc av (fun U => U.heap.size = sz ∧ va_P D vwCl wc U.heap ∧ va_K D vwCl tys U ∧ va_D (fun _ => True) wc ∧ STc tM tH (va_A wc sz) U U.heap)) (QMU D post w' (va_A wc sz)) mc ms (va_A wc sz)
theorem mx_blind {D : va_G} {cl : List vw_C} {wc : va_W} {tys : List (ClassId × FieldType)} {av : List Value} {sz tM tH : Nat} {A B : Nat → Prop} : FrameBlind (va_Pc av (fun U => U.heap.size = sz ∧ va_P D cl wc U.heap ∧ va_K D cl tys U ∧ va_D B wc ∧ STc tM tH A U U.heap)) := fun a U g mk q => ⟨q.1, q.2.1, q.2.2.1, va_K.moved (u := U) (U := U.calling g mk a) (Vm.Alike.refl U.vm) q.2.2.2.1, q.2.2.2.2.1, STc.same (s := U) (U := U.calling g mk a) rfl q.2.2.2.2.2⟩
theorem mx_of {l : Launch} {y : MethodName} {wsM ws' : List Cond} {fr lo mc ms tM tH : Nat} {D : va_G} {tys : List (ClassId × FieldType)} {wc : va_W} {av : List Value} {S : Type} {post : Option Value → S → Prop} {w' : S → va_W} {cc : ByteArray} {maxL : Nat} {ret : Option FieldType}
    (hy : plainName y.cls = true) (hw : wsM = Cond.code y cc maxL ret :: ws') (hlen : (lg_sl av).length ≤ maxL)
    (body : ∀ (p : Program) (e : Env) (s : State) (m : MethodId) (below : List Frame) (meth : Method) (c : Code) (Q : State → Prop) (A : Nat → Prop), CallFix p m c cc maxL s av.toArray wsM y.cls → meth.name = y.name → va_P D vwCl wc s.heap → va_K D vwCl tys s → va_D A wc → va_S A s.heap s.heap [] → (∀ q : Nat, s.heap.size ≤ q → A q) → STc tM tH A s s.heap →
      (∀ (v : Option Value) (u : S) (pc : Nat) (ls : Array Slot) (st : List Value) (H : Heap) (locs : List Loc), RetOk cc pc ret v st → post v u → va_P D vwCl (w' u) H → va_D A (w' u) → va_S A s.heap H locs → W p l e (rmX fr lo mc ms) s m av.toArray below meth c H locs mc ms Q (F0 m pc ls st)) →
      ∀ ls : Array Slot, lv_has ls maxL (lv_args 0 av) → W p l e (rmX fr lo mc ms) s m av.toArray below meth c s.heap [] 0 0 Q (F0 m 0 ls [])) : MX l y wsM fr lo mc ms D tys wc tM tH av post w' := by
  intro sz
  refine Met.ofW (cc := cc) (maxL := maxL) (ret := ret) hy hw ?_
  intro p e s m args below meth c s₁ B hml hv
  obtain ⟨rfl, hsz, hP, hK, hD0, hT⟩ := hv
  have hx := B.exec
  have hb := B.bytes
  have hr := B.returns
  have hts := atoms_spec (ws := wsM) B.pre
  have hown : s.vm.findClass y.cls = some m.cls := findClass_of_methodNamed B.named
  have hnm : meth.name = y.name := (name_of_methodNamed B.named B.method).1
  have hlocks := B.notSynchronized
  subst hsz
  have hl := lv_entry av (n := maxL) hlen
  rw [lg_entry_eq]
  exact body p e s m below meth c _ (va_A wc s.heap.size) ⟨hx, hb, hml, hown, hts⟩ hnm hP hK (hD0.self (sz := s.heap.size)) va_S.rf (fun q h => Or.inr h) hT (fun v u pc ls st H locs h hp hP1 hD1 hS1 => ret_ok hx hb hr hlocks h (fun t ht hW => ⟨⟨v, u, rfl, hp, by rw [ht]; exact hP1, hD1⟩, hS1.F ht⟩) hS1.2.2) _ hl
section MXC
variable {p : Program} {l : Launch} {e : Env} {R : Room} {s : State} {m : MethodId} {args : Array Value} {below : List Frame} {meth : Method} {c : Code} {H : Heap} {locs : List Loc} {cells slots mc ms tM tH : Nat} {Q : State → Prop} {cc : ByteArray} {pc nL : Nat} {ls : Array Slot} {rest st0 : List Value} {a : Array Value}
  {D : va_G} {tys : List (ClassId × FieldType)} {ws wc wr : va_W} {A0 A1 : Nat → Prop} {H0 : Heap} {free : Addr → Prop} {y : MethodName} {wsM ws' Ts : List Cond} {fr lo maxL index ci N b : Nat} {ret : Option FieldType} {bytes : ByteArray} {own C : String} {T : u_T} {fs As : List Value}
theorem mx_call {S : Type} {post : Option Value → S → Prop} {w' : S → va_W} (hr : va_Run p l e R s m args below meth c H locs cells slots mc ms (F0 m pc ls st0) rest (QMU D post w' A1 a) free) (hS : va_S A0 H0 H locs) (hA : ∀ q, q < H.size → A1 q → A0 q) (hf : ∀ q, free q → A0 q)
    (kk : ∀ (v : Option Value) (u : S) (H1 : Heap) (locs1 : List Loc), post v u → va_P D vwCl (w' u) H1 → va_D A1 (w' u) → (∀ q : Nat, q < H.size → ¬ A1 q → H1[q]? = H[q]?) → va_S A0 H0 H1 locs1 → W p l e R s m args below meth c H1 locs1 (cells + mc) (slots + ms) Q (F0 m (pc + 3) ls (v.toList ++ rest))) : W p l e R s m args below meth c H locs cells slots Q (F0 m pc ls st0) := by
  intro T hT X
  obtain ⟨v, st₀, t, T', L, h0, X', hL, e1, e2, ⟨⟨v', u, hv, hp, hb, hd⟩, hz, hk⟩, st⟩ := hr T hT X
  cases hv
  rw [h0] at hz hk
  obtain ⟨t2, a1, b1⟩ := kk v u T'.heap (locs ++ L) hp (by rw [e1]; exact hb) hd (fun q h1 h2 => by rw [e1]; exact hk q h1 h2)
    ⟨Nat.le_trans hS.1 (by rw [e1]; exact hz), fun q h1 h2 => by rw [e1, hk q (Nat.lt_of_lt_of_le h1 hS.1) (fun z => h2 (hA q (Nat.lt_of_lt_of_le h1 hS.1) z))]; exact hS.2.1 q h1 h2, fun q hq => by
      rcases List.mem_append.mp hq with h | h
      · exact hS.2.2 q h
      · exact hf _ (hL q h)⟩ T' rfl X'
  exact ⟨t2, st t2 a1, b1⟩
theorem mx_cells (hP : va_P D vwCl ws H) (isC : List Nat) (hC : isC.map (fun i => ws[i]?) = wc.map some) : va_P D vwCl wc H := fun k q hk => by
  have h1 : (isC.map (fun i => ws[i]?))[k]? = some (some q) := by rw [hC, List.getElem?_map, hk]; rfl
  rw [List.getElem?_map] at h1
  cases hi : isC[k]? with
  | none => rw [hi] at h1; cases h1
  | some i => rw [hi] at h1; exact hP i q (Option.some.inj h1)
theorem mx_V {S : Type} {post : Option Value → S → Prop} {w' : S → va_W} (F : CallFix p m c cc nL s args Ts own) (hM : MX l y wsM fr lo mc ms D tys wc tM tH (.ref b :: As) post w') (n : Nat) (hG : GoodIn Ts (wsV own index C y wsM)) (hw : wsM = Cond.code y bytes maxL ret :: ws') (hd : ndV y C n) (hR : fr + 1 ≤ R.frames ∧ 8 + (maxL + 11) + lo ≤ R.locals)
    (hK : va_K D vwCl tys s) (hP : va_P D vwCl ws H) (hD : va_D A0 ws) (hS : va_S A0 H0 H locs) (hA : ∀ q : Nat, H0.size ≤ q → A0 q) (hZ : STc tM tH A0 s H0) (isC isR : List Nat) (hC : isC.map (fun i => ws[i]?) = wc.map some) (hRr : isR.map (fun i => ws[i]?) = wr.map some) (hnC : va_nd isC = true) (hnR : va_nd isR = true) (hdis : ∀ i ∈ isR, i ∉ isC)
    (hc : vwCl[ci]? = some (C, T, N)) (he : wc[0]? = some (b, .inr (ci, fs))) (hn : As.length = n) (hsz : ls.size = nL) (hst : st0 = As.reverse ++ .ref b :: rest) (hcat : (rest.map fun v => v.category).sum ≤ 8) (hdg : decode cc pc = .ok (.invokevirtual index, 3)) (hcs : cells + mc ≤ R.cells ∧ slots + ms ≤ R.slots)
    (kk : ∀ (v : Option Value) (u : S) (H1 : Heap) (locs1 : List Loc), post v u → va_P D vwCl (wr ++ w' u) H1 → va_D A0 (wr ++ w' u) → va_S A0 H0 H1 locs1 → W p l e R s m args below meth c H1 locs1 (cells + mc) (slots + ms) Q (F0 m (pc + 3) ls (v.toList ++ rest))) : W p l e R s m args below meth c H locs cells slots Q (F0 m pc ls st0) := by
  have hDc := hD.sub (ws' := wc) isC hnC hC
  have hPc : va_P D vwCl wc H := mx_cells hP isC hC
  have hFc := va_free (wc := wc) hD hS hA isC hC
  refine mx_call (va_runV (As := As) (rest := rest) F (hM H.size) (cwV n F.2.2.2.2 hG hw rfl rfl hd hR) ⟨mx_blind, va_recv hK hPc hc he, fun U hU hW => ⟨rfl, by rw [hU], by rw [hU]; exact hPc, va_K.moved hW.alike hK, hDc.weaken (fun _ _ _ _ => trivial), by rw [hU]; exact ((hZ.kept hS).narrow hFc).warm hW⟩⟩ rfl hn hsz hst (lv_room hcat) hdg hcs) hS (fun q _ h => hFc q h) hFc ?_
  intro v u H1 locs1 hp hP1 hD1 hk1 hS1
  obtain ⟨hP2, hD2⟩ := va_join (wr := wr) (w1 := w' u) hP hD isC isR hC hRr hnR hdis hk1 hFc hP1 hD1
  exact kk v u H1 locs1 hp hP2 hD2 hS1
abbrev ndI (y : MethodName) (n : Nat) : Prop := y.cls ≠ "java/lang/invoke/MethodHandle" ∧ y.cls ≠ "java/lang/invoke/VarHandle" ∧ (parseMethodDescriptor y.desc).map (fun d => d.parameters.length) = some n
theorem mx_I {S : Type} {post : S → Prop} {w' : S → va_W} (F : CallFix p m c cc nL s args Ts own) (hM : MX l y wsM fr lo mc ms D tys wc tM tH (.ref b :: As) (fun v u => rV (post u) v) w') (n : Nat) (hG : GoodIn Ts wsM) (hw : wsM = Cond.code y bytes maxL none :: ws') (hini : (Cond.initialized y.cls).before args s = true) (hlk : (Cond.methodLink own index y).before args s = true) (hinst : (Cond.instanceMethod y).before args s = true) (hnm : y.name = "<init>") (hd : ndI y n) (hR : fr + 1 ≤ R.frames ∧ 8 + (maxL + 11) + lo ≤ R.locals)
    (hK : va_K D vwCl tys s) (hP : va_P D vwCl ws H) (hD : va_D A0 ws) (hS : va_S A0 H0 H locs) (hA : ∀ q : Nat, H0.size ≤ q → A0 q) (hZ : STc tM tH A0 s H0) (isC isR : List Nat) (hC : isC.map (fun i => ws[i]?) = wc.map some) (hRr : isR.map (fun i => ws[i]?) = wr.map some) (hnC : va_nd isC = true) (hnR : va_nd isR = true) (hdis : ∀ i ∈ isR, i ∉ isC)
    (hn : As.length = n) (hsz : ls.size = nL) (hst : st0 = As.reverse ++ .ref b :: rest) (hcat : (rest.map fun v => v.category).sum ≤ 8) (hdg : decode cc pc = .ok (.invokespecial index, 3)) (hcs : cells + mc ≤ R.cells ∧ slots + ms ≤ R.slots)
    (kk : ∀ (u : S) (H1 : Heap) (locs1 : List Loc), post u → va_P D vwCl (wr ++ w' u) H1 → va_D A0 (wr ++ w' u) → va_S A0 H0 H1 locs1 → W p l e R s m args below meth c H1 locs1 (cells + mc) (slots + ms) Q (F0 m (pc + 3) ls rest)) : W p l e R s m args below meth c H locs cells slots Q (F0 m pc ls st0) := by
  have hDc := hD.sub (ws' := wc) isC hnC hC
  have hPc : va_P D vwCl wc H := mx_cells hP isC hC
  have hFc := va_free (wc := wc) hD hS hA isC hC
  refine mx_call (va_runI (As := As) (rest := rest) F (hM H.size) (cwI n F.2.2.2.2 hG hw rfl rfl hini hlk hinst hnm hd hR) ⟨mx_blind, fun U hU hW => ⟨rfl, by rw [hU], by rw [hU]; exact hPc, va_K.moved hW.alike hK, hDc.weaken (fun _ _ _ _ => trivial), by rw [hU]; exact ((hZ.kept hS).narrow hFc).warm hW⟩⟩ rfl hn hsz hst (lv_room hcat) hdg hcs) hS (fun q _ h => hFc q h) hFc ?_
  intro v u H1 locs1 hp hP1 hD1 hk1 hS1
  obtain ⟨hP2, hD2⟩ := va_join (wr := wr) (w1 := w' u) hP hD isC isR hC hRr hnR hdis hk1 hFc hP1 hD1
  obtain ⟨rfl, hp⟩ := hp
  exact kk u H1 locs1 hp hP2 hD2 hS1
theorem mx_N {S : Type} {post : S → Prop} {w' : S → va_W} {host : String} (F : CallFix p m c cc nL s args Ts own) (hM : MX l y wsM fr lo mc ms D tys wc tM tH (.ref b :: As) (fun v u => rV (post u) v) w') (n : Nat) (hG : GoodIn Ts wsM) (hw : wsM = Cond.code y bytes maxL none :: ws') (hini : (Cond.initialized y.cls).before args s = true) (hlk : va_Nw (.methodLinkNest own index y host) s) (hinst : (Cond.instanceMethod y).before args s = true) (hnm : y.name = "<init>") (hd : ndI y n) (hR : fr + 1 ≤ R.frames ∧ 8 + (maxL + 11) + lo ≤ R.locals)
    (hK : va_K D vwCl tys s) (hP : va_P D vwCl ws H) (hD : va_D A0 ws) (hS : va_S A0 H0 H locs) (hA : ∀ q : Nat, H0.size ≤ q → A0 q) (hZ : STc tM tH A0 s H0) (isC isR : List Nat) (hC : isC.map (fun i => ws[i]?) = wc.map some) (hRr : isR.map (fun i => ws[i]?) = wr.map some) (hnC : va_nd isC = true) (hnR : va_nd isR = true) (hdis : ∀ i ∈ isR, i ∉ isC)
    (hn : As.length = n) (hsz : ls.size = nL) (hst : st0 = As.reverse ++ .ref b :: rest) (hcat : (rest.map fun v => v.category).sum ≤ 8) (hdg : decode cc pc = .ok (.invokespecial index, 3)) (hcs : cells + mc ≤ R.cells ∧ slots + ms ≤ R.slots)
    (kk : ∀ (u : S) (H1 : Heap) (locs1 : List Loc), post u → va_P D vwCl (wr ++ w' u) H1 → va_D A0 (wr ++ w' u) → va_S A0 H0 H1 locs1 → W p l e R s m args below meth c H1 locs1 (cells + mc) (slots + ms) Q (F0 m (pc + 3) ls rest)) : W p l e R s m args below meth c H locs cells slots Q (F0 m pc ls st0) := by
  have hDc := hD.sub (ws' := wc) isC hnC hC
  have hPc : va_P D vwCl wc H := mx_cells hP isC hC
  have hFc := va_free (wc := wc) hD hS hA isC hC
  refine mx_call (va_runIN (As := As) (rest := rest) F (hM H.size) ⟨va_cnB n F.2.2.2.2 hG hw rfl rfl hlk hini hd hR, hnm, hinst⟩ ⟨mx_blind, fun U hU hW => ⟨rfl, by rw [hU], by rw [hU]; exact hPc, va_K.moved hW.alike hK, hDc.weaken (fun _ _ _ _ => trivial), by rw [hU]; exact ((hZ.kept hS).narrow hFc).warm hW⟩⟩ rfl hn hsz hst (lv_room hcat) hdg hcs) hS (fun q _ h => hFc q h) hFc ?_
  intro v u H1 locs1 hp hP1 hD1 hk1 hS1
  obtain ⟨hP2, hD2⟩ := va_join (wr := wr) (w1 := w' u) hP hD isC isR hC hRr hnR hdis hk1 hFc hP1 hD1
  obtain ⟨rfl, hp⟩ := hp
  exact kk u H1 locs1 hp hP2 hD2 hS1
theorem mx_Vi {S : Type} {post : Int32 → S → Prop} {w' : S → va_W} (F : CallFix p m c cc nL s args Ts own) (hM : MX l y wsM fr lo mc ms D tys wc tM tH (.ref b :: As) (fun v u => rI (fun r => post r u) v) w') (n : Nat) (hG : GoodIn Ts (wsV own index C y wsM)) (hw : wsM = Cond.code y bytes maxL ret :: ws') (hd : ndV y C n) (hR : fr + 1 ≤ R.frames ∧ 8 + (maxL + 11) + lo ≤ R.locals)
    (hK : va_K D vwCl tys s) (hP : va_P D vwCl ws H) (hD : va_D A0 ws) (hS : va_S A0 H0 H locs) (hA : ∀ q : Nat, H0.size ≤ q → A0 q) (hZ : STc tM tH A0 s H0) (isC isR : List Nat) (hC : isC.map (fun i => ws[i]?) = wc.map some) (hRr : isR.map (fun i => ws[i]?) = wr.map some) (hnC : va_nd isC = true) (hnR : va_nd isR = true) (hdis : ∀ i ∈ isR, i ∉ isC)
    (hc : vwCl[ci]? = some (C, T, N)) (he : wc[0]? = some (b, .inr (ci, fs))) (hn : As.length = n) (hsz : ls.size = nL) (hst : st0 = As.reverse ++ .ref b :: rest) (hcat : (rest.map fun v => v.category).sum ≤ 8) (hdg : decode cc pc = .ok (.invokevirtual index, 3)) (hcs : cells + mc ≤ R.cells ∧ slots + ms ≤ R.slots)
    (kk : ∀ (r : Int32) (u : S) (H1 : Heap) (locs1 : List Loc), post r u → va_P D vwCl (wr ++ w' u) H1 → va_D A0 (wr ++ w' u) → va_S A0 H0 H1 locs1 → W p l e R s m args below meth c H1 locs1 (cells + mc) (slots + ms) Q (F0 m (pc + 3) ls (.int r :: rest))) : W p l e R s m args below meth c H locs cells slots Q (F0 m pc ls st0) := mx_V F hM n hG hw hd hR hK hP hD hS hA hZ isC isR hC hRr hnC hnR hdis hc he hn hsz hst hcat hdg hcs (fun v u H1 locs1 hv h1 h2 h3 => by obtain ⟨r, rfl, h⟩ := hv; exact kk r u H1 locs1 h h1 h2 h3)
theorem mx_Vl {S : Type} {post : Int64 → S → Prop} {w' : S → va_W} (F : CallFix p m c cc nL s args Ts own) (hM : MX l y wsM fr lo mc ms D tys wc tM tH (.ref b :: As) (fun v u => rL (fun r => post r u) v) w') (n : Nat) (hG : GoodIn Ts (wsV own index C y wsM)) (hw : wsM = Cond.code y bytes maxL ret :: ws') (hd : ndV y C n) (hR : fr + 1 ≤ R.frames ∧ 8 + (maxL + 11) + lo ≤ R.locals)
    (hK : va_K D vwCl tys s) (hP : va_P D vwCl ws H) (hD : va_D A0 ws) (hS : va_S A0 H0 H locs) (hA : ∀ q : Nat, H0.size ≤ q → A0 q) (hZ : STc tM tH A0 s H0) (isC isR : List Nat) (hC : isC.map (fun i => ws[i]?) = wc.map some) (hRr : isR.map (fun i => ws[i]?) = wr.map some) (hnC : va_nd isC = true) (hnR : va_nd isR = true) (hdis : ∀ i ∈ isR, i ∉ isC)
    (hc : vwCl[ci]? = some (C, T, N)) (he : wc[0]? = some (b, .inr (ci, fs))) (hn : As.length = n) (hsz : ls.size = nL) (hst : st0 = As.reverse ++ .ref b :: rest) (hcat : (rest.map fun v => v.category).sum ≤ 8) (hdg : decode cc pc = .ok (.invokevirtual index, 3)) (hcs : cells + mc ≤ R.cells ∧ slots + ms ≤ R.slots)
    (kk : ∀ (r : Int64) (u : S) (H1 : Heap) (locs1 : List Loc), post r u → va_P D vwCl (wr ++ w' u) H1 → va_D A0 (wr ++ w' u) → va_S A0 H0 H1 locs1 → W p l e R s m args below meth c H1 locs1 (cells + mc) (slots + ms) Q (F0 m (pc + 3) ls (.long r :: rest))) : W p l e R s m args below meth c H locs cells slots Q (F0 m pc ls st0) := mx_V F hM n hG hw hd hR hK hP hD hS hA hZ isC isR hC hRr hnC hnR hdis hc he hn hsz hst hcat hdg hcs (fun v u H1 locs1 hv h1 h2 h3 => by obtain ⟨r, rfl, h⟩ := hv; exact kk r u H1 locs1 h h1 h2 h3)
theorem mx_Va {S : Type} {post : Nat → S → Prop} {w' : S → va_W} (F : CallFix p m c cc nL s args Ts own) (hM : MX l y wsM fr lo mc ms D tys wc tM tH (.ref b :: As) (fun v u => rA (fun r => post r u) v) w') (n : Nat) (hG : GoodIn Ts (wsV own index C y wsM)) (hw : wsM = Cond.code y bytes maxL ret :: ws') (hd : ndV y C n) (hR : fr + 1 ≤ R.frames ∧ 8 + (maxL + 11) + lo ≤ R.locals)
    (hK : va_K D vwCl tys s) (hP : va_P D vwCl ws H) (hD : va_D A0 ws) (hS : va_S A0 H0 H locs) (hA : ∀ q : Nat, H0.size ≤ q → A0 q) (hZ : STc tM tH A0 s H0) (isC isR : List Nat) (hC : isC.map (fun i => ws[i]?) = wc.map some) (hRr : isR.map (fun i => ws[i]?) = wr.map some) (hnC : va_nd isC = true) (hnR : va_nd isR = true) (hdis : ∀ i ∈ isR, i ∉ isC)
    (hc : vwCl[ci]? = some (C, T, N)) (he : wc[0]? = some (b, .inr (ci, fs))) (hn : As.length = n) (hsz : ls.size = nL) (hst : st0 = As.reverse ++ .ref b :: rest) (hcat : (rest.map fun v => v.category).sum ≤ 8) (hdg : decode cc pc = .ok (.invokevirtual index, 3)) (hcs : cells + mc ≤ R.cells ∧ slots + ms ≤ R.slots)
    (kk : ∀ (r : Nat) (u : S) (H1 : Heap) (locs1 : List Loc), post r u → va_P D vwCl (wr ++ w' u) H1 → va_D A0 (wr ++ w' u) → va_S A0 H0 H1 locs1 → W p l e R s m args below meth c H1 locs1 (cells + mc) (slots + ms) Q (F0 m (pc + 3) ls (.ref r :: rest))) : W p l e R s m args below meth c H locs cells slots Q (F0 m pc ls st0) := mx_V F hM n hG hw hd hR hK hP hD hS hA hZ isC isR hC hRr hnC hnR hdis hc he hn hsz hst hcat hdg hcs (fun v u H1 locs1 hv h1 h2 h3 => by obtain ⟨r, rfl, h⟩ := hv; exact kk r u H1 locs1 h h1 h2 h3)
theorem mx_Vv {S : Type} {post : S → Prop} {w' : S → va_W} (F : CallFix p m c cc nL s args Ts own) (hM : MX l y wsM fr lo mc ms D tys wc tM tH (.ref b :: As) (fun v u => rV (post u) v) w') (n : Nat) (hG : GoodIn Ts (wsV own index C y wsM)) (hw : wsM = Cond.code y bytes maxL ret :: ws') (hd : ndV y C n) (hR : fr + 1 ≤ R.frames ∧ 8 + (maxL + 11) + lo ≤ R.locals)
    (hK : va_K D vwCl tys s) (hP : va_P D vwCl ws H) (hD : va_D A0 ws) (hS : va_S A0 H0 H locs) (hA : ∀ q : Nat, H0.size ≤ q → A0 q) (hZ : STc tM tH A0 s H0) (isC isR : List Nat) (hC : isC.map (fun i => ws[i]?) = wc.map some) (hRr : isR.map (fun i => ws[i]?) = wr.map some) (hnC : va_nd isC = true) (hnR : va_nd isR = true) (hdis : ∀ i ∈ isR, i ∉ isC)
    (hc : vwCl[ci]? = some (C, T, N)) (he : wc[0]? = some (b, .inr (ci, fs))) (hn : As.length = n) (hsz : ls.size = nL) (hst : st0 = As.reverse ++ .ref b :: rest) (hcat : (rest.map fun v => v.category).sum ≤ 8) (hdg : decode cc pc = .ok (.invokevirtual index, 3)) (hcs : cells + mc ≤ R.cells ∧ slots + ms ≤ R.slots)
    (kk : ∀ (u : S) (H1 : Heap) (locs1 : List Loc), post u → va_P D vwCl (wr ++ w' u) H1 → va_D A0 (wr ++ w' u) → va_S A0 H0 H1 locs1 → W p l e R s m args below meth c H1 locs1 (cells + mc) (slots + ms) Q (F0 m (pc + 3) ls (rest))) : W p l e R s m args below meth c H locs cells slots Q (F0 m pc ls st0) := mx_V F hM n hG hw hd hR hK hP hD hS hA hZ isC isR hC hRr hnC hnR hdis hc he hn hsz hst hcat hdg hcs (fun v u H1 locs1 hv h1 h2 h3 => by obtain ⟨rfl, h⟩ := hv; exact kk u H1 locs1 h h1 h2 h3)
end MXC
-- making cells
theorem nw_I (cA : ClassId) (n : Nat) : vp_cell cA (n, .inl (nA (fun _ => 0))) = arrV cA n (fun _ => defaultValue .int) := rfl
theorem nw_Z (cA : ClassId) (n : Nat) : vp_cell cA (n, .inl (nA (fun _ => 0))) = arrV cA n (fun _ => defaultValue .boolean) := rfl
theorem nk_I {D : va_G} {cI cZ cS cA : ClassId} {U : State} (h : va_K D vwCl (tyK cI cZ cS ++ [(cA, .int)]) U) : cI = cA := by
  have h1 : U.vm.findClass ("[" ++ FieldType.int.toString) = some cI := (h.2 0 (cI, .int) rfl).2
  have h2 : U.vm.findClass ("[" ++ FieldType.int.toString) = some cA := (h.2 3 (cA, .int) rfl).2
  exact Option.some.inj (h1.symm.trans h2)
theorem nk_Z {D : va_G} {cI cZ cS cA : ClassId} {U : State} (h : va_K D vwCl (tyK cI cZ cS ++ [(cA, .boolean)]) U) : cZ = cA := by
  have h1 : U.vm.findClass ("[" ++ FieldType.boolean.toString) = some cZ := (h.2 1 (cZ, .boolean) rfl).2
  have h2 : U.vm.findClass ("[" ++ FieldType.boolean.toString) = some cA := (h.2 3 (cA, .boolean) rfl).2
  exact Option.some.inj (h1.symm.trans h2)
theorem nk_S {D : va_G} {cI cZ cS cA : ClassId} {U : State} (h : va_K D vwCl (tyK cI cZ cS ++ [(cA, .object RX5)]) U) : cS = cA := by
  obtain ⟨_, _, _, _, _, h1⟩ := (h.2 2 (cS, .object RX5) rfl).2
  obtain ⟨_, _, _, _, _, h2⟩ := (h.2 3 (cA, .object RX5) rfl).2
  exact Option.some.inj (h1.symm.trans h2)
section PUTF
variable {p : Program} {l : Launch} {e : Env} {R : Room} {s : State} {m : MethodId} {args : Array Value} {below : List Frame} {meth : Method} {c : Code} {H H0 : Heap} {locs : List Loc} {cells slots : Nat} {Q : State → Prop} {cc : ByteArray} {pc a : Nat} {ls : Array Slot} {rest : List Value} {D : va_G} {cl : List vw_C} {tys : List (ClassId × FieldType)} {ws : va_W} {A : Nat → Prop}
theorem nv_putF {own C nmY : String} {T : u_T} {N ci index nL : Nat} {Ts : List Cond} (F : CallFix p m c cc nL s args Ts own) (hin : ∀ w ∈ u_ws C T N, w ∈ Ts) (ty0 : Nat → FieldType) (hty : ∀ k, k < N → parseFieldDescriptor (T k).2.2.1 = some (ty0 k)) (hnm : ∀ a, a < N → ∀ b, b < N → a ≠ b → (T a).2.1 ≠ (T b).2.1) (hK : va_K D cl tys s) (hP : va_P D cl ws H) (hD : va_D A ws) (hS : va_S A H0 H locs) (q0 : Nat) {fs : List Value} (he : ws[q0]? = some (a, .inr (ci, fs))) (hc : cl[ci]? = some (C, T, N)) (k : Nat) (hk : k < N) (hl : Cond.fieldLink own index (T k).1 (T k).2.1 (T k).2.2.1 ∈ Ts) (hfin : (T k).2.2.2 = true) (hin2 : meth.name = nmY) (hny : nmY = "<init>") (hdecl : (T k).1 = own) {v : Value} (hn : narrow (ty0 k) v = v) (hfit : fits (ty0 k) v = true) (hlen : k < fs.length) (hd : decode cc pc = .ok (.putfield index, 3)) (kk : ∀ (H1 : Heap) (locs1 : List Loc), va_P D cl (ws.set q0 (a, .inr (ci, fs.set k v))) H1 → va_D A (ws.set q0 (a, .inr (ci, fs.set k v))) → va_S A H0 H1 locs1 → W p l e R s m args below meth c H1 locs1 cells slots Q (F0 m (pc + 3) ls rest)) : W p l e R s m args below meth c H locs cells slots Q (F0 m pc ls (v :: .ref a :: rest)) :=
  va_putF F.1 F.2.1 F.2.2.2.2 hin ty0 hty hnm F.2.2.2.1 hK hP hD hS q0 he hc k hk (F.2.2.2.2 _ hl) (fun _ h => h) hfin (hin2.trans hny) hdecl (hty k hk) hn hfit hlen hd kk
end PUTF
section CPT
variable {p : Program} {l : Launch} {e : Env} {R : Room} {s : State} {m : MethodId} {args : Array Value} {below : List Frame} {meth : Method} {c : Code} {H : Heap} {locs : List Loc} {cells slots : Nat} {Q : State → Prop} {cc : ByteArray} {pc a : Nat} {ls : Array Slot} {rest : List Value} {D : va_G} {cl : List vw_C} {tys : List (ClassId × FieldType)} {ws : va_W} {A : Nat → Prop}
/-- System.arraycopy of the first n ints of an unchanging row into a row of the world -/
theorem nv_copyT (hx : p.tables.exec = Jvm.exec) (hb : c.code = cc) (hml : c.maxLocals = ls.size) {own : String} {index : Nat} (hown : s.vm.findClass own = some m.cls) (hlink : (Cond.methodLink own index arraycopyName).before args s = true) (hnat : (Cond.native arraycopyName).before args s = true) (hstat : (Cond.static arraycopyName).before args s = true) (hini : (Cond.initialized "java/lang/System").before args s = true)
    (hK : va_K D cl tys s) (hP : va_P D cl ws H) (hD : va_D A ws) (hS : va_S A s.heap H locs) {b0 n0 : Nat} {f : Nat → Nat} (hX : va_T .int b0 n0 (fun j => .int (nA f j)) A s s.heap) (q1 t1 : Nat) {c1 : ClassId} {n1 n : Nat} {g : Nat → Nat} (ha1 : ws[q1]? = some (a, .inl (c1, n1, .inl (nA g)))) (ht1 : tys[t1]? = some (c1, .int)) (h4 : n ≤ n0) (h5 : n ≤ n1) (h6 : n < 2147483648)
    (hframes : 1 ≤ R.frames) (hlocals : (rest.map fun v => v.category).sum + (nativeFrameWords "java/lang/System" "arraycopy" 5 + 11) ≤ R.locals) (hdg : decode cc pc = .ok (.invokestatic index, 3))
    (kk : ∀ (H1 : Heap) (locs1 : List Loc), va_P D cl (ws.set q1 (a, .inl (c1, n1, .inl (nA (cpN f g n))))) H1 → va_D A (ws.set q1 (a, .inl (c1, n1, .inl (nA (cpN f g n))))) → va_S A s.heap H1 locs1 → W p l e R s m args below meth c H1 locs1 cells slots Q (F0 m (pc + 3) ls rest)) : W p l e R s m args below meth c H locs cells slots Q (F0 m pc ls (.int (nI n) :: .int (nI 0) :: .ref a :: .int (nI 0) :: .ref b0 :: rest)) := by
  have y0 : ¬ nI 0 < 0 := nn_nI (by omega)
  have yn : ¬ nI n < 0 := nn_nI h6
  have i0 : (nI 0).toInt = 0 := rfl
  have jn : (nI n).toInt = (n : Int) := ni_toInt h6
  have k0 : (nI 0).toNatClampNeg = 0 := ni_cl (by omega)
  have kn : (nI n).toNatClampNeg = n := ni_cl h6
  intro T hT X
  obtain ⟨src, s1, ⟨s2, kS, s3, cm, s4⟩, s5, s6, -, s7, s8⟩ := hX
  have hs : H[b0]? = some src := (hS.2.1 b0 (Array.getElem?_eq_some_iff.mp s1).1 s8).trans s1
  have hd : H[a]? = some (vp_cell c1 (n1, .inl (nA g))) := hP q1 _ ha1
  obtain ⟨-, kD, d1, cd, d2⟩ := (hK.2 t1 _ ht1).1 n1 (fun j => .int (nA g j))
  have hval : ∀ i : Nat, i < n → src.slots.getD ((nI 0).toNatClampNeg + i) .null = .int (nA f i) := fun i hi => by
    rw [k0, Nat.zero_add, Array.getD_eq_getD_getElem?, s7 i (by omega)]
    rfl
  obtain ⟨vm', X', step⟩ := X.arraycopy hx hown hlink hnat hstat hini (src := b0) (dst := a) (cs := src) (cd := vp_cell c1 (n1, .inl (nA g))) (srcPos := nI 0) (destPos := nI 0) (n := nI n) (by rw [hT]; exact hs) (by rw [hT]; exact hd)
    s2 (fun _ h => by cases h) s5 (fun h => by cases h) s3 d1 s4 d2 (by simp [refKind]) y0 y0 yn
    (by rw [i0, jn]; omega)
    (by rw [i0, jn]; show ¬ _ > ((arrV c1 n1 (fun j => .int (nA g j))).slots.size : Int); rw [arrV_size]; omega)
    (fun _ _ i hi => by rw [hval i (by rw [kn] at hi; exact hi)]; exact ⟨rfl, trivial⟩)
    (g := F0 m pc ls (.int (nI n) :: .int (nI 0) :: .ref a :: .int (nI 0) :: .ref b0 :: rest)) rfl (by rw [hml]) (rest := rest) rfl (by rw [hb]; exact hdg) hframes (by show 2 * 0 + _ + _ ≤ _; omega)
  have e1 : copied src (vp_cell c1 (n1, .inl (nA g))) (nI 0) (nI 0) (nI n) = vp_cell c1 (n1, .inl (va_cpy (nA f) (nA g) (nI 0).toNatClampNeg (nI 0).toNatClampNeg (nI n).toNatClampNeg)) := va_copiedX (fun z => .int z) src c1 (nA f) (nA g) s7 (by rw [k0, kn]; omega)
  rw [k0, kn, cpN_nA] at e1
  rw [e1] at X' step
  have hlt : a < H.size := (Array.getElem?_eq_some_iff.mp hd).1
  have ho : ∀ q : Nat, q ≠ a → (H.setIfInBounds a (vp_cell c1 (n1, .inl (nA (cpN f g n)))))[q]? = H[q]? := fun q hq => by simp [Array.getElem?_setIfInBounds, Ne.symm hq]
  have hA := hD.2 q1 _ ha1
  obtain ⟨t, a1, b1⟩ := kk _ _ (hP.set hD ha1 (show (H.setIfInBounds a _)[a]? = some _ by simp [Array.getElem?_setIfInBounds, hlt]) ho) (hD.set ha1) ⟨by simp; exact hS.1, fun q g1 g2 => (ho q (fun z => g2 (by rw [z]; exact hA))).trans (hS.2.1 q g1 g2), fun q hq => by
      rcases List.mem_append.mp hq with h | h
      · exact hS.2.2 q h
      · obtain ⟨z, -, hz⟩ := List.mem_map.mp h
        rw [← hz]
        exact hA⟩ _ (by rw [← hT]; rfl) X'
  exact ⟨t, step t a1, b1⟩
end CPT
