-- contracts over the law's whole world
theorem Met.conseq {l : Launch} {y : MethodName} {ws : List Cond} {rm : Room} {Pc Pc2 : Array Value → State → Prop} {Qc Qc2 : Array Value → State → Outcome → State → Prop} {mc ms : Nat} {free free2 : Addr → Prop} (h : Met l y ws rm Pc Qc mc ms free) (hp : ∀ a s, Pc2 a s → Pc a s) (hq : ∀ a s o t, Pc2 a s → Qc a s o t → Qc2 a s o t) (hf : ∀ q, free q → free2 q) : Met l y ws rm Pc2 Qc2 mc ms free2 := by
  intro p e ha hc hk s m args below hfr happ hP hX
  obtain ⟨n, o, h1, h2, h3, hQ, L, hL1, hL2⟩ := h p e ha hc hk s m args below hfr happ (hp _ _ hP) hX
  exact ⟨n, o, h1, h2, h3, hq _ _ _ _ hP hQ, L, hL1, fun q hq => hf _ (hL2 q hq)⟩
section LFT
variable {l : Launch} {y : MethodName} {wsM : List Cond} {fr lo tM tH : Nat} {D : va_G} {tys : List (ClassId × FieldType)} {ws wc wr : va_W} {av : List Value}
theorem va_A_mono {sz : Nat} (isC : List Nat) (hC : isC.map (fun i => ws[i]?) = wc.map some) : ∀ q, va_A wc sz q → va_A ws sz q := by
  rintro q (⟨k, e, h⟩ | h)
  · left
    have h1 : (isC.map (fun i => ws[i]?))[k]? = some (some (q, e)) := by rw [hC, List.getElem?_map, h]; rfl
    rw [List.getElem?_map] at h1
    cases hi : isC[k]? with
    | none => rw [hi] at h1; cases h1
    | some i => rw [hi] at h1; exact ⟨i, e, Option.some.inj h1⟩
  · exact Or.inr h
theorem lift_q {S : Type} {post : Option Value → S → Prop} {w' w2 : S → va_W} (isC isR pm : List Nat) (hC : isC.map (fun i => ws[i]?) = wc.map some) (hR : isR.map (fun i => ws[i]?) = wr.map some) (hnR : va_nd isR = true) (hdis : ∀ i ∈ isR, i ∉ isC) (hnp : va_nd pm = true) (hpm : ∀ u, pm.map (fun i => (wr ++ w' u)[i]?) = (w2 u).map some) {s t : State} {a : Array Value} {o : Outcome} (hP : va_P D vwCl ws s.heap) (hD : va_D (fun _ => True) ws) (h : QMU D post w' (va_A wc s.heap.size) a s o t) : QMU D post w2 (va_A ws s.heap.size) a s o t := by
  obtain ⟨⟨v, u, ho, hp, hP1, hD1⟩, hz, hk⟩ := h
  have hm := va_A_mono (sz := s.heap.size) isC hC
  obtain ⟨hP2, hD2⟩ := va_join (A0 := va_A ws s.heap.size) (wr := wr) (w1 := w' u) hP hD.self isC isR hC hR hnR hdis hk hm hP1 hD1
  exact ⟨⟨v, u, ho, hp, mx_cells hP2 pm (hpm u), hD2.sub pm hnp (hpm u)⟩, hz, fun q h1 h2 => hk q h1 (fun z => h2 (hm q z))⟩
theorem lift_mu {S : Type} {post : Option Value → S → Prop} {w' w2 : S → va_W} (hM : MU l y wsM fr lo D tys wc [] av post w') (isC isR pm : List Nat) (hC : isC.map (fun i => ws[i]?) = wc.map some) (hR : isR.map (fun i => ws[i]?) = wr.map some) (hnC : va_nd isC = true) (hnR : va_nd isR = true) (hdis : ∀ i ∈ isR, i ∉ isC) (hnp : va_nd pm = true) (hpm : ∀ u, pm.map (fun i => (wr ++ w' u)[i]?) = (w2 u).map some) : MX l y wsM fr lo 0 0 D tys ws tM tH av post w2 := by
  intro sz
  refine Met.conseq (hM sz) ?_ ?_ (va_A_mono isC hC)
  · rintro a s ⟨h1, h2, h3, h4, h5, _⟩
    exact ⟨h1, h2, mx_cells h3 isC hC, h4, h5.sub isC hnC hC, TR.nil⟩
  · rintro a s o t ⟨_, h2, h3, _, h5, _⟩ hq
    subst h2
    exact lift_q isC isR pm hC hR hnR hdis hnp hpm h3 h5 hq
theorem lift_mx {S : Type} {post : Option Value → S → Prop} {w' w2 : S → va_W} (hM : MX l y wsM fr lo 0 0 D tys wc tM tH av post w') (isC isR pm : List Nat) (hC : isC.map (fun i => ws[i]?) = wc.map some) (hR : isR.map (fun i => ws[i]?) = wr.map some) (hnC : va_nd isC = true) (hnR : va_nd isR = true) (hdis : ∀ i ∈ isR, i ∉ isC) (hnp : va_nd pm = true) (hpm : ∀ u, pm.map (fun i => (wr ++ w' u)[i]?) = (w2 u).map some) : MX l y wsM fr lo 0 0 D tys ws tM tH av post w2 := by
  intro sz
  refine Met.conseq (hM sz) ?_ ?_ (va_A_mono isC hC)
  · rintro a s ⟨h1, h2, h3, h4, h5, h6⟩
    exact ⟨h1, h2, mx_cells h3 isC hC, h4, h5.sub isC hnC hC, h6.narrow (va_A_mono isC hC)⟩
  · rintro a s o t ⟨_, h2, h3, _, h5, _⟩ hq
    subst h2
    exact lift_q isC isR pm hC hR hnR hdis hnp hpm h3 h5 hq
theorem lift_ro {post : Option Value → Prop} (hM : RO l y wsM fr lo D tys wc av post) (isC : List Nat) (hC : isC.map (fun i => ws[i]?) = wc.map some) : MX l y wsM fr lo 0 0 D tys ws tM tH av (fun v (_ : Unit) => post v) (fun _ => ws) := by
  intro sz
  refine Met.conseq hM ?_ ?_ (fun q h => h.elim)
  · rintro a s ⟨h1, h2, h3, h4, h5, h6⟩
    exact ⟨h1, mx_cells h3 isC hC, h4⟩
  · rintro a s o t ⟨_, h2, h3, _, h5, _⟩ ⟨v, ho, hp, hh⟩
    subst h2
    exact ⟨⟨v, (), ho, hp, by rw [hh]; exact h3, h5.self⟩, by rw [hh]; exact Nat.le_refl _, fun q _ _ => by rw [hh]⟩
end LFT
section MXA
variable {p : Program} {l : Launch} {e : Env} {R : Room} {s : State} {m : MethodId} {args : Array Value} {below : List Frame} {meth : Method} {c : Code} {H : Heap} {locs : List Loc} {cells slots tM tH : Nat} {Q : State → Prop} {cc : ByteArray} {pc nL : Nat} {ls : Array Slot} {rest st0 : List Value}
  {D : va_G} {tys : List (ClassId × FieldType)} {ws : va_W} {A0 : Nat → Prop} {H0 : Heap} {y : MethodName} {wsM ws' Ts : List Cond} {fr lo maxL index ci N b q0 : Nat} {ret : Option FieldType} {bytes : ByteArray} {own C : String} {T : u_T} {fs As : List Value}
theorem mx_A {S : Type} {post : Option Value → S → Prop} {w' : S → va_W} (F : CallFix p m c cc nL s args Ts own) (hM : MX l y wsM fr lo 0 0 D tys ws tM tH (.ref b :: As) post w') (n : Nat) (hG : GoodIn Ts (wsV own index C y wsM)) (hw : wsM = Cond.code y bytes maxL ret :: ws') (hd : ndV y C n) (hR : fr + 1 ≤ R.frames ∧ 8 + (maxL + 11) + lo ≤ R.locals)
    (hK : va_K D vwCl tys s) (hP : va_P D vwCl ws H) (hD : va_D A0 ws) (hS : va_S A0 H0 H locs) (hA : ∀ q : Nat, H0.size ≤ q → A0 q) (hZ : STc tM tH A0 s H0)
    (hc : vwCl[ci]? = some (C, T, N)) (he : ws[q0]? = some (b, .inr (ci, fs))) (hn : As.length = n) (hsz : ls.size = nL) (hst : st0 = As.reverse ++ .ref b :: rest) (hcat : (rest.map fun v => v.category).sum ≤ 8) (hdg : decode cc pc = .ok (.invokevirtual index, 3)) (hcs : cells ≤ R.cells ∧ slots ≤ R.slots)
    (kk : ∀ (v : Option Value) (u : S) (H1 : Heap) (locs1 : List Loc), post v u → va_P D vwCl (w' u) H1 → va_D A0 (w' u) → va_S A0 H0 H1 locs1 → W p l e R s m args below meth c H1 locs1 cells slots Q (F0 m (pc + 3) ls (v.toList ++ rest))) : W p l e R s m args below meth c H locs cells slots Q (F0 m pc ls st0) := by
  have hFc : ∀ q, va_A ws H.size q → A0 q := by
    rintro q (⟨k, x, h⟩ | h)
    · exact hD.2 k _ h
    · exact hA q (Nat.le_trans hS.1 h)
  refine mx_call (va_runV (As := As) (rest := rest) F (hM H.size) (cwV n F.2.2.2.2 hG hw rfl rfl hd hR) ⟨mx_blind, va_recv hK hP hc he, fun U hU hW => ⟨rfl, by rw [hU], by rw [hU]; exact hP, va_K.moved hW.alike hK, hD.weaken (fun _ _ _ _ => trivial), by rw [hU]; exact ((hZ.kept hS).narrow hFc).warm hW⟩⟩ rfl hn hsz hst (lv_room hcat) hdg hcs) hS (fun q _ h => hFc q h) hFc ?_
  intro v u H1 locs1 hp hP1 hD1 hk1 hS1
  exact kk v u H1 locs1 hp hP1 (hD1.weaken (fun _ _ _ h => hFc _ h)) hS1
theorem mx_Ai {S : Type} {post : Int32 → S → Prop} {w' : S → va_W} (F : CallFix p m c cc nL s args Ts own) (hM : MX l y wsM fr lo 0 0 D tys ws tM tH (.ref b :: As) (fun v u => rI (fun r => post r u) v) w') (n : Nat) (hG : GoodIn Ts (wsV own index C y wsM)) (hw : wsM = Cond.code y bytes maxL ret :: ws') (hd : ndV y C n) (hR : fr + 1 ≤ R.frames ∧ 8 + (maxL + 11) + lo ≤ R.locals)
    (hK : va_K D vwCl tys s) (hP : va_P D vwCl ws H) (hD : va_D A0 ws) (hS : va_S A0 H0 H locs) (hA : ∀ q : Nat, H0.size ≤ q → A0 q) (hZ : STc tM tH A0 s H0)
    (hc : vwCl[ci]? = some (C, T, N)) (he : ws[q0]? = some (b, .inr (ci, fs))) (hn : As.length = n) (hsz : ls.size = nL) (hst : st0 = As.reverse ++ .ref b :: rest) (hcat : (rest.map fun v => v.category).sum ≤ 8) (hdg : decode cc pc = .ok (.invokevirtual index, 3)) (hcs : cells ≤ R.cells ∧ slots ≤ R.slots)
    (kk : ∀ (r : Int32) (u : S) (H1 : Heap) (locs1 : List Loc), post r u → va_P D vwCl (w' u) H1 → va_D A0 (w' u) → va_S A0 H0 H1 locs1 → W p l e R s m args below meth c H1 locs1 cells slots Q (F0 m (pc + 3) ls (.int r :: rest))) : W p l e R s m args below meth c H locs cells slots Q (F0 m pc ls st0) := mx_A F hM n hG hw hd hR hK hP hD hS hA hZ hc he hn hsz hst hcat hdg hcs (fun v u H1 locs1 hv h1 h2 h3 => by obtain ⟨r, rfl, h⟩ := hv; exact kk r u H1 locs1 h h1 h2 h3)
theorem mx_Al {S : Type} {post : Int64 → S → Prop} {w' : S → va_W} (F : CallFix p m c cc nL s args Ts own) (hM : MX l y wsM fr lo 0 0 D tys ws tM tH (.ref b :: As) (fun v u => rL (fun r => post r u) v) w') (n : Nat) (hG : GoodIn Ts (wsV own index C y wsM)) (hw : wsM = Cond.code y bytes maxL ret :: ws') (hd : ndV y C n) (hR : fr + 1 ≤ R.frames ∧ 8 + (maxL + 11) + lo ≤ R.locals)
    (hK : va_K D vwCl tys s) (hP : va_P D vwCl ws H) (hD : va_D A0 ws) (hS : va_S A0 H0 H locs) (hA : ∀ q : Nat, H0.size ≤ q → A0 q) (hZ : STc tM tH A0 s H0)
    (hc : vwCl[ci]? = some (C, T, N)) (he : ws[q0]? = some (b, .inr (ci, fs))) (hn : As.length = n) (hsz : ls.size = nL) (hst : st0 = As.reverse ++ .ref b :: rest) (hcat : (rest.map fun v => v.category).sum ≤ 8) (hdg : decode cc pc = .ok (.invokevirtual index, 3)) (hcs : cells ≤ R.cells ∧ slots ≤ R.slots)
    (kk : ∀ (r : Int64) (u : S) (H1 : Heap) (locs1 : List Loc), post r u → va_P D vwCl (w' u) H1 → va_D A0 (w' u) → va_S A0 H0 H1 locs1 → W p l e R s m args below meth c H1 locs1 cells slots Q (F0 m (pc + 3) ls (.long r :: rest))) : W p l e R s m args below meth c H locs cells slots Q (F0 m pc ls st0) := mx_A F hM n hG hw hd hR hK hP hD hS hA hZ hc he hn hsz hst hcat hdg hcs (fun v u H1 locs1 hv h1 h2 h3 => by obtain ⟨r, rfl, h⟩ := hv; exact kk r u H1 locs1 h h1 h2 h3)
end MXA
