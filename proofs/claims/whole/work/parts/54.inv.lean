-- what holds of both sides between two calls of the law
def IA (m cu tc rl rb rr ra pc bk cn tl : Nat) (V : Nat → Nat) : Prop := 1 ≤ m ∧ m ≤ 6 ∧ cu ≤ 2 ∧ 1 ≤ bk ∧ bk ≤ 8 ∧ pc ≤ 40 ∧ tl ≤ 80 ∧ cn ≤ 505 ∧ rl ≤ rr ∧ rr < 2 ^ m ∧ rb ≤ ra ∧ ra < 2 ^ m ∧ VT V tc ∧ ∀ j, V j < 100
def IB (m cu rl rb rr ra pc c cn : Nat) (V P S F G g ix tx st lv : Nat → Nat) : Prop := (∀ j, P j < 4096) ∧ (∀ j, S j < 4097) ∧ (∀ j, F j < 4096) ∧ (∀ j, G j < 4096) ∧ (∀ j, g j < 4096) ∧ (∀ j, ix j < 4096) ∧ (∀ j, tx j < 128) ∧ NumOK (cuT cu V) m g ix ∧ IvOK (inG (cvc (cuT cu V) m) rl rb rr ra) (4 ^ m) cn F G ∧ (∀ j, j < pc → P j % 64 < 2 ^ m ∧ P j / 64 < 2 ^ m) ∧ LD (cuT cu V) m pc (ptv (cuT cu V) m P) c st lv ∧ ∀ j, j ≤ c → S j = st j
def IM (m cu tc pc c : Nat) (V P st lv sm tb P2 S2 L2 ix2 g2 O2 : Nat → Nat) : Prop := sm 0 = 1 ∧ sm 1 = 4 ∧ sm 2 = tc ∧ (∀ j, sm j < 9) ∧ (∀ j, tb j < 10) ∧ TbOK mortT tb 0 1 ∧ TbOK hilT tb 1 4 ∧ TbOK V tb 2 tc ∧ (∀ j, P2 j < 4096) ∧ (∀ j, j < pc → P2 j = P j) ∧ (∀ j, S2 j < 4096) ∧ (∀ j, L2 j < 7) ∧ AG c st lv S2 L2 ∧ (∀ j, O2 j < 4096) ∧ LfOK c st O2 ∧ (∀ j, ix2 j < 4096) ∧ (∀ j, g2 j < 4096) ∧ NumOK (cuT cu V) m g2 ix2
def SlC (m cu tc rl rb rr ra pc bk c : Nat) (V P S st lv : Nat → Nat) : Prop := 1 ≤ m ∧ m ≤ 6 ∧ cu ≤ 2 ∧ 1 ≤ bk ∧ bk ≤ 8 ∧ pc ≤ 40 ∧ rl ≤ rr ∧ rr < 2 ^ m ∧ rb ≤ ra ∧ ra < 2 ^ m ∧ VT V tc ∧ (∀ j, V j < 100) ∧ (∀ j, P j < 4096) ∧ (∀ j, S j < 4097) ∧ (∀ j, j < pc → P j % 64 < 2 ^ m ∧ P j / 64 < 2 ^ m) ∧ LD (cuT cu V) m pc (ptv (cuT cu V) m P) c st lv ∧ ∀ j, j ≤ c → S j = st j
def SlM (s m cu tc rl rb rr ra pc bk c : Nat) (V P st lv K KT KS KL : Nat → Nat) : Prop := SlH K s m cu tc rl rb rr ra pc bk c ∧ (∀ j, j < pc → K (100 * s + 10 + j) = P j) ∧ TbOK V (fun j => KT (64 * s + (j - 128))) 2 tc ∧ AG c st lv (fun j => KS (4096 * s + j)) (fun j => KL (4096 * s + j))
def IS (fW : Nat → Option Nat) (ad km kcu ktc krl krb krr kra kpc kbk kc : Nat → Nat) (kV kP kS : Nat → Nat → Nat) (ku K KT KS KL : Nat → Nat) (kst klv : Nat → Nat → Nat) : Prop := (∀ j, ku j < 2) ∧ fW 0 = some (ad 21) ∧ fW 1 = some (ad 29) ∧ (∀ j, K j < 4096) ∧ (∀ j, KT j < 10) ∧ (∀ j, KS j < 4096) ∧ (∀ j, KL j < 7) ∧ ∀ s, s < 2 → ku s = 1 → SlC (km s) (kcu s) (ktc s) (krl s) (krb s) (krr s) (kra s) (kpc s) (kbk s) (kc s) (kV s) (kP s) (kS s) (kst s) (klv s) ∧ SlM s (km s) (kcu s) (ktc s) (krl s) (krb s) (krr s) (kra s) (kpc s) (kbk s) (kc s) (kV s) (kP s) (kst s) (klv s) K KT KS KL
theorem AG.div {m pc b c1 c2 : Nat} {pt pt' st1 lv1 st2 lv2 S L O : Nat → Nat} (h1 : DivC m pc b pt c1 st1 lv1) (h2 : DivC m pc b pt' c2 st2 lv2) (hp : ∀ i, i < pc → pt' i = pt i) (ha : AG c2 st2 lv2 S L) (hl : LfOK c2 st2 O) : c1 = c2 ∧ AG c1 st1 lv1 S L ∧ LfOK c1 st1 O := by
  obtain ⟨e, hs, hv⟩ := h1.uniq (h2.congr hp)
  subst e
  refine ⟨rfl, fun j hj => ⟨(ha j hj).1.trans (hs j (by omega)).symm, (ha j hj).2.trans (hv j hj).symm⟩, fun k hk i q1 q2 => hl k hk i ?_ ?_⟩
  · rw [← hs k (by omega)]; exact q1
  · rw [← hs (k + 1) (by omega)]; exact q2
theorem ptv_eq {T : Nat → Nat} {m pc : Nat} {P P2 : Nat → Nat} (h : ∀ j, j < pc → P2 j = P j) : ∀ i, i < pc → ptv T m P2 i = ptv T m P i := fun i hi => by unfold ptv; rw [h i hi]
theorem rg_ne {T : Nat → Nat} {n m rl rb rr ra : Nat} {g ix : Nat → Nat} (hV : VT T n) (hN : NumOK T m g ix) (hm : m ≤ 6) (h1 : rl ≤ rr) (h2 : rr < 2 ^ m) (h3 : rb ≤ ra) (h4 : ra < 2 ^ m) : ∃ i, i < 4 ^ m ∧ inG (cvc T m) rl rb rr ra i := by
  obtain ⟨q1, q2, q3⟩ := num_at hV hN (x := rl) (y := rb) (by omega) (by omega)
  have e := cvc_mod (T := T) (k := m) (ix (rb * 64 + rl)) hm
  refine ⟨_, q1, ?_⟩
  unfold inG
  rw [e.1, e.2, q2, q3]
  omega
theorem cv_congr {T U : Nat → Nat} {n : Nat} (hV : VT T n) (e : ∀ j, j < 4 * n → U j = T j) : ∀ k i, cvs U k i = cvs T k i ∧ cvx U k i = cvx T k i ∧ cvy U k i = cvy T k i
  | 0, _ => ⟨rfl, rfl, rfl⟩
  | k + 1, i => by
    obtain ⟨h1, h2, h3⟩ := cv_congr hV e k (i / 4)
    have hs := cvs_lt hV k (i / 4)
    have he := e (4 * cvs T k (i / 4) + i % 4) (by omega)
    refine ⟨?_, ?_, ?_⟩
    · rw [cvs, cvs, h1, he]
    · rw [cvx, cvx, h1, h2, he]
    · rw [cvy, cvy, h1, h3, he]
theorem cvc_congr {T U : Nat → Nat} {n : Nat} (hV : VT T n) (e : ∀ j, j < 4 * n → U j = T j) (k i : Nat) : cvc U k i = cvc T k i := by
  have h := cv_congr hV e k i
  unfold cvc
  rw [h.2.1, h.2.2]
theorem NumOK.congrT {T U : Nat → Nat} {n m : Nat} {g ix : Nat → Nat} (hV : VT T n) (e : ∀ j, j < 4 * n → U j = T j) (h : NumOK T m g ix) : NumOK U m g ix := by
  refine ⟨fun i hi => by rw [cvc_congr hV e]; exact h.1 i hi, fun i hi => by rw [cvc_congr hV e]; exact h.2 i hi⟩
theorem TbOK.congrT {T U tb : Nat → Nat} {cu n : Nat} (e : ∀ j, j < 4 * n → U j = T j) (h : TbOK T tb cu n) : TbOK U tb cu n := fun s hs p hp => by rw [e _ (by omega)]; exact h s hs p hp
theorem TbOK.lo {T tb tb2 : Nat → Nat} {cu n : Nat} (h : TbOK T tb cu n) (hf : ∀ j, j < 128 → tb2 j = tb j) (hc : cu < 2) (hn : n ≤ 8) : TbOK T tb2 cu n := fun s hs p hp => by
  rw [hf _ (by omega), hf _ (by omega)]
  exact h s hs p hp
theorem CkOK.congrP {T : Nat → Nat} {m ns rl rb rr ra pc bk c : Nat} {P P2 st lv : Nat → Nat} {z : Int64} (h : ∀ j, j < pc → P2 j = P j) (hc : CkOK T m ns rl rb rr ra pc bk c P2 st lv z) : CkOK T m ns rl rb rr ra pc bk c P st lv z := by
  obtain ⟨cn, r, F, G, a1, a2, a3⟩ := hc
  refine ⟨cn, r, F, G, a1, a2, ?_⟩
  rw [a3]
  unfold ckL
  rw [show tlV T m pc (ptv T m P2) st lv = tlV T m pc (ptv T m P) st lv from funext fun k => funext fun w => tlV_congr (ptv_eq h) k w]
theorem WK.notlt {T : Nat → Nat} {m c : Nat} {st lv : Nat → Nat} {s k n v : Nat} (h : WK T m c st lv s n k v) (h2 : WKlt T m c st lv s k n) : False := by
  obtain ⟨j, hj, he⟩ := h2
  have := he.not h
  omega
/-- a slot that is saved now -/
theorem SlM.new {s m cu tc rl rb rr ra pc bk c : Nat} {V P st lv sm tb P2 S2 L2 K KT KS KL : Nat → Nat} (hc : c ≤ 4096) (hpc : pc ≤ 40) (htc : tc ≤ 8) (hPP : ∀ j, j < pc → P2 j = P j) (hT2 : TbOK V tb 2 tc) (hAG : AG c st lv S2 L2) (h1 : SlH K s m cu tc rl rb rr ra pc bk c) (h2 : SlA K P2 (100 * s + 10) 40) (h3 : SlA KT (fun j => tb (128 + j)) (64 * s) 64) (h4 : SlA KS S2 (4096 * s) 4096) (h5 : SlA KL L2 (4096 * s) 4096) : SlM s m cu tc rl rb rr ra pc bk c V P st lv K KT KS KL := by
  refine ⟨h1, fun j hj => (h2 j (by omega)).trans (hPP j hj), fun q hq p hp => ?_, fun j hj => ⟨(h4 j (by omega)).trans (hAG j hj).1, (h5 j (by omega)).trans (hAG j hj).2⟩⟩
  have e := hT2 q hq p hp
  have a1 := h3 (8 * q + p) (by omega)
  have a2 := h3 (8 * q + 4 + p) (by omega)
  rw [e]
  show _ = 10 * KT (64 * s + (64 * 2 + 8 * q + p - 128)) + KT (64 * s + (64 * 2 + 8 * q + 4 + p - 128))
  rw [show 64 * 2 + 8 * q + p - 128 = 8 * q + p by omega, show 64 * 2 + 8 * q + 4 + p - 128 = 8 * q + 4 + p by omega, a1, a2, show 64 * 2 + 8 * q + p = 128 + (8 * q + p) by omega, show 64 * 2 + 8 * q + 4 + p = 128 + (8 * q + 4 + p) by omega]
/-- the other slot stays -/
theorem SlM.frm {s t m cu tc rl rb rr ra pc bk c : Nat} {V P st lv K KT KS KL K2 KT2 KS2 KL2 : Nat → Nat} (h : SlM s m cu tc rl rb rr ra pc bk c V P st lv K KT KS KL) (hst : s ≠ t) (hs : s < 2) (ht : t < 2) (hpc : pc ≤ 40) (hc : c ≤ 4096) (htc : tc ≤ 8) (h1 : Frm K2 K (100 * t) (100 * t + 100)) (h2 : Frm KT2 KT (64 * t) (64 * t + 64)) (h3 : Frm KS2 KS (4096 * t) (4096 * t + 4096)) (h4 : Frm KL2 KL (4096 * t) (4096 * t + 4096)) : SlM s m cu tc rl rb rr ra pc bk c V P st lv K2 KT2 KS2 KL2 := by
  refine ⟨h.1.frm h1 hst, fun j hj => (h1 _ (by omega)).trans (h.2.1 j hj), fun q hq p hp => ?_, fun j hj => ⟨(h3 _ (by omega)).trans (h.2.2.2 j hj).1, (h4 _ (by omega)).trans (h.2.2.2 j hj).2⟩⟩
  show _ = 10 * KT2 (64 * s + (64 * 2 + 8 * q + p - 128)) + KT2 (64 * s + (64 * 2 + 8 * q + 4 + p - 128))
  rw [h2 _ (by omega), h2 _ (by omega)]
  exact h.2.2.1 q hq p hp
