/-! CONTRACTS AND CALLS -/
/-- y's bytecode does f: n arguments -/
def MetX (l : Launch) (g : GE) (y : MethodName) (cc : ByteArray) (nL : Nat) (ret : Option FieldType) (n : Nat) (rm : Room) (f : MX) : Prop :=
  ∀ (ad : List Nat) (vs vs' : List Value) (hp hp' : Hp) (r : Option Value ⊕ String), f vs hp = some (hp', r) → FR g ad vs vs' → vs.length = n → (∀ v ∈ vs, v ≠ .null ∧ v.category = 1) →
    vx_Met l y (Cond.code y cc nL ret :: WS) rm (va_Pc vs' (fun U => EnvOK g l U ∧ HW g U ad hp U.heap)) (cQc g ad (fun h x => h = hp' ∧ x = r)) (cXC g ad (fun h x => h = hp' ∧ x = r)) rm.cells rm.slots (gA g)
theorem lv_args_mem : ∀ (vs : List Value) (k i : Nat) (v : Value), (∀ w ∈ vs, w.category = 1) → vs[i]? = some v → (k + i, v) ∈ lv_args k vs
  | [], _, _, _, _, h => by simp at h
  | w :: vs, k, 0, v, hc, h => by
    simp at h
    subst h
    exact List.mem_cons_self
  | w :: vs, k, i + 1, v, hc, h => by
    simp at h
    have h1 := hc w List.mem_cons_self
    have h2 := lv_args_mem vs (k + 1) i v (fun x hx => hc x (List.mem_cons_of_mem _ hx)) h
    unfold lv_args
    rw [if_neg (by omega), show k + (i + 1) = k + 1 + i by omega]
    exact List.mem_cons_of_mem _ h2
theorem lg_sl_len : ∀ (vs : List Value), (∀ w ∈ vs, w.category = 1) → (lg_sl vs).length = vs.length
  | [], _ => rfl
  | w :: vs, hc => by
    have h1 := hc w List.mem_cons_self
    have h2 := lg_sl_len vs (fun x hx => hc x (List.mem_cons_of_mem _ hx))
    unfold lg_sl at h2 ⊢
    rw [List.flatMap_cons, if_neg (by omega), List.length_append, h2]
    simp
    omega
theorem FR.cat {g : GE} {ad : List Nat} {vs vs' : List Value} (h : FR g ad vs vs') (hc : ∀ v ∈ vs, v ≠ .null ∧ v.category = 1) : ∀ w ∈ vs', w.category = 1 := by
  intro w hw
  obtain ⟨i, hi⟩ := List.getElem?_of_mem hw
  have hl : i < vs.length := by rw [h.1]; exact (List.getElem?_eq_some_iff.mp hi).1
  have h1 := List.getElem?_eq_getElem hl
  have h2 := hc _ (List.mem_of_getElem? h1)
  rw [(h.2 i _ _ h1 hi).cat h2.1]
  exact h2.2
theorem LR.entry {g : GE} {ad : List Nat} {vs vs' : List Value} {nL jl : Nat} (h : FR g ad vs vs') (hc : ∀ v ∈ vs, v ≠ .null ∧ v.category = 1) (hn : vs.length ≤ nL) : LR g nL jl ad ((lg_sl vs' ++ List.replicate (nL - (lg_sl vs').length) Slot.unset).toArray) (vs ++ List.replicate (nL - vs.length) .null) := by
  have hc' := h.cat hc
  have hlen := lg_sl_len vs' hc'
  have h1 := lv_entry vs' (n := nL) (by rw [hlen, ← h.1]; exact hn)
  refine ⟨h1.1, h1.2.1, fun j v hj hv => ?_, fun i v hi hn => ?_⟩
  · by_cases hl : j < vs.length
    · rw [List.getElem?_append_left hl] at hj
      have := (hc v (List.mem_of_getElem? hj)).2
      omega
    · rw [List.getElem?_append_right (by omega)] at hj
      have := List.eq_of_mem_replicate (List.mem_of_getElem? hj)
      subst this
      cases hv
  · by_cases hl : i < vs.length
    · rw [List.getElem?_append_left hl] at hi
      obtain ⟨v', q1, q2⟩ := h.at hi
      have := h1.2.2 _ (lv_args_mem vs' 0 i v' hc' q1)
      rw [Nat.zero_add] at this
      exact ⟨v', this, q2⟩
    · rw [List.getElem?_append_right (by omega)] at hi
      exact absurd (List.eq_of_mem_replicate (List.mem_of_getElem? hi)) hn
/-- a body gives its method's contract -/
theorem MetX.of {l : Launch} {g : GE} {y : MethodName} {cc : ByteArray} {nL : Nat} {ret : Option FieldType} {n : Nat} {rm : Room} {body : SX} {own : String} (jl pE : Nat) (ho : y.cls = own) (hy : plainName y.cls = true) (hn : n ≤ nL)
    (hb : ∀ (p : Program) (e : Env) (s : State) (m : MethodId) (args : Array Value) (below : List Frame) (meth : Method) (c : Code) (Fin : Hp → (Option Value ⊕ String) → Prop) (ad0 : List Nat), meth.sig.returnType = ret → meth.name = y.name → ∃ kc ks, Sv ((p, l, e, rm, s), (m, args, below, meth, c), g, own, (nL, jl), Fin, ad0) cc 0 pE kc ks body ∧ kc ≤ rm.cells ∧ ks ≤ rm.slots) : MetX l g y cc nL ret n rm (mth nL body) := by
  intro ad vs vs' hp hp' r hf hfr hlen hcat
  refine vx_ofW (cc := cc) (maxL := nL) (ret := ret) hy rfl ?_
  intro p e s m args below meth c s₁ B hml htab hv
  obtain ⟨rfl, henv, hHW⟩ := hv
  have hts0 := atoms_spec (ws := Cond.code y cc nL ret :: WS) B.pre
  have hown : s.vm.findClass own = some m.cls := by rw [← ho]; exact findClass_of_methodNamed B.named
  have hname : meth.name = y.name := (name_of_methodNamed B.named B.method).1
  obtain ⟨kc, ks, hS, hkc, hks⟩ := hb p e s m vs'.toArray below meth c (fun h x => h = hp' ∧ x = r) ad B.returns hname
  rw [lg_entry_eq]
  unfold mth at hf
  split at hf
  · rename_i h1 x1 e1
    cases hf
    exact hS ⟨B.exec, B.bytes, hml, hown, fun w hw => hts0 w (List.mem_cons_of_mem _ hw), henv, B.notSynchronized, fun _ => htab⟩ _ _ hp s.heap [] 0 0 rm.cells rm.slots ad (LR.entry hfr hcat (show vs.length ≤ nL by omega)) ⟨⟨hHW, va_S.rf⟩, AE.rf⟩ (by omega) (Nat.le_refl _) (by omega) (Nat.le_refl _) hp' (.inr r) e1 ⟨rfl, rfl⟩
  · cases hf
-- arguments
section Args
variable {Γ : Ct} {cc : ByteArray} {pc p1 p2 w n k1 n1 k2 n2 : Nat} {as : AX}
theorem Av_nil : Av Γ cc pc pc w 0 0 0 aN := by
  intro hok ls lc st hp H locs cells slots c1 s1 ad hL hR hw b1 b2 b3 b4 hp' r hf hk
  cases hf
  exact GW.widen (by omega) (by omega) (hk ad [] H locs AE.rf FR.nil rfl (fun _ h => by cases h) rfl hR)
theorem stW_app {a b : List Value} : stW (a ++ b) = stW a + stW b := by simp [stW]
theorem stW_rev {a : List Value} : stW a.reverse = stW a := by simp [stW, List.sum_reverse]
theorem stW_snoc {a : List Value} {v : Value} : stW (a ++ [v]) = stW a + v.category := by rw [stW_app]; simp [stW]
theorem Av_i {e : EXi} (ha : Av Γ cc pc p1 w n k1 n1 as) (he : Ev Γ cc Value.int p1 p2 (w + n) k2 n2 e) : Av Γ cc pc p2 w (n + 1) (k1 + k2) (n1 + n2) (aI as e) := by
  intro hok ls lc st hp H locs cells slots c1 s1 ad hL hR hw b1 b2 b3 b4 hp' r hf hk
  have hE : ∀ E, r = .inr E → GF Γ hp' (.inr E) := fun E h => by subst h; exact hk
  rcases eB_cases hf with ⟨h1, vs, e1, e2⟩ | ⟨E, e1, e2⟩
  · refine ha hok ls lc st hp H locs cells slots (cells + k1) (slots + n1) ad hL hR hw (Nat.le_refl _) (by omega) (Nat.le_refl _) (by omega) h1 (.inl vs) e1 fun ad1 vs' H1 locs1 q1 q2 q3 q4 q5 q6 => ?_
    refine he.go hok (hL.mono q1) q6 (by rw [stW_app, stW_rev, q5]; omega) (by omega) (by omega) e2 hE fun h2 x ad2 v2 H2 locs2 e3 r1 r2 r3 => ?_
    cases r2
    cases e3
    have := hk ad2 (vs' ++ [.int x]) H2 locs2 (q1.tr r1) ((q2.mono r1).snoc (show VR _ _ (Value.int x) (Value.int x) from rfl)) (by simp [q3]) (fun v hv => (List.mem_append.mp hv).elim (q4 v) (fun h => by rw [List.mem_singleton.mp h]; exact ⟨(fun z => by cases z), rfl⟩)) (by rw [stW_snoc, q5]; rfl) r3
    rw [List.reverse_append] at this
    exact GW.widen (by omega) (by omega) this
  · subst e2
    exact ha hok ls lc st hp H locs cells slots (cells + k1) (slots + n1) ad hL hR hw (Nat.le_refl _) (by omega) (Nat.le_refl _) (by omega) hp' (.inr E) e1 hk
theorem Av_a {e : EXa} (ha : Av Γ cc pc p1 w n k1 n1 as) (he : Ev Γ cc Value.ref p1 p2 (w + n) k2 n2 e) : Av Γ cc pc p2 w (n + 1) (k1 + k2) (n1 + n2) (aA as e) := by
  intro hok ls lc st hp H locs cells slots c1 s1 ad hL hR hw b1 b2 b3 b4 hp' r hf hk
  have hE : ∀ E, r = .inr E → GF Γ hp' (.inr E) := fun E h => by subst h; exact hk
  rcases eB_cases hf with ⟨h1, vs, e1, e2⟩ | ⟨E, e1, e2⟩
  · refine ha hok ls lc st hp H locs cells slots (cells + k1) (slots + n1) ad hL hR hw (Nat.le_refl _) (by omega) (Nat.le_refl _) (by omega) h1 (.inl vs) e1 fun ad1 vs' H1 locs1 q1 q2 q3 q4 q5 q6 => ?_
    refine he.go hok (hL.mono q1) q6 (by rw [stW_app, stW_rev, q5]; omega) (by omega) (by omega) e2 hE fun h2 x ad2 v2 H2 locs2 e3 r1 r2 r3 => ?_
    obtain ⟨b, r4, rfl⟩ := r2
    cases e3
    have := hk ad2 (vs' ++ [.ref b]) H2 locs2 (q1.tr r1) ((q2.mono r1).snoc ⟨b, r4, rfl⟩) (by simp [q3]) (fun v hv => (List.mem_append.mp hv).elim (q4 v) (fun h => by rw [List.mem_singleton.mp h]; exact ⟨(fun z => by cases z), rfl⟩)) (by rw [stW_snoc, q5]; rfl) r3
    rw [List.reverse_append] at this
    exact GW.widen (by omega) (by omega) this
  · subst e2
    exact ha hok ls lc st hp H locs cells slots (cells + k1) (slots + n1) ad hL hR hw (Nat.le_refl _) (by omega) (Nat.le_refl _) (by omega) hp' (.inr E) e1 hk
end Args
/-- the receiver is of the kind -/
def rcv (ci : Nat) (vs : List Value) (h : Hp) : Bool := match vs with
  | .ref b :: _ => (match h.2 b with
    | .inr (c, _) => c == ci
    | _ => false)
  | _ => false
def gd (ci : Nat) (m : MX) : MX := fun vs h => if rcv ci vs h = true then m vs h else none
/-- what is said of a callee -/
def Yk (y : MethodName) (bytes : ByteArray) (maxL : Nat) (ret : Option FieldType) (n : Nat) : Prop := Cond.code y bytes maxL ret ∈ WS ∧ Cond.initialized y.cls ∈ WS ∧ y.cls ≠ "java/lang/invoke/MethodHandle" ∧ y.cls ≠ "java/lang/invoke/VarHandle" ∧ (parseMethodDescriptor y.desc).map (fun d => d.parameters.length) = some n
/-- behind a run -/
theorem run_core {p : Program} {l : Launch} {e : Env} {R : Room} {s : State} {m : MethodId} {args : Array Value} {below : List Frame} {meth : Method} {c : Code} {g : GE} {own : String} {nl : Nat × Nat} {Fin : Hp → (Option Value ⊕ String) → Prop} {ad0 : List Nat} {cc : ByteArray}
    (hok : OKc ((p, l, e, R, s), (m, args, below, meth, c), g, own, nl, Fin, ad0) cc) {ad : List Nat} {hp hp' : Hp} {r : Option Value ⊕ String} {H : Heap} {locs : List Loc} {cells slots mc ms pc : Nat} {ls : Array Slot} {st0 rest : List Value} {a : Array Value}
    (hrun : vx_Run p l e R s m args below meth c H locs cells slots mc ms (F0 m pc ls st0) rest (cQc g ad (fun h x => h = hp' ∧ x = r) a) (cXC g ad (fun h x => h = hp' ∧ x = r)) (gA g)) (hR : GR ((p, l, e, R, s), (m, args, below, meth, c), g, own, nl, Fin, ad0) ad hp H locs) (hc : cells + mc ≤ R.cells) (hs : slots + ms ≤ R.slots) (hj : nl.2 ≠ 200)
    (kk : ∀ rv, r = .inl rv → ∀ (ad' : List Nat) (H' : Heap) (locs' : List Loc), AE ad ad' → GR ((p, l, e, R, s), (m, args, below, meth, c), g, own, nl, Fin, ad0) ad' hp' H' locs' → GW ((p, l, e, R, s), (m, args, below, meth, c), g, own, nl, Fin, ad0) H' locs' (cells + mc) (slots + ms) (pc + 3) ls (rv.toList ++ rest))
    (kx : ∀ E, r = .inr E → Fin hp' (.inr E)) : GW ((p, l, e, R, s), (m, args, below, meth, c), g, own, nl, Fin, ad0) H locs cells slots pc ls st0 := by
  intro T hT X
  rcases hrun T hT X with ⟨v, st₀, t, T', L, h0, X', hL, e1, e2, hq, goes⟩ | ⟨q, st₀, t, T', L, E, ce, h0, X', hL, e1, e2, hx, hce, hcv, hcl, steps⟩
  · obtain ⟨hp1, rv, ad', ⟨rfl, f1⟩, f2, f3, f4, f5⟩ := hq
    cases f3
    have hal : s.vm.Alike t.vm := by rw [← e2]; exact X'.warmed.alike
    obtain ⟨-, -, hS⟩ := vx_keep (A0 := gA g) (A1 := gA g) (H0 := s.heap) h0 e1 hR.1.2 (fun _ _ h => h) (fun _ h => h) hL f5
    have hW : HW g s ad' hp1 T'.heap := by rw [e1]; exact f4.moved hal.symm
    obtain ⟨t2, a1, b1⟩ := kk v f1.symm ad' T'.heap (locs ++ L) f2 ⟨⟨hW, hS⟩, hR.2.tr f2⟩ T' rfl X'
    exact ⟨t2, goes t2 a1, b1⟩
  · obtain ⟨hp1, ad', ⟨rfl, f1⟩, f2, f4, f5⟩ := hx
    have hal : s.vm.Alike t.vm := by rw [← e2]; exact X'.warmed.alike
    obtain ⟨-, -, hS⟩ := vx_keep (A0 := gA g) (A1 := gA g) (H0 := s.heap) h0 e1 hR.1.2 (fun _ _ h => h) (fun _ h => h) hL f5
    have hW : HW g s ad' hp1 T'.heap := by rw [e1]; exact f4.moved hal.symm
    obtain ⟨t2, a1, b1⟩ := vx_out (Qc := cQc g ad0 Fin) (XC := cXC g ad0 Fin) (mc := R.cells) (ms := R.slots) (free := gA g) (pc := pc) (ls := ls) (rest := rest) (fun x hx => (hok.2.2.2.2.2.2.2 hj x hx).elim) hok.2.2.2.2.2.2.1 (by rw [e1]; exact hce) hcv hcl (fun u hu hvm => ⟨hp1, ad', kx E f1.symm, hR.2.tr f2, by rw [hu]; exact hW.moved hvm, hS.F hu⟩) hS.2.2 hc hs T' rfl X'
    exact ⟨t2, steps.trans a1, b1⟩
theorem blindX {g : GE} {l : Launch} {ad : List Nat} {hp : Hp} {vs' : List Value} : FrameBlind (va_Pc vs' (fun U => EnvOK g l U ∧ HW g U ad hp U.heap)) := fun a U f mk h => ⟨h.1, h.2.1.blind, h.2.2.blind⟩
theorem preX {g : GE} {l : Launch} {s : State} {ad : List Nat} {hp : Hp} {vs' : List Value} {H : Heap} {locs : List Loc} (henv : EnvOK g l s) (hR : WR g s ad hp H locs) : ∀ U : State, U.heap = H → s.WarmedH U.vm → va_Pc vs' (fun U => EnvOK g l U ∧ HW g U ad hp U.heap) vs'.toArray U := fun U hU hW => ⟨rfl, henv.at hR.2 hU hW, by rw [hU]; exact hR.1.moved hW.alike⟩
/-- a contract without a throw, in the kit's plainer form -/
theorem MetX.met {l : Launch} {g : GE} {y : MethodName} {cc : ByteArray} {nL : Nat} {ret : Option FieldType} {n : Nat} {rm : Room} {f : MX} (h : MetX l g y cc nL ret n rm f) {ad : List Nat} {vs vs' : List Value} {hp hp' : Hp} {rv : Option Value} (h1 : f vs hp = some (hp', .inl rv)) (h2 : FR g ad vs vs') (h3 : vs.length = n) (h4 : ∀ v ∈ vs, v ≠ .null ∧ v.category = 1) :
    Met l y (Cond.code y cc nL ret :: WS) rm (va_Pc vs' (fun U => EnvOK g l U ∧ HW g U ad hp U.heap)) (cQc g ad (fun h x => h = hp' ∧ x = .inl rv)) rm.cells rm.slots (gA g) := by
  refine MetFree.mono (h ad vs vs' hp hp' (.inl rv) h1 h2 h3 h4) (fun _ _ h => h) (fun _ _ _ _ _ h => h) (fun a st o t _ hq => ?_)
  rcases hq with hq | ⟨q, rfl, E, ce, L, ⟨hp1, ad', ⟨-, z⟩, -⟩, -⟩
  · exact hq
  · cases z
theorem va_Run.vx {p : Program} {l : Launch} {e : Env} {R : Room} {s : State} {m : MethodId} {args : Array Value} {below : List Frame} {meth : Method} {c : Code} {H : Heap} {locs : List Loc} {cells slots mc ms : Nat} {g : JFrame} {rest : List Value} {Qa : State → Outcome → State → Prop} {XC : String → State → State → Prop} {free : Addr → Prop} (h : va_Run p l e R s m args below meth c H locs cells slots mc ms g rest Qa free) : vx_Run p l e R s m args below meth c H locs cells slots mc ms g rest Qa XC free := fun T hT X => Or.inl (h T hT X)
