/-! THE LAW'S OWN METHODS: try { out[0] = x.m(..); } catch .. return k; return 0 -/
def fWr (nL : Nat) (o : EXa) (f : MX) (as : AX) (cv : Int32 → Int64) (hs : List String) : MX := fun vs h => match o (vs ++ List.replicate (nL - vs.length) .null) h with
  | some (h, .inl a) => (match as (vs ++ List.replicate (nL - vs.length) .null) h with
    | some (h, .inl ws) => (match f ws h with
      | some (h, .inl (some (.int x))) => (match apl h a 0 (cv x) with
        | some h => some (h, .inl (some (.int 0)))
        | none => none)
      | some (h, .inr E) => if E ∈ hs then some (h, .inl (some (.int (Int32.ofNat (hs.idxOf E + 1))))) else none
      | _ => none)
    | _ => none)
  | _ => none
def MetW (l : Launch) (g : GE) (y : MethodName) (cc : ByteArray) (nL : Nat) (hh : List (Nat × Nat × Nat × Nat)) (n : Nat) (rm : Room) (f : MX) : Prop :=
  ∀ (ad : List Nat) (vs vs' : List Value) (hp hp' : Hp) (r : Option Value ⊕ String), f vs hp = some (hp', r) → FR g ad vs vs' → vs.length = n → (∀ v ∈ vs, v ≠ .null ∧ v.category = 1) →
    Met l y (Cond.codeWith y cc nL (some .int) hh :: WS) rm (va_Pc vs' (fun U => EnvOK g l U ∧ HW g U ad hp U.heap)) (cQc g ad (fun h x => h = hp' ∧ x = r)) rm.cells rm.slots (gA g)
/-- the handler of E, which answers k -/
def Ck (own : String) (cc : ByteArray) (hh : List (Nat × Nat × Nat × Nat)) (p3 nL : Nat) (E : String) (k : Int32) : Prop :=
  ∃ (pre : List ExceptionTableEntry) (x : ExceptionTableEntry) (suf : List ExceptionTableEntry) (kI : Int) (j p5 : Nat), tableOf hh = pre ++ x :: suf ∧ (∀ z ∈ pre, z.catchType ≠ 0 ∧ ∃ nm : String, Cond.classLink own z.catchType nm ∈ WS ∧ (E, nm) ∈ ncT) ∧ covers x p3 = true ∧ x.catchType ≠ 0 ∧ Cond.classLink own x.catchType E ∈ WS ∧ Cond.castable E E ∈ WN ∧
    j < nL ∧ ((decode cc x.handlerPc = .ok (.astore j, 2) ∧ p5 = x.handlerPc + 2) ∨ ∃ q : Fin 4, (q : Nat) = j ∧ decode cc x.handlerPc = .ok (.astore_n q, 1) ∧ p5 = x.handlerPc + 1) ∧ decode cc p5 = .ok (.iconst kI, 1) ∧ Int32.ofInt kI = k ∧ decode cc (p5 + 1) = .ok (.ireturn, 1)
theorem nc_use {g : GE} {l : Launch} {s : State} (h : EnvOK g l s) {E nm : String} (hq : (E, nm) ∈ ncT) : va_Nc E nm s := h.2.2.2.2.2.2.2.2.2.1 (E, nm) hq
theorem MetW.of {l : Launch} {g : GE} {y : MethodName} {cc : ByteArray} {nL : Nat} {hh : List (Nat × Nat × Nat × Nat)} {n n0 : Nat} {rm rm0 : Room} {own : String} {o : EXa} {f0 : MX} {as : AX} {cv : Int32 → Int64} {hs : List String} {y0 : MethodName} {bytes0 : ByteArray} {maxL0 idx p1 p2 p3 p4 p6 : Nat} {ret0 : Option FieldType} {off : Int}
    (ho : y.cls = own) (hy : plainName y.cls = true) (hn : n ≤ nL)
    (hY : Yk y0 bytes0 maxL0 ret0 n0) (hM : MetX l g y0 bytes0 maxL0 ret0 (n0 + 1) rm0 f0) (hyC : y0.cls = RX7) (hl : Cond.methodLink own idx y0 ∈ WS) (hin : Cond.instanceMethod y0 ∈ WS) (hse : Cond.selects RX7 y0 y0 ∈ WS) (hd : decode cc p3 = .ok (.invokevirtual idx, 3)) (hR1 : rm0.frames + 1 ≤ rm.frames) (hR2 : 8 + (maxL0 + 11) + rm0.locals ≤ rm.locals) (hR3 : rm0.cells = rm.cells) (hR4 : rm0.slots = rm.slots)
    (hb : ∀ (p : Program) (e : Env) (s : State) (m : MethodId) (args : Array Value) (below : List Frame) (meth : Method) (c : Code) (Fin : Hp → (Option Value ⊕ String) → Prop) (ad0 : List Nat),
      Ev ((p, l, e, rm, s), (m, args, below, meth, c), g, own, (nL, 200), Fin, ad0) cc Value.ref 0 p1 0 0 0 o ∧ Ev ((p, l, e, rm, s), (m, args, below, meth, c), g, own, (nL, 200), Fin, ad0) cc Value.int p1 p2 (0 + 1) 0 0 (eI 0) ∧ Av ((p, l, e, rm, s), (m, args, below, meth, c), g, own, (nL, 200), Fin, ad0) cc p2 p3 (0 + 1 + 1) (n0 + 1) 0 0 as ∧
      ∀ (H : Heap) (locs : List Loc) (cells slots : Nat) (ls : Array Slot) (st : List Value) (x : Int32), OKc ((p, l, e, rm, s), (m, args, below, meth, c), g, own, (nL, 200), Fin, ad0) cc → GW ((p, l, e, rm, s), (m, args, below, meth, c), g, own, (nL, 200), Fin, ad0) H locs cells slots p4 ls (.long (cv x) :: st) → GW ((p, l, e, rm, s), (m, args, below, meth, c), g, own, (nL, 200), Fin, ad0) H locs cells slots (p3 + 3) ls (.int x :: st))
    (dl : decode cc p4 = .ok (.lastore, 1)) (dg : decode cc (p4 + 1) = .ok (.goto off, 3)) (dt : ((p4 + 1 : Nat) : Int) + off = (p6 : Int)) (di : decode cc p6 = .ok (.iconst 0, 1)) (dr : decode cc (p6 + 1) = .ok (.ireturn, 1))
    (hk : ∀ E ∈ hs, Ck own cc hh p3 nL E (Int32.ofNat (hs.idxOf E + 1))) : MetW l g y cc nL hh n rm (fWr nL o (gd 7 f0) as cv hs) := by
  intro ad vs vs' hp hp' r hf hfr hlen hcat
  have key : vx_Met l y (Cond.codeWith y cc nL (some .int) hh :: WS) rm (va_Pc vs' (fun U => EnvOK g l U ∧ HW g U ad hp U.heap)) (cQc g ad (fun h x => h = hp' ∧ x = r)) (cXC g ad (fun h x => h = hp' ∧ x = r)) rm.cells rm.slots (gA g) := by
    refine vx_ofWH (cc := cc) (maxL := nL) (ret := some .int) (hh := hh) hy rfl ?_
    intro p e s m args below meth c s₁ B hml hv
    obtain ⟨rfl, henv, hHW⟩ := hv
    have hts0 := atoms_spec (ws := Cond.codeWith y cc nL (some .int) hh :: WS) B.pre
    have htab : c.exceptionTable.toList = tableOf hh := vx_table (x := y) B (hts0 _ List.mem_cons_self)
    have hown : s.vm.findClass own = some m.cls := by rw [← ho]; exact findClass_of_methodNamed B.named
    have hts : ∀ w ∈ WS, w.before vs'.toArray s = true := fun w hw => hts0 w (List.mem_cons_of_mem _ hw)
    have hlk := B.notSynchronized
    have hr := B.returns
    have hx := B.exec
    have hb0 := B.bytes
    have hml2 : c.maxLocals = nL := hml
    obtain ⟨ho1, hi1, ha1, hcv⟩ := hb p e s m vs'.toArray below meth c (fun h x => h = hp' ∧ x = r) ad
    have hok : OKc ((p, l, e, rm, s), (m, vs'.toArray, below, meth, c), g, own, (nL, 200), (fun h x => h = hp' ∧ x = r), ad) cc := ⟨hx, hb0, hml2, hown, hts, henv, hlk, fun z => absurd rfl z⟩
    rw [lg_entry_eq]
    have hL0 : LR g nL 200 ad ((lg_sl vs' ++ List.replicate (nL - (lg_sl vs').length) Slot.unset).toArray) (vs ++ List.replicate (nL - vs.length) .null) := LR.entry hfr hcat (by omega)
    revert hL0
    generalize (lg_sl vs' ++ List.replicate (nL - (lg_sl vs').length) Slot.unset).toArray = ls
    intro hL0
    unfold fWr at hf
    revert hf hL0
    generalize vs ++ List.replicate (nL - vs.length) .null = lc
    intro hf hL0
    split at hf
    rotate_left
    · cases hf
    rename_i h1 a e1
    split at hf
    rotate_left
    · cases hf
    rename_i h2 ws e2
    refine ho1 hok ls lc [] hp s.heap [] 0 0 0 0 ad hL0 ⟨⟨hHW, va_S.rf⟩, AE.rf⟩ (Nat.le_refl 0) (Nat.le_refl _) (Nat.zero_le _) (Nat.le_refl _) (Nat.zero_le _) h1 (.inl a) e1 fun ad1 v1 H1 locs1 q1 q2 q3 => ?_
    obtain ⟨b, q4, rfl⟩ := q2
    refine hi1 hok ls lc [.ref b] h1 H1 locs1 0 0 0 0 ad1 (hL0.mono q1) q3 (stW_a (Nat.le_refl 0)) (Nat.le_refl _) (Nat.zero_le _) (Nat.le_refl _) (Nat.zero_le _) h1 (.inl 0) rfl fun ad2 v2 H2 locs2 r1 r2 r3 => ?_
    cases r2
    refine ha1 hok ls lc [.int 0, .ref b] h1 H2 locs2 0 0 0 0 ad2 ((hL0.mono q1).mono r1) r3 (stW_i (stW_a (Nat.le_refl 0))) (Nat.le_refl _) (Nat.zero_le _) (Nat.le_refl _) (Nat.zero_le _) h2 (.inl ws) e2 fun ad3 ws' H3 locs3 t1 t2 t3 t4 t5 t6 => ?_
    have hL3 := ((hL0.mono q1).mono r1).mono t1
    have q5 := vAd.mono t1 (vAd.mono r1 q4)
    -- the call
    obtain ⟨y1, y2, y3, y4, y5⟩ := hY
    have run : ∀ (hp9 : Hp) (r9 : Option Value ⊕ String), gd 7 f0 ws h2 = some (hp9, r9) → ∃ a9, vx_Run p l e rm s m vs'.toArray below meth c H3 locs3 0 0 rm0.cells rm0.slots (F0 m p3 ls (ws'.reverse ++ [.int 0, .ref b])) [.int 0, .ref b] (cQc g ad3 (fun h x => h = hp9 ∧ x = r9) a9) (cXC g ad3 (fun h x => h = hp9 ∧ x = r9)) (gA g) := by
      intro hp9 r9 h9
      unfold gd at h9
      split at h9
      rotate_left
      · cases h9
      rename_i hrc
      obtain ⟨b9, as9, fs9, rfl, ho9⟩ := rcv_some hrc
      obtain ⟨v', z1, z2⟩ := t2.at (k := 0) (v := .ref b9) rfl
      obtain ⟨ab, z3, rfl⟩ := z2
      cases ws' with
      | nil => cases z1
      | cons w0 as' =>
        cases z1
        obtain ⟨wsx, fs', u1, u2, u3, u4, u5, u6, u7, u8, u9⟩ := t6.1.1.obj z3 ho9
        have hrv := va_recv (q := (RX7, TX7, 10)) henv.2.2.1 u1 rfl u8
        have hn' : as'.length = n0 := by have := t2.1; simp at this t3; omega
        refine ⟨_, vx_runV (Ts := WS) (own := own) (C := RX7) (As := as') (b := ab) ⟨hx, hb0, hml2, hown, hts⟩ (hM ad3 _ _ h2 hp9 r9 h9 t2 t3 t4) ⟨callB_of n0 hts (ws_self y1) rfl rfl rfl (hts _ y2) (hts _ hl) ⟨y3, y4, y5⟩ ⟨hR1, hR2⟩, hts _ hin, hts _ hse⟩ ⟨blindX, hrv, preX henv t6.1⟩ rfl hn' hL0.1 ?_ (Nat.le_of_ble_eq_true rfl) hd ⟨by rw [hR3]; omega, by rw [hR4]; omega⟩⟩
        show (Value.ref ab :: as').reverse ++ [.int 0, .ref b] = as'.reverse ++ .ref ab :: [.int 0, .ref b]
        simp
    split at hf
    · -- an answer
      rename_i h4 x e4
      split at hf
      rotate_left
      · cases hf
      rename_i h5 e5
      cases hf
      obtain ⟨a9, hrun⟩ := run _ _ e4
      intro T hT X
      rcases hrun T hT X with ⟨v, st₀, t, T', L, z0, X', hLf, z1, z2, hq, goes⟩ | ⟨q, st₀, t, T', L, E, ce, z0, X', hLf, z1, z2, ⟨hpx, adx, ⟨-, zz⟩, -⟩, -⟩
      rotate_left
      · cases zz
      obtain ⟨hp1, rv, ad', ⟨rfl, f1⟩, f2, f3, f4, f5⟩ := hq
      cases f3
      cases f1
      have hal : s.vm.Alike t.vm := by rw [← z2]; exact X'.warmed.alike
      obtain ⟨-, -, hS⟩ := vx_keep (A0 := gA g) (A1 := gA g) (H0 := s.heap) z0 z1 t6.1.2 (fun _ _ h => h) (fun _ h => h) hLf f5
      have hW : HW g s ad' hp1 T'.heap := by rw [z1]; exact f4.moved hal.symm
      obtain ⟨n9, f9, g1, g2, rfl⟩ := apl_some e5
      have q6 := vAd.mono f2 q5
      have fin : GW ((p, l, e, rm, s), (m, vs'.toArray, below, meth, c), g, own, (nL, 200), (fun h x9 => h = hup hp1 a (.inl (1, n9, .inr (.inl (vp_updL f9 (0 : Int32).toNatClampNeg (cv x))))) ∧ x9 = .inl (some (.int 0))), ad) T'.heap (locs3 ++ L) (0 + rm0.cells) (0 + rm0.slots) p4 ls [.long (cv x), .int 0, .ref b] := by
        obtain ⟨wsx, ex, u1, u2, u3, u4, u5, u6, u7, u8, u9⟩ := hW.find q6 (fun k q => by rw [g1] at q; unfold roOb at q; cases q)
        rw [g1] at u9
        rcases ex with ⟨cA, x0⟩ | ⟨c0, fs⟩
        · obtain ⟨rfl, u10, u11⟩ := u9
          refine va_last hx hb0 (henv.2.2.1.one u10 u11) u1 u2 hS _ 0 u8 rfl g2 dl (fun H4 locs4 v1 v2 v3 => ?_)
          refine lv_goto hx hb0 dg dt ?_
          refine lv_iconst (v := 0) hx hb0 di (by decide) ?_
          refine W.widen (k := rm.cells) (n := rm.slots) (by rw [hR3]; omega) (by rw [hR4]; omega) (vx_ret (W.iret hx hb0 hr (fun t9 ht9 hW9 => ?_) v3.2.2 dr))
          have hR9 : WR g s ad' (hup hp1 a (.inl (1, n9, .inr (.inl (vp_updL f9 (0 : Int32).toNatClampNeg (cv x)))))) H4 locs4 := ⟨HW.put u3 u4 u5 u6 u7 u8 v1 v2 ⟨rfl, u10, u11⟩, v3⟩
          exact ⟨_, _, ad', ⟨rfl, rfl⟩, t6.2.tr f2, rfl, GR.fin (ad0 := ad) hR9 ht9 hW9.alike⟩
        · exact u9.elim
      obtain ⟨t2', a1, b1⟩ := hcv _ _ _ _ _ _ _ hok fin T' rfl X'
      exact ⟨t2', goes t2' a1, b1⟩
    · -- a throw
      rename_i h4 E e4
      split at hf
      rotate_left
      · cases hf
      rename_i hE
      cases hf
      obtain ⟨a9, hrun⟩ := run _ _ e4
      intro T hT X
      rcases hrun T hT X with ⟨v, st₀, t, T', L, z0, X', hLf, z1, z2, ⟨hpx, rvx, adx, ⟨-, zz⟩, -⟩, goes⟩ | ⟨q, st₀, t, T', L, E2, ce, z0, X', hLf, z1, z2, hxc, hce, hcv2, hcl, steps⟩
      · cases zz
      obtain ⟨hp1, ad', ⟨rfl, f1⟩, f2, f4, f5⟩ := hxc
      cases f1
      have hal : s.vm.Alike t.vm := by rw [← z2]; exact X'.warmed.alike
      obtain ⟨-, -, hS⟩ := vx_keep (A0 := gA g) (A1 := gA g) (H0 := s.heap) z0 z1 t6.1.2 (fun _ _ h => h) (fun _ h => h) hLf f5
      have hW : HW g s ad' hp1 T'.heap := by rw [z1]; exact f4.moved hal.symm
      obtain ⟨pre, xe, suf, kI, j, p5, k1, k2, k3, k4, k5, k6, k7, k8, k9, k10, k11⟩ := hk E hE
      have hend : ∀ ls2 : Array Slot, W p l e rm s m vs'.toArray below meth c T'.heap (locs3 ++ L) (0 + rm0.cells) (0 + rm0.slots) (vx_MQ below (cQc g ad (fun h x => h = hp1 ∧ x = .inl (some (.int (Int32.ofNat (hs.idxOf E + 1)))))) (cXC g ad (fun h x => h = hp1 ∧ x = .inl (some (.int (Int32.ofNat (hs.idxOf E + 1)))))) vs'.toArray s rm.cells rm.slots (gA g)) (F0 m p5 ls2 []) := by
        intro ls2
        refine lv_iconst (v := Int32.ofNat (hs.idxOf E + 1)) hx hb0 k9 k10 ?_
        refine W.widen (k := rm.cells) (n := rm.slots) (by rw [hR3]; omega) (by rw [hR4]; omega) (vx_ret (W.iret hx hb0 hr (fun t9 ht9 hW9 => ?_) hS.2.2 k11))
        exact ⟨_, _, ad', ⟨rfl, rfl⟩, t6.2.tr f2, rfl, GR.fin (ad0 := ad) ⟨hW, hS⟩ ht9 hW9.alike⟩
      obtain ⟨t2', a1, b1⟩ := vx_catch (pc := p3) (ls := ls) (rest := [.int 0, .ref b]) (H := T'.heap) (locs := locs3 ++ L) (cells := 0 + rm0.cells) (slots := 0 + rm0.slots) (name := E) (E := E) hown pre xe suf (htab.trans k1) (fun z hz => Or.inr ⟨(k2 z hz).1, by obtain ⟨nm, g1, g2⟩ := (k2 z hz).2; exact ⟨nm, hts _ g1, nc_use henv g2⟩⟩) k3 k4 (hts _ k5) (va_Nw.use rfl (henv.2.2.2.2.2.1 _ k6)) (by rw [z1]; exact hce) hcv2 hcl (by
        rcases k8 with ⟨d1, rfl⟩ | ⟨q9, hq9, d1, rfl⟩
        · exact lv_astore hx hb0 d1 (fullL_has hL0.1 hL0.2.1) k7 rfl (fun ls' h' => hend ls')
        · exact lv_astore_n hx hb0 d1 hq9 (fullL_has hL0.1 hL0.2.1) k7 rfl (fun ls' h' => hend ls')) T' rfl X'
      exact ⟨t2', steps.trans a1, b1⟩
    · cases hf
  refine MetFree.mono key (fun _ _ h => h) (fun _ _ _ _ _ h => h) (fun a st oc t _ hq => ?_)
  rcases hq with hq | ⟨q, rfl, E, ce, L, ⟨hp1, ad', ⟨-, z⟩, -⟩, -⟩
  · exact hq
  · exfalso
    subst z
    unfold fWr at hf
    split at hf
    · split at hf
      · split at hf
        · split at hf
          · cases hf
          · cases hf
        · split at hf
          · cases hf
          · cases hf
        · cases hf
      · cases hf
    · cases hf
def cvz : Int32 → Int64 := fun x => if x = 0 then 0 else 1
def Yw (y : MethodName) (bytes : ByteArray) (maxL : Nat) (hh : List (Nat × Nat × Nat × Nat)) (n : Nat) : Prop := Cond.codeWith y bytes maxL (some .int) hh ∈ WS ∧ Cond.initialized y.cls ∈ WS ∧ y.cls ≠ "java/lang/invoke/MethodHandle" ∧ y.cls ≠ "java/lang/invoke/VarHandle" ∧ (parseMethodDescriptor y.desc).map (fun d => d.parameters.length) = some n
theorem Rn_W {Γ : Ct} {cc : ByteArray} {p1 w n : Nat} {f : MX} {rm : Room} {y : MethodName} {bytes : ByteArray} {maxL idx : Nat} {hh : List (Nat × Nat × Nat × Nat)} (hY : Yw y bytes maxL hh n) (hM : MetW Γ.1.2.1 Γ.2.2.1 y bytes maxL hh n rm f) (hl : Cond.methodLink Γ.2.2.2.1 idx y ∈ WS) (hst : Cond.static y ∈ WS) (hd : decode cc p1 = .ok (.invokestatic idx, 3)) (hR1 : rm.frames + 1 ≤ (Rm Γ).frames) (hR2 : 8 + (maxL + 11) + rm.locals ≤ (Rm Γ).locals) (hw : w ≤ 8) (hj : Γ.2.2.2.2.1.2 ≠ 200) : Rn Γ cc p1 w n rm f := by
  refine ⟨hj, ?_⟩
  intro hok ls st hp H locs cells slots ad vs vs' hp' r hf hfr hlen hcat hR hst0 hls hc hs
  obtain ⟨⟨p, l, e, R, s⟩, ⟨m, args, below, meth, c⟩, g, own, ⟨nL, jl⟩, Fin, ad0⟩ := Γ
  obtain ⟨hx, hb0, hml, hown, hts, henv, hlk, htb⟩ := hok
  obtain ⟨y1, y2, y3, y4, y5⟩ := hY
  have hG : GoodIn WS (va_wsS own idx y (Cond.codeWith y bytes maxL (some .int) hh :: WS)) := by
    intro x hx9
    rcases List.mem_append.mp hx9 with h | h
    · have hin : x ∈ WS := by
        simp only [List.mem_cons, List.not_mem_nil, or_false] at h
        rcases h with rfl | rfl | rfl
        · exact hl
        · exact hst
        · exact y2
      exact ⟨hin, ws_good hin⟩
    · exact ws_self y1 x h
  have hrun := vx_runSW (H := H) (locs := locs) (cells := cells) (slots := slots) (below := below) (meth := meth) (e := e) (g := F0 m p1 ls (vs'.reverse ++ st)) (rest := st) (As := vs') (Ts := WS) (own := own) ⟨hx, hb0, hml, hown, hts⟩ (hM ad vs vs' hp hp' r hf hfr hlen hcat) (vx_cwSW n hts hG rfl rfl rfl ⟨y3, y4, y5⟩ ⟨hR1, hR2⟩) ⟨blindX, preX henv hR.1⟩ rfl (hfr.1.symm.trans hlen) hls rfl (show 2 * 0 + _ ≤ 8 from by have : stW st ≤ w := hst0; unfold stW at this; omega) hd ⟨hc, hs⟩
  exact ⟨_, va_Run.vx hrun⟩
