/-- a call at p1 runs f -/
def Rn (Γ : Ct) (cc : ByteArray) (p1 w n : Nat) (rm : Room) (f : MX) : Prop := Γ.2.2.2.2.1.2 ≠ 200 ∧ (OKc Γ cc →
  ∀ (ls : Array Slot) (st : List Value) (hp : Hp) (H : Heap) (locs : List Loc) (cells slots : Nat) (ad : List Nat) (vs vs' : List Value) (hp' : Hp) (r : Option Value ⊕ String), f vs hp = some (hp', r) → FR Γ.2.2.1 ad vs vs' → vs.length = n → (∀ v ∈ vs, v ≠ .null ∧ v.category = 1) → GR Γ ad hp H locs → stW st ≤ w → ls.size = Γ.2.2.2.2.1.1 → cells + rm.cells ≤ (Rm Γ).cells → slots + rm.slots ≤ (Rm Γ).slots →
  ∃ a, vx_Run Γ.1.1 Γ.1.2.1 Γ.1.2.2.1 Γ.1.2.2.2.1 Γ.1.2.2.2.2 Γ.2.1.1 Γ.2.1.2.1 Γ.2.1.2.2.1 Γ.2.1.2.2.2.1 Γ.2.1.2.2.2.2 H locs cells slots rm.cells rm.slots (F0 Γ.2.1.1 p1 ls (vs'.reverse ++ st)) st (cQc Γ.2.2.1 ad (fun h x => h = hp' ∧ x = r) a) (cXC Γ.2.2.1 ad (fun h x => h = hp' ∧ x = r)) (gA Γ.2.2.1))
section Runs
variable {Γ : Ct} {cc : ByteArray} {pc p1 p2 w n k1 n1 : Nat} {as : AX} {f : MX} {rm : Room} {y : MethodName} {bytes : ByteArray} {maxL idx : Nat} {ret : Option FieldType}
theorem ws_self {y : Cond} (h : y ∈ WS) : GoodIn WS (y :: WS) := fun w hw => (List.mem_cons.mp hw).elim (fun e => ⟨e ▸ h, e ▸ ws_good h⟩) (fun h' => ⟨h', ws_good h'⟩)
theorem Rn_S (hY : Yk y bytes maxL ret n) (hM : MetX Γ.1.2.1 Γ.2.2.1 y bytes maxL ret n rm f) (hl : Cond.methodLink Γ.2.2.2.1 idx y ∈ WS) (hst : Cond.static y ∈ WS) (hd : decode cc p1 = .ok (.invokestatic idx, 3)) (hR1 : rm.frames + 1 ≤ (Rm Γ).frames) (hR2 : 8 + (maxL + 11) + rm.locals ≤ (Rm Γ).locals) (hw : w ≤ 8) (hj : Γ.2.2.2.2.1.2 ≠ 200) : Rn Γ cc p1 w n rm f := by
  refine ⟨hj, ?_⟩
  intro hok ls st hp H locs cells slots ad vs vs' hp' r hf hfr hlen hcat hR hst0 hls hc hs
  obtain ⟨⟨p, l, e, R, s⟩, ⟨m, args, below, meth, c⟩, g, own, ⟨nL, jl⟩, Fin, ad0⟩ := Γ
  obtain ⟨hx, hb0, hml, hown, hts, henv, hlk, htb⟩ := hok
  obtain ⟨y1, y2, y3, y4, y5⟩ := hY
  exact ⟨_, vx_runS (Ts := WS) (own := own) ⟨hx, hb0, hml, hown, hts⟩ (hM ad vs vs' hp hp' r hf hfr hlen hcat) ⟨callB_of n hts (ws_self y1) rfl rfl rfl (hts _ y2) (hts _ hl) ⟨y3, y4, y5⟩ ⟨hR1, hR2⟩, hts _ hst⟩ ⟨blindX, preX henv hR.1⟩ rfl (hfr.1.symm.trans hlen) hls rfl (show 2 * 0 + _ ≤ 8 from by have : stW st ≤ w := hst0; unfold stW at this; omega) hd ⟨hc, hs⟩⟩
theorem Rn_SN {host : String} (hY : Yk y bytes maxL ret n) (hM : MetX Γ.1.2.1 Γ.2.2.1 y bytes maxL ret n rm f) (hnt : ∀ vs hp hp' E, f vs hp ≠ some (hp', .inr E)) (hl : Cond.methodLinkNest Γ.2.2.2.1 idx y host ∈ WN) (hst : Cond.static y ∈ WS) (hd : decode cc p1 = .ok (.invokestatic idx, 3)) (hR1 : rm.frames + 1 ≤ (Rm Γ).frames) (hR2 : 8 + (maxL + 11) + rm.locals ≤ (Rm Γ).locals) (hw : w ≤ 8) (hj : Γ.2.2.2.2.1.2 ≠ 200) : Rn Γ cc p1 w n rm f := by
  refine ⟨hj, ?_⟩
  intro hok ls st hp H locs cells slots ad vs vs' hp' r hf hfr hlen hcat hR hst0 hls hc hs
  obtain ⟨⟨p, l, e, R, s⟩, ⟨m, args, below, meth, c⟩, g, own, ⟨nL, jl⟩, Fin, ad0⟩ := Γ
  obtain ⟨hx, hb0, hml, hown, hts, henv, hlk, htb⟩ := hok
  obtain ⟨y1, y2, y3, y4, y5⟩ := hY
  rcases r with rv | E
  rotate_left
  · exact absurd hf (hnt _ _ _ _)
  have hC : va_CN R s args own idx y host bytes maxL ret (Cond.code y bytes maxL ret :: WS) rm rm.cells rm.slots n := va_cnB n hts (ws_self y1) rfl rfl rfl (henv.2.2.2.2.2.1 _ hl) (hts _ y2) ⟨y3, y4, y5⟩ ⟨hR1, hR2⟩
  have hrun := va_runSN (H := H) (locs := locs) (cells := cells) (slots := slots) (below := below) (meth := meth) (e := e) (g := F0 m p1 ls (vs'.reverse ++ st)) (rest := st) (As := vs') (Ts := WS) (own := own) ⟨hx, hb0, hml, hown, hts⟩ (hM.met hf hfr hlen hcat) ⟨hC, hts _ hst, trivial⟩ ⟨blindX, preX henv hR.1⟩ rfl (hfr.1.symm.trans hlen) hls rfl (show 2 * 0 + _ ≤ 8 from by have : stW st ≤ w := hst0; unfold stW at this; omega) hd ⟨hc, hs⟩
  exact ⟨_, va_Run.vx hrun⟩
theorem rcv_some {ci : Nat} {vs : List Value} {h : Hp} (q : rcv ci vs h = true) : ∃ (b : Nat) (as : List Value) (fs : List Value), vs = .ref b :: as ∧ h.2 b = .inr (ci, fs) := by
  unfold rcv at q
  split at q
  · rename_i b as
    split at q
    · rename_i c fs hq
      have := eq_of_beq q
      subst this
      exact ⟨b, as, fs, rfl, hq⟩
    · cases q
  · cases q
theorem Rn_V {ci : Nat} {C : String} {T : u_T} {N : Nat} {f0 : MX} (hk : kls[ci]? = some (C, T, N)) (hyC : y.cls = C) (hY : Yk y bytes maxL ret n) (hM : MetX Γ.1.2.1 Γ.2.2.1 y bytes maxL ret (n + 1) rm f0) (hl : Cond.methodLink Γ.2.2.2.1 idx y ∈ WS) (hin : Cond.instanceMethod y ∈ WS) (hse : Cond.selects C y y ∈ WS) (hd : decode cc p1 = .ok (.invokevirtual idx, 3)) (hR1 : rm.frames + 1 ≤ (Rm Γ).frames) (hR2 : 8 + (maxL + 11) + rm.locals ≤ (Rm Γ).locals) (hw : w ≤ 8) (hj : Γ.2.2.2.2.1.2 ≠ 200) : Rn Γ cc p1 w (n + 1) rm (gd ci f0) := by
  refine ⟨hj, ?_⟩
  intro hok ls st hp H locs cells slots ad vs vs' hp' r hf hfr hlen hcat hR hst0 hls hc hs
  obtain ⟨⟨p, l, e, R, s⟩, ⟨m, args, below, meth, c⟩, g, own, ⟨nL, jl⟩, Fin, ad0⟩ := Γ
  obtain ⟨hx, hb0, hml, hown, hts, henv, hlk, htb⟩ := hok
  obtain ⟨y1, y2, y3, y4, y5⟩ := hY
  unfold gd at hf
  split at hf
  rotate_left
  · cases hf
  rename_i hrc
  obtain ⟨b, as, fs, rfl, ho⟩ := rcv_some hrc
  have hfr0 := hfr
  obtain ⟨v', q1, q2⟩ := hfr.at (k := 0) (v := .ref b) rfl
  obtain ⟨ab, q3, rfl⟩ := q2
  cases vs' with
  | nil => cases q1
  | cons w0 as' =>
    cases q1
    obtain ⟨ws, fs', h1, h2, h3, h4, h5, h6, h7, h8, h9⟩ := hR.1.1.obj q3 ho
    have hrv := va_recv henv.2.2.1 h1 hk h8
    have hn' : as'.length = n := by have := hfr.1; simp at this hlen; omega
    refine ⟨_, vx_runV (Ts := WS) (own := own) (C := C) (As := as') (b := ab) ⟨hx, hb0, hml, hown, hts⟩ (hM ad _ _ hp hp' r hf hfr0 hlen hcat) ⟨callB_of n hts (ws_self y1) rfl rfl rfl (hts _ y2) (hts _ hl) ⟨y3, y4, y5⟩ ⟨hR1, hR2⟩, hts _ hin, hts _ hse⟩ ⟨blindX, hrv, preX henv hR.1⟩ rfl hn' hls ?_ (show 2 * 0 + _ ≤ 8 from by have : stW st ≤ w := hst0; unfold stW at this; omega) hd ⟨hc, hs⟩⟩
    show (Value.ref ab :: as').reverse ++ st = as'.reverse ++ .ref ab :: st
    simp
theorem eM_cases {l : Lc} {h h' : Hp} {vs : List Value} {r : Int32 ⊕ String} (q : (match f vs h with
  | some (h, .inl (some (.int x))) => (some (h, .inl x) : RE Int32)
  | some (h, .inr E) => some (h, .inr E)
  | _ => none) = some (h', r)) : (∃ x, f vs h = some (h', .inl (some (.int x))) ∧ r = .inl x) ∨ ∃ E, f vs h = some (h', .inr E) ∧ r = .inr E := by
  split at q
  · rename_i e
    cases q
    exact Or.inl ⟨_, e, rfl⟩
  · rename_i e
    cases q
    exact Or.inr ⟨_, e, rfl⟩
  · cases q
theorem Ev_call (ha : Av Γ cc pc p1 w n k1 n1 as) (hr : Rn Γ cc p1 w n rm f) : Ev Γ cc Value.int pc (p1 + 3) w (k1 + rm.cells) (n1 + rm.slots) (eM f as) := by
  intro hok ls lc st hp H locs cells slots c1 s1 ad hL hR hw b1 b2 b3 b4 hp' r hf hk
  rcases eB_cases hf with ⟨h1, vs, e1, e2⟩ | ⟨E, e1, e2⟩
  · refine ha hok ls lc st hp H locs cells slots (cells + k1) (slots + n1) ad hL hR hw (Nat.le_refl _) (by omega) (Nat.le_refl _) (by omega) h1 (.inl vs) e1 fun ad1 vs' H1 locs1 q1 q2 q3 q4 q5 q6 => ?_
    rcases eM_cases (l := lc) e2 with ⟨x, e3, rfl⟩ | ⟨E, e3, rfl⟩
    · obtain ⟨a, hrun⟩ := hr.2 hok ls st h1 H1 locs1 (cells + k1) (slots + n1) ad1 vs vs' hp' _ e3 q2 q3 q4 q6 hw hL.1 (by omega) (by omega)
      obtain ⟨⟨p, l, e, R, s⟩, ⟨m, args, below, meth, c⟩, g, own, ⟨nL, jl⟩, Fin, ad0⟩ := Γ
      refine run_core hok hrun q6 (Nat.le_trans (by omega) b2) (Nat.le_trans (by omega) b4) hr.1 (fun rv z ad' H' locs' u1 u2 => ?_) (fun E z => by cases z)
      cases z
      exact GW.widen (by omega) (by omega) (hk ad' _ H' locs' (q1.tr u1) rfl u2)
    · obtain ⟨a, hrun⟩ := hr.2 hok ls st h1 H1 locs1 (cells + k1) (slots + n1) ad1 vs vs' hp' _ e3 q2 q3 q4 q6 hw hL.1 (by omega) (by omega)
      obtain ⟨⟨p, l, e, R, s⟩, ⟨m, args, below, meth, c⟩, g, own, ⟨nL, jl⟩, Fin, ad0⟩ := Γ
      refine run_core hok hrun q6 (Nat.le_trans (by omega) b2) (Nat.le_trans (by omega) b4) hr.1 (fun rv z => by cases z) (fun E z => by cases z; exact hk)
  · subst e2
    exact ha hok ls lc st hp H locs cells slots (cells + k1) (slots + n1) ad hL hR hw (Nat.le_refl _) (by omega) (Nat.le_refl _) (by omega) hp' (.inr E) e1 hk
theorem sM_cases {l : Lc} {h h' : Hp} {vs : List Value} {r : Lc ⊕ (Option Value ⊕ String)} (q : (match f vs h with
  | some (h, .inl none) => (some (h, .inl l) : RS)
  | some (h, .inr E) => some (h, .inr (.inr E))
  | _ => none) = some (h', r)) : (f vs h = some (h', .inl none) ∧ r = .inl l) ∨ ∃ E, f vs h = some (h', .inr E) ∧ r = .inr (.inr E) := by
  split at q
  · rename_i e
    cases q
    exact Or.inl ⟨e, rfl⟩
  · rename_i e
    cases q
    exact Or.inr ⟨_, e, rfl⟩
  · cases q
theorem sMp_cases {l : Lc} {h h' : Hp} {vs : List Value} {r : Lc ⊕ (Option Value ⊕ String)} (q : (match f vs h with
  | some (h, .inl (some (.int _))) => (some (h, .inl l) : RS)
  | some (h, .inr E) => some (h, .inr (.inr E))
  | _ => none) = some (h', r)) : (∃ x, f vs h = some (h', .inl (some (.int x))) ∧ r = .inl l) ∨ ∃ E, f vs h = some (h', .inr E) ∧ r = .inr (.inr E) := by
  split at q
  · rename_i e
    cases q
    exact Or.inl ⟨_, e, rfl⟩
  · rename_i e
    cases q
    exact Or.inr ⟨_, e, rfl⟩
  · cases q
theorem Sv_call (ha : Av Γ cc pc p1 0 n k1 n1 as) (hr : Rn Γ cc p1 0 n rm f) : Sv Γ cc pc (p1 + 3) (k1 + rm.cells) (n1 + rm.slots) (sM f as) := by
  intro hok ls lc hp H locs cells slots c1 s1 ad hL hR b1 b2 b3 b4 hp' r hf hk
  have hw : stW [] ≤ 0 := Nat.le_refl 0
  rcases eS_cases hf with ⟨h1, vs, e1, e2⟩ | ⟨E, e1, e2⟩
  · refine ha hok ls lc [] hp H locs cells slots (cells + k1) (slots + n1) ad hL hR hw (Nat.le_refl _) (by omega) (Nat.le_refl _) (by omega) h1 (.inl vs) e1 fun ad1 vs' H1 locs1 q1 q2 q3 q4 q5 q6 => ?_
    rcases sM_cases e2 with ⟨e3, rfl⟩ | ⟨E, e3, rfl⟩
    · obtain ⟨a, hrun⟩ := hr.2 hok ls [] h1 H1 locs1 (cells + k1) (slots + n1) ad1 vs vs' hp' _ e3 q2 q3 q4 q6 hw hL.1 (by omega) (by omega)
      obtain ⟨⟨p, l, e, R, s⟩, ⟨m, args, below, meth, c⟩, g, own, ⟨nL, jl⟩, Fin, ad0⟩ := Γ
      refine run_core hok hrun q6 (Nat.le_trans (by omega) b2) (Nat.le_trans (by omega) b4) hr.1 (fun rv z ad' H' locs' u1 u2 => ?_) (fun E z => by cases z)
      cases z
      exact GW.widen (by omega) (by omega) (hk ad' ls H' locs' (q1.tr u1) ((hL.mono q1).mono u1) u2)
    · obtain ⟨a, hrun⟩ := hr.2 hok ls [] h1 H1 locs1 (cells + k1) (slots + n1) ad1 vs vs' hp' _ e3 q2 q3 q4 q6 hw hL.1 (by omega) (by omega)
      obtain ⟨⟨p, l, e, R, s⟩, ⟨m, args, below, meth, c⟩, g, own, ⟨nL, jl⟩, Fin, ad0⟩ := Γ
      refine run_core hok hrun q6 (Nat.le_trans (by omega) b2) (Nat.le_trans (by omega) b4) hr.1 (fun rv z => by cases z) (fun E z => by cases z; exact hk)
  · subst e2
    exact ha hok ls lc [] hp H locs cells slots (cells + k1) (slots + n1) ad hL hR hw (Nat.le_refl _) (by omega) (Nat.le_refl _) (by omega) hp' (.inr E) e1 hk
theorem Sv_callp (ha : Av Γ cc pc p1 0 n k1 n1 as) (hr : Rn Γ cc p1 0 n rm f) (hd : decode cc (p1 + 3) = .ok (.pop, 1)) : Sv Γ cc pc (p1 + 4) (k1 + rm.cells) (n1 + rm.slots) (sMp f as) := by
  intro hok ls lc hp H locs cells slots c1 s1 ad hL hR b1 b2 b3 b4 hp' r hf hk
  have hw : stW [] ≤ 0 := Nat.le_refl 0
  rcases eS_cases hf with ⟨h1, vs, e1, e2⟩ | ⟨E, e1, e2⟩
  · refine ha hok ls lc [] hp H locs cells slots (cells + k1) (slots + n1) ad hL hR hw (Nat.le_refl _) (by omega) (Nat.le_refl _) (by omega) h1 (.inl vs) e1 fun ad1 vs' H1 locs1 q1 q2 q3 q4 q5 q6 => ?_
    rcases sMp_cases e2 with ⟨x, e3, rfl⟩ | ⟨E, e3, rfl⟩
    · obtain ⟨a, hrun⟩ := hr.2 hok ls [] h1 H1 locs1 (cells + k1) (slots + n1) ad1 vs vs' hp' _ e3 q2 q3 q4 q6 hw hL.1 (by omega) (by omega)
      obtain ⟨⟨p, l, e, R, s⟩, ⟨m, args, below, meth, c⟩, g, own, ⟨nL, jl⟩, Fin, ad0⟩ := Γ
      refine run_core hok hrun q6 (Nat.le_trans (by omega) b2) (Nat.le_trans (by omega) b4) hr.1 (fun rv z ad' H' locs' u1 u2 => ?_) (fun E z => by cases z)
      cases z
      exact lv_pop hok.1 hok.2.1 hd rfl (W.widen (by omega) (by omega) (hk ad' ls H' locs' (q1.tr u1) ((hL.mono q1).mono u1) u2))
    · obtain ⟨a, hrun⟩ := hr.2 hok ls [] h1 H1 locs1 (cells + k1) (slots + n1) ad1 vs vs' hp' _ e3 q2 q3 q4 q6 hw hL.1 (by omega) (by omega)
      obtain ⟨⟨p, l, e, R, s⟩, ⟨m, args, below, meth, c⟩, g, own, ⟨nL, jl⟩, Fin, ad0⟩ := Γ
      refine run_core hok hrun q6 (Nat.le_trans (by omega) b2) (Nat.le_trans (by omega) b4) hr.1 (fun rv z => by cases z) (fun E z => by cases z; exact hk)
  · subst e2
    exact ha hok ls lc [] hp H locs cells slots (cells + k1) (slots + n1) ad hL hR hw (Nat.le_refl _) (by omega) (Nat.le_refl _) (by omega) hp' (.inr E) e1 hk
end Runs
