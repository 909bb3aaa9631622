/-! NEW THINGS; System.arraycopy; Object's constructor -/
def hal (h : Hp) (o : Ob) : Hp := (h.1 + 1, fun j => if j = h.1 then o else h.2 j)
def eNw (ci : Nat) (fs : List Value) (m : MX) : EXa := fun _ h => if h.1 < RO then (match m [.ref h.1] (hal h (.inr (ci, fs))) with
  | some (h', .inl none) => some (h', .inl h.1)
  | _ => none) else none
def eNi (t N : Nat) : EXa := fun _ h => if h.1 < RO then some (hal h (.inl (t, N, .inl fun _ => 0)), .inl h.1) else none
def eNl (N : Nat) : EXa := fun _ h => if h.1 < RO then some (hal h (.inl (1, N, .inr (.inl fun _ => 0))), .inl h.1) else none
def eNq (N : Nat) : EXa := fun _ h => if h.1 < RO then some (hal h (.inl (4, N, .inr (.inr (.inr (.inr fun _ => none))))), .inl h.1) else none
def sO : SX := fun l h => match (l[0]? : Option Value) with
  | some (Value.ref _) => some (h, .inl l)
  | _ => none
def cpy : MX := fun vs h => match vs with
  | [.ref a0, .int sp, .ref a, .int dp, .int n] => (match h.2 a0, h.2 a with
    | .inl (t0, n0, .inl f), .inl (t1, n1, .inl g) => if t0 = 0 ∧ t1 = 0 ∧ 0 ≤ sp ∧ 0 ≤ dp ∧ 0 ≤ n ∧ sp.toNatClampNeg + n.toNatClampNeg ≤ n0 ∧ dp.toNatClampNeg + n.toNatClampNeg ≤ n1 then some (hup h a (.inl (0, n1, .inl (va_cpy f g sp.toNatClampNeg dp.toNatClampNeg n.toNatClampNeg))), .inl none) else none
    | _, _ => none)
  | _ => none
theorem AE.push {ad : List Nat} {q : Nat} : AE ad (ad ++ [q]) := fun i a h => by rw [List.getElem?_append_left (List.getElem?_eq_some_iff.mp h).1]; exact h
theorem HW.push {g : GE} {s : State} {ad : List Nat} {hp : Hp} {H1 : Heap} {ws : va_W} {q : Nat} {e : va_E} {o : Ob} (h3 : ws.map Prod.fst = ad) (h4 : hp.1 = ad.length) (h6 : ∀ (i : Nat) (q : Nat × va_E), ws[i]? = some q → OR g s ad (hp.2 i) q.2) (h7 : ∀ k, hp.2 (RO + k) = roOb g k) (hlt : hp.1 < RO)
    (hP : va_P g.1 kls (ws ++ [(q, e)]) H1) (hD : va_D (gA g) (ws ++ [(q, e)])) (ho : OR g s (ad ++ [q]) o e) : HW g s (ad ++ [q]) (hal hp o) H1 := by
  have hw : ws.length = ad.length := by rw [← h3]; simp
  refine ⟨ws ++ [(q, e)], hP, hD, by rw [List.map_append, h3]; rfl, by show hp.1 + 1 = _; rw [h4]; simp, hlt, fun j x hx => ?_, fun k => ?_⟩
  · show OR g s (ad ++ [q]) (if j = hp.1 then o else hp.2 j) x.2
    by_cases hj : j < ws.length
    · rw [List.getElem?_append_left hj] at hx
      rw [if_neg (by omega)]
      exact (h6 j x hx).mono AE.push
    · rw [List.getElem?_append_right (by omega)] at hx
      have hz : j - ws.length < 1 := (List.getElem?_eq_some_iff.mp hx).1
      rw [show j - ws.length = 0 by omega] at hx
      cases hx
      rw [if_pos (by omega)]
      exact ho
  · show (if RO + k = hp.1 then o else hp.2 (RO + k)) = _
    rw [if_neg (by omega)]; exact h7 k
theorem vAd.new {g : GE} {ad : List Nat} {q n : Nat} (h4 : n = ad.length) (hlt : n < RO) : vAd g (ad ++ [q]) n = some q := by
  unfold vAd
  rw [if_pos hlt, h4, List.getElem?_append_right (Nat.le_refl _), Nat.sub_self]
  rfl
section News
variable {Γ : Ct} {cc : ByteArray} {pc p1 p2 w n k1 n1 : Nat} {as : AX} {f : MX} {rm : Room} {y : MethodName} {bytes : ByteArray} {maxL idx ik : Nat} {ci N : Nat} {C host : String} {T : u_T} {ty : Nat → FieldType} {fs : List Value}
/-- a constructor without arguments, called at p1 -/
def Ri (Γ : Ct) (cc : ByteArray) (p1 w : Nat) (rm : Room) (f : MX) : Prop := Γ.2.2.2.2.1.2 ≠ 200 ∧ (OKc Γ cc →
  ∀ (ls : Array Slot) (st : List Value) (hp : Hp) (H : Heap) (locs : List Loc) (cells slots : Nat) (ad : List Nat) (b ab : Nat) (hp' : Hp), f [.ref b] hp = some (hp', .inl none) → vAd Γ.2.2.1 ad b = some ab → GR Γ ad hp H locs → stW st ≤ w → ls.size = Γ.2.2.2.2.1.1 → cells + rm.cells ≤ (Rm Γ).cells → slots + rm.slots ≤ (Rm Γ).slots →
  ∃ a, vx_Run Γ.1.1 Γ.1.2.1 Γ.1.2.2.1 Γ.1.2.2.2.1 Γ.1.2.2.2.2 Γ.2.1.1 Γ.2.1.2.1 Γ.2.1.2.2.1 Γ.2.1.2.2.2.1 Γ.2.1.2.2.2.2 H locs cells slots rm.cells rm.slots (F0 Γ.2.1.1 p1 ls (.ref ab :: st)) st (cQc Γ.2.2.1 ad (fun h x => h = hp' ∧ x = .inl none) a) (cXC Γ.2.2.1 ad (fun h x => h = hp' ∧ x = .inl none)) (gA Γ.2.2.1))
theorem FR.one {g : GE} {ad : List Nat} {b ab : Nat} (h : vAd g ad b = some ab) : FR g ad [.ref b] [.ref ab] := FR.nil.snoc ⟨ab, h, rfl⟩
theorem cat_one {b : Nat} : ∀ v ∈ [Value.ref b], v ≠ .null ∧ v.category = 1 := fun v hv => by rw [List.mem_singleton.mp hv]; exact ⟨(fun z => by cases z), rfl⟩
theorem Ri_I (hY : Yk y bytes maxL none 0) (hM : MetX Γ.1.2.1 Γ.2.2.1 y bytes maxL none 1 rm f) (hl : Cond.methodLink Γ.2.2.2.1 idx y ∈ WS) (hin : Cond.instanceMethod y ∈ WS) (hyn : y.name = "<init>") (hd : decode cc p1 = .ok (.invokespecial idx, 3)) (hR1 : rm.frames + 1 ≤ (Rm Γ).frames) (hR2 : 8 + (maxL + 11) + rm.locals ≤ (Rm Γ).locals) (hw : w ≤ 8) (hj : Γ.2.2.2.2.1.2 ≠ 200) : Ri Γ cc p1 w rm f := by
  refine ⟨hj, ?_⟩
  intro hok ls st hp H locs cells slots ad b ab hp' hf hv hR hst0 hls hc hs
  obtain ⟨⟨p, l, e, R, s⟩, ⟨m, args, below, meth, c⟩, g, own, ⟨nL, jl⟩, Fin, ad0⟩ := Γ
  obtain ⟨hx, hb0, hml, hown, hts, henv, hlk, htb⟩ := hok
  obtain ⟨y1, y2, y3, y4, y5⟩ := hY
  have hrun := va_runI (H := H) (locs := locs) (cells := cells) (slots := slots) (below := below) (meth := meth) (e := e) (g := F0 m p1 ls (.ref ab :: st)) (rest := st) (As := []) (b := ab) (Ts := WS) (own := own) ⟨hx, hb0, hml, hown, hts⟩ (hM.met hf (FR.one hv) rfl cat_one) ⟨callB_of 0 hts (ws_self y1) rfl rfl rfl (hts _ y2) (hts _ hl) ⟨y3, y4, y5⟩ ⟨hR1, hR2⟩, hyn, hts _ hin⟩ ⟨blindX, preX henv hR.1⟩ rfl rfl hls rfl (show 2 * 0 + _ ≤ 8 from by have : stW st ≤ w := hst0; unfold stW at this; omega) hd ⟨hc, hs⟩
  exact ⟨_, va_Run.vx hrun⟩
theorem Ri_IN (hY : Yk y bytes maxL none 0) (hM : MetX Γ.1.2.1 Γ.2.2.1 y bytes maxL none 1 rm f) (hl : Cond.methodLinkNest Γ.2.2.2.1 idx y host ∈ WN) (hin : Cond.instanceMethod y ∈ WS) (hyn : y.name = "<init>") (hd : decode cc p1 = .ok (.invokespecial idx, 3)) (hR1 : rm.frames + 1 ≤ (Rm Γ).frames) (hR2 : 8 + (maxL + 11) + rm.locals ≤ (Rm Γ).locals) (hw : w ≤ 8) (hj : Γ.2.2.2.2.1.2 ≠ 200) : Ri Γ cc p1 w rm f := by
  refine ⟨hj, ?_⟩
  intro hok ls st hp H locs cells slots ad b ab hp' hf hv hR hst0 hls hc hs
  obtain ⟨⟨p, l, e, R, s⟩, ⟨m, args, below, meth, c⟩, g, own, ⟨nL, jl⟩, Fin, ad0⟩ := Γ
  obtain ⟨hx, hb0, hml, hown, hts, henv, hlk, htb⟩ := hok
  obtain ⟨y1, y2, y3, y4, y5⟩ := hY
  have hC : va_CN R s args own idx y host bytes maxL none (Cond.code y bytes maxL none :: WS) rm rm.cells rm.slots 0 := va_cnB 0 hts (ws_self y1) rfl rfl rfl (henv.2.2.2.2.2.1 _ hl) (hts _ y2) ⟨y3, y4, y5⟩ ⟨hR1, hR2⟩
  have hrun := va_runIN (H := H) (locs := locs) (cells := cells) (slots := slots) (below := below) (meth := meth) (e := e) (g := F0 m p1 ls (.ref ab :: st)) (rest := st) (As := []) (b := ab) (Ts := WS) (own := own) ⟨hx, hb0, hml, hown, hts⟩ (hM.met hf (FR.one hv) rfl cat_one) ⟨hC, hyn, hts _ hin⟩ ⟨blindX, preX henv hR.1⟩ rfl rfl hls rfl (show 2 * 0 + _ ≤ 8 from by have : stW st ≤ w := hst0; unfold stW at this; omega) hd ⟨hc, hs⟩
  exact ⟨_, va_Run.vx hrun⟩
theorem FR.same {g : GE} {ad : List Nat} {fs : List Value} (h : ∀ v ∈ fs, v = .null ∨ ∃ x, v = .int x) : FR g ad fs fs := by
  refine ⟨rfl, fun k v v' h1 h2 => ?_⟩
  cases h1.symm.trans h2
  rcases h v (List.mem_of_getElem? h1) with rfl | ⟨x, rfl⟩
  · trivial
  · rfl
theorem Ev_new (hF : Fk ci C T N ty) (hcl : Cond.classLink Γ.2.2.2.1 ik C ∈ WS) (hinst : Cond.instantiable C N ∈ WS) (hini : Cond.initialized C ∈ WS) (hfs : ∀ j, j < N → defaultValue (ty j) = vp_V fs j) (hfv : ∀ v ∈ fs, v = .null ∨ ∃ x, v = .int x)
    (d0 : decode cc pc = .ok (.new ik, 3)) (d3 : decode cc (pc + 3) = .ok (.dup, 1)) (hr : Ri Γ cc (pc + 4) (w + 1) rm f) : Ev Γ cc Value.ref pc (pc + 7) w (1 + rm.cells) (N + rm.slots) (eNw ci fs f) := by
  intro hok ls lc st hp H locs cells slots c1 s1 ad hL hR hw b1 b2 b3 b4 hp' r hf hk
  unfold eNw at hf
  split at hf
  rotate_left
  · cases hf
  rename_i hlt
  split at hf
  rotate_left
  · cases hf
  rename_i h' e1
  cases hf
  have hok0 := hok
  have hr1 := hr.2 hok ls
  obtain ⟨⟨p, l, e, R, s⟩, ⟨m, args, below, meth, c⟩, g, own, ⟨nL, jl⟩, Fin, ad0⟩ := Γ
  obtain ⟨hx, hb0, hml, hown, hts, henv, hlk, htb⟩ := hok
  obtain ⟨ws, h1, h2, h3, h4, h5, h6, h7⟩ := hR.1.1
  refine va_new hx hb0 hts hF.2.1 ty hF.2.2.1 hown (hts _ hcl) (hts _ hinst) (hts _ hini) henv.2.2.1 h1 h2 hR.1.2 henv.own hF.1 hfs (Nat.le_trans (by omega) b2) (Nat.le_trans (by omega) b4) d0 (fun q H1 u1 u2 u3 => ?_)
  have hHW := HW.push h3 h4 h6 h7 hlt u1 u2 (o := .inr (ci, fs)) ⟨rfl, FR.same hfv⟩
  refine lv_dup hx hb0 d3 rfl ?_
  have hv := vAd.new (g := g) (q := q) h4 hlt
  have hR1 : GR ((p, l, e, R, s), (m, args, below, meth, c), g, own, (nL, jl), Fin, ad0) (ad ++ [q]) (hal hp (.inr (ci, fs))) H1 locs := ⟨⟨hHW, u3⟩, hR.2.tr AE.push⟩
  obtain ⟨a, hrun⟩ := hr1 (.ref q :: st) _ H1 locs (cells + 1) (slots + N) (ad ++ [q]) hp.1 q hp' e1 hv hR1 (stW_a hw) hL.1 (Nat.le_trans (by omega) b2) (Nat.le_trans (by omega) b4)
  refine run_core hok0 hrun hR1 (Nat.le_trans (by omega) b2) (Nat.le_trans (by omega) b4) hr.1 (fun rv z ad' H' locs' v1 v2 => ?_) (fun E z => by cases z)
  cases z
  exact GW.widen (by omega) (by omega) (hk ad' _ H' locs' (AE.push.tr v1) ⟨q, vAd.mono v1 hv, rfl⟩ v2)
theorem Ev_newq {v : Int32} (hn : Ev Γ cc Value.int pc p1 w 0 0 (eI v)) (hv0 : ¬ v < 0) (hvN : v.toNatClampNeg = N) (hb9 : N * 4 ≤ 536870912) (hcl : Cond.classLink Γ.2.2.2.1 ik RX6 ∈ WS) (hd : decode cc p1 = .ok (.anewarray ik, 3)) : Ev Γ cc Value.ref pc (p1 + 3) w 1 N (eNq N) := by
  intro hok ls lc st hp H locs cells slots c1 s1 ad hL hR hw b1 b2 b3 b4 hp' r hf hk
  unfold eNq at hf
  split at hf
  rotate_left
  · cases hf
  rename_i hlt
  cases hf
  refine hn hok ls lc st hp H locs cells slots cells slots ad hL hR hw (by omega) (Nat.le_trans (by omega) b2) (by omega) (Nat.le_trans (by omega) b4) hp (.inl v) rfl fun ad1 v1 H1 locs1 q1 q2 q3 => ?_
  cases q2
  obtain ⟨⟨p, l, e, R, s⟩, ⟨m, args, below, meth, c⟩, g, own, ⟨nL, jl⟩, Fin, ad0⟩ := Γ
  obtain ⟨hx, hb0, hml, hown, hts, henv, hlk, htb⟩ := hok
  obtain ⟨ws, h1, h2, h3, h4, h5, h6, h7⟩ := q3.1.1
  refine va_newq hx hb0 hown (hts _ hcl) henv.2.2.2.2.2.2.2.2.2.2.1 henv.2.2.1 h1 h2 q3.1.2 henv.own hv0 hvN hb9 (Nat.le_trans (by omega) b2) (Nat.le_trans (by omega) b4) hd (fun q cA H2 u0 u1 u2 u3 => ?_)
  have hty := u0.2 0 _ rfl
  have hHW := HW.push h3 h4 h6 h7 hlt u1 u2 (o := .inl (4, N, .inr (.inr (.inr (.inr fun _ => none))))) ⟨⟨_, rfl, fun j i z => by cases z⟩, hty.1, hty.2⟩
  exact GW.widen (by omega) (by omega) (hk (ad1 ++ [q]) _ H2 locs1 (q1.tr AE.push) ⟨q, vAd.new h4 hlt, rfl⟩ ⟨⟨hHW, u3⟩, q3.2.tr AE.push⟩)
def o_abs : Int32 → Int32 := fun x => if 0 ≤ x then x else 0 - x
theorem Ev_abs {a : EXi} (ha : Ev Γ cc Value.int pc p1 w k1 n1 a) (hl : Cond.methodLink Γ.2.2.2.1 idx Lib.Math.abs.name ∈ WS) (hst : Cond.static Lib.Math.abs.name ∈ WS) (hini : Cond.initialized "java/lang/Math" ∈ WS) (hcd : Cond.code Lib.Math.abs.name Lib.Math.abs.code 1 (some .int) ∈ WS) (hd : decode cc p1 = .ok (.invokestatic idx, 3)) (hR1 : 1 ≤ (Rm Γ).frames) (hR2 : w + 13 ≤ (Rm Γ).locals) : Ev Γ cc Value.int pc (p1 + 3) w k1 n1 (eU o_abs a) := by
  intro hok ls lc st hp H locs cells slots c1 s1 ad hL hR hw b1 b2 b3 b4 hp' r hf hk
  have hE : ∀ E, r = .inr E → GF Γ hp' (.inr E) := fun E h => by subst h; exact hk
  refine ha.go hok hL hR hw (by omega) (by omega) hf hE fun g1 x ad1 v1 H1 locs1 e1 q1 q2 q3 => ?_
  cases q2
  cases e1
  have hw2 : (st.map fun v => v.category).sum + 13 ≤ (Rm Γ).locals := by unfold stW at hw; omega
  obtain ⟨⟨p, l, e, R, s⟩, ⟨m, args, below, meth, c⟩, g, own, ⟨nL, jl⟩, Fin, ad0⟩ := Γ
  obtain ⟨hx, hb0, hml, hown, hts, henv, hlk, htb⟩ := hok
  exact W.widen (k := c1) (n := s1) (by omega) (by omega) (va_mabs hx hb0 (hml.trans hL.1.symm) hown (hts _ hl) (hts _ hst) (hts _ hini) (hts _ hcd) hR1 hw2 b2 b4 hd (hk ad1 _ H1 locs1 q1 rfl q3))
/-- Object's constructor -/
theorem Sv_oinit (hl : Cond.methodLink Γ.2.2.2.1 idx objectInit ∈ WS) (hin : Cond.instanceMethod objectInit ∈ WS) (hcd : Cond.code objectInit ⟨#[0xb1]⟩ 1 none ∈ WS) (d0 : decode cc pc = .ok (.aload_n 0, 1)) (d1 : decode cc (pc + 1) = .ok (.invokespecial idx, 3)) (hR1 : 1 ≤ (Rm Γ).frames) (hR2 : 12 ≤ (Rm Γ).locals) : Sv Γ cc pc (pc + 4) 0 0 sO := by
  intro hok ls lc hp H locs cells slots c1 s1 ad hL hR b1 b2 b3 b4 hp' r hf hk9
  unfold sO at hf
  split at hf
  rotate_left
  · cases hf
  rename_i x e1
  cases hf
  obtain ⟨v', f1, f2⟩ := hL.2.2.2 _ _ e1 (by intro q; cases q)
  obtain ⟨a, f3, rfl⟩ := f2
  obtain ⟨⟨p, l, e, R, s⟩, ⟨m, args, below, meth, c⟩, g, own, ⟨nL, jl⟩, Fin, ad0⟩ := Γ
  obtain ⟨hx, hb0, hml, hown, hts, henv, hlk, htb⟩ := hok
  refine W.widen (k := c1) (n := s1) (by omega) (by omega) (lv_aload_n hx hb0 d0 rfl f1 ?_)
  exact W.objInit hx hb0 hown (hts _ hl) (hts _ hin) (hts _ hcd) rfl (hL.1.trans hml.symm) rfl d1 hR1 hR2 (W.eq (g2 := F0 m (pc + 4) ls []) rfl (hk9 ad ls H locs AE.rf hL hR))
theorem cpy_some {vs : List Value} {h h' : Hp} {r : Option Value ⊕ String} (q : cpy vs h = some (h', r)) : ∃ (a0 a n0 n1 : Nat) (sp dp n : Int32) (f g : Nat → Int32), vs = [.ref a0, .int sp, .ref a, .int dp, .int n] ∧ h.2 a0 = .inl (0, n0, .inl f) ∧ h.2 a = .inl (0, n1, .inl g) ∧ 0 ≤ sp ∧ 0 ≤ dp ∧ 0 ≤ n ∧ sp.toNatClampNeg + n.toNatClampNeg ≤ n0 ∧ dp.toNatClampNeg + n.toNatClampNeg ≤ n1 ∧ r = .inl none ∧ h' = hup h a (.inl (0, n1, .inl (va_cpy f g sp.toNatClampNeg dp.toNatClampNeg n.toNatClampNeg))) := by
  unfold cpy at q
  split at q
  · rename_i a0 sp a dp n
    split at q
    · rename_i t0 n0 f t1 n1 g hq1 hq2
      split at q
      · rename_i hc
        obtain ⟨rfl, rfl, hc1, hc2, hc3, hc4, hc5⟩ := hc
        cases q
        exact ⟨a0, a, n0, n1, sp, dp, n, f, g, rfl, hq1, hq2, hc1, hc2, hc3, hc4, hc5, rfl, rfl⟩
      · cases q
    · cases q
  · cases q
theorem Sv_copy (ha : Av Γ cc pc p1 0 5 k1 n1 as) (hl : Cond.methodLink Γ.2.2.2.1 idx arraycopyName ∈ WS) (hna : Cond.native arraycopyName ∈ WS) (hst : Cond.static arraycopyName ∈ WS) (hini : Cond.initialized "java/lang/System" ∈ WS) (hd : decode cc p1 = .ok (.invokestatic idx, 3)) (hR1 : 1 ≤ (Rm Γ).frames) (hR2 : nativeFrameWords "java/lang/System" "arraycopy" 5 + 11 ≤ (Rm Γ).locals) : Sv Γ cc pc (p1 + 3) k1 n1 (sM cpy as) := by
  intro hok ls lc hp H locs cells slots c1 s1 ad hL hR b1 b2 b3 b4 hp' r hf hk
  have hw : stW [] ≤ 0 := Nat.le_refl 0
  rcases eS_cases hf with ⟨h1, vs, e1, e2⟩ | ⟨E, e1, e2⟩
  · refine ha hok ls lc [] hp H locs cells slots c1 s1 ad hL hR hw (by omega) b2 (by omega) b4 h1 (.inl vs) e1 fun ad1 vs' H1 locs1 q1 q2 q3 q4 q5 q6 => ?_
    rcases sM_cases e2 with ⟨e3, rfl⟩ | ⟨E, e3, rfl⟩
    rotate_left
    · obtain ⟨a0, a, n0, n1, sp, dp, n, f, g, -, -, -, -, -, -, -, -, z, -⟩ := cpy_some e3
      cases z
    obtain ⟨a0, a, n0, n1, sp, dp, n, f, g0, rfl, f1, f2, f3, f4, f5, f6, f7, -, rfl⟩ := cpy_some e3
    match vs', q2 with
    | [], q2 => exact absurd q2.1 (by simp)
    | [_], q2 => exact absurd q2.1 (by simp)
    | [_, _], q2 => exact absurd q2.1 (by simp)
    | [_, _, _], q2 => exact absurd q2.1 (by simp)
    | [_, _, _, _], q2 => exact absurd q2.1 (by simp)
    | _ :: _ :: _ :: _ :: _ :: _ :: _, q2 => exact absurd q2.1 (by simp)
    | [v0, v1, v2, v3, v4], q2 =>
      obtain ⟨b0, g0', e0⟩ := q2.2 0 _ v0 rfl rfl
      have g1' : v1 = .int sp := q2.2 1 _ v1 rfl rfl
      obtain ⟨b2', g2', e2'⟩ := q2.2 2 _ v2 rfl rfl
      have g3' : v3 = .int dp := q2.2 3 _ v3 rfl rfl
      have g4' : v4 = .int n := q2.2 4 _ v4 rfl rfl
      subst e0; subst g1'; subst e2'; subst g3'; subst g4'
      obtain ⟨⟨p, l, e, R, s⟩, ⟨m, args, below, meth, c⟩, g, own, ⟨nL, jl⟩, Fin, ad0⟩ := Γ
      obtain ⟨hx, hb0, hml, hown, hts, henv, hlk, htb⟩ := hok
      obtain ⟨ws, cA, h1', h2, h3, h4, h5, h6, h7, h8, h9, h10, h11⟩ := q6.1.1.arr g2' f2 (by decide)
      have hz : ∃ e8, ws[a0]? = some (b0, e8) := by
        have halt : a0 < RO := by
          rcases Nat.lt_or_ge a0 RO with q | q
          · exact q
          · have := h7 (a0 - RO); rw [show RO + (a0 - RO) = a0 by omega, f1] at this; unfold roOb at this; injection this with this; injection this with this; cases this
        have t4 := g0'
        unfold vAd at t4
        rw [if_pos halt, ← h3, List.getElem?_map] at t4
        cases hq : ws[a0]? with
        | none => rw [hq] at t4; cases t4
        | some q => rw [hq] at t4; obtain ⟨q91, q92⟩ := q; cases t4; exact ⟨q92, rfl⟩
      obtain ⟨e8, hz⟩ := hz
      have hz2 := h6 a0 _ hz
      rw [f1] at hz2
      rcases e8 with ⟨cB, x1⟩ | ⟨ci', fs2⟩
      · obtain ⟨rfl, hz3, hz4, hz5⟩ := hz2
        have hK : va_K g.1 kls ([(cB, FieldType.int)] ++ [(cA, FieldType.int)]) s := (henv.2.2.1.one hz4 hz5).app (henv.2.2.1.one h10 h11)
        exact va_copyi (ty := .int) hx hb0 (hml.trans hL.1.symm) hown (hts _ hl) (hts _ hna) (hts _ hst) (hts _ hini) hK h1' h2 q6.1.2 a0 a 0 1 hz h8 rfl rfl rfl (i_len f3) (i_len f4) (i_len f5) f6 f7 (fun _ _ => rfl) hR1 hR2 hd (fun H4 locs4 u1 u2 u3 => hk ad1 ls H4 locs4 q1 (hL.mono q1) ⟨⟨HW.put h3 h4 h5 h6 h7 h8 u1 u2 ⟨rfl, h9, h10, h11⟩, u3⟩, q6.2⟩)
      · exact hz2.elim
  · subst e2
    exact ha hok ls lc [] hp H locs cells slots c1 s1 ad hL hR hw (by omega) b2 (by omega) b4 hp' (.inr E) e1 hk
theorem Ev_newa_int {v : Int32} (hn : Ev Γ cc Value.int pc p1 w 0 0 (eI v)) (hv0 : ¬ v < 0) (hvN : v.toNatClampNeg = N) (hb9 : N * 8 ≤ 536870912) (ha : Cond.arrayClass .int ∈ WS) (hd : decode cc p1 = .ok (.newarray .int, 2)) : Ev Γ cc Value.ref pc (p1 + 2) w 1 N (eNi 0 N) := by
  intro hok ls lc st hp H locs cells slots c1 s1 ad hL hR hw b1 b2 b3 b4 hp' r hf hk
  unfold eNi at hf
  split at hf
  rotate_left
  · cases hf
  rename_i hlt
  cases hf
  refine hn hok ls lc st hp H locs cells slots cells slots ad hL hR hw (by omega) (Nat.le_trans (by omega) b2) (by omega) (Nat.le_trans (by omega) b4) hp (.inl v) rfl fun ad1 v1 H1 locs1 q1 q2 q3 => ?_
  cases q2
  obtain ⟨⟨p, l, e, R, s⟩, ⟨m, args, below, meth, c⟩, g, own, ⟨nL, jl⟩, Fin, ad0⟩ := Γ
  obtain ⟨hx, hb0, hml, hown, hts, henv, hlk, htb⟩ := hok
  obtain ⟨ws, h1, h2, h3, h4, h5, h6, h7⟩ := q3.1.1
  refine va_newa (atype := .int) (ty := .int) (a0 := (N, .inl fun _ => 0)) hx hb0 (hts _ ha) rfl henv.2.2.1 h1 h2 q3.1.2 henv.own (fun _ => rfl) hv0 hvN (Nat.le_trans (Nat.mul_le_mul_left N (show componentBytes .int ≤ 8 by decide)) hb9) (Nat.le_trans (by omega) b2) (Nat.le_trans (by omega) b4) hd (fun q cA H2 u0 u1 u2 u3 => ?_)
  have hty := u0.2 0 _ rfl
  have hHW := HW.push h3 h4 h6 h7 hlt u1 u2 (o := .inl (0, N, .inl fun _ => 0)) ⟨rfl, (by decide), hty.1, hty.2⟩
  exact GW.widen (by omega) (by omega) (hk (ad1 ++ [q]) _ H2 locs1 (q1.tr AE.push) ⟨q, vAd.new h4 hlt, rfl⟩ ⟨⟨hHW, u3⟩, q3.2.tr AE.push⟩)
theorem Ev_newa_long {v : Int32} (hn : Ev Γ cc Value.int pc p1 w 0 0 (eI v)) (hv0 : ¬ v < 0) (hvN : v.toNatClampNeg = N) (hb9 : N * 8 ≤ 536870912) (ha : Cond.arrayClass .long ∈ WS) (hd : decode cc p1 = .ok (.newarray .long, 2)) : Ev Γ cc Value.ref pc (p1 + 2) w 1 N (eNl N) := by
  intro hok ls lc st hp H locs cells slots c1 s1 ad hL hR hw b1 b2 b3 b4 hp' r hf hk
  unfold eNl at hf
  split at hf
  rotate_left
  · cases hf
  rename_i hlt
  cases hf
  refine hn hok ls lc st hp H locs cells slots cells slots ad hL hR hw (by omega) (Nat.le_trans (by omega) b2) (by omega) (Nat.le_trans (by omega) b4) hp (.inl v) rfl fun ad1 v1 H1 locs1 q1 q2 q3 => ?_
  cases q2
  obtain ⟨⟨p, l, e, R, s⟩, ⟨m, args, below, meth, c⟩, g, own, ⟨nL, jl⟩, Fin, ad0⟩ := Γ
  obtain ⟨hx, hb0, hml, hown, hts, henv, hlk, htb⟩ := hok
  obtain ⟨ws, h1, h2, h3, h4, h5, h6, h7⟩ := q3.1.1
  refine va_newa (atype := .long) (ty := .long) (a0 := (N, .inr (.inl fun _ => 0))) hx hb0 (hts _ ha) rfl henv.2.2.1 h1 h2 q3.1.2 henv.own (fun _ => rfl) hv0 hvN (Nat.le_trans (Nat.mul_le_mul_left N (show componentBytes .long ≤ 8 by decide)) hb9) (Nat.le_trans (by omega) b2) (Nat.le_trans (by omega) b4) hd (fun q cA H2 u0 u1 u2 u3 => ?_)
  have hty := u0.2 0 _ rfl
  have hHW := HW.push h3 h4 h6 h7 hlt u1 u2 (o := .inl (1, N, .inr (.inl fun _ => 0))) ⟨rfl, hty.1, hty.2⟩
  exact GW.widen (by omega) (by omega) (hk (ad1 ++ [q]) _ H2 locs1 (q1.tr AE.push) ⟨q, vAd.new h4 hlt, rfl⟩ ⟨⟨hHW, u3⟩, q3.2.tr AE.push⟩)
theorem Ev_newa_boolean {v : Int32} (hn : Ev Γ cc Value.int pc p1 w 0 0 (eI v)) (hv0 : ¬ v < 0) (hvN : v.toNatClampNeg = N) (hb9 : N * 8 ≤ 536870912) (ha : Cond.arrayClass .boolean ∈ WS) (hd : decode cc p1 = .ok (.newarray .boolean, 2)) : Ev Γ cc Value.ref pc (p1 + 2) w 1 N (eNi 2 N) := by
  intro hok ls lc st hp H locs cells slots c1 s1 ad hL hR hw b1 b2 b3 b4 hp' r hf hk
  unfold eNi at hf
  split at hf
  rotate_left
  · cases hf
  rename_i hlt
  cases hf
  refine hn hok ls lc st hp H locs cells slots cells slots ad hL hR hw (by omega) (Nat.le_trans (by omega) b2) (by omega) (Nat.le_trans (by omega) b4) hp (.inl v) rfl fun ad1 v1 H1 locs1 q1 q2 q3 => ?_
  cases q2
  obtain ⟨⟨p, l, e, R, s⟩, ⟨m, args, below, meth, c⟩, g, own, ⟨nL, jl⟩, Fin, ad0⟩ := Γ
  obtain ⟨hx, hb0, hml, hown, hts, henv, hlk, htb⟩ := hok
  obtain ⟨ws, h1, h2, h3, h4, h5, h6, h7⟩ := q3.1.1
  refine va_newa (atype := .boolean) (ty := .boolean) (a0 := (N, .inl fun _ => 0)) hx hb0 (hts _ ha) rfl henv.2.2.1 h1 h2 q3.1.2 henv.own (fun _ => rfl) hv0 hvN (Nat.le_trans (Nat.mul_le_mul_left N (show componentBytes .boolean ≤ 8 by decide)) hb9) (Nat.le_trans (by omega) b2) (Nat.le_trans (by omega) b4) hd (fun q cA H2 u0 u1 u2 u3 => ?_)
  have hty := u0.2 0 _ rfl
  have hHW := HW.push h3 h4 h6 h7 hlt u1 u2 (o := .inl (2, N, .inl fun _ => 0)) ⟨rfl, (by decide), hty.1, hty.2⟩
  exact GW.widen (by omega) (by omega) (hk (ad1 ++ [q]) _ H2 locs1 (q1.tr AE.push) ⟨q, vAd.new h4 hlt, rfl⟩ ⟨⟨hHW, u3⟩, q3.2.tr AE.push⟩)
theorem Ev_newa_char {v : Int32} (hn : Ev Γ cc Value.int pc p1 w 0 0 (eI v)) (hv0 : ¬ v < 0) (hvN : v.toNatClampNeg = N) (hb9 : N * 8 ≤ 536870912) (ha : Cond.arrayClass .char ∈ WS) (hd : decode cc p1 = .ok (.newarray .char, 2)) : Ev Γ cc Value.ref pc (p1 + 2) w 1 N (eNi 3 N) := by
  intro hok ls lc st hp H locs cells slots c1 s1 ad hL hR hw b1 b2 b3 b4 hp' r hf hk
  unfold eNi at hf
  split at hf
  rotate_left
  · cases hf
  rename_i hlt
  cases hf
  refine hn hok ls lc st hp H locs cells slots cells slots ad hL hR hw (by omega) (Nat.le_trans (by omega) b2) (by omega) (Nat.le_trans (by omega) b4) hp (.inl v) rfl fun ad1 v1 H1 locs1 q1 q2 q3 => ?_
  cases q2
  obtain ⟨⟨p, l, e, R, s⟩, ⟨m, args, below, meth, c⟩, g, own, ⟨nL, jl⟩, Fin, ad0⟩ := Γ
  obtain ⟨hx, hb0, hml, hown, hts, henv, hlk, htb⟩ := hok
  obtain ⟨ws, h1, h2, h3, h4, h5, h6, h7⟩ := q3.1.1
  refine va_newa (atype := .char) (ty := .char) (a0 := (N, .inl fun _ => 0)) hx hb0 (hts _ ha) rfl henv.2.2.1 h1 h2 q3.1.2 henv.own (fun _ => rfl) hv0 hvN (Nat.le_trans (Nat.mul_le_mul_left N (show componentBytes .char ≤ 8 by decide)) hb9) (Nat.le_trans (by omega) b2) (Nat.le_trans (by omega) b4) hd (fun q cA H2 u0 u1 u2 u3 => ?_)
  have hty := u0.2 0 _ rfl
  have hHW := HW.push h3 h4 h6 h7 hlt u1 u2 (o := .inl (3, N, .inl fun _ => 0)) ⟨rfl, (by decide), hty.1, hty.2⟩
  exact GW.widen (by omega) (by omega) (hk (ad1 ++ [q]) _ H2 locs1 (q1.tr AE.push) ⟨q, vAd.new h4 hlt, rfl⟩ ⟨⟨hHW, u3⟩, q3.2.tr AE.push⟩)
end News
/-! what never throws -/
def nxE {α : Type} (f : Lc → Hp → RE α) : Prop := ∀ (l : Lc) (h h' : Hp) (E : String), f l h ≠ some (h', .inr E)
theorem nxE_I {n : Int32} : nxE (eI n) := fun l h h' E q => by cases q
theorem nxE_Z {n : Nat} : nxE (eZ n) := fun l h h' E q => by cases q
theorem nxE_Li {i : Nat} : nxE (eLi i) := fun l h h' E q => by obtain ⟨x, -, -, z⟩ := eLi_some q; cases z
theorem nxE_B {α β : Type} {a : Lc → Hp → RE α} {k : Lc → α → Hp → RE β} (ha : nxE a) (hk : ∀ l x h h' E, k l x h ≠ some (h', .inr E)) : nxE (fun l h => eB (a l h) (k l)) := fun l h h' E q => by
  rcases eB_cases q with ⟨h1, x, e1, e2⟩ | ⟨E1, e1, e2⟩
  · exact hk l x h1 h' E e2
  · exact ha l h h' E1 e1
theorem nxE_Op {op : Int32 → Int32 → Int32} {a b : EXi} (ha : nxE a) (hb : nxE b) : nxE (eOp op a b) := nxE_B ha fun l x h h' E q => by
  rcases eB_cases q with ⟨h1, y, e1, e2⟩ | ⟨E1, e1, e2⟩
  · cases e2
  · exact hb l h h' E1 e1
theorem nxE_cB {op : Int32 → Int32 → Bool} {a b : EXi} (ha : nxE a) (hb : nxE b) : nxE (cB op a b) := nxE_B ha fun l x h h' E q => by
  rcases eB_cases q with ⟨h1, y, e1, e2⟩ | ⟨E1, e1, e2⟩
  · cases e2
  · exact hb l h h' E1 e1
theorem nxE_cZ {op : Int32 → Bool} {a : EXi} (ha : nxE a) : nxE (cZ op a) := nxE_B ha fun l x h h' E q => by cases q
theorem nxE_Ai {t : Nat} {o : EXa} {i : EXi} (ha : nxE o) (hb : nxE i) : nxE (eAi t o i) := nxE_B ha fun l x h h' E q => by
  rcases eB_cases q with ⟨h1, y, e1, e2⟩ | ⟨E1, e1, e2⟩
  · obtain ⟨z, -, e3⟩ := oE_cases e2
    cases e3
  · exact hb l h h' E1 e1
theorem nxE_If {α : Type} {c : CX} {a b : Lc → Hp → RE α} (hc : nxE c) (ha : nxE a) (hb : nxE b) : nxE (eIf c a b) := nxE_B hc fun l x h h' E q => by
  cases x
  · exact hb l h h' E q
  · exact ha l h h' E q
theorem nt_ret {n : Nat} {e : EXi} (he : nxE e) : ∀ vs hp hp' E, mth n (sR e) vs hp ≠ some (hp', .inr E) := by
  intro vs hp hp' E q
  unfold mth at q
  split at q
  · rename_i h x e1
    cases q
    rcases eS_cases e1 with ⟨h1, y, e2, e3⟩ | ⟨E1, e2, e3⟩
    · cases e3
    · exact he _ _ _ E1 e2
  · cases q
