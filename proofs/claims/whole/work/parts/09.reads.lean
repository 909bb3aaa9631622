/-- a class's table: its number among the kinds, its fields, their types, its words -/
def Fk (ci : Nat) (C : String) (T : u_T) (N : Nat) (ty : Nat → FieldType) : Prop := kls[ci]? = some (C, T, N) ∧ (∀ w ∈ u_ws C T N, w ∈ WS) ∧ (∀ k, k < N → parseFieldDescriptor (T k).2.2.1 = some (ty k)) ∧ ∀ a, a < N → ∀ b, b < N → a ≠ b → (T a).2.1 ≠ (T b).2.1
theorem fgi_some {h : Hp} {a ci k : Nat} {x : Int32} (q : fgi h a ci k = some x) : ∃ fs, h.2 a = .inr (ci, fs) ∧ fs[k]? = some (.int x) := by
  unfold fgi at q
  split at q
  · rename_i c fs hq
    split at q
    · rename_i hc
      subst hc
      split at q
      · rename_i y hy
        cases q
        exact ⟨fs, hq, hy⟩
      · cases q
    · cases q
  · cases q
theorem fga_some {h : Hp} {a ci k : Nat} {x : Nat} (q : fga h a ci k = some x) : ∃ fs, h.2 a = .inr (ci, fs) ∧ fs[k]? = some (.ref x) := by
  unfold fga at q
  split at q
  · rename_i c fs hq
    split at q
    · rename_i hc
      subst hc
      split at q
      · rename_i y hy
        cases q
        exact ⟨fs, hq, hy⟩
      · cases q
    · cases q
  · cases q
theorem agi_some {t : Nat} {h : Hp} {a : Nat} {x y : Int32} (q : agi t h a x = some y) : ∃ (t' n : Nat) (f : Nat → Int32), h.2 a = .inl (t', n, .inl f) ∧ (t' = t ∨ (t = 0 ∧ t' = 9)) ∧ vp_in x n ∧ y = f x.toNatClampNeg := by
  unfold agi at q
  split at q
  · rename_i t' n f hq
    split at q
    · rename_i hc
      cases q
      exact ⟨t', n, f, hq, hc.1, fun z => z.elim (fun z => i_len hc.2.1 z) (fun z => by omega), rfl⟩
    · cases q
  · cases q
theorem agl_some {h : Hp} {a : Nat} {x : Int32} {y : Int64} (q : agl h a x = some y) : ∃ (n : Nat) (f : Nat → Int64), h.2 a = .inl (1, n, .inr (.inl f)) ∧ vp_in x n ∧ y = f x.toNatClampNeg := by
  unfold agl at q
  split at q
  · rename_i t' n f hq
    split at q
    · rename_i hc
      cases q
      obtain ⟨rfl, hc⟩ := hc
      exact ⟨n, f, hq, fun z => z.elim (fun z => i_len hc.1 z) (fun z => by omega), rfl⟩
    · cases q
  · cases q
theorem aga_some {h : Hp} {a : Nat} {x : Int32} {y : Nat} (q : aga h a x = some y) : ∃ (n : Nat) (f : Nat → Option Nat), h.2 a = .inl (4, n, .inr (.inr (.inr (.inr f)))) ∧ vp_in x n ∧ f x.toNatClampNeg = some y := by
  unfold aga at q
  split at q
  · rename_i t' n f hq
    split at q
    · rename_i hc
      obtain ⟨rfl, hc⟩ := hc
      exact ⟨n, f, hq, fun z => z.elim (fun z => i_len hc.1 z) (fun z => by omega), q⟩
    · cases q
  · cases q
theorem agn_some {h : Hp} {a : Nat} {y : Int32} (q : agn h a = some y) : ∃ (t' n : Nat) (f : Nat → Int32), h.2 a = .inl (t', n, .inl f) ∧ (t' = 0 ∨ t' = 9) ∧ y = Int32.ofNat n := by
  unfold agn at q
  split at q
  · rename_i t' n f hq
    split at q
    · rename_i hc
      cases q
      exact ⟨t', n, f, hq, hc, rfl⟩
    · cases q
  · cases q
theorem va_K.one {D : va_G} {cl : List vw_C} {U : State} (h : va_K D cl [] U) {cA : ClassId} {ty : FieldType} (h1 : ArrOfT U cA ty) (h2 : va_RA U cA ty) : va_K D cl [(cA, ty)] U := by
  refine ⟨h.1, fun k q hk => ?_⟩
  have hz : k < 1 := (List.getElem?_eq_some_iff.mp hk).1
  rw [show k = 0 by omega] at hk
  cases hk
  exact ⟨h1, h2⟩
/-- an int-like array of our own -/
theorem HW.arr {g : GE} {s : State} {ad : List Nat} {hp : Hp} {H : Heap} (h : HW g s ad hp H) {i a t n : Nat} {f : Nat → Int32} (hi : vAd g ad i = some a) (ho : hp.2 i = .inl (t, n, .inl f)) (ht : t ≠ 9) :
    ∃ (ws : va_W) (cA : ClassId), va_P g.1 kls ws H ∧ va_D (gA g) ws ∧ ws.map Prod.fst = ad ∧ hp.1 = ad.length ∧ hp.1 ≤ RO ∧ (∀ (i : Nat) (q : Nat × va_E), ws[i]? = some q → OR g s ad (hp.2 i) q.2) ∧ (∀ k, hp.2 (RO + k) = roOb g k) ∧ ws[i]? = some (a, .inl (cA, n, .inl f)) ∧ t < 4 ∧ ArrOfT s cA (tyOf t) ∧ va_RA s cA (tyOf t) := by
  obtain ⟨ws, e, h1, h2, h3, h4, h5, h6, h7, h8, h9⟩ := h.find hi (fun k q => by rw [ho] at q; unfold roOb at q; exact ht (by injection q with q; injection q))
  rw [ho] at h9
  rcases e with ⟨cA, x⟩ | ⟨ci, fs⟩
  · obtain ⟨rfl, k1, k2, k3⟩ := h9
    exact ⟨ws, cA, h1, h2, h3, h4, h5, h6, h7, h8, k1, k2, k3⟩
  · exact h9.elim
/-- a read-only one -/
theorem HW.ro {g : GE} {s : State} {ad : List Nat} {hp : Hp} {H : Heap} (h : HW g s ad hp H) {i a n : Nat} {f : Nat → Int32} (hi : vAd g ad i = some a) (ho : hp.2 i = .inl (9, n, .inl f)) : ∃ k, a = g.2.1 k ∧ n = (g.2.2.2 k).1 ∧ f = (g.2.2.2 k).2 := by
  rcases Nat.lt_or_ge i RO with q | q
  · obtain ⟨ws, h1, h2, h3, h4, h5, h6, h7⟩ := h
    unfold vAd at hi
    rw [if_pos q, ← h3, List.getElem?_map] at hi
    cases hq : ws[i]? with
    | none => rw [hq] at hi; cases hi
    | some z =>
      have h9 := h6 i z hq
      rw [ho] at h9
      obtain ⟨a', e⟩ := z
      rcases e with ⟨cA, x⟩ | ⟨ci, fs⟩
      · have := h9.2.1; omega
      · exact h9.elim
  · obtain ⟨ws, h1, h2, h3, h4, h5, h6, h7⟩ := h
    have h9 := h7 (i - RO)
    rw [show RO + (i - RO) = i by omega, ho] at h9
    unfold roOb at h9
    injection h9 with h9
    injection h9 with _ h9
    injection h9 with e1 e2
    injection e2 with e2
    unfold vAd at hi
    rw [if_neg (by omega)] at hi
    cases hi
    exact ⟨i - RO, rfl, e1, e2⟩
/-- an object -/
theorem HW.obj {g : GE} {s : State} {ad : List Nat} {hp : Hp} {H : Heap} (h : HW g s ad hp H) {i a ci : Nat} {fs : List Value} (hi : vAd g ad i = some a) (ho : hp.2 i = .inr (ci, fs)) :
    ∃ (ws : va_W) (fs' : List Value), va_P g.1 kls ws H ∧ va_D (gA g) ws ∧ ws.map Prod.fst = ad ∧ hp.1 = ad.length ∧ hp.1 ≤ RO ∧ (∀ (i : Nat) (q : Nat × va_E), ws[i]? = some q → OR g s ad (hp.2 i) q.2) ∧ (∀ k, hp.2 (RO + k) = roOb g k) ∧ ws[i]? = some (a, .inr (ci, fs')) ∧ FR g ad fs fs' := by
  obtain ⟨ws, e, h1, h2, h3, h4, h5, h6, h7, h8, h9⟩ := h.find hi (fun k q => by rw [ho] at q; unfold roOb at q; cases q)
  rw [ho] at h9
  rcases e with ⟨cA, x⟩ | ⟨ci', fs'⟩
  · exact h9.elim
  · obtain ⟨rfl, k1⟩ := h9
    exact ⟨ws, fs', h1, h2, h3, h4, h5, h6, h7, h8, k1⟩
section Reads
variable {Γ : Ct} {cc : ByteArray} {pc p1 p2 w k1 n1 k2 n2 : Nat} {o : EXa} {i : EXi} {ci N k idx : Nat} {C host : String} {T : u_T} {ty : Nat → FieldType}
theorem Ev_getI (hF : Fk ci C T N ty) (ha : Ev Γ cc Value.ref pc p1 w k1 n1 o) (hk : k < N) (hl : Cond.fieldLink Γ.2.2.2.1 idx (T k).1 (T k).2.1 (T k).2.2.1 ∈ WS) (hd : decode cc p1 = .ok (.getfield idx, 3)) : Ev Γ cc Value.int pc (p1 + 3) w k1 n1 (eGi o ci k) := by
  intro hok ls lc st hp H locs cells slots c1 s1 ad hL hR hw b1 b2 b3 b4 hp' r hf hk9
  have hE : ∀ E, r = .inr E → GF Γ hp' (.inr E) := fun E h => by subst h; exact hk9
  refine ha.go hok hL hR hw (by omega) (by omega) hf hE fun g1 x ad1 v1 H1 locs1 e1 q1 q2 q3 => ?_
  obtain ⟨a, q4, rfl⟩ := q2
  obtain ⟨y, e2, e3⟩ := oE_cases e1
  cases e3
  obtain ⟨fs, f1, f2⟩ := fgi_some e2
  obtain ⟨⟨p, l, e, R, s⟩, ⟨m, args, below, meth, c⟩, g, own, ⟨nL, jl⟩, Fin, ad0⟩ := Γ
  obtain ⟨hx, hb0, hml, hown, hts, henv, hlk, htb⟩ := hok
  obtain ⟨ws, fs', h1, h2, h3, h4, h5, h6, h7, h8, h9⟩ := q3.1.1.obj q4 f1
  obtain ⟨v', f11, f12⟩ := h9.at f2
  cases f12
  exact W.widen (by omega) (by omega) (va_get hx hb0 hts hF.2.1 hown henv.2.2.1 h1 _ h8 hF.1 k hk (hts _ hl) (fun _ z => z) f11 hd (hk9 ad1 _ H1 locs1 q1 rfl q3))
theorem Ev_getIN (hF : Fk ci C T N ty) (ha : Ev Γ cc Value.ref pc p1 w k1 n1 o) (hk : k < N) (hl : Cond.fieldLinkNest Γ.2.2.2.1 idx (T k).1 (T k).2.1 (T k).2.2.1 host ∈ WN) (hd : decode cc p1 = .ok (.getfield idx, 3)) : Ev Γ cc Value.int pc (p1 + 3) w k1 n1 (eGi o ci k) := by
  intro hok ls lc st hp H locs cells slots c1 s1 ad hL hR hw b1 b2 b3 b4 hp' r hf hk9
  have hE : ∀ E, r = .inr E → GF Γ hp' (.inr E) := fun E h => by subst h; exact hk9
  refine ha.go hok hL hR hw (by omega) (by omega) hf hE fun g1 x ad1 v1 H1 locs1 e1 q1 q2 q3 => ?_
  obtain ⟨a, q4, rfl⟩ := q2
  obtain ⟨y, e2, e3⟩ := oE_cases e1
  cases e3
  obtain ⟨fs, f1, f2⟩ := fgi_some e2
  obtain ⟨⟨p, l, e, R, s⟩, ⟨m, args, below, meth, c⟩, g, own, ⟨nL, jl⟩, Fin, ad0⟩ := Γ
  obtain ⟨hx, hb0, hml, hown, hts, henv, hlk, htb⟩ := hok
  obtain ⟨ws, fs', h1, h2, h3, h4, h5, h6, h7, h8, h9⟩ := q3.1.1.obj q4 f1
  obtain ⟨v', f11, f12⟩ := h9.at f2
  cases f12
  exact W.widen (by omega) (by omega) (va_getN hx hb0 hts hF.2.1 hown henv.2.2.1 h1 _ h8 hF.1 k hk (va_Nw.use rfl (henv.2.2.2.2.2.1 _ hl)) (fun _ z => z) f11 hd (hk9 ad1 _ H1 locs1 q1 rfl q3))
theorem Ev_getA (hF : Fk ci C T N ty) (ha : Ev Γ cc Value.ref pc p1 w k1 n1 o) (hk : k < N) (hl : Cond.fieldLink Γ.2.2.2.1 idx (T k).1 (T k).2.1 (T k).2.2.1 ∈ WS) (hd : decode cc p1 = .ok (.getfield idx, 3)) : Ev Γ cc Value.ref pc (p1 + 3) w k1 n1 (eGa o ci k) := by
  intro hok ls lc st hp H locs cells slots c1 s1 ad hL hR hw b1 b2 b3 b4 hp' r hf hk9
  have hE : ∀ E, r = .inr E → GF Γ hp' (.inr E) := fun E h => by subst h; exact hk9
  refine ha.go hok hL hR hw (by omega) (by omega) hf hE fun g1 x ad1 v1 H1 locs1 e1 q1 q2 q3 => ?_
  obtain ⟨a, q4, rfl⟩ := q2
  obtain ⟨y, e2, e3⟩ := oE_cases e1
  cases e3
  obtain ⟨fs, f1, f2⟩ := fga_some e2
  obtain ⟨⟨p, l, e, R, s⟩, ⟨m, args, below, meth, c⟩, g, own, ⟨nL, jl⟩, Fin, ad0⟩ := Γ
  obtain ⟨hx, hb0, hml, hown, hts, henv, hlk, htb⟩ := hok
  obtain ⟨ws, fs', h1, h2, h3, h4, h5, h6, h7, h8, h9⟩ := q3.1.1.obj q4 f1
  obtain ⟨v', f11, f12⟩ := h9.at f2
  obtain ⟨b, f13, rfl⟩ := f12
  exact W.widen (by omega) (by omega) (va_get hx hb0 hts hF.2.1 hown henv.2.2.1 h1 _ h8 hF.1 k hk (hts _ hl) (fun _ z => z) f11 hd (hk9 ad1 _ H1 locs1 q1 ⟨b, f13, rfl⟩ q3))
theorem Ev_getAN (hF : Fk ci C T N ty) (ha : Ev Γ cc Value.ref pc p1 w k1 n1 o) (hk : k < N) (hl : Cond.fieldLinkNest Γ.2.2.2.1 idx (T k).1 (T k).2.1 (T k).2.2.1 host ∈ WN) (hd : decode cc p1 = .ok (.getfield idx, 3)) : Ev Γ cc Value.ref pc (p1 + 3) w k1 n1 (eGa o ci k) := by
  intro hok ls lc st hp H locs cells slots c1 s1 ad hL hR hw b1 b2 b3 b4 hp' r hf hk9
  have hE : ∀ E, r = .inr E → GF Γ hp' (.inr E) := fun E h => by subst h; exact hk9
  refine ha.go hok hL hR hw (by omega) (by omega) hf hE fun g1 x ad1 v1 H1 locs1 e1 q1 q2 q3 => ?_
  obtain ⟨a, q4, rfl⟩ := q2
  obtain ⟨y, e2, e3⟩ := oE_cases e1
  cases e3
  obtain ⟨fs, f1, f2⟩ := fga_some e2
  obtain ⟨⟨p, l, e, R, s⟩, ⟨m, args, below, meth, c⟩, g, own, ⟨nL, jl⟩, Fin, ad0⟩ := Γ
  obtain ⟨hx, hb0, hml, hown, hts, henv, hlk, htb⟩ := hok
  obtain ⟨ws, fs', h1, h2, h3, h4, h5, h6, h7, h8, h9⟩ := q3.1.1.obj q4 f1
  obtain ⟨v', f11, f12⟩ := h9.at f2
  obtain ⟨b, f13, rfl⟩ := f12
  exact W.widen (by omega) (by omega) (va_getN hx hb0 hts hF.2.1 hown henv.2.2.1 h1 _ h8 hF.1 k hk (va_Nw.use rfl (henv.2.2.2.2.2.1 _ hl)) (fun _ z => z) f11 hd (hk9 ad1 _ H1 locs1 q1 ⟨b, f13, rfl⟩ q3))
theorem Ev_iaload (ha : Ev Γ cc Value.ref pc p1 w k1 n1 o) (hi : Ev Γ cc Value.int p1 p2 (w + 1) k2 n2 i) (hd : decode cc p2 = .ok (.iaload, 1)) : Ev Γ cc Value.int pc (p2 + 1) w (k1 + k2) (n1 + n2) (eAi 0 o i) := by
  intro hok ls lc st hp H locs cells slots c1 s1 ad hL hR hw b1 b2 b3 b4 hp' r hf hk9
  have hE : ∀ E, r = .inr E → GF Γ hp' (.inr E) := fun E h => by subst h; exact hk9
  refine ha.go hok hL hR hw (by omega) (by omega) hf hE fun g1 x ad1 v1 H1 locs1 e1 q1 q2 q3 => ?_
  obtain ⟨a, q4, rfl⟩ := q2
  refine hi.go hok (hL.mono q1) q3 (stW_a hw) (by omega) (by omega) e1 hE fun g2 y ad2 v2 H2 locs2 e2 r1 r2 r3 => ?_
  cases r2
  have q5 := vAd.mono r1 q4
  obtain ⟨z, e3, e4⟩ := oE_cases e2
  cases e4
  obtain ⟨t', n, f, f1, f2, f3, rfl⟩ := agi_some e3
  obtain ⟨⟨p, l, e, R, s⟩, ⟨m, args, below, meth, c⟩, g, own, ⟨nL, jl⟩, Fin, ad0⟩ := Γ
  obtain ⟨hx, hb0, hml, hown, hts, henv, hlk, htb⟩ := hok
  rcases f2 with rfl | ⟨-, rfl⟩
  · obtain ⟨ws, cA, h1, h2, h3, h4, h5, h6, h7, h8, h9, h10, h11⟩ := r3.1.1.arr q5 f1 (by decide)
    exact W.widen (by omega) (by omega) (va_iald hx hb0 (henv.2.2.1.one h10 h11) h1 _ 0 h8 rfl f3 hd (hk9 ad2 _ H2 locs2 (q1.tr r1) rfl r3))
  · obtain ⟨kq, rfl, rfl, rfl⟩ := r3.1.1.ro q5 f1
    exact W.widen (by omega) (by omega) (va_sld hx hb0 (henv.2.2.2.1 kq).1 (henv.2.2.2.1 kq).2.1 (henv.2.2.2.1 kq).2.2 r3.1.2 f3 hd (hk9 ad2 _ H2 locs2 (q1.tr r1) rfl r3))
theorem Ev_baload (ha : Ev Γ cc Value.ref pc p1 w k1 n1 o) (hi : Ev Γ cc Value.int p1 p2 (w + 1) k2 n2 i) (hd : decode cc p2 = .ok (.baload, 1)) : Ev Γ cc Value.int pc (p2 + 1) w (k1 + k2) (n1 + n2) (eAi 2 o i) := by
  intro hok ls lc st hp H locs cells slots c1 s1 ad hL hR hw b1 b2 b3 b4 hp' r hf hk9
  have hE : ∀ E, r = .inr E → GF Γ hp' (.inr E) := fun E h => by subst h; exact hk9
  refine ha.go hok hL hR hw (by omega) (by omega) hf hE fun g1 x ad1 v1 H1 locs1 e1 q1 q2 q3 => ?_
  obtain ⟨a, q4, rfl⟩ := q2
  refine hi.go hok (hL.mono q1) q3 (stW_a hw) (by omega) (by omega) e1 hE fun g2 y ad2 v2 H2 locs2 e2 r1 r2 r3 => ?_
  cases r2
  have q5 := vAd.mono r1 q4
  obtain ⟨z, e3, e4⟩ := oE_cases e2
  cases e4
  obtain ⟨t', n, f, f1, f2, f3, rfl⟩ := agi_some e3
  obtain ⟨⟨p, l, e, R, s⟩, ⟨m, args, below, meth, c⟩, g, own, ⟨nL, jl⟩, Fin, ad0⟩ := Γ
  obtain ⟨hx, hb0, hml, hown, hts, henv, hlk, htb⟩ := hok
  rcases f2 with rfl | ⟨h0, -⟩
  · obtain ⟨ws, cA, h1, h2, h3, h4, h5, h6, h7, h8, h9, h10, h11⟩ := r3.1.1.arr q5 f1 (by decide)
    exact W.widen (by omega) (by omega) (va_zald hx hb0 (henv.2.2.1.one h10 h11) h1 _ 0 h8 rfl f3 hd (hk9 ad2 _ H2 locs2 (q1.tr r1) rfl r3))
  · exact absurd h0 (by decide)
theorem Ev_caload (ha : Ev Γ cc Value.ref pc p1 w k1 n1 o) (hi : Ev Γ cc Value.int p1 p2 (w + 1) k2 n2 i) (hd : decode cc p2 = .ok (.caload, 1)) : Ev Γ cc Value.int pc (p2 + 1) w (k1 + k2) (n1 + n2) (eAi 3 o i) := by
  intro hok ls lc st hp H locs cells slots c1 s1 ad hL hR hw b1 b2 b3 b4 hp' r hf hk9
  have hE : ∀ E, r = .inr E → GF Γ hp' (.inr E) := fun E h => by subst h; exact hk9
  refine ha.go hok hL hR hw (by omega) (by omega) hf hE fun g1 x ad1 v1 H1 locs1 e1 q1 q2 q3 => ?_
  obtain ⟨a, q4, rfl⟩ := q2
  refine hi.go hok (hL.mono q1) q3 (stW_a hw) (by omega) (by omega) e1 hE fun g2 y ad2 v2 H2 locs2 e2 r1 r2 r3 => ?_
  cases r2
  have q5 := vAd.mono r1 q4
  obtain ⟨z, e3, e4⟩ := oE_cases e2
  cases e4
  obtain ⟨t', n, f, f1, f2, f3, rfl⟩ := agi_some e3
  obtain ⟨⟨p, l, e, R, s⟩, ⟨m, args, below, meth, c⟩, g, own, ⟨nL, jl⟩, Fin, ad0⟩ := Γ
  obtain ⟨hx, hb0, hml, hown, hts, henv, hlk, htb⟩ := hok
  rcases f2 with rfl | ⟨h0, -⟩
  · obtain ⟨ws, cA, h1, h2, h3, h4, h5, h6, h7, h8, h9, h10, h11⟩ := r3.1.1.arr q5 f1 (by decide)
    exact W.widen (by omega) (by omega) (va_cald hx hb0 (henv.2.2.1.one h10 h11) h1 _ 0 h8 rfl f3 hd (hk9 ad2 _ H2 locs2 (q1.tr r1) rfl r3))
  · exact absurd h0 (by decide)
theorem Ev_laload (ha : Ev Γ cc Value.ref pc p1 w k1 n1 o) (hi : Ev Γ cc Value.int p1 p2 (w + 1) k2 n2 i) (hd : decode cc p2 = .ok (.laload, 1)) : Ev Γ cc Value.long pc (p2 + 1) w (k1 + k2) (n1 + n2) (eAl o i) := by
  intro hok ls lc st hp H locs cells slots c1 s1 ad hL hR hw b1 b2 b3 b4 hp' r hf hk9
  have hE : ∀ E, r = .inr E → GF Γ hp' (.inr E) := fun E h => by subst h; exact hk9
  refine ha.go hok hL hR hw (by omega) (by omega) hf hE fun g1 x ad1 v1 H1 locs1 e1 q1 q2 q3 => ?_
  obtain ⟨a, q4, rfl⟩ := q2
  refine hi.go hok (hL.mono q1) q3 (stW_a hw) (by omega) (by omega) e1 hE fun g2 y ad2 v2 H2 locs2 e2 r1 r2 r3 => ?_
  cases r2
  have q5 := vAd.mono r1 q4
  obtain ⟨z, e3, e4⟩ := oE_cases e2
  cases e4
  obtain ⟨n, f, f1, f3, rfl⟩ := agl_some e3
  obtain ⟨⟨p, l, e, R, s⟩, ⟨m, args, below, meth, c⟩, g, own, ⟨nL, jl⟩, Fin, ad0⟩ := Γ
  obtain ⟨hx, hb0, hml, hown, hts, henv, hlk, htb⟩ := hok
  obtain ⟨ws, e0, h1, h2, h3, h4, h5, h6, h7, h8, h9⟩ := r3.1.1.find q5 (fun k q => by rw [f1] at q; unfold roOb at q; cases q)
  rw [f1] at h9
  rcases e0 with ⟨cA, x0⟩ | ⟨c0, fs⟩
  · obtain ⟨rfl, h10, h11⟩ := h9
    exact W.widen (by omega) (by omega) (va_lald hx hb0 (henv.2.2.1.one h10 h11) h1 _ 0 h8 rfl f3 hd (hk9 ad2 _ H2 locs2 (q1.tr r1) rfl r3))
  · exact h9.elim
theorem Ev_aaload (ha : Ev Γ cc Value.ref pc p1 w k1 n1 o) (hi : Ev Γ cc Value.int p1 p2 (w + 1) k2 n2 i) (hd : decode cc p2 = .ok (.aaload, 1)) : Ev Γ cc Value.ref pc (p2 + 1) w (k1 + k2) (n1 + n2) (eAa o i) := by
  intro hok ls lc st hp H locs cells slots c1 s1 ad hL hR hw b1 b2 b3 b4 hp' r hf hk9
  have hE : ∀ E, r = .inr E → GF Γ hp' (.inr E) := fun E h => by subst h; exact hk9
  refine ha.go hok hL hR hw (by omega) (by omega) hf hE fun g1 x ad1 v1 H1 locs1 e1 q1 q2 q3 => ?_
  obtain ⟨a, q4, rfl⟩ := q2
  refine hi.go hok (hL.mono q1) q3 (stW_a hw) (by omega) (by omega) e1 hE fun g2 y ad2 v2 H2 locs2 e2 r1 r2 r3 => ?_
  cases r2
  have q5 := vAd.mono r1 q4
  obtain ⟨z, e3, e4⟩ := oE_cases e2
  cases e4
  obtain ⟨n, f, f1, f3, f4⟩ := aga_some e3
  obtain ⟨⟨p, l, e, R, s⟩, ⟨m, args, below, meth, c⟩, g, own, ⟨nL, jl⟩, Fin, ad0⟩ := Γ
  obtain ⟨hx, hb0, hml, hown, hts, henv, hlk, htb⟩ := hok
  obtain ⟨ws, e0, h1, h2, h3, h4, h5, h6, h7, h8, h9⟩ := r3.1.1.find q5 (fun k q => by rw [f1] at q; unfold roOb at q; cases q)
  rw [f1] at h9
  rcases e0 with ⟨cA, x0⟩ | ⟨c0, fs⟩
  · obtain ⟨⟨f', rfl, h12⟩, h10, h11⟩ := h9
    obtain ⟨b, h13, h14⟩ := h12 _ _ f4
    refine W.widen (k := c1) (n := s1) (by omega) (by omega) (va_aldq (C := RX6) hx hb0 (henv.2.2.1.one h10 h11) h1 _ 0 h8 rfl f3 hd ?_)
    rw [h14]
    exact hk9 ad2 _ H2 locs2 (q1.tr r1) ⟨b, h13, rfl⟩ r3
  · exact h9.elim
theorem Ev_alen (ha : Ev Γ cc Value.ref pc p1 w k1 n1 o) (hd : decode cc p1 = .ok (.arraylength, 1)) : Ev Γ cc Value.int pc (p1 + 1) w k1 n1 (eAn o) := by
  intro hok ls lc st hp H locs cells slots c1 s1 ad hL hR hw b1 b2 b3 b4 hp' r hf hk9
  have hE : ∀ E, r = .inr E → GF Γ hp' (.inr E) := fun E h => by subst h; exact hk9
  refine ha.go hok hL hR hw (by omega) (by omega) hf hE fun g1 x ad1 v1 H1 locs1 e1 q1 q2 q3 => ?_
  obtain ⟨a, q4, rfl⟩ := q2
  obtain ⟨y, e2, e3⟩ := oE_cases e1
  cases e3
  obtain ⟨t', n, f, f1, f2, rfl⟩ := agn_some e2
  obtain ⟨⟨p, l, e, R, s⟩, ⟨m, args, below, meth, c⟩, g, own, ⟨nL, jl⟩, Fin, ad0⟩ := Γ
  obtain ⟨hx, hb0, hml, hown, hts, henv, hlk, htb⟩ := hok
  rcases f2 with rfl | rfl
  · obtain ⟨ws, cA, h1, h2, h3, h4, h5, h6, h7, h8, h9, h10, h11⟩ := q3.1.1.arr q4 f1 (by decide)
    exact W.widen (by omega) (by omega) (va_alen hx hb0 (henv.2.2.1.one h10 h11) h1 _ 0 h8 rfl rfl hd (hk9 ad1 _ H1 locs1 q1 rfl q3))
  · obtain ⟨kq, rfl, rfl, rfl⟩ := q3.1.1.ro q4 f1
    exact W.widen (by omega) (by omega) (va_slen hx hb0 (henv.2.2.2.1 kq).1 (henv.2.2.2.1 kq).2.1 (henv.2.2.2.1 kq).2.2 q3.1.2 hd (hk9 ad1 _ H1 locs1 q1 rfl q3))
theorem Ev_gets {q : String × Nat} (hq : q ∈ statT) (hl : Cond.fieldLink Γ.2.2.2.1 idx RX7 q.1 "[I" ∈ WS) (hd : decode cc pc = .ok (.getstatic idx, 3)) : Ev Γ cc Value.ref pc (pc + 3) w 0 0 (eZ q.2) := by
  intro hok ls lc st hp H locs cells slots c1 s1 ad hL hR hw b1 b2 b3 b4 hp' r hf hk9
  obtain ⟨⟨p, l, e, R, s⟩, ⟨m, args, below, meth, c⟩, g, own, ⟨nL, jl⟩, Fin, ad0⟩ := Γ
  obtain ⟨hx, hb0, hml, hown, hts, henv, hlk, htb⟩ := hok
  cases hf
  exact W.widen (by omega) (by omega) (va_gets hx hb0 (henv.2.2.2.2.1 _ hq) hR.1.2 hown (hts _ hl) (fun _ z => z) hd (hk9 ad _ H locs AE.rf ⟨g.2.1 q.2, by unfold vAd; rw [if_neg (by omega), Nat.add_sub_cancel_left], rfl⟩ hR))
theorem Ev_getsN {q : String × Nat} (hq : q ∈ statT) (hl : Cond.fieldLinkNest Γ.2.2.2.1 idx RX7 q.1 "[I" host ∈ WN) (hd : decode cc pc = .ok (.getstatic idx, 3)) : Ev Γ cc Value.ref pc (pc + 3) w 0 0 (eZ q.2) := by
  intro hok ls lc st hp H locs cells slots c1 s1 ad hL hR hw b1 b2 b3 b4 hp' r hf hk9
  obtain ⟨⟨p, l, e, R, s⟩, ⟨m, args, below, meth, c⟩, g, own, ⟨nL, jl⟩, Fin, ad0⟩ := Γ
  obtain ⟨hx, hb0, hml, hown, hts, henv, hlk, htb⟩ := hok
  cases hf
  exact W.widen (by omega) (by omega) (va_getsN hx hb0 (henv.2.2.2.2.1 _ hq) hR.1.2 hown (va_Nw.use rfl (henv.2.2.2.2.2.1 _ hl)) (fun _ z => z) hd (hk9 ad _ H locs AE.rf ⟨g.2.1 q.2, by unfold vAd; rw [if_neg (by omega), Nat.add_sub_cancel_left], rfl⟩ hR))
end Reads
