theorem fp_some {h h' : Hp} {a ci k : Nat} {v : Value} (q : fp h a ci k v = some h') : ∃ fs, h.2 a = .inr (ci, fs) ∧ k < fs.length ∧ h' = hup h a (.inr (ci, fs.set k v)) := by
  unfold fp at q
  split at q
  · rename_i c fs hq
    split at q
    · rename_i hc
      obtain ⟨rfl, hl⟩ := hc
      cases q
      exact ⟨fs, hq, hl, rfl⟩
    · cases q
  · cases q
theorem api_some {t : Nat} {h h' : Hp} {a : Nat} {x y : Int32} (q : api t h a x y = some h') : ∃ (n : Nat) (f : Nat → Int32), h.2 a = .inl (t, n, .inl f) ∧ vp_in x n ∧ h' = hup h a (.inl (t, n, .inl (upd f x.toNatClampNeg (nar t y)))) := by
  unfold api at q
  split at q
  · rename_i t' n f hq
    split at q
    · rename_i hc
      obtain ⟨rfl, hc⟩ := hc
      cases q
      exact ⟨n, f, hq, fun z => z.elim (fun z => i_len hc.1 z) (fun z => by omega), rfl⟩
    · cases q
  · cases q
theorem apl_some {h h' : Hp} {a : Nat} {x : Int32} {y : Int64} (q : apl h a x y = some h') : ∃ (n : Nat) (f : Nat → Int64), h.2 a = .inl (1, n, .inr (.inl f)) ∧ vp_in x n ∧ h' = hup h a (.inl (1, n, .inr (.inl (vp_updL f x.toNatClampNeg y)))) := by
  unfold apl at q
  split at q
  · rename_i t' n f hq
    split at q
    · rename_i hc
      obtain ⟨rfl, hc⟩ := hc
      cases q
      exact ⟨n, f, hq, fun z => z.elim (fun z => i_len hc.1 z) (fun z => by omega), rfl⟩
    · cases q
  · cases q
theorem apa_some {h h' : Hp} {a : Nat} {x : Int32} {y ci : Nat} (q : apa h a x y ci = some h') : ∃ (n : Nat) (f : Nat → Option Nat) (fs : List Value), h.2 a = .inl (4, n, .inr (.inr (.inr (.inr f)))) ∧ h.2 y = .inr (ci, fs) ∧ vp_in x n ∧ h' = hup h a (.inl (4, n, .inr (.inr (.inr (.inr (va_up f x.toNatClampNeg (some y))))))) := by
  unfold apa at q
  split at q
  · rename_i t' n f c fs hq hq2
    split at q
    · rename_i hc
      obtain ⟨rfl, rfl, hc⟩ := hc
      cases q
      exact ⟨n, f, fs, hq, hq2, fun z => z.elim (fun z => i_len hc.1 z) (fun z => by omega), rfl⟩
    · cases q
  · cases q
section Puts
variable {Γ : Ct} {cc : ByteArray} {pc p1 p2 p3 pE w k1 n1 k2 n2 k3 n3 : Nat} {o : EXa} {i e0 : EXi} {ci N k idx : Nat} {C host : String} {T : u_T} {ty : Nat → FieldType}
/-- a boolean field -/
def sPz (o : EXa) (ci k : Nat) (e : EXi) : SX := fun l h => eS (o l h) fun a h => eS (e l h) fun x h => if x = 0 ∨ x = 1 then (oS (fp h a ci k (.int x)) fun h => some (h, .inl l)) else none
theorem Sv_putI (hF : Fk ci C T N ty) (ha : Ev Γ cc Value.ref pc p1 0 k1 n1 o) (he : Ev Γ cc Value.int p1 p2 (0 + 1) k2 n2 e0) (hk : k < N) (hty : ty k = .int) (hfin : (T k).2.2.2 = false) (hl : Cond.fieldLink Γ.2.2.2.1 idx (T k).1 (T k).2.1 (T k).2.2.1 ∈ WS) (hd : decode cc p2 = .ok (.putfield idx, 3)) : Sv Γ cc pc (p2 + 3) (k1 + k2) (n1 + n2) (sPi o ci k e0) := by
  intro hok ls lc hp H locs cells slots c1 s1 ad hL hR b1 b2 b3 b4 hp' r hf hk9
  have hE : ∀ x, r = .inr x → GF Γ hp' x := fun x h => by subst h; exact hk9
  refine ha.goS hok hL hR (show stW [] ≤ 0 from Nat.le_refl 0) (by omega) (by omega) hf hE fun g1 x ad1 v1 H1 locs1 e1 q1 q2 q3 => ?_
  obtain ⟨a, q4, rfl⟩ := q2
  refine he.goS hok (hL.mono q1) q3 (stW_a (show stW [] ≤ 0 from Nat.le_refl 0)) (by omega) (by omega) e1 hE fun g2 y ad2 v2 H2 locs2 e2 r1 r2 r3 => ?_
  have q5 := vAd.mono r1 q4
  have hL2 := (hL.mono q1).mono r1
  cases r2
  obtain ⟨h9', e3, e4⟩ := oS_cases e2
  cases e4
  obtain ⟨fs, f1, f2, rfl⟩ := fp_some e3
  obtain ⟨⟨p, l, e, R, s⟩, ⟨m, args, below, meth, c⟩, g, own, ⟨nL, jl⟩, Fin, ad0⟩ := Γ
  obtain ⟨hx, hb0, hml, hown, hts, henv, hlk, htb⟩ := hok
  obtain ⟨ws, fs', h1, h2, h3, h4, h5, h6, h7, h8, h9⟩ := r3.1.1.obj q5 f1
  exact W.widen (k := c1) (n := s1) (by omega) (by omega) (va_put hx hb0 hts hF.2.1 ty hF.2.2.1 hF.2.2.2 hown henv.2.2.1 h1 h2 r3.1.2 _ h8 hF.1 k hk (hts _ hl) (fun _ z => z) hfin (hF.2.2.1 k hk) (by rw [hty]; rfl) (by rw [hty]; rfl) (by rw [← h9.1]; exact f2) hd (fun H3 locs3 u1 u2 u3 => hk9 ad2 ls H3 locs3 (q1.tr r1) hL2 ⟨⟨HW.put h3 h4 h5 h6 h7 h8 u1 u2 ⟨rfl, h9.set k (show VR _ _ (Value.int _) _ from rfl)⟩, u3⟩, r3.2⟩))
theorem Sv_putZ (hF : Fk ci C T N ty) (ha : Ev Γ cc Value.ref pc p1 0 k1 n1 o) (he : Ev Γ cc Value.int p1 p2 (0 + 1) k2 n2 e0) (hk : k < N) (hty : ty k = .boolean) (hfin : (T k).2.2.2 = false) (hl : Cond.fieldLink Γ.2.2.2.1 idx (T k).1 (T k).2.1 (T k).2.2.1 ∈ WS) (hd : decode cc p2 = .ok (.putfield idx, 3)) : Sv Γ cc pc (p2 + 3) (k1 + k2) (n1 + n2) (sPz o ci k e0) := by
  intro hok ls lc hp H locs cells slots c1 s1 ad hL hR b1 b2 b3 b4 hp' r hf hk9
  have hE : ∀ x, r = .inr x → GF Γ hp' x := fun x h => by subst h; exact hk9
  refine ha.goS hok hL hR (show stW [] ≤ 0 from Nat.le_refl 0) (by omega) (by omega) hf hE fun g1 x ad1 v1 H1 locs1 e1 q1 q2 q3 => ?_
  obtain ⟨a, q4, rfl⟩ := q2
  refine he.goS hok (hL.mono q1) q3 (stW_a (show stW [] ≤ 0 from Nat.le_refl 0)) (by omega) (by omega) e1 hE fun g2 y ad2 v2 H2 locs2 e2 r1 r2 r3 => ?_
  have q5 := vAd.mono r1 q4
  have hL2 := (hL.mono q1).mono r1
  cases r2
  split at e2
  rotate_left
  · cases e2
  rename_i hz
  obtain ⟨h9', e3, e4⟩ := oS_cases e2
  cases e4
  obtain ⟨fs, f1, f2, rfl⟩ := fp_some e3
  obtain ⟨⟨p, l, e, R, s⟩, ⟨m, args, below, meth, c⟩, g, own, ⟨nL, jl⟩, Fin, ad0⟩ := Γ
  obtain ⟨hx, hb0, hml, hown, hts, henv, hlk, htb⟩ := hok
  obtain ⟨ws, fs', h1, h2, h3, h4, h5, h6, h7, h8, h9⟩ := r3.1.1.obj q5 f1
  exact W.widen (k := c1) (n := s1) (by omega) (by omega) (va_put hx hb0 hts hF.2.1 ty hF.2.2.1 hF.2.2.2 hown henv.2.2.1 h1 h2 r3.1.2 _ h8 hF.1 k hk (hts _ hl) (fun _ z => z) hfin (hF.2.2.1 k hk) (by rw [hty]; rcases hz with rfl | rfl <;> rfl) (by rw [hty]; rcases hz with rfl | rfl <;> rfl) (by rw [← h9.1]; exact f2) hd (fun H3 locs3 u1 u2 u3 => hk9 ad2 ls H3 locs3 (q1.tr r1) hL2 ⟨⟨HW.put h3 h4 h5 h6 h7 h8 u1 u2 ⟨rfl, h9.set k (show VR _ _ (Value.int _) _ from rfl)⟩, u3⟩, r3.2⟩))
def refTy : FieldType → Bool
  | .object _ => true
  | .array _ => true
  | _ => false
theorem Sv_putA {ea : EXa} (hF : Fk ci C T N ty) (ha : Ev Γ cc Value.ref pc p1 0 k1 n1 o) (he : Ev Γ cc Value.ref p1 p2 (0 + 1) k2 n2 ea) (hk : k < N) (hty : refTy (ty k) = true) (hfin : (T k).2.2.2 = true) (hmn : Γ.2.1.2.2.2.1.name = "<init>") (hdc : (T k).1 = Γ.2.2.2.1) (hl : Cond.fieldLink Γ.2.2.2.1 idx (T k).1 (T k).2.1 (T k).2.2.1 ∈ WS) (hd : decode cc p2 = .ok (.putfield idx, 3)) : Sv Γ cc pc (p2 + 3) (k1 + k2) (n1 + n2) (sPa o ci k ea) := by
  intro hok ls lc hp H locs cells slots c1 s1 ad hL hR b1 b2 b3 b4 hp' r hf hk9
  have hE : ∀ x, r = .inr x → GF Γ hp' x := fun x h => by subst h; exact hk9
  refine ha.goS hok hL hR (show stW [] ≤ 0 from Nat.le_refl 0) (by omega) (by omega) hf hE fun g1 x ad1 v1 H1 locs1 e1 q1 q2 q3 => ?_
  obtain ⟨a, q4, rfl⟩ := q2
  refine he.goS hok (hL.mono q1) q3 (stW_a (show stW [] ≤ 0 from Nat.le_refl 0)) (by omega) (by omega) e1 hE fun g2 y ad2 v2 H2 locs2 e2 r1 r2 r3 => ?_
  have q5 := vAd.mono r1 q4
  have hL2 := (hL.mono q1).mono r1
  obtain ⟨b, r4, rfl⟩ := r2
  obtain ⟨h9', e3, e4⟩ := oS_cases e2
  cases e4
  obtain ⟨fs, f1, f2, rfl⟩ := fp_some e3
  obtain ⟨⟨p, l, e, R, s⟩, ⟨m, args, below, meth, c⟩, g, own, ⟨nL, jl⟩, Fin, ad0⟩ := Γ
  obtain ⟨hx, hb0, hml, hown, hts, henv, hlk, htb⟩ := hok
  obtain ⟨ws, fs', h1, h2, h3, h4, h5, h6, h7, h8, h9⟩ := r3.1.1.obj q5 f1
  exact W.widen (k := c1) (n := s1) (by omega) (by omega) (va_putF hx hb0 hts hF.2.1 ty hF.2.2.1 hF.2.2.2 hown henv.2.2.1 h1 h2 r3.1.2 _ h8 hF.1 k hk (hts _ hl) (fun _ z => z) hfin hmn hdc (hF.2.2.1 k hk) (by cases hq : ty k <;> rw [hq] at hty <;> first | rfl | cases hty) (by cases hq : ty k <;> rw [hq] at hty <;> first | rfl | cases hty) (by rw [← h9.1]; exact f2) hd (fun H3 locs3 u1 u2 u3 => hk9 ad2 ls H3 locs3 (q1.tr r1) hL2 ⟨⟨HW.put h3 h4 h5 h6 h7 h8 u1 u2 ⟨rfl, h9.set k (show VR _ _ (Value.ref _) _ from ⟨b, r4, rfl⟩)⟩, u3⟩, r3.2⟩))
theorem Sv_fop_iadd {idx2 : Nat} (hF : Fk ci C T N ty) (ha : Ev Γ cc Value.ref pc p1 0 k1 n1 o) (d1 : decode cc p1 = .ok (.dup, 1)) (d2 : decode cc (p1 + 1) = .ok (.getfield idx, 3)) (he : Ev Γ cc Value.int (p1 + 4) p2 (0 + 1 + 1) k2 n2 e0) (d3 : decode cc p2 = .ok (.iadd, 1)) (hk : k < N) (hty : ty k = .int) (hfin : (T k).2.2.2 = false) (hl : Cond.fieldLink Γ.2.2.2.1 idx (T k).1 (T k).2.1 (T k).2.2.1 ∈ WS) (hd : decode cc (p2 + 1) = .ok (.putfield idx, 3)) : Sv Γ cc pc (p2 + 4) (k1 + k2) (n1 + n2) (sPo o ci k o_iadd e0) := by
  intro hok ls lc hp H locs cells slots c1 s1 ad hL hR b1 b2 b3 b4 hp' r hf hk9
  have hE : ∀ x, r = .inr x → GF Γ hp' x := fun x h => by subst h; exact hk9
  refine ha.goS hok hL hR (show stW [] ≤ 0 from Nat.le_refl 0) (by omega) (by omega) hf hE fun g1 x ad1 v1 H1 locs1 e1 q1 q2 q3 => ?_
  obtain ⟨a, q4, rfl⟩ := q2
  obtain ⟨z, e2, e3⟩ := oS_cases e1
  obtain ⟨fs0, f01, f02⟩ := fgi_some e2
  have key : GW Γ H1 locs1 (cells + k1) (slots + n1) (p1 + 4) ls [.int z, .ref a] := by
    refine he.goS hok (hL.mono q1) q3 (stW_i (stW_a (show stW [] ≤ 0 from Nat.le_refl 0))) (by omega) (by omega) e3 hE fun g2 y ad2 v2 H2 locs2 e4 r1 r2 r3 => ?_
    have q5 := vAd.mono r1 q4
    have hL2 := (hL.mono q1).mono r1
    cases r2
    obtain ⟨h9', e5, e6⟩ := oS_cases e4
    cases e6
    obtain ⟨fs, f1, f2, rfl⟩ := fp_some e5
    obtain ⟨⟨p, l, e, R, s⟩, ⟨m, args, below, meth, c⟩, g, own, ⟨nL, jl⟩, Fin, ad0⟩ := Γ
    obtain ⟨hx, hb0, hml, hown, hts, henv, hlk, htb⟩ := hok
    obtain ⟨ws, fs', h1, h2, h3, h4, h5, h6, h7, h8, h9⟩ := r3.1.1.obj q5 f1
    refine W.widen (k := c1) (n := s1) (by omega) (by omega) (lv_iadd hx hb0 d3 ?_)
    exact va_put (v := .int (o_iadd z y)) hx hb0 hts hF.2.1 ty hF.2.2.1 hF.2.2.2 hown henv.2.2.1 h1 h2 r3.1.2 _ h8 hF.1 k hk (hts _ hl) (fun _ z => z) hfin (hF.2.2.1 k hk) (by rw [hty]; rfl) (by rw [hty]; rfl) (by rw [← h9.1]; exact f2) hd (fun H3 locs3 u1 u2 u3 => hk9 ad2 ls H3 locs3 (q1.tr r1) hL2 ⟨⟨HW.put h3 h4 h5 h6 h7 h8 u1 u2 ⟨rfl, h9.set k (show VR _ _ (Value.int _) _ from rfl)⟩, u3⟩, r3.2⟩)
  obtain ⟨⟨p, l, e, R, s⟩, ⟨m, args, below, meth, c⟩, g, own, ⟨nL, jl⟩, Fin, ad0⟩ := Γ
  obtain ⟨hx, hb0, hml, hown, hts, henv, hlk, htb⟩ := hok
  obtain ⟨ws0, fs0', g1', g2', g3', g4', g5', g6', g7', g8', g9'⟩ := q3.1.1.obj q4 f01
  obtain ⟨v', f11, f12⟩ := g9'.at f02
  cases f12
  exact lv_dup hx hb0 d1 rfl (va_get hx hb0 hts hF.2.1 hown henv.2.2.1 g1' _ g8' hF.1 k hk (hts _ hl) (fun _ z => z) f11 d2 key)
theorem Sv_fop_isub {idx2 : Nat} (hF : Fk ci C T N ty) (ha : Ev Γ cc Value.ref pc p1 0 k1 n1 o) (d1 : decode cc p1 = .ok (.dup, 1)) (d2 : decode cc (p1 + 1) = .ok (.getfield idx, 3)) (he : Ev Γ cc Value.int (p1 + 4) p2 (0 + 1 + 1) k2 n2 e0) (d3 : decode cc p2 = .ok (.isub, 1)) (hk : k < N) (hty : ty k = .int) (hfin : (T k).2.2.2 = false) (hl : Cond.fieldLink Γ.2.2.2.1 idx (T k).1 (T k).2.1 (T k).2.2.1 ∈ WS) (hd : decode cc (p2 + 1) = .ok (.putfield idx, 3)) : Sv Γ cc pc (p2 + 4) (k1 + k2) (n1 + n2) (sPo o ci k o_isub e0) := by
  intro hok ls lc hp H locs cells slots c1 s1 ad hL hR b1 b2 b3 b4 hp' r hf hk9
  have hE : ∀ x, r = .inr x → GF Γ hp' x := fun x h => by subst h; exact hk9
  refine ha.goS hok hL hR (show stW [] ≤ 0 from Nat.le_refl 0) (by omega) (by omega) hf hE fun g1 x ad1 v1 H1 locs1 e1 q1 q2 q3 => ?_
  obtain ⟨a, q4, rfl⟩ := q2
  obtain ⟨z, e2, e3⟩ := oS_cases e1
  obtain ⟨fs0, f01, f02⟩ := fgi_some e2
  have key : GW Γ H1 locs1 (cells + k1) (slots + n1) (p1 + 4) ls [.int z, .ref a] := by
    refine he.goS hok (hL.mono q1) q3 (stW_i (stW_a (show stW [] ≤ 0 from Nat.le_refl 0))) (by omega) (by omega) e3 hE fun g2 y ad2 v2 H2 locs2 e4 r1 r2 r3 => ?_
    have q5 := vAd.mono r1 q4
    have hL2 := (hL.mono q1).mono r1
    cases r2
    obtain ⟨h9', e5, e6⟩ := oS_cases e4
    cases e6
    obtain ⟨fs, f1, f2, rfl⟩ := fp_some e5
    obtain ⟨⟨p, l, e, R, s⟩, ⟨m, args, below, meth, c⟩, g, own, ⟨nL, jl⟩, Fin, ad0⟩ := Γ
    obtain ⟨hx, hb0, hml, hown, hts, henv, hlk, htb⟩ := hok
    obtain ⟨ws, fs', h1, h2, h3, h4, h5, h6, h7, h8, h9⟩ := r3.1.1.obj q5 f1
    refine W.widen (k := c1) (n := s1) (by omega) (by omega) (lv_isub hx hb0 d3 ?_)
    exact va_put (v := .int (o_isub z y)) hx hb0 hts hF.2.1 ty hF.2.2.1 hF.2.2.2 hown henv.2.2.1 h1 h2 r3.1.2 _ h8 hF.1 k hk (hts _ hl) (fun _ z => z) hfin (hF.2.2.1 k hk) (by rw [hty]; rfl) (by rw [hty]; rfl) (by rw [← h9.1]; exact f2) hd (fun H3 locs3 u1 u2 u3 => hk9 ad2 ls H3 locs3 (q1.tr r1) hL2 ⟨⟨HW.put h3 h4 h5 h6 h7 h8 u1 u2 ⟨rfl, h9.set k (show VR _ _ (Value.int _) _ from rfl)⟩, u3⟩, r3.2⟩)
  obtain ⟨⟨p, l, e, R, s⟩, ⟨m, args, below, meth, c⟩, g, own, ⟨nL, jl⟩, Fin, ad0⟩ := Γ
  obtain ⟨hx, hb0, hml, hown, hts, henv, hlk, htb⟩ := hok
  obtain ⟨ws0, fs0', g1', g2', g3', g4', g5', g6', g7', g8', g9'⟩ := q3.1.1.obj q4 f01
  obtain ⟨v', f11, f12⟩ := g9'.at f02
  cases f12
  exact lv_dup hx hb0 d1 rfl (va_get hx hb0 hts hF.2.1 hown henv.2.2.1 g1' _ g8' hF.1 k hk (hts _ hl) (fun _ z => z) f11 d2 key)
theorem Sv_iastore (ha : Ev Γ cc Value.ref pc p1 0 k1 n1 o) (hi : Ev Γ cc Value.int p1 p2 (0 + 1) k2 n2 i) (he : Ev Γ cc Value.int p2 p3 (0 + 1 + 1) k3 n3 e0) (hd : decode cc p3 = .ok (.iastore, 1)) : Sv Γ cc pc (p3 + 1) (k1 + k2 + k3) (n1 + n2 + n3) (sAi 0 o i e0) := by
  intro hok ls lc hp H locs cells slots c1 s1 ad hL hR b1 b2 b3 b4 hp' r hf hk9
  have hE : ∀ x, r = .inr x → GF Γ hp' x := fun x h => by subst h; exact hk9
  refine ha.goS hok hL hR (show stW [] ≤ 0 from Nat.le_refl 0) (by omega) (by omega) hf hE fun g1 x ad1 v1 H1 locs1 e1 q1 q2 q3 => ?_
  obtain ⟨a, q4, rfl⟩ := q2
  refine hi.goS hok (hL.mono q1) q3 (stW_a (show stW [] ≤ 0 from Nat.le_refl 0)) (by omega) (by omega) e1 hE fun g2 y ad2 v2 H2 locs2 e2 r1 r2 r3 => ?_
  cases r2
  refine he.goS hok ((hL.mono q1).mono r1) r3 (stW_i (stW_a (show stW [] ≤ 0 from Nat.le_refl 0))) (by omega) (by omega) e2 hE fun g3 z ad3 v3 H3 locs3 e3 t1 t2 t3 => ?_
  have q5 := vAd.mono t1 (vAd.mono r1 q4)
  have hL3 := ((hL.mono q1).mono r1).mono t1
  obtain ⟨h9', e4, e5⟩ := oS_cases e3
  cases e5
  cases t2
  obtain ⟨n, f, f1, f2, rfl⟩ := api_some e4
  obtain ⟨⟨p, l, e, R, s⟩, ⟨m, args, below, meth, c⟩, g, own, ⟨nL, jl⟩, Fin, ad0⟩ := Γ
  obtain ⟨hx, hb0, hml, hown, hts, henv, hlk, htb⟩ := hok
  obtain ⟨ws, cA, h1, h2, h3, h4, h5, h6, h7, h8, h9, h10, h11⟩ := t3.1.1.arr q5 f1 (by decide)
  exact W.widen (k := c1) (n := s1) (by omega) (by omega) (va_iast hx hb0 (henv.2.2.1.one h10 h11) h1 h2 t3.1.2 _ 0 h8 rfl f2 hd (fun H4 locs4 u1 u2 u3 => hk9 ad3 ls H4 locs4 ((q1.tr r1).tr t1) hL3 ⟨⟨HW.put h3 h4 h5 h6 h7 h8 u1 u2 ⟨rfl, h9, h10, h11⟩, u3⟩, t3.2⟩))
theorem Sv_bastore (ha : Ev Γ cc Value.ref pc p1 0 k1 n1 o) (hi : Ev Γ cc Value.int p1 p2 (0 + 1) k2 n2 i) (he : Ev Γ cc Value.int p2 p3 (0 + 1 + 1) k3 n3 e0) (hd : decode cc p3 = .ok (.bastore, 1)) : Sv Γ cc pc (p3 + 1) (k1 + k2 + k3) (n1 + n2 + n3) (sAi 2 o i e0) := by
  intro hok ls lc hp H locs cells slots c1 s1 ad hL hR b1 b2 b3 b4 hp' r hf hk9
  have hE : ∀ x, r = .inr x → GF Γ hp' x := fun x h => by subst h; exact hk9
  refine ha.goS hok hL hR (show stW [] ≤ 0 from Nat.le_refl 0) (by omega) (by omega) hf hE fun g1 x ad1 v1 H1 locs1 e1 q1 q2 q3 => ?_
  obtain ⟨a, q4, rfl⟩ := q2
  refine hi.goS hok (hL.mono q1) q3 (stW_a (show stW [] ≤ 0 from Nat.le_refl 0)) (by omega) (by omega) e1 hE fun g2 y ad2 v2 H2 locs2 e2 r1 r2 r3 => ?_
  cases r2
  refine he.goS hok ((hL.mono q1).mono r1) r3 (stW_i (stW_a (show stW [] ≤ 0 from Nat.le_refl 0))) (by omega) (by omega) e2 hE fun g3 z ad3 v3 H3 locs3 e3 t1 t2 t3 => ?_
  have q5 := vAd.mono t1 (vAd.mono r1 q4)
  have hL3 := ((hL.mono q1).mono r1).mono t1
  obtain ⟨h9', e4, e5⟩ := oS_cases e3
  cases e5
  cases t2
  obtain ⟨n, f, f1, f2, rfl⟩ := api_some e4
  obtain ⟨⟨p, l, e, R, s⟩, ⟨m, args, below, meth, c⟩, g, own, ⟨nL, jl⟩, Fin, ad0⟩ := Γ
  obtain ⟨hx, hb0, hml, hown, hts, henv, hlk, htb⟩ := hok
  obtain ⟨ws, cA, h1, h2, h3, h4, h5, h6, h7, h8, h9, h10, h11⟩ := t3.1.1.arr q5 f1 (by decide)
  exact W.widen (k := c1) (n := s1) (by omega) (by omega) (va_zast hx hb0 (henv.2.2.1.one h10 h11) h1 h2 t3.1.2 _ 0 h8 rfl f2 hd (fun H4 locs4 u1 u2 u3 => hk9 ad3 ls H4 locs4 ((q1.tr r1).tr t1) hL3 ⟨⟨HW.put h3 h4 h5 h6 h7 h8 u1 u2 ⟨rfl, h9, h10, h11⟩, u3⟩, t3.2⟩))
theorem Sv_castore (ha : Ev Γ cc Value.ref pc p1 0 k1 n1 o) (hi : Ev Γ cc Value.int p1 p2 (0 + 1) k2 n2 i) (he : Ev Γ cc Value.int p2 p3 (0 + 1 + 1) k3 n3 e0) (hd : decode cc p3 = .ok (.castore, 1)) : Sv Γ cc pc (p3 + 1) (k1 + k2 + k3) (n1 + n2 + n3) (sAi 3 o i e0) := by
  intro hok ls lc hp H locs cells slots c1 s1 ad hL hR b1 b2 b3 b4 hp' r hf hk9
  have hE : ∀ x, r = .inr x → GF Γ hp' x := fun x h => by subst h; exact hk9
  refine ha.goS hok hL hR (show stW [] ≤ 0 from Nat.le_refl 0) (by omega) (by omega) hf hE fun g1 x ad1 v1 H1 locs1 e1 q1 q2 q3 => ?_
  obtain ⟨a, q4, rfl⟩ := q2
  refine hi.goS hok (hL.mono q1) q3 (stW_a (show stW [] ≤ 0 from Nat.le_refl 0)) (by omega) (by omega) e1 hE fun g2 y ad2 v2 H2 locs2 e2 r1 r2 r3 => ?_
  cases r2
  refine he.goS hok ((hL.mono q1).mono r1) r3 (stW_i (stW_a (show stW [] ≤ 0 from Nat.le_refl 0))) (by omega) (by omega) e2 hE fun g3 z ad3 v3 H3 locs3 e3 t1 t2 t3 => ?_
  have q5 := vAd.mono t1 (vAd.mono r1 q4)
  have hL3 := ((hL.mono q1).mono r1).mono t1
  obtain ⟨h9', e4, e5⟩ := oS_cases e3
  cases e5
  cases t2
  obtain ⟨n, f, f1, f2, rfl⟩ := api_some e4
  obtain ⟨⟨p, l, e, R, s⟩, ⟨m, args, below, meth, c⟩, g, own, ⟨nL, jl⟩, Fin, ad0⟩ := Γ
  obtain ⟨hx, hb0, hml, hown, hts, henv, hlk, htb⟩ := hok
  obtain ⟨ws, cA, h1, h2, h3, h4, h5, h6, h7, h8, h9, h10, h11⟩ := t3.1.1.arr q5 f1 (by decide)
  exact W.widen (k := c1) (n := s1) (by omega) (by omega) (va_cast hx hb0 (henv.2.2.1.one h10 h11) h1 h2 t3.1.2 _ 0 h8 rfl f2 hd (fun H4 locs4 u1 u2 u3 => hk9 ad3 ls H4 locs4 ((q1.tr r1).tr t1) hL3 ⟨⟨HW.put h3 h4 h5 h6 h7 h8 u1 u2 ⟨rfl, h9, h10, h11⟩, u3⟩, t3.2⟩))
theorem Sv_lastore {el : EXl} (ha : Ev Γ cc Value.ref pc p1 0 k1 n1 o) (hi : Ev Γ cc Value.int p1 p2 (0 + 1) k2 n2 i) (he : Ev Γ cc Value.long p2 p3 (0 + 1 + 1) k3 n3 el) (hd : decode cc p3 = .ok (.lastore, 1)) : Sv Γ cc pc (p3 + 1) (k1 + k2 + k3) (n1 + n2 + n3) (sAl o i el) := by
  intro hok ls lc hp H locs cells slots c1 s1 ad hL hR b1 b2 b3 b4 hp' r hf hk9
  have hE : ∀ x, r = .inr x → GF Γ hp' x := fun x h => by subst h; exact hk9
  refine ha.goS hok hL hR (show stW [] ≤ 0 from Nat.le_refl 0) (by omega) (by omega) hf hE fun g1 x ad1 v1 H1 locs1 e1 q1 q2 q3 => ?_
  obtain ⟨a, q4, rfl⟩ := q2
  refine hi.goS hok (hL.mono q1) q3 (stW_a (show stW [] ≤ 0 from Nat.le_refl 0)) (by omega) (by omega) e1 hE fun g2 y ad2 v2 H2 locs2 e2 r1 r2 r3 => ?_
  cases r2
  refine he.goS hok ((hL.mono q1).mono r1) r3 (stW_i (stW_a (show stW [] ≤ 0 from Nat.le_refl 0))) (by omega) (by omega) e2 hE fun g3 z ad3 v3 H3 locs3 e3 t1 t2 t3 => ?_
  have q5 := vAd.mono t1 (vAd.mono r1 q4)
  have hL3 := ((hL.mono q1).mono r1).mono t1
  obtain ⟨h9', e4, e5⟩ := oS_cases e3
  cases e5
  cases t2
  obtain ⟨n, f, f1, f2, rfl⟩ := apl_some e4
  obtain ⟨⟨p, l, e, R, s⟩, ⟨m, args, below, meth, c⟩, g, own, ⟨nL, jl⟩, Fin, ad0⟩ := Γ
  obtain ⟨hx, hb0, hml, hown, hts, henv, hlk, htb⟩ := hok
  obtain ⟨ws, e9, h1, h2, h3, h4, h5, h6, h7, h8, h9⟩ := t3.1.1.find q5 (fun k q => by rw [f1] at q; unfold roOb at q; cases q)
  rw [f1] at h9
  rcases e9 with ⟨cA, x0⟩ | ⟨c0, fs⟩
  · obtain ⟨rfl, h10, h11⟩ := h9
    exact W.widen (k := c1) (n := s1) (by omega) (by omega) (va_last hx hb0 (henv.2.2.1.one h10 h11) h1 h2 t3.1.2 _ 0 h8 rfl f2 hd (fun H4 locs4 u1 u2 u3 => hk9 ad3 ls H4 locs4 ((q1.tr r1).tr t1) hL3 ⟨⟨HW.put h3 h4 h5 h6 h7 h8 u1 u2 ⟨rfl, h10, h11⟩, u3⟩, t3.2⟩))
  · exact h9.elim
theorem Sv_aastore {ea : EXa} (ha : Ev Γ cc Value.ref pc p1 0 k1 n1 o) (hi : Ev Γ cc Value.int p1 p2 (0 + 1) k2 n2 i) (he : Ev Γ cc Value.ref p2 p3 (0 + 1 + 1) k3 n3 ea) (hc6 : kls[ci]? = some (RX6, T, N)) (hd : decode cc p3 = .ok (.aastore, 1)) : Sv Γ cc pc (p3 + 1) (k1 + k2 + k3) (n1 + n2 + n3) (sAa o i ci ea) := by
  intro hok ls lc hp H locs cells slots c1 s1 ad hL hR b1 b2 b3 b4 hp' r hf hk9
  have hE : ∀ x, r = .inr x → GF Γ hp' x := fun x h => by subst h; exact hk9
  refine ha.goS hok hL hR (show stW [] ≤ 0 from Nat.le_refl 0) (by omega) (by omega) hf hE fun g1 x ad1 v1 H1 locs1 e1 q1 q2 q3 => ?_
  obtain ⟨a, q4, rfl⟩ := q2
  refine hi.goS hok (hL.mono q1) q3 (stW_a (show stW [] ≤ 0 from Nat.le_refl 0)) (by omega) (by omega) e1 hE fun g2 y ad2 v2 H2 locs2 e2 r1 r2 r3 => ?_
  cases r2
  refine he.goS hok ((hL.mono q1).mono r1) r3 (stW_i (stW_a (show stW [] ≤ 0 from Nat.le_refl 0))) (by omega) (by omega) e2 hE fun g3 z ad3 v3 H3 locs3 e3 t1 t2 t3 => ?_
  have q5 := vAd.mono t1 (vAd.mono r1 q4)
  have hL3 := ((hL.mono q1).mono r1).mono t1
  obtain ⟨h9', e4, e5⟩ := oS_cases e3
  cases e5
  obtain ⟨b, t4, rfl⟩ := t2
  obtain ⟨n, f, fs, f1, f2, f3, rfl⟩ := apa_some e4
  obtain ⟨⟨p, l, e, R, s⟩, ⟨m, args, below, meth, c⟩, g, own, ⟨nL, jl⟩, Fin, ad0⟩ := Γ
  obtain ⟨hx, hb0, hml, hown, hts, henv, hlk, htb⟩ := hok
  obtain ⟨ws, e9, h1, h2, h3, h4, h5, h6, h7, h8, h9⟩ := t3.1.1.find q5 (fun k q => by rw [f1] at q; unfold roOb at q; cases q)
  rw [f1] at h9
  obtain ⟨ws', fs', -, -, g3, -, -, g6, -, -, -⟩ := t3.1.1.obj t4 f2
  have hzlt : z < RO := by
    rcases Nat.lt_or_ge z RO with q | q
    · exact q
    · have := h7 (z - RO); rw [show RO + (z - RO) = z by omega, f2] at this; unfold roOb at this; cases this
  have hz : ∃ e8, ws[z]? = some (b, e8) := by
    unfold vAd at t4
    rw [if_pos hzlt, ← h3, List.getElem?_map] at t4
    cases hq : ws[z]? with
    | none => rw [hq] at t4; cases t4
    | some q => rw [hq] at t4; obtain ⟨q1, q2⟩ := q; cases t4; exact ⟨q2, rfl⟩
  obtain ⟨e8, hz⟩ := hz
  have hz2 := h6 z _ hz
  rw [f2] at hz2
  rcases e8 with ⟨cB, x1⟩ | ⟨ci', fs2⟩
  · exact hz2.elim
  obtain ⟨rfl, hz3⟩ := hz2
  rcases e9 with ⟨cA, x0⟩ | ⟨c0, fs⟩
  · obtain ⟨⟨f', rfl, h12⟩, h10, h11⟩ := h9
    refine W.widen (k := c1) (n := s1) (by omega) (by omega) (va_astq (r := (RX6, T, N)) hx hb0 (henv.2.2.1.one h10 h11) h1 h2 t3.1.2 _ 0 z ci h8 rfl hz hc6 f3 hd (fun H4 locs4 u1 u2 u3 => hk9 ad3 ls H4 locs4 ((q1.tr r1).tr t1) hL3 ⟨⟨HW.put h3 h4 h5 h6 h7 h8 u1 u2 ⟨⟨_, rfl, fun j q hj => ?_⟩, h10, h11⟩, u3⟩, t3.2⟩))
    unfold va_up at hj ⊢
    by_cases hjj : j = y.toNatClampNeg
    · rw [if_pos hjj] at hj ⊢
      cases hj
      exact ⟨b, t4, rfl⟩
    · rw [if_neg hjj] at hj ⊢
      exact h12 j q hj
  · exact h9.elim
theorem Sv_aop_iadd (ha : Ev Γ cc Value.ref pc p1 0 k1 n1 o) (hi : Ev Γ cc Value.int p1 p2 (0 + 1) k2 n2 i) (d1 : decode cc p2 = .ok (.dup2, 1)) (d2 : decode cc (p2 + 1) = .ok (.iaload, 1)) (he : Ev Γ cc Value.int (p2 + 2) p3 (0 + 1 + 1 + 1) k3 n3 e0) (d3 : decode cc p3 = .ok (.iadd, 1)) (hd : decode cc (p3 + 1) = .ok (.iastore, 1)) : Sv Γ cc pc (p3 + 2) (k1 + k2 + k3) (n1 + n2 + n3) (sAo o i o_iadd e0) := by
  intro hok ls lc hp H locs cells slots c1 s1 ad hL hR b1 b2 b3 b4 hp' r hf hk9
  have hE : ∀ x, r = .inr x → GF Γ hp' x := fun x h => by subst h; exact hk9
  refine ha.goS hok hL hR (show stW [] ≤ 0 from Nat.le_refl 0) (by omega) (by omega) hf hE fun g1 x ad1 v1 H1 locs1 e1 q1 q2 q3 => ?_
  obtain ⟨a, q4, rfl⟩ := q2
  refine hi.goS hok (hL.mono q1) q3 (stW_a (show stW [] ≤ 0 from Nat.le_refl 0)) (by omega) (by omega) e1 hE fun g2 y ad2 v2 H2 locs2 e2 r1 r2 r3 => ?_
  cases r2
  have q6 := vAd.mono r1 q4
  obtain ⟨z, e3, e4⟩ := oS_cases e2
  obtain ⟨t', n', f', f01, f02, f03, rfl⟩ := agi_some e3
  have key : GW Γ H2 locs2 (cells + k1 + k2) (slots + n1 + n2) (p2 + 2) ls [.int (f' y.toNatClampNeg), .int y, .ref a] := by
    refine he.goS hok ((hL.mono q1).mono r1) r3 (stW_i (stW_i (stW_a (show stW [] ≤ 0 from Nat.le_refl 0)))) (by omega) (by omega) e4 hE fun g3 z ad3 v3 H3 locs3 e5 t1 t2 t3 => ?_
    cases t2
    have q5 := vAd.mono t1 q6
    have hL3 := ((hL.mono q1).mono r1).mono t1
    obtain ⟨h9', e6, e7⟩ := oS_cases e5
    cases e7
    obtain ⟨n, f, f1, f2, rfl⟩ := api_some e6
    obtain ⟨⟨p, l, e, R, s⟩, ⟨m, args, below, meth, c⟩, g, own, ⟨nL, jl⟩, Fin, ad0⟩ := Γ
    obtain ⟨hx, hb0, hml, hown, hts, henv, hlk, htb⟩ := hok
    obtain ⟨ws, cA, h1, h2, h3, h4, h5, h6, h7, h8, h9, h10, h11⟩ := t3.1.1.arr q5 f1 (by decide)
    refine W.widen (k := c1) (n := s1) (by omega) (by omega) (lv_iadd hx hb0 d3 ?_)
    exact va_iast (x := o_iadd (f' y.toNatClampNeg) z) hx hb0 (henv.2.2.1.one h10 h11) h1 h2 t3.1.2 _ 0 h8 rfl f2 hd (fun H4 locs4 u1 u2 u3 => hk9 ad3 ls H4 locs4 ((q1.tr r1).tr t1) hL3 ⟨⟨HW.put h3 h4 h5 h6 h7 h8 u1 u2 ⟨rfl, h9, h10, h11⟩, u3⟩, t3.2⟩)
  obtain ⟨⟨p, l, e, R, s⟩, ⟨m, args, below, meth, c⟩, g, own, ⟨nL, jl⟩, Fin, ad0⟩ := Γ
  obtain ⟨hx, hb0, hml, hown, hts, henv, hlk, htb⟩ := hok
  refine lv_dup2_11 hx hb0 d1 rfl rfl ?_
  rcases f02 with rfl | ⟨-, rfl⟩
  · obtain ⟨ws, cA, h1, h2, h3, h4, h5, h6, h7, h8, h9, h10, h11⟩ := r3.1.1.arr q6 f01 (by decide)
    exact va_iald hx hb0 (henv.2.2.1.one h10 h11) h1 _ 0 h8 rfl f03 d2 key
  · obtain ⟨kq, rfl, rfl, rfl⟩ := r3.1.1.ro q6 f01
    exact va_sld hx hb0 (henv.2.2.2.1 kq).1 (henv.2.2.2.1 kq).2.1 (henv.2.2.2.1 kq).2.2 r3.1.2 f03 d2 key
theorem Sv_aop_isub (ha : Ev Γ cc Value.ref pc p1 0 k1 n1 o) (hi : Ev Γ cc Value.int p1 p2 (0 + 1) k2 n2 i) (d1 : decode cc p2 = .ok (.dup2, 1)) (d2 : decode cc (p2 + 1) = .ok (.iaload, 1)) (he : Ev Γ cc Value.int (p2 + 2) p3 (0 + 1 + 1 + 1) k3 n3 e0) (d3 : decode cc p3 = .ok (.isub, 1)) (hd : decode cc (p3 + 1) = .ok (.iastore, 1)) : Sv Γ cc pc (p3 + 2) (k1 + k2 + k3) (n1 + n2 + n3) (sAo o i o_isub e0) := by
  intro hok ls lc hp H locs cells slots c1 s1 ad hL hR b1 b2 b3 b4 hp' r hf hk9
  have hE : ∀ x, r = .inr x → GF Γ hp' x := fun x h => by subst h; exact hk9
  refine ha.goS hok hL hR (show stW [] ≤ 0 from Nat.le_refl 0) (by omega) (by omega) hf hE fun g1 x ad1 v1 H1 locs1 e1 q1 q2 q3 => ?_
  obtain ⟨a, q4, rfl⟩ := q2
  refine hi.goS hok (hL.mono q1) q3 (stW_a (show stW [] ≤ 0 from Nat.le_refl 0)) (by omega) (by omega) e1 hE fun g2 y ad2 v2 H2 locs2 e2 r1 r2 r3 => ?_
  cases r2
  have q6 := vAd.mono r1 q4
  obtain ⟨z, e3, e4⟩ := oS_cases e2
  obtain ⟨t', n', f', f01, f02, f03, rfl⟩ := agi_some e3
  have key : GW Γ H2 locs2 (cells + k1 + k2) (slots + n1 + n2) (p2 + 2) ls [.int (f' y.toNatClampNeg), .int y, .ref a] := by
    refine he.goS hok ((hL.mono q1).mono r1) r3 (stW_i (stW_i (stW_a (show stW [] ≤ 0 from Nat.le_refl 0)))) (by omega) (by omega) e4 hE fun g3 z ad3 v3 H3 locs3 e5 t1 t2 t3 => ?_
    cases t2
    have q5 := vAd.mono t1 q6
    have hL3 := ((hL.mono q1).mono r1).mono t1
    obtain ⟨h9', e6, e7⟩ := oS_cases e5
    cases e7
    obtain ⟨n, f, f1, f2, rfl⟩ := api_some e6
    obtain ⟨⟨p, l, e, R, s⟩, ⟨m, args, below, meth, c⟩, g, own, ⟨nL, jl⟩, Fin, ad0⟩ := Γ
    obtain ⟨hx, hb0, hml, hown, hts, henv, hlk, htb⟩ := hok
    obtain ⟨ws, cA, h1, h2, h3, h4, h5, h6, h7, h8, h9, h10, h11⟩ := t3.1.1.arr q5 f1 (by decide)
    refine W.widen (k := c1) (n := s1) (by omega) (by omega) (lv_isub hx hb0 d3 ?_)
    exact va_iast (x := o_isub (f' y.toNatClampNeg) z) hx hb0 (henv.2.2.1.one h10 h11) h1 h2 t3.1.2 _ 0 h8 rfl f2 hd (fun H4 locs4 u1 u2 u3 => hk9 ad3 ls H4 locs4 ((q1.tr r1).tr t1) hL3 ⟨⟨HW.put h3 h4 h5 h6 h7 h8 u1 u2 ⟨rfl, h9, h10, h11⟩, u3⟩, t3.2⟩)
  obtain ⟨⟨p, l, e, R, s⟩, ⟨m, args, below, meth, c⟩, g, own, ⟨nL, jl⟩, Fin, ad0⟩ := Γ
  obtain ⟨hx, hb0, hml, hown, hts, henv, hlk, htb⟩ := hok
  refine lv_dup2_11 hx hb0 d1 rfl rfl ?_
  rcases f02 with rfl | ⟨-, rfl⟩
  · obtain ⟨ws, cA, h1, h2, h3, h4, h5, h6, h7, h8, h9, h10, h11⟩ := r3.1.1.arr q6 f01 (by decide)
    exact va_iald hx hb0 (henv.2.2.1.one h10 h11) h1 _ 0 h8 rfl f03 d2 key
  · obtain ⟨kq, rfl, rfl, rfl⟩ := r3.1.1.ro q6 f01
    exact va_sld hx hb0 (henv.2.2.2.1 kq).1 (henv.2.2.2.1 kq).2.1 (henv.2.2.2.1 kq).2.2 r3.1.2 f03 d2 key
theorem Sv_aop_ior (ha : Ev Γ cc Value.ref pc p1 0 k1 n1 o) (hi : Ev Γ cc Value.int p1 p2 (0 + 1) k2 n2 i) (d1 : decode cc p2 = .ok (.dup2, 1)) (d2 : decode cc (p2 + 1) = .ok (.iaload, 1)) (he : Ev Γ cc Value.int (p2 + 2) p3 (0 + 1 + 1 + 1) k3 n3 e0) (d3 : decode cc p3 = .ok (.ior, 1)) (hd : decode cc (p3 + 1) = .ok (.iastore, 1)) : Sv Γ cc pc (p3 + 2) (k1 + k2 + k3) (n1 + n2 + n3) (sAo o i o_ior e0) := by
  intro hok ls lc hp H locs cells slots c1 s1 ad hL hR b1 b2 b3 b4 hp' r hf hk9
  have hE : ∀ x, r = .inr x → GF Γ hp' x := fun x h => by subst h; exact hk9
  refine ha.goS hok hL hR (show stW [] ≤ 0 from Nat.le_refl 0) (by omega) (by omega) hf hE fun g1 x ad1 v1 H1 locs1 e1 q1 q2 q3 => ?_
  obtain ⟨a, q4, rfl⟩ := q2
  refine hi.goS hok (hL.mono q1) q3 (stW_a (show stW [] ≤ 0 from Nat.le_refl 0)) (by omega) (by omega) e1 hE fun g2 y ad2 v2 H2 locs2 e2 r1 r2 r3 => ?_
  cases r2
  have q6 := vAd.mono r1 q4
  obtain ⟨z, e3, e4⟩ := oS_cases e2
  obtain ⟨t', n', f', f01, f02, f03, rfl⟩ := agi_some e3
  have key : GW Γ H2 locs2 (cells + k1 + k2) (slots + n1 + n2) (p2 + 2) ls [.int (f' y.toNatClampNeg), .int y, .ref a] := by
    refine he.goS hok ((hL.mono q1).mono r1) r3 (stW_i (stW_i (stW_a (show stW [] ≤ 0 from Nat.le_refl 0)))) (by omega) (by omega) e4 hE fun g3 z ad3 v3 H3 locs3 e5 t1 t2 t3 => ?_
    cases t2
    have q5 := vAd.mono t1 q6
    have hL3 := ((hL.mono q1).mono r1).mono t1
    obtain ⟨h9', e6, e7⟩ := oS_cases e5
    cases e7
    obtain ⟨n, f, f1, f2, rfl⟩ := api_some e6
    obtain ⟨⟨p, l, e, R, s⟩, ⟨m, args, below, meth, c⟩, g, own, ⟨nL, jl⟩, Fin, ad0⟩ := Γ
    obtain ⟨hx, hb0, hml, hown, hts, henv, hlk, htb⟩ := hok
    obtain ⟨ws, cA, h1, h2, h3, h4, h5, h6, h7, h8, h9, h10, h11⟩ := t3.1.1.arr q5 f1 (by decide)
    refine W.widen (k := c1) (n := s1) (by omega) (by omega) (lv_ior hx hb0 d3 ?_)
    exact va_iast (x := o_ior (f' y.toNatClampNeg) z) hx hb0 (henv.2.2.1.one h10 h11) h1 h2 t3.1.2 _ 0 h8 rfl f2 hd (fun H4 locs4 u1 u2 u3 => hk9 ad3 ls H4 locs4 ((q1.tr r1).tr t1) hL3 ⟨⟨HW.put h3 h4 h5 h6 h7 h8 u1 u2 ⟨rfl, h9, h10, h11⟩, u3⟩, t3.2⟩)
  obtain ⟨⟨p, l, e, R, s⟩, ⟨m, args, below, meth, c⟩, g, own, ⟨nL, jl⟩, Fin, ad0⟩ := Γ
  obtain ⟨hx, hb0, hml, hown, hts, henv, hlk, htb⟩ := hok
  refine lv_dup2_11 hx hb0 d1 rfl rfl ?_
  rcases f02 with rfl | ⟨-, rfl⟩
  · obtain ⟨ws, cA, h1, h2, h3, h4, h5, h6, h7, h8, h9, h10, h11⟩ := r3.1.1.arr q6 f01 (by decide)
    exact va_iald hx hb0 (henv.2.2.1.one h10 h11) h1 _ 0 h8 rfl f03 d2 key
  · obtain ⟨kq, rfl, rfl, rfl⟩ := r3.1.1.ro q6 f01
    exact va_sld hx hb0 (henv.2.2.2.1 kq).1 (henv.2.2.2.1 kq).2.1 (henv.2.2.2.1 kq).2.2 r3.1.2 f03 d2 key
theorem Sv_aop_iand (ha : Ev Γ cc Value.ref pc p1 0 k1 n1 o) (hi : Ev Γ cc Value.int p1 p2 (0 + 1) k2 n2 i) (d1 : decode cc p2 = .ok (.dup2, 1)) (d2 : decode cc (p2 + 1) = .ok (.iaload, 1)) (he : Ev Γ cc Value.int (p2 + 2) p3 (0 + 1 + 1 + 1) k3 n3 e0) (d3 : decode cc p3 = .ok (.iand, 1)) (hd : decode cc (p3 + 1) = .ok (.iastore, 1)) : Sv Γ cc pc (p3 + 2) (k1 + k2 + k3) (n1 + n2 + n3) (sAo o i o_iand e0) := by
  intro hok ls lc hp H locs cells slots c1 s1 ad hL hR b1 b2 b3 b4 hp' r hf hk9
  have hE : ∀ x, r = .inr x → GF Γ hp' x := fun x h => by subst h; exact hk9
  refine ha.goS hok hL hR (show stW [] ≤ 0 from Nat.le_refl 0) (by omega) (by omega) hf hE fun g1 x ad1 v1 H1 locs1 e1 q1 q2 q3 => ?_
  obtain ⟨a, q4, rfl⟩ := q2
  refine hi.goS hok (hL.mono q1) q3 (stW_a (show stW [] ≤ 0 from Nat.le_refl 0)) (by omega) (by omega) e1 hE fun g2 y ad2 v2 H2 locs2 e2 r1 r2 r3 => ?_
  cases r2
  have q6 := vAd.mono r1 q4
  obtain ⟨z, e3, e4⟩ := oS_cases e2
  obtain ⟨t', n', f', f01, f02, f03, rfl⟩ := agi_some e3
  have key : GW Γ H2 locs2 (cells + k1 + k2) (slots + n1 + n2) (p2 + 2) ls [.int (f' y.toNatClampNeg), .int y, .ref a] := by
    refine he.goS hok ((hL.mono q1).mono r1) r3 (stW_i (stW_i (stW_a (show stW [] ≤ 0 from Nat.le_refl 0)))) (by omega) (by omega) e4 hE fun g3 z ad3 v3 H3 locs3 e5 t1 t2 t3 => ?_
    cases t2
    have q5 := vAd.mono t1 q6
    have hL3 := ((hL.mono q1).mono r1).mono t1
    obtain ⟨h9', e6, e7⟩ := oS_cases e5
    cases e7
    obtain ⟨n, f, f1, f2, rfl⟩ := api_some e6
    obtain ⟨⟨p, l, e, R, s⟩, ⟨m, args, below, meth, c⟩, g, own, ⟨nL, jl⟩, Fin, ad0⟩ := Γ
    obtain ⟨hx, hb0, hml, hown, hts, henv, hlk, htb⟩ := hok
    obtain ⟨ws, cA, h1, h2, h3, h4, h5, h6, h7, h8, h9, h10, h11⟩ := t3.1.1.arr q5 f1 (by decide)
    refine W.widen (k := c1) (n := s1) (by omega) (by omega) (lv_iand hx hb0 d3 ?_)
    exact va_iast (x := o_iand (f' y.toNatClampNeg) z) hx hb0 (henv.2.2.1.one h10 h11) h1 h2 t3.1.2 _ 0 h8 rfl f2 hd (fun H4 locs4 u1 u2 u3 => hk9 ad3 ls H4 locs4 ((q1.tr r1).tr t1) hL3 ⟨⟨HW.put h3 h4 h5 h6 h7 h8 u1 u2 ⟨rfl, h9, h10, h11⟩, u3⟩, t3.2⟩)
  obtain ⟨⟨p, l, e, R, s⟩, ⟨m, args, below, meth, c⟩, g, own, ⟨nL, jl⟩, Fin, ad0⟩ := Γ
  obtain ⟨hx, hb0, hml, hown, hts, henv, hlk, htb⟩ := hok
  refine lv_dup2_11 hx hb0 d1 rfl rfl ?_
  rcases f02 with rfl | ⟨-, rfl⟩
  · obtain ⟨ws, cA, h1, h2, h3, h4, h5, h6, h7, h8, h9, h10, h11⟩ := r3.1.1.arr q6 f01 (by decide)
    exact va_iald hx hb0 (henv.2.2.1.one h10 h11) h1 _ 0 h8 rfl f03 d2 key
  · obtain ⟨kq, rfl, rfl, rfl⟩ := r3.1.1.ro q6 f01
    exact va_sld hx hb0 (henv.2.2.2.1 kq).1 (henv.2.2.2.1 kq).2.1 (henv.2.2.2.1 kq).2.2 r3.1.2 f03 d2 key
theorem Sv_aop_ixor (ha : Ev Γ cc Value.ref pc p1 0 k1 n1 o) (hi : Ev Γ cc Value.int p1 p2 (0 + 1) k2 n2 i) (d1 : decode cc p2 = .ok (.dup2, 1)) (d2 : decode cc (p2 + 1) = .ok (.iaload, 1)) (he : Ev Γ cc Value.int (p2 + 2) p3 (0 + 1 + 1 + 1) k3 n3 e0) (d3 : decode cc p3 = .ok (.ixor, 1)) (hd : decode cc (p3 + 1) = .ok (.iastore, 1)) : Sv Γ cc pc (p3 + 2) (k1 + k2 + k3) (n1 + n2 + n3) (sAo o i o_ixor e0) := by
  intro hok ls lc hp H locs cells slots c1 s1 ad hL hR b1 b2 b3 b4 hp' r hf hk9
  have hE : ∀ x, r = .inr x → GF Γ hp' x := fun x h => by subst h; exact hk9
  refine ha.goS hok hL hR (show stW [] ≤ 0 from Nat.le_refl 0) (by omega) (by omega) hf hE fun g1 x ad1 v1 H1 locs1 e1 q1 q2 q3 => ?_
  obtain ⟨a, q4, rfl⟩ := q2
  refine hi.goS hok (hL.mono q1) q3 (stW_a (show stW [] ≤ 0 from Nat.le_refl 0)) (by omega) (by omega) e1 hE fun g2 y ad2 v2 H2 locs2 e2 r1 r2 r3 => ?_
  cases r2
  have q6 := vAd.mono r1 q4
  obtain ⟨z, e3, e4⟩ := oS_cases e2
  obtain ⟨t', n', f', f01, f02, f03, rfl⟩ := agi_some e3
  have key : GW Γ H2 locs2 (cells + k1 + k2) (slots + n1 + n2) (p2 + 2) ls [.int (f' y.toNatClampNeg), .int y, .ref a] := by
    refine he.goS hok ((hL.mono q1).mono r1) r3 (stW_i (stW_i (stW_a (show stW [] ≤ 0 from Nat.le_refl 0)))) (by omega) (by omega) e4 hE fun g3 z ad3 v3 H3 locs3 e5 t1 t2 t3 => ?_
    cases t2
    have q5 := vAd.mono t1 q6
    have hL3 := ((hL.mono q1).mono r1).mono t1
    obtain ⟨h9', e6, e7⟩ := oS_cases e5
    cases e7
    obtain ⟨n, f, f1, f2, rfl⟩ := api_some e6
    obtain ⟨⟨p, l, e, R, s⟩, ⟨m, args, below, meth, c⟩, g, own, ⟨nL, jl⟩, Fin, ad0⟩ := Γ
    obtain ⟨hx, hb0, hml, hown, hts, henv, hlk, htb⟩ := hok
    obtain ⟨ws, cA, h1, h2, h3, h4, h5, h6, h7, h8, h9, h10, h11⟩ := t3.1.1.arr q5 f1 (by decide)
    refine W.widen (k := c1) (n := s1) (by omega) (by omega) (lv_ixor hx hb0 d3 ?_)
    exact va_iast (x := o_ixor (f' y.toNatClampNeg) z) hx hb0 (henv.2.2.1.one h10 h11) h1 h2 t3.1.2 _ 0 h8 rfl f2 hd (fun H4 locs4 u1 u2 u3 => hk9 ad3 ls H4 locs4 ((q1.tr r1).tr t1) hL3 ⟨⟨HW.put h3 h4 h5 h6 h7 h8 u1 u2 ⟨rfl, h9, h10, h11⟩, u3⟩, t3.2⟩)
  obtain ⟨⟨p, l, e, R, s⟩, ⟨m, args, below, meth, c⟩, g, own, ⟨nL, jl⟩, Fin, ad0⟩ := Γ
  obtain ⟨hx, hb0, hml, hown, hts, henv, hlk, htb⟩ := hok
  refine lv_dup2_11 hx hb0 d1 rfl rfl ?_
  rcases f02 with rfl | ⟨-, rfl⟩
  · obtain ⟨ws, cA, h1, h2, h3, h4, h5, h6, h7, h8, h9, h10, h11⟩ := r3.1.1.arr q6 f01 (by decide)
    exact va_iald hx hb0 (henv.2.2.1.one h10 h11) h1 _ 0 h8 rfl f03 d2 key
  · obtain ⟨kq, rfl, rfl, rfl⟩ := r3.1.1.ro q6 f01
    exact va_sld hx hb0 (henv.2.2.2.1 kq).1 (henv.2.2.2.1 kq).2.1 (henv.2.2.2.1 kq).2.2 r3.1.2 f03 d2 key
theorem Sv.weaken {a : SX} (ha : Sv Γ cc pc p1 k1 n1 a) (h1 : k1 ≤ k2) (h2 : n1 ≤ n2) : Sv Γ cc pc p1 k2 n2 a := by
  intro hok ls lc hp H locs cells slots c1 s1 ad hL hR b1 b2 b3 b4 hp' r hf hk9
  exact ha hok ls lc hp H locs cells slots c1 s1 ad hL hR (by omega) b2 (by omega) b4 hp' r hf hk9
/-- a switch: the cases from lo on, and what else is done -/
def sSc (e : EXi) (lo : Int) (cs : List SX) (d : SX) : SX := fun l h => eS (e l h) fun x h => ((if x.toInt < lo then none else cs[(x.toInt - lo).toNat]?).getD d) l h
theorem Sv_tsw {cs : List SX} {d : SX} {dflt lo hi : Int} {offs : Array Int} {len td : Nat} (ha : Ev Γ cc Value.int pc p1 0 k1 n1 e0) (hd : decode cc p1 = .ok (.tableswitch dflt lo hi offs, len)) (hlen : ((cs.length : Nat) : Int) = hi - lo + 1)
    (hc : ∀ (n : Nat) (a : SX), cs[n]? = some a → ∃ (off : Int) (t : Nat), offs[n]? = some off ∧ (p1 : Int) + off = (t : Int) ∧ Sv Γ cc t pE k2 n2 a) (ht : (p1 : Int) + dflt = (td : Int)) (hdS : Sv Γ cc td pE k2 n2 d) : Sv Γ cc pc pE (k1 + k2) (n1 + n2) (sSc e0 lo cs d) := by
  intro hok ls lc hp H locs cells slots c1 s1 ad hL hR b1 b2 b3 b4 hp' r hf hk9
  have hE : ∀ x, r = .inr x → GF Γ hp' x := fun x h => by subst h; exact hk9
  refine ha.goS hok hL hR (show stW [] ≤ 0 from Nat.le_refl 0) (by omega) (by omega) hf hE fun g1 x ad1 v1 H1 locs1 e1 q1 q2 q3 => ?_
  cases q2
  have go : ∀ (t : Nat) (a : SX), Sv Γ cc t pE k2 n2 a → a lc g1 = some (hp', r) → GW Γ H1 locs1 (cells + k1) (slots + n1) t ls [] := by
    intro t a hS he
    refine hS hok ls lc g1 H1 locs1 _ _ c1 s1 ad1 (hL.mono q1) q3 (by omega) b2 (by omega) b4 hp' r he ?_
    rcases r with l2 | x
    · exact fun ad' ls' H' locs' f1 f2 f3 => hk9 ad' ls' H' locs' (q1.tr f1) f2 f3
    · exact hk9
  by_cases h1 : x.toInt < lo
  · rw [if_pos h1] at e1
    have h9 := go td d hdS e1
    obtain ⟨⟨p, l, e, R, s⟩, ⟨m, args, below, meth, c⟩, g, own, ⟨nL, jl⟩, Fin, ad0⟩ := Γ
    exact lv_tableOut hok.1 hok.2.1 hd (Or.inl h1) ht h9
  · rw [if_neg h1] at e1
    by_cases h2 : hi < x.toInt
    · rw [List.getElem?_eq_none (by omega)] at e1
      have h9 := go td d hdS e1
      obtain ⟨⟨p, l, e, R, s⟩, ⟨m, args, below, meth, c⟩, g, own, ⟨nL, jl⟩, Fin, ad0⟩ := Γ
      exact lv_tableOut hok.1 hok.2.1 hd (Or.inr h2) ht h9
    · have hl : (x.toInt - lo).toNat < cs.length := by omega
      have he := List.getElem?_eq_getElem hl
      rw [he] at e1
      obtain ⟨off, t, u1, u2, u3⟩ := hc _ _ he
      have h9 := go t _ u3 e1
      obtain ⟨⟨p, l, e, R, s⟩, ⟨m, args, below, meth, c⟩, g, own, ⟨nL, jl⟩, Fin, ad0⟩ := Γ
      exact lv_tableIn hok.1 hok.2.1 hd h1 h2 u1 u2 h9
/-- a lookupswitch of the cases 0 and 1 -/
theorem Sv_lsw {a0 a1 d : SX} {dflt o0 o1 : Int} {len t0 t1 td : Nat} (ha : Ev Γ cc Value.int pc p1 0 k1 n1 e0) (hd : decode cc p1 = .ok (.lookupswitch dflt #[(0, o0), (1, o1)], len))
    (h0 : (p1 : Int) + o0 = (t0 : Int)) (hS0 : Sv Γ cc t0 pE k2 n2 a0) (h1 : (p1 : Int) + o1 = (t1 : Int)) (hS1 : Sv Γ cc t1 pE k2 n2 a1) (ht : (p1 : Int) + dflt = (td : Int)) (hdS : Sv Γ cc td pE k2 n2 d) : Sv Γ cc pc pE (k1 + k2) (n1 + n2) (sSc e0 0 [a0, a1] d) := by
  intro hok ls lc hp H locs cells slots c1 s1 ad hL hR b1 b2 b3 b4 hp' r hf hk9
  have hE : ∀ x, r = .inr x → GF Γ hp' x := fun x h => by subst h; exact hk9
  refine ha.goS hok hL hR (show stW [] ≤ 0 from Nat.le_refl 0) (by omega) (by omega) hf hE fun g1 x ad1 v1 H1 locs1 e1 q1 q2 q3 => ?_
  cases q2
  have go : ∀ (t : Nat) (a : SX), Sv Γ cc t pE k2 n2 a → a lc g1 = some (hp', r) → GW Γ H1 locs1 (cells + k1) (slots + n1) t ls [] := by
    intro t a hS he
    refine hS hok ls lc g1 H1 locs1 _ _ c1 s1 ad1 (hL.mono q1) q3 (by omega) b2 (by omega) b4 hp' r he ?_
    rcases r with l2 | x
    · exact fun ad' ls' H' locs' f1 f2 f3 => hk9 ad' ls' H' locs' (q1.tr f1) f2 f3
    · exact hk9
  have fin : ∀ (off : Int) (t : Nat) (a : SX), Op.lookupswitch.offset [(0, o0), (1, o1)] dflt x.toInt = off → (p1 : Int) + off = (t : Int) → Sv Γ cc t pE k2 n2 a → a lc g1 = some (hp', r) → GW Γ H1 locs1 (cells + k1) (slots + n1) p1 ls [.int x] := by
    intro off t a u1 u2 u3 u4
    have h9 := go t a u3 u4
    obtain ⟨⟨p, l, e, R, s⟩, ⟨m, args, below, meth, c⟩, g, own, ⟨nL, jl⟩, Fin, ad0⟩ := Γ
    exact lv_lookup hok.1 hok.2.1 hd rfl u1 u2 h9
  by_cases hz : x.toInt = 0
  · exact fin o0 t0 a0 (by rw [hz]; simp [Op.lookupswitch.offset]) h0 hS0 (by rw [hz] at e1; exact e1)
  · by_cases hz1 : x.toInt = 1
    · exact fin o1 t1 a1 (by rw [hz1]; simp [Op.lookupswitch.offset]) h1 hS1 (by rw [hz1] at e1; exact e1)
    · refine fin dflt td d (by simp [Op.lookupswitch.offset]; omega) ht hdS ?_
      by_cases hn : x.toInt < 0
      · rw [if_pos hn] at e1; exact e1
      · rw [if_neg hn, List.getElem?_eq_none (by show 2 ≤ (x.toInt - 0).toNat; omega)] at e1; exact e1
end Puts
/-! throw new E("text") -/
theorem HW.kept {g : GE} {s : State} {ad : List Nat} {hp : Hp} {H H1 : Heap} (h : HW g s ad hp H) (hq : ∀ q : Nat, q < H.size → H1[q]? = H[q]?) : HW g s ad hp H1 := by
  obtain ⟨ws, h1, h2, h3⟩ := h
  exact ⟨ws, h1.kept (fun k q hk => hq q.1 (h1 k q hk).lt), h2, h3⟩
/-- the words of a throw -/
def Xk (E : String) (ik ic : Nat) : Prop := Bundle.fit E = true ∧ Cond.classLink RX7 ik E ∈ WS ∧ Cond.initialized E ∈ WS ∧ (∀ w ∈ (vx_atS RX7 ic E xN).filter goodWord, w ∈ WS) ∧ (∀ w ∈ (vx_atS RX7 ic E xN).filter (fun w => !goodWord w), w ∈ WN) ∧ ∀ w ∈ Cond.classLink RX7 ik E :: Cond.initialized E :: vx_atS RX7 ic E xN, vx_ot w = true
theorem Sv_throw {Γ : Ct} {cc : ByteArray} {pc pE : Nat} {E : String} {ik ic : Nat} {q : Nat × String} (hX : Xk E ik ic) (hq : q ∈ strT) (ho : Γ.2.2.2.1 = RX7) (d0 : decode cc pc = .ok (.new ik, 3)) (d3 : decode cc (pc + 3) = .ok (.dup, 1)) (d4 : decode cc (pc + 4) = .ok (.ldc_w q.1, 3)) (d7 : decode cc (pc + 7) = .ok (.invokespecial ic, 3)) (d10 : decode cc (pc + 10) = .ok (.athrow, 1))
    (hR1 : 6 ≤ (Rm Γ).frames) (hR2 : 82 ≤ (Rm Γ).locals) (hj : Γ.2.2.2.2.1.2 ≠ 200) : Sv Γ cc pc pE 1 6 (sX E) := by
  intro hok ls lc hp H locs cells slots c1 s1 ad hL hR b1 b2 b3 b4 hp' r hf hk9
  obtain ⟨⟨p, l, e, R, s⟩, ⟨m, args, below, meth, c⟩, g, own, ⟨nL, jl⟩, Fin, ad0⟩ := Γ
  obtain ⟨hx, hb0, hml, hown, hts, henv, hlk, htb⟩ := hok
  cases hf
  have ho : own = RX7 := ho
  subst ho
  obtain ⟨hX1, hX2, hX3, hX4, hX5, hX6⟩ := hX
  obtain ⟨sa, hsa⟩ := henv.2.2.2.2.2.2.2.2.1 q hq
  refine vx_throwSW (names := xN) (A := gA g) hx hb0 henv.2.1 hown hX1 (by decide +kernel) (hts _ hX2) (hts _ hX3) hsa (vx_hat (B := (vx_atS RX7 ic E xN).filter (fun w => !goodWord w)) (fun w hw => hts _ (hX4 w hw)) (fun w hw => hw) (fun w hw => ?_)) hX6 henv.2.2.2.2.2.2.1 henv.2.2.2.2.2.2.2.1 hR.1.2 (hL.1.trans hml.symm) d0 d3 d4 d7 d10 (fun x hx => (htb hj x hx).elim) (show 2 + 3 < R.frames from hR1) (show 0 + (13 * (2 + 1) + 43) ≤ R.locals from hR2) (Nat.le_trans b1 b2) (Nat.le_trans b3 b4) hlk (fun t ht hz hk => ⟨hp, ad, hk9, hR.2, (hR.1.1.kept hk).moved ht, ⟨Nat.le_trans hR.1.2.1 hz, fun q1 u1 u2 => (hk q1 (Nat.lt_of_lt_of_le u1 hR.1.2.1)).trans (hR.1.2.2.1 q1 u1 u2)⟩⟩) hR.1.2.2.2 (Nat.le_trans b1 b2) (Nat.le_trans b3 b4)
  have h1 := henv.2.2.2.2.2.1 w (hX5 w hw)
  have h2 := (List.mem_filter.mp (hX5 w hw)).2
  cases w <;> first | exact va_Nw.use rfl h1 | (simp [nestW] at h2)
