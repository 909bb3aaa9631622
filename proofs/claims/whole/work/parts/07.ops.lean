theorem stW_i {st : List Value} {w : Nat} {x : Int32} (h : stW st ≤ w) : stW (.int x :: st) ≤ w + 1 := by simp only [stW, List.map_cons, List.sum_cons, Value.category] at h ⊢; omega
theorem stW_a {st : List Value} {w : Nat} {x : Nat} (h : stW st ≤ w) : stW (.ref x :: st) ≤ w + 1 := by simp only [stW, List.map_cons, List.sum_cons, Value.category] at h ⊢; omega
theorem stW_l {st : List Value} {w : Nat} {x : Int64} (h : stW st ≤ w) : stW (.long x :: st) ≤ w + 2 := by simp only [stW, List.map_cons, List.sum_cons, Value.category] at h ⊢; omega
section Leaves
variable {Γ : Ct} {cc : ByteArray} {pc w : Nat}
theorem Ev_iconst {n : Int} {v : Int32} (hd : decode cc pc = .ok (.iconst n, 1)) (hv : Int32.ofInt n = v) : Ev Γ cc Value.int pc (pc + 1) w 0 0 (eI v) := by
  intro hok ls lc st hp H locs cells slots c1 s1 ad hL hR hw b1 b2 b3 b4 hp' r hf hk
  obtain ⟨⟨p, l, e, R, s⟩, ⟨m, args, below, meth, c⟩, g, own, ⟨nL, jl⟩, Fin, ad0⟩ := Γ
  obtain ⟨hx, hb, hml, hown, hts, henv, hlk, htb⟩ := hok
  cases hf
  exact W.widen (by omega) (by omega) (lv_iconst hx hb hd hv (hk ad _ H locs AE.rf rfl hR))
theorem Ev_bipush {n : Int} {v : Int32} (hd : decode cc pc = .ok (.bipush n, 2)) (hv : (Int8.ofInt n).toInt32 = v) : Ev Γ cc Value.int pc (pc + 2) w 0 0 (eI v) := by
  intro hok ls lc st hp H locs cells slots c1 s1 ad hL hR hw b1 b2 b3 b4 hp' r hf hk
  obtain ⟨⟨p, l, e, R, s⟩, ⟨m, args, below, meth, c⟩, g, own, ⟨nL, jl⟩, Fin, ad0⟩ := Γ
  obtain ⟨hx, hb, hml, hown, hts, henv, hlk, htb⟩ := hok
  cases hf
  exact W.widen (by omega) (by omega) (lv_bipush hx hb hd hv (hk ad _ H locs AE.rf rfl hR))
theorem Ev_sipush {n : Int} {v : Int32} (hd : decode cc pc = .ok (.sipush n, 3)) (hv : (Int16.ofInt n).toInt32 = v) : Ev Γ cc Value.int pc (pc + 3) w 0 0 (eI v) := by
  intro hok ls lc st hp H locs cells slots c1 s1 ad hL hR hw b1 b2 b3 b4 hp' r hf hk
  obtain ⟨⟨p, l, e, R, s⟩, ⟨m, args, below, meth, c⟩, g, own, ⟨nL, jl⟩, Fin, ad0⟩ := Γ
  obtain ⟨hx, hb, hml, hown, hts, henv, hlk, htb⟩ := hok
  cases hf
  exact W.widen (by omega) (by omega) (lv_sipush hx hb hd hv (hk ad _ H locs AE.rf rfl hR))
theorem Ev_lconst {n : Fin 2} {v : Int64} (hd : decode cc pc = .ok (.lconst n, 1)) (hv : Int64.ofNat (n : Nat) = v) : Ev Γ cc Value.long pc (pc + 1) w 0 0 (eJ v) := by
  intro hok ls lc st hp H locs cells slots c1 s1 ad hL hR hw b1 b2 b3 b4 hp' r hf hk
  obtain ⟨⟨p, l, e, R, s⟩, ⟨m, args, below, meth, c⟩, g, own, ⟨nL, jl⟩, Fin, ad0⟩ := Γ
  obtain ⟨hx, hb, hml, hown, hts, henv, hlk, htb⟩ := hok
  cases hf
  exact W.widen (by omega) (by omega) (lv_lconst hx hb hd hv (hk ad _ H locs AE.rf rfl hR))
theorem Ev_ldc {n : Nat} {v : Int32} (hw0 : Cond.constant Γ.2.2.2.1 n v ∈ WS) (hd : decode cc pc = .ok (.ldc n, 2)) : Ev Γ cc Value.int pc (pc + 2) w 0 0 (eI v) := by
  intro hok ls lc st hp H locs cells slots c1 s1 ad hL hR hw b1 b2 b3 b4 hp' r hf hk
  obtain ⟨⟨p, l, e, R, s⟩, ⟨m, args, below, meth, c⟩, g, own, ⟨nL, jl⟩, Fin, ad0⟩ := Γ
  obtain ⟨hx, hb, hml, hown, hts, henv, hlk, htb⟩ := hok
  cases hf
  exact W.widen (by omega) (by omega) (lv_ldc hx hb hown (hts _ hw0) hd (hk ad _ H locs AE.rf rfl hR))
theorem Ev_ldcw {n : Nat} {v : Int32} (hw0 : Cond.constant Γ.2.2.2.1 n v ∈ WS) (hd : decode cc pc = .ok (.ldc_w n, 3)) : Ev Γ cc Value.int pc (pc + 3) w 0 0 (eI v) := by
  intro hok ls lc st hp H locs cells slots c1 s1 ad hL hR hw b1 b2 b3 b4 hp' r hf hk
  obtain ⟨⟨p, l, e, R, s⟩, ⟨m, args, below, meth, c⟩, g, own, ⟨nL, jl⟩, Fin, ad0⟩ := Γ
  obtain ⟨hx, hb, hml, hown, hts, henv, hlk, htb⟩ := hok
  cases hf
  exact W.widen (by omega) (by omega) (lv_ldcw hx hb hown (hts _ hw0) hd (hk ad _ H locs AE.rf rfl hR))
theorem Ev_ldc2 {n : Nat} {v : Int64} (hw0 : Cond.constantLong Γ.2.2.2.1 n v ∈ WS) (hd : decode cc pc = .ok (.ldc2_w n, 3)) : Ev Γ cc Value.long pc (pc + 3) w 0 0 (eJ v) := by
  intro hok ls lc st hp H locs cells slots c1 s1 ad hL hR hw b1 b2 b3 b4 hp' r hf hk
  obtain ⟨⟨p, l, e, R, s⟩, ⟨m, args, below, meth, c⟩, g, own, ⟨nL, jl⟩, Fin, ad0⟩ := Γ
  obtain ⟨hx, hb, hml, hown, hts, henv, hlk, htb⟩ := hok
  cases hf
  exact W.widen (by omega) (by omega) (lv_ldc2 hx hb hown (hts _ hw0) hd (hk ad _ H locs AE.rf rfl hR))
theorem eLi_some {i : Nat} {lc : Lc} {hp hp' : Hp} {r : Int32 ⊕ String} (h : eLi i lc hp = some (hp', r)) : ∃ x, lc[i]? = some (.int x) ∧ hp' = hp ∧ r = .inl x := by
  unfold eLi at h
  split at h
  · rename_i x hx
    cases h
    exact ⟨x, hx, rfl, rfl⟩
  · cases h
theorem Ev_iload_n {k : Fin 4} {i : Nat} (hd : decode cc pc = .ok (.iload_n k, 1)) (hi : (k : Nat) = i) : Ev Γ cc Value.int pc (pc + 1) w 0 0 (eLi i) := by
  intro hok ls lc st hp H locs cells slots c1 s1 ad hL hR hw b1 b2 b3 b4 hp' r hf hk
  obtain ⟨⟨p, l, e, R, s⟩, ⟨m, args, below, meth, c⟩, g, own, ⟨nL, jl⟩, Fin, ad0⟩ := Γ
  obtain ⟨hx, hb, hml, hown, hts, henv, hlk, htb⟩ := hok
  obtain ⟨x, e1, rfl, rfl⟩ := eLi_some hf
  obtain ⟨v', f1, f2⟩ := hL.2.2.2 _ _ e1 (by intro q; cases q)
  cases f2
  exact W.widen (by omega) (by omega) (lv_iload_n hx hb hd hi f1 (hk ad _ H locs AE.rf rfl hR))
theorem Ev_iload {i : Nat} (hd : decode cc pc = .ok (.iload i, 2)) : Ev Γ cc Value.int pc (pc + 2) w 0 0 (eLi i) := by
  intro hok ls lc st hp H locs cells slots c1 s1 ad hL hR hw b1 b2 b3 b4 hp' r hf hk
  obtain ⟨⟨p, l, e, R, s⟩, ⟨m, args, below, meth, c⟩, g, own, ⟨nL, jl⟩, Fin, ad0⟩ := Γ
  obtain ⟨hx, hb, hml, hown, hts, henv, hlk, htb⟩ := hok
  obtain ⟨x, e1, rfl, rfl⟩ := eLi_some hf
  obtain ⟨v', f1, f2⟩ := hL.2.2.2 _ _ e1 (by intro q; cases q)
  cases f2
  exact W.widen (by omega) (by omega) (lv_iload hx hb hd f1 (hk ad _ H locs AE.rf rfl hR))
theorem eLl_some {i : Nat} {lc : Lc} {hp hp' : Hp} {r : Int64 ⊕ String} (h : eLl i lc hp = some (hp', r)) : ∃ x, lc[i]? = some (.long x) ∧ hp' = hp ∧ r = .inl x := by
  unfold eLl at h
  split at h
  · rename_i x hx
    cases h
    exact ⟨x, hx, rfl, rfl⟩
  · cases h
theorem Ev_lload_n {k : Fin 4} {i : Nat} (hd : decode cc pc = .ok (.lload_n k, 1)) (hi : (k : Nat) = i) : Ev Γ cc Value.long pc (pc + 1) w 0 0 (eLl i) := by
  intro hok ls lc st hp H locs cells slots c1 s1 ad hL hR hw b1 b2 b3 b4 hp' r hf hk
  obtain ⟨⟨p, l, e, R, s⟩, ⟨m, args, below, meth, c⟩, g, own, ⟨nL, jl⟩, Fin, ad0⟩ := Γ
  obtain ⟨hx, hb, hml, hown, hts, henv, hlk, htb⟩ := hok
  obtain ⟨x, e1, rfl, rfl⟩ := eLl_some hf
  obtain ⟨v', f1, f2⟩ := hL.2.2.2 _ _ e1 (by intro q; cases q)
  cases f2
  exact W.widen (by omega) (by omega) (lv_lload_n hx hb hd hi f1 (hk ad _ H locs AE.rf rfl hR))
theorem Ev_lload {i : Nat} (hd : decode cc pc = .ok (.lload i, 2)) : Ev Γ cc Value.long pc (pc + 2) w 0 0 (eLl i) := by
  intro hok ls lc st hp H locs cells slots c1 s1 ad hL hR hw b1 b2 b3 b4 hp' r hf hk
  obtain ⟨⟨p, l, e, R, s⟩, ⟨m, args, below, meth, c⟩, g, own, ⟨nL, jl⟩, Fin, ad0⟩ := Γ
  obtain ⟨hx, hb, hml, hown, hts, henv, hlk, htb⟩ := hok
  obtain ⟨x, e1, rfl, rfl⟩ := eLl_some hf
  obtain ⟨v', f1, f2⟩ := hL.2.2.2 _ _ e1 (by intro q; cases q)
  cases f2
  exact W.widen (by omega) (by omega) (lv_lload hx hb hd f1 (hk ad _ H locs AE.rf rfl hR))
theorem eLa_some {i : Nat} {lc : Lc} {hp hp' : Hp} {r : Nat ⊕ String} (h : eLa i lc hp = some (hp', r)) : ∃ x, lc[i]? = some (.ref x) ∧ hp' = hp ∧ r = .inl x := by
  unfold eLa at h
  split at h
  · rename_i x hx
    cases h
    exact ⟨x, hx, rfl, rfl⟩
  · cases h
theorem Ev_aload_n {k : Fin 4} {i : Nat} (hd : decode cc pc = .ok (.aload_n k, 1)) (hi : (k : Nat) = i) : Ev Γ cc Value.ref pc (pc + 1) w 0 0 (eLa i) := by
  intro hok ls lc st hp H locs cells slots c1 s1 ad hL hR hw b1 b2 b3 b4 hp' r hf hk
  obtain ⟨⟨p, l, e, R, s⟩, ⟨m, args, below, meth, c⟩, g, own, ⟨nL, jl⟩, Fin, ad0⟩ := Γ
  obtain ⟨hx, hb, hml, hown, hts, henv, hlk, htb⟩ := hok
  obtain ⟨x, e1, rfl, rfl⟩ := eLa_some hf
  obtain ⟨v', f1, f2⟩ := hL.2.2.2 _ _ e1 (by intro q; cases q)
  obtain ⟨a, f3, rfl⟩ := f2
  exact W.widen (by omega) (by omega) (lv_aload_n hx hb hd hi f1 (hk ad _ H locs AE.rf ⟨a, f3, rfl⟩ hR))
theorem Ev_aload {i : Nat} (hd : decode cc pc = .ok (.aload i, 2)) : Ev Γ cc Value.ref pc (pc + 2) w 0 0 (eLa i) := by
  intro hok ls lc st hp H locs cells slots c1 s1 ad hL hR hw b1 b2 b3 b4 hp' r hf hk
  obtain ⟨⟨p, l, e, R, s⟩, ⟨m, args, below, meth, c⟩, g, own, ⟨nL, jl⟩, Fin, ad0⟩ := Γ
  obtain ⟨hx, hb, hml, hown, hts, henv, hlk, htb⟩ := hok
  obtain ⟨x, e1, rfl, rfl⟩ := eLa_some hf
  obtain ⟨v', f1, f2⟩ := hL.2.2.2 _ _ e1 (by intro q; cases q)
  obtain ⟨a, f3, rfl⟩ := f2
  exact W.widen (by omega) (by omega) (lv_aload hx hb hd f1 (hk ad _ H locs AE.rf ⟨a, f3, rfl⟩ hR))
end Leaves
section Ops
variable {Γ : Ct} {cc : ByteArray} {pc p1 p2 w k1 n1 k2 n2 : Nat} {a b : EXi}
def o_iadd : Int32 → Int32 → Int32 := fun x y => x + y
theorem Ev_iadd (ha : Ev Γ cc Value.int pc p1 w k1 n1 a) (hb : Ev Γ cc Value.int p1 p2 (w + 1) k2 n2 b) (hd : decode cc p2 = .ok (.iadd, 1)) : Ev Γ cc Value.int pc (p2 + 1) w (k1 + k2) (n1 + n2) (eOp o_iadd a b) := by
  intro hok ls lc st hp H locs cells slots c1 s1 ad hL hR hw b1 b2 b3 b4 hp' r hf hk
  have hE : ∀ E, r = .inr E → GF Γ hp' (.inr E) := fun E h => by subst h; exact hk
  refine ha.go hok hL hR hw (by omega) (by omega) hf hE fun g1 x ad1 v1 H1 locs1 e1 q1 q2 q3 => ?_
  cases q2
  refine hb.go hok (hL.mono q1) q3 (stW_i hw) (by omega) (by omega) e1 hE fun g2 y ad2 v2 H2 locs2 e2 r1 r2 r3 => ?_
  cases r2
  cases e2
  obtain ⟨⟨p, l, e, R, s⟩, ⟨m, args, below, meth, c⟩, g, own, ⟨nL, jl⟩, Fin, ad0⟩ := Γ
  obtain ⟨hx, hb0, hml, hown, hts, henv, hlk, htb⟩ := hok
  exact W.widen (by omega) (by omega) (lv_iadd hx hb0 hd (hk ad2 _ H2 locs2 (q1.tr r1) rfl r3))
def o_isub : Int32 → Int32 → Int32 := fun x y => x - y
theorem Ev_isub (ha : Ev Γ cc Value.int pc p1 w k1 n1 a) (hb : Ev Γ cc Value.int p1 p2 (w + 1) k2 n2 b) (hd : decode cc p2 = .ok (.isub, 1)) : Ev Γ cc Value.int pc (p2 + 1) w (k1 + k2) (n1 + n2) (eOp o_isub a b) := by
  intro hok ls lc st hp H locs cells slots c1 s1 ad hL hR hw b1 b2 b3 b4 hp' r hf hk
  have hE : ∀ E, r = .inr E → GF Γ hp' (.inr E) := fun E h => by subst h; exact hk
  refine ha.go hok hL hR hw (by omega) (by omega) hf hE fun g1 x ad1 v1 H1 locs1 e1 q1 q2 q3 => ?_
  cases q2
  refine hb.go hok (hL.mono q1) q3 (stW_i hw) (by omega) (by omega) e1 hE fun g2 y ad2 v2 H2 locs2 e2 r1 r2 r3 => ?_
  cases r2
  cases e2
  obtain ⟨⟨p, l, e, R, s⟩, ⟨m, args, below, meth, c⟩, g, own, ⟨nL, jl⟩, Fin, ad0⟩ := Γ
  obtain ⟨hx, hb0, hml, hown, hts, henv, hlk, htb⟩ := hok
  exact W.widen (by omega) (by omega) (lv_isub hx hb0 hd (hk ad2 _ H2 locs2 (q1.tr r1) rfl r3))
def o_imul : Int32 → Int32 → Int32 := fun x y => x * y
theorem Ev_imul (ha : Ev Γ cc Value.int pc p1 w k1 n1 a) (hb : Ev Γ cc Value.int p1 p2 (w + 1) k2 n2 b) (hd : decode cc p2 = .ok (.imul, 1)) : Ev Γ cc Value.int pc (p2 + 1) w (k1 + k2) (n1 + n2) (eOp o_imul a b) := by
  intro hok ls lc st hp H locs cells slots c1 s1 ad hL hR hw b1 b2 b3 b4 hp' r hf hk
  have hE : ∀ E, r = .inr E → GF Γ hp' (.inr E) := fun E h => by subst h; exact hk
  refine ha.go hok hL hR hw (by omega) (by omega) hf hE fun g1 x ad1 v1 H1 locs1 e1 q1 q2 q3 => ?_
  cases q2
  refine hb.go hok (hL.mono q1) q3 (stW_i hw) (by omega) (by omega) e1 hE fun g2 y ad2 v2 H2 locs2 e2 r1 r2 r3 => ?_
  cases r2
  cases e2
  obtain ⟨⟨p, l, e, R, s⟩, ⟨m, args, below, meth, c⟩, g, own, ⟨nL, jl⟩, Fin, ad0⟩ := Γ
  obtain ⟨hx, hb0, hml, hown, hts, henv, hlk, htb⟩ := hok
  exact W.widen (by omega) (by omega) (lv_imul hx hb0 hd (hk ad2 _ H2 locs2 (q1.tr r1) rfl r3))
def o_iand : Int32 → Int32 → Int32 := fun x y => x &&& y
theorem Ev_iand (ha : Ev Γ cc Value.int pc p1 w k1 n1 a) (hb : Ev Γ cc Value.int p1 p2 (w + 1) k2 n2 b) (hd : decode cc p2 = .ok (.iand, 1)) : Ev Γ cc Value.int pc (p2 + 1) w (k1 + k2) (n1 + n2) (eOp o_iand a b) := by
  intro hok ls lc st hp H locs cells slots c1 s1 ad hL hR hw b1 b2 b3 b4 hp' r hf hk
  have hE : ∀ E, r = .inr E → GF Γ hp' (.inr E) := fun E h => by subst h; exact hk
  refine ha.go hok hL hR hw (by omega) (by omega) hf hE fun g1 x ad1 v1 H1 locs1 e1 q1 q2 q3 => ?_
  cases q2
  refine hb.go hok (hL.mono q1) q3 (stW_i hw) (by omega) (by omega) e1 hE fun g2 y ad2 v2 H2 locs2 e2 r1 r2 r3 => ?_
  cases r2
  cases e2
  obtain ⟨⟨p, l, e, R, s⟩, ⟨m, args, below, meth, c⟩, g, own, ⟨nL, jl⟩, Fin, ad0⟩ := Γ
  obtain ⟨hx, hb0, hml, hown, hts, henv, hlk, htb⟩ := hok
  exact W.widen (by omega) (by omega) (lv_iand hx hb0 hd (hk ad2 _ H2 locs2 (q1.tr r1) rfl r3))
def o_ior : Int32 → Int32 → Int32 := fun x y => x ||| y
theorem Ev_ior (ha : Ev Γ cc Value.int pc p1 w k1 n1 a) (hb : Ev Γ cc Value.int p1 p2 (w + 1) k2 n2 b) (hd : decode cc p2 = .ok (.ior, 1)) : Ev Γ cc Value.int pc (p2 + 1) w (k1 + k2) (n1 + n2) (eOp o_ior a b) := by
  intro hok ls lc st hp H locs cells slots c1 s1 ad hL hR hw b1 b2 b3 b4 hp' r hf hk
  have hE : ∀ E, r = .inr E → GF Γ hp' (.inr E) := fun E h => by subst h; exact hk
  refine ha.go hok hL hR hw (by omega) (by omega) hf hE fun g1 x ad1 v1 H1 locs1 e1 q1 q2 q3 => ?_
  cases q2
  refine hb.go hok (hL.mono q1) q3 (stW_i hw) (by omega) (by omega) e1 hE fun g2 y ad2 v2 H2 locs2 e2 r1 r2 r3 => ?_
  cases r2
  cases e2
  obtain ⟨⟨p, l, e, R, s⟩, ⟨m, args, below, meth, c⟩, g, own, ⟨nL, jl⟩, Fin, ad0⟩ := Γ
  obtain ⟨hx, hb0, hml, hown, hts, henv, hlk, htb⟩ := hok
  exact W.widen (by omega) (by omega) (lv_ior hx hb0 hd (hk ad2 _ H2 locs2 (q1.tr r1) rfl r3))
def o_ixor : Int32 → Int32 → Int32 := fun x y => x ^^^ y
theorem Ev_ixor (ha : Ev Γ cc Value.int pc p1 w k1 n1 a) (hb : Ev Γ cc Value.int p1 p2 (w + 1) k2 n2 b) (hd : decode cc p2 = .ok (.ixor, 1)) : Ev Γ cc Value.int pc (p2 + 1) w (k1 + k2) (n1 + n2) (eOp o_ixor a b) := by
  intro hok ls lc st hp H locs cells slots c1 s1 ad hL hR hw b1 b2 b3 b4 hp' r hf hk
  have hE : ∀ E, r = .inr E → GF Γ hp' (.inr E) := fun E h => by subst h; exact hk
  refine ha.go hok hL hR hw (by omega) (by omega) hf hE fun g1 x ad1 v1 H1 locs1 e1 q1 q2 q3 => ?_
  cases q2
  refine hb.go hok (hL.mono q1) q3 (stW_i hw) (by omega) (by omega) e1 hE fun g2 y ad2 v2 H2 locs2 e2 r1 r2 r3 => ?_
  cases r2
  cases e2
  obtain ⟨⟨p, l, e, R, s⟩, ⟨m, args, below, meth, c⟩, g, own, ⟨nL, jl⟩, Fin, ad0⟩ := Γ
  obtain ⟨hx, hb0, hml, hown, hts, henv, hlk, htb⟩ := hok
  exact W.widen (by omega) (by omega) (lv_ixor hx hb0 hd (hk ad2 _ H2 locs2 (q1.tr r1) rfl r3))
def o_ishl : Int32 → Int32 → Int32 := fun x y => x <<< (y &&& 31)
theorem Ev_ishl (ha : Ev Γ cc Value.int pc p1 w k1 n1 a) (hb : Ev Γ cc Value.int p1 p2 (w + 1) k2 n2 b) (hd : decode cc p2 = .ok (.ishl, 1)) : Ev Γ cc Value.int pc (p2 + 1) w (k1 + k2) (n1 + n2) (eOp o_ishl a b) := by
  intro hok ls lc st hp H locs cells slots c1 s1 ad hL hR hw b1 b2 b3 b4 hp' r hf hk
  have hE : ∀ E, r = .inr E → GF Γ hp' (.inr E) := fun E h => by subst h; exact hk
  refine ha.go hok hL hR hw (by omega) (by omega) hf hE fun g1 x ad1 v1 H1 locs1 e1 q1 q2 q3 => ?_
  cases q2
  refine hb.go hok (hL.mono q1) q3 (stW_i hw) (by omega) (by omega) e1 hE fun g2 y ad2 v2 H2 locs2 e2 r1 r2 r3 => ?_
  cases r2
  cases e2
  obtain ⟨⟨p, l, e, R, s⟩, ⟨m, args, below, meth, c⟩, g, own, ⟨nL, jl⟩, Fin, ad0⟩ := Γ
  obtain ⟨hx, hb0, hml, hown, hts, henv, hlk, htb⟩ := hok
  exact W.widen (by omega) (by omega) (lv_ishl hx hb0 hd (hk ad2 _ H2 locs2 (q1.tr r1) rfl r3))
def o_ishr : Int32 → Int32 → Int32 := fun x y => x >>> (y &&& 31)
theorem Ev_ishr (ha : Ev Γ cc Value.int pc p1 w k1 n1 a) (hb : Ev Γ cc Value.int p1 p2 (w + 1) k2 n2 b) (hd : decode cc p2 = .ok (.ishr, 1)) : Ev Γ cc Value.int pc (p2 + 1) w (k1 + k2) (n1 + n2) (eOp o_ishr a b) := by
  intro hok ls lc st hp H locs cells slots c1 s1 ad hL hR hw b1 b2 b3 b4 hp' r hf hk
  have hE : ∀ E, r = .inr E → GF Γ hp' (.inr E) := fun E h => by subst h; exact hk
  refine ha.go hok hL hR hw (by omega) (by omega) hf hE fun g1 x ad1 v1 H1 locs1 e1 q1 q2 q3 => ?_
  cases q2
  refine hb.go hok (hL.mono q1) q3 (stW_i hw) (by omega) (by omega) e1 hE fun g2 y ad2 v2 H2 locs2 e2 r1 r2 r3 => ?_
  cases r2
  cases e2
  obtain ⟨⟨p, l, e, R, s⟩, ⟨m, args, below, meth, c⟩, g, own, ⟨nL, jl⟩, Fin, ad0⟩ := Γ
  obtain ⟨hx, hb0, hml, hown, hts, henv, hlk, htb⟩ := hok
  exact W.widen (by omega) (by omega) (lv_ishr hx hb0 hd (hk ad2 _ H2 locs2 (q1.tr r1) rfl r3))
def o_iushr : Int32 → Int32 → Int32 := fun x y => (x.toUInt32 >>> (y.toUInt32 &&& Int32.toUInt32 31)).toInt32
theorem Ev_iushr (ha : Ev Γ cc Value.int pc p1 w k1 n1 a) (hb : Ev Γ cc Value.int p1 p2 (w + 1) k2 n2 b) (hd : decode cc p2 = .ok (.iushr, 1)) : Ev Γ cc Value.int pc (p2 + 1) w (k1 + k2) (n1 + n2) (eOp o_iushr a b) := by
  intro hok ls lc st hp H locs cells slots c1 s1 ad hL hR hw b1 b2 b3 b4 hp' r hf hk
  have hE : ∀ E, r = .inr E → GF Γ hp' (.inr E) := fun E h => by subst h; exact hk
  refine ha.go hok hL hR hw (by omega) (by omega) hf hE fun g1 x ad1 v1 H1 locs1 e1 q1 q2 q3 => ?_
  cases q2
  refine hb.go hok (hL.mono q1) q3 (stW_i hw) (by omega) (by omega) e1 hE fun g2 y ad2 v2 H2 locs2 e2 r1 r2 r3 => ?_
  cases r2
  cases e2
  obtain ⟨⟨p, l, e, R, s⟩, ⟨m, args, below, meth, c⟩, g, own, ⟨nL, jl⟩, Fin, ad0⟩ := Γ
  obtain ⟨hx, hb0, hml, hown, hts, henv, hlk, htb⟩ := hok
  exact W.widen (by omega) (by omega) (lv_iushr hx hb0 hd rfl (hk ad2 _ H2 locs2 (q1.tr r1) rfl r3))
def o_idiv : Int32 → Int32 → Int32 := fun x y => x / y
theorem Ev_idiv (ha : Ev Γ cc Value.int pc p1 w k1 n1 a) (hb : Ev Γ cc Value.int p1 p2 (w + 1) k2 n2 b) (hd : decode cc p2 = .ok (.idiv, 1)) : Ev Γ cc Value.int pc (p2 + 1) w (k1 + k2) (n1 + n2) (eQ o_idiv a b) := by
  intro hok ls lc st hp H locs cells slots c1 s1 ad hL hR hw b1 b2 b3 b4 hp' r hf hk
  have hE : ∀ E, r = .inr E → GF Γ hp' (.inr E) := fun E h => by subst h; exact hk
  refine ha.go hok hL hR hw (by omega) (by omega) hf hE fun g1 x ad1 v1 H1 locs1 e1 q1 q2 q3 => ?_
  cases q2
  refine hb.go hok (hL.mono q1) q3 (stW_i hw) (by omega) (by omega) e1 hE fun g2 y ad2 v2 H2 locs2 e2 r1 r2 r3 => ?_
  cases r2
  split at e2
  · cases e2
  rename_i hne
  cases e2
  obtain ⟨⟨p, l, e, R, s⟩, ⟨m, args, below, meth, c⟩, g, own, ⟨nL, jl⟩, Fin, ad0⟩ := Γ
  obtain ⟨hx, hb0, hml, hown, hts, henv, hlk, htb⟩ := hok
  exact W.widen (by omega) (by omega) (lv_idiv hx hb0 hd hne (hk ad2 _ H2 locs2 (q1.tr r1) rfl r3))
def o_irem : Int32 → Int32 → Int32 := fun x y => x - x / y * y
theorem Ev_irem (ha : Ev Γ cc Value.int pc p1 w k1 n1 a) (hb : Ev Γ cc Value.int p1 p2 (w + 1) k2 n2 b) (hd : decode cc p2 = .ok (.irem, 1)) : Ev Γ cc Value.int pc (p2 + 1) w (k1 + k2) (n1 + n2) (eQ o_irem a b) := by
  intro hok ls lc st hp H locs cells slots c1 s1 ad hL hR hw b1 b2 b3 b4 hp' r hf hk
  have hE : ∀ E, r = .inr E → GF Γ hp' (.inr E) := fun E h => by subst h; exact hk
  refine ha.go hok hL hR hw (by omega) (by omega) hf hE fun g1 x ad1 v1 H1 locs1 e1 q1 q2 q3 => ?_
  cases q2
  refine hb.go hok (hL.mono q1) q3 (stW_i hw) (by omega) (by omega) e1 hE fun g2 y ad2 v2 H2 locs2 e2 r1 r2 r3 => ?_
  cases r2
  split at e2
  · cases e2
  rename_i hne
  cases e2
  obtain ⟨⟨p, l, e, R, s⟩, ⟨m, args, below, meth, c⟩, g, own, ⟨nL, jl⟩, Fin, ad0⟩ := Γ
  obtain ⟨hx, hb0, hml, hown, hts, henv, hlk, htb⟩ := hok
  exact W.widen (by omega) (by omega) (lv_irem hx hb0 hd hne (hk ad2 _ H2 locs2 (q1.tr r1) rfl r3))
def o_ineg : Int32 → Int32 := fun x => -x
theorem Ev_ineg (ha : Ev Γ cc Value.int pc p1 w k1 n1 a) (hd : decode cc p1 = .ok (.ineg, 1)) : Ev Γ cc Value.int pc (p1 + 1) w k1 n1 (eU o_ineg a) := by
  intro hok ls lc st hp H locs cells slots c1 s1 ad hL hR hw b1 b2 b3 b4 hp' r hf hk
  have hE : ∀ E, r = .inr E → GF Γ hp' (.inr E) := fun E h => by subst h; exact hk
  refine ha.go hok hL hR hw (by omega) (by omega) hf hE fun g1 x ad1 v1 H1 locs1 e1 q1 q2 q3 => ?_
  cases q2
  cases e1
  obtain ⟨⟨p, l, e, R, s⟩, ⟨m, args, below, meth, c⟩, g, own, ⟨nL, jl⟩, Fin, ad0⟩ := Γ
  obtain ⟨hx, hb0, hml, hown, hts, henv, hlk, htb⟩ := hok
  exact W.widen (by omega) (by omega) (lv_ineg hx hb0 hd (hk ad1 _ H1 locs1 q1 rfl q3))
def o_i2c : Int32 → Int32 := fun x => (x.toUInt32 % 65536).toInt32
theorem Ev_i2c (ha : Ev Γ cc Value.int pc p1 w k1 n1 a) (hd : decode cc p1 = .ok (.i2c, 1)) : Ev Γ cc Value.int pc (p1 + 1) w k1 n1 (eU o_i2c a) := by
  intro hok ls lc st hp H locs cells slots c1 s1 ad hL hR hw b1 b2 b3 b4 hp' r hf hk
  have hE : ∀ E, r = .inr E → GF Γ hp' (.inr E) := fun E h => by subst h; exact hk
  refine ha.go hok hL hR hw (by omega) (by omega) hf hE fun g1 x ad1 v1 H1 locs1 e1 q1 q2 q3 => ?_
  cases q2
  cases e1
  obtain ⟨⟨p, l, e, R, s⟩, ⟨m, args, below, meth, c⟩, g, own, ⟨nL, jl⟩, Fin, ad0⟩ := Γ
  obtain ⟨hx, hb0, hml, hown, hts, henv, hlk, htb⟩ := hok
  exact W.widen (by omega) (by omega) (lv_i2c hx hb0 hd rfl (hk ad1 _ H1 locs1 q1 rfl q3))
theorem Ev_i2l (ha : Ev Γ cc Value.int pc p1 w k1 n1 a) (hd : decode cc p1 = .ok (.i2l, 1)) : Ev Γ cc Value.long pc (p1 + 1) w k1 n1 (eIL Int32.toInt64 a) := by
  intro hok ls lc st hp H locs cells slots c1 s1 ad hL hR hw b1 b2 b3 b4 hp' r hf hk
  have hE : ∀ E, r = .inr E → GF Γ hp' (.inr E) := fun E h => by subst h; exact hk
  refine ha.go hok hL hR hw (by omega) (by omega) hf hE fun g1 x ad1 v1 H1 locs1 e1 q1 q2 q3 => ?_
  cases q2
  cases e1
  obtain ⟨⟨p, l, e, R, s⟩, ⟨m, args, below, meth, c⟩, g, own, ⟨nL, jl⟩, Fin, ad0⟩ := Γ
  obtain ⟨hx, hb0, hml, hown, hts, henv, hlk, htb⟩ := hok
  exact W.widen (by omega) (by omega) (lv_i2l hx hb0 hd rfl (hk ad1 _ H1 locs1 q1 rfl q3))
def o_lor : Int64 → Int64 → Int64 := fun x y => x ||| y
theorem Ev_lor {a b : EXl} (ha : Ev Γ cc Value.long pc p1 w k1 n1 a) (hb : Ev Γ cc Value.long p1 p2 (w + 2) k2 n2 b) (hd : decode cc p2 = .ok (.lor, 1)) : Ev Γ cc Value.long pc (p2 + 1) w (k1 + k2) (n1 + n2) (eLO o_lor a b) := by
  intro hok ls lc st hp H locs cells slots c1 s1 ad hL hR hw b1 b2 b3 b4 hp' r hf hk
  have hE : ∀ E, r = .inr E → GF Γ hp' (.inr E) := fun E h => by subst h; exact hk
  refine ha.go hok hL hR hw (by omega) (by omega) hf hE fun g1 x ad1 v1 H1 locs1 e1 q1 q2 q3 => ?_
  cases q2
  refine hb.go hok (hL.mono q1) q3 (stW_l hw) (by omega) (by omega) e1 hE fun g2 y ad2 v2 H2 locs2 e2 r1 r2 r3 => ?_
  cases r2
  cases e2
  obtain ⟨⟨p, l, e, R, s⟩, ⟨m, args, below, meth, c⟩, g, own, ⟨nL, jl⟩, Fin, ad0⟩ := Γ
  obtain ⟨hx, hb0, hml, hown, hts, henv, hlk, htb⟩ := hok
  exact W.widen (by omega) (by omega) (lv_lor hx hb0 hd (hk ad2 _ H2 locs2 (q1.tr r1) rfl r3))
def o_land : Int64 → Int64 → Int64 := fun x y => x &&& y
theorem Ev_land {a b : EXl} (ha : Ev Γ cc Value.long pc p1 w k1 n1 a) (hb : Ev Γ cc Value.long p1 p2 (w + 2) k2 n2 b) (hd : decode cc p2 = .ok (.land, 1)) : Ev Γ cc Value.long pc (p2 + 1) w (k1 + k2) (n1 + n2) (eLO o_land a b) := by
  intro hok ls lc st hp H locs cells slots c1 s1 ad hL hR hw b1 b2 b3 b4 hp' r hf hk
  have hE : ∀ E, r = .inr E → GF Γ hp' (.inr E) := fun E h => by subst h; exact hk
  refine ha.go hok hL hR hw (by omega) (by omega) hf hE fun g1 x ad1 v1 H1 locs1 e1 q1 q2 q3 => ?_
  cases q2
  refine hb.go hok (hL.mono q1) q3 (stW_l hw) (by omega) (by omega) e1 hE fun g2 y ad2 v2 H2 locs2 e2 r1 r2 r3 => ?_
  cases r2
  cases e2
  obtain ⟨⟨p, l, e, R, s⟩, ⟨m, args, below, meth, c⟩, g, own, ⟨nL, jl⟩, Fin, ad0⟩ := Γ
  obtain ⟨hx, hb0, hml, hown, hts, henv, hlk, htb⟩ := hok
  exact W.widen (by omega) (by omega) (lv_land hx hb0 hd (hk ad2 _ H2 locs2 (q1.tr r1) rfl r3))
def o_lshl : Int64 → Int32 → Int64 := fun x y => x <<< (y.toInt64 &&& 63)
theorem Ev_lshl {a : EXl} (ha : Ev Γ cc Value.long pc p1 w k1 n1 a) (hb : Ev Γ cc Value.int p1 p2 (w + 2) k2 n2 b) (hd : decode cc p2 = .ok (.lshl, 1)) : Ev Γ cc Value.long pc (p2 + 1) w (k1 + k2) (n1 + n2) (eLS o_lshl a b) := by
  intro hok ls lc st hp H locs cells slots c1 s1 ad hL hR hw b1 b2 b3 b4 hp' r hf hk
  have hE : ∀ E, r = .inr E → GF Γ hp' (.inr E) := fun E h => by subst h; exact hk
  refine ha.go hok hL hR hw (by omega) (by omega) hf hE fun g1 x ad1 v1 H1 locs1 e1 q1 q2 q3 => ?_
  cases q2
  refine hb.go hok (hL.mono q1) q3 (stW_l hw) (by omega) (by omega) e1 hE fun g2 y ad2 v2 H2 locs2 e2 r1 r2 r3 => ?_
  cases r2
  cases e2
  obtain ⟨⟨p, l, e, R, s⟩, ⟨m, args, below, meth, c⟩, g, own, ⟨nL, jl⟩, Fin, ad0⟩ := Γ
  obtain ⟨hx, hb0, hml, hown, hts, henv, hlk, htb⟩ := hok
  exact W.widen (by omega) (by omega) (lv_lshl hx hb0 hd rfl (hk ad2 _ H2 locs2 (q1.tr r1) rfl r3))
theorem Ev_lcmp {a b : EXl} (ha : Ev Γ cc Value.long pc p1 w k1 n1 a) (hb : Ev Γ cc Value.long p1 p2 (w + 2) k2 n2 b) (hd : decode cc p2 = .ok (.lcmp, 1)) : Ev Γ cc Value.int pc (p2 + 1) w (k1 + k2) (n1 + n2) (eLC a b) := by
  intro hok ls lc st hp H locs cells slots c1 s1 ad hL hR hw b1 b2 b3 b4 hp' r hf hk
  have hE : ∀ E, r = .inr E → GF Γ hp' (.inr E) := fun E h => by subst h; exact hk
  refine ha.go hok hL hR hw (by omega) (by omega) hf hE fun g1 x ad1 v1 H1 locs1 e1 q1 q2 q3 => ?_
  cases q2
  refine hb.go hok (hL.mono q1) q3 (stW_l hw) (by omega) (by omega) e1 hE fun g2 y ad2 v2 H2 locs2 e2 r1 r2 r3 => ?_
  cases r2
  cases e2
  obtain ⟨⟨p, l, e, R, s⟩, ⟨m, args, below, meth, c⟩, g, own, ⟨nL, jl⟩, Fin, ad0⟩ := Γ
  obtain ⟨hx, hb0, hml, hown, hts, henv, hlk, htb⟩ := hok
  exact W.widen (by omega) (by omega) (W.lcmp hx hb0 hd (hk ad2 _ H2 locs2 (q1.tr r1) rfl r3))
theorem i_nlt {x y : Int32} (h : ¬ x < y) : y ≤ x := Int32.not_lt.mp h
theorem i_nle {x y : Int32} (h : ¬ x ≤ y) : y < x := Int32.not_le.mp h
theorem i_ltn {x y : Int32} (h : x < y) : ¬ y ≤ x := Int32.not_le.mpr h
theorem i_len {x y : Int32} (h : x ≤ y) : ¬ y < x := Int32.not_lt.mpr h
def c_eq : Int32 → Int32 → Bool := fun x y => decide (x = y)
def z_eq : Int32 → Bool := fun x => decide (x = 0)
def c_ne : Int32 → Int32 → Bool := fun x y => decide (x ≠ y)
def z_ne : Int32 → Bool := fun x => decide (x ≠ 0)
def c_lt : Int32 → Int32 → Bool := fun x y => decide (x < y)
def z_lt : Int32 → Bool := fun x => decide (x < 0)
def c_ge : Int32 → Int32 → Bool := fun x y => decide (y ≤ x)
def z_ge : Int32 → Bool := fun x => decide (0 ≤ x)
def c_gt : Int32 → Int32 → Bool := fun x y => decide (y < x)
def z_gt : Int32 → Bool := fun x => decide (0 < x)
def c_le : Int32 → Int32 → Bool := fun x y => decide (x ≤ y)
def z_le : Int32 → Bool := fun x => decide (x ≤ 0)
theorem Cv_icmp_eq_j (ha : Ev Γ cc Value.int pc p1 w k1 n1 a) (hb : Ev Γ cc Value.int p1 p2 (w + 1) k2 n2 b) {off : Int} {t : Nat} (hd : decode cc p2 = .ok (.if_icmp .eq off, 3)) (ht : (p2 : Int) + off = (t : Int)) : Cv Γ cc pc (t) (p2 + 3) w (k1 + k2) (n1 + n2) (cB c_eq a b) := by
  intro hok ls lc st hp H locs cells slots c1 s1 ad hL hR hw b1 b2 b3 b4 hp' r hf hk
  have hE : ∀ E, r = .inr E → GF Γ hp' (.inr E) := fun E h => by subst h; exact hk
  refine ha.go hok hL hR hw (by omega) (by omega) hf hE fun g1 x ad1 v1 H1 locs1 e1 q1 q2 q3 => ?_
  cases q2
  refine hb.go hok (hL.mono q1) q3 (stW_i hw) (by omega) (by omega) e1 hE fun g2 y ad2 v2 H2 locs2 e2 r1 r2 r3 => ?_
  cases r2
  cases e2
  have kt : (x = y) → GW Γ H2 locs2 c1 s1 t ls st := fun q => by
    have z : c_eq x y = true := by unfold c_eq; exact decide_eq_true (q)
    rw [z] at hk
    exact hk ad2 H2 locs2 (q1.tr r1) r3
  have kf : ¬ (x = y) → GW Γ H2 locs2 c1 s1 (p2 + 3) ls st := fun q => by
    have z : c_eq x y = false := by unfold c_eq; exact decide_eq_false (q)
    rw [z] at hk
    exact hk ad2 H2 locs2 (q1.tr r1) r3
  obtain ⟨⟨p, l, e, R, s⟩, ⟨m, args, below, meth, c⟩, g, own, ⟨nL, jl⟩, Fin, ad0⟩ := Γ
  obtain ⟨hx, hb0, hml, hown, hts, henv, hlk, htb⟩ := hok
  exact W.widen (by omega) (by omega) (lv_icmp_eq hx hb0 hd ht kt kf)
theorem Cv_if_eq_j (ha : Ev Γ cc Value.int pc p1 w k1 n1 a) {off : Int} {t : Nat} (hd : decode cc p1 = .ok (.ifCond .eq off, 3)) (ht : (p1 : Int) + off = (t : Int)) : Cv Γ cc pc (t) (p1 + 3) w k1 n1 (cZ z_eq a) := by
  intro hok ls lc st hp H locs cells slots c1 s1 ad hL hR hw b1 b2 b3 b4 hp' r hf hk
  have hE : ∀ E, r = .inr E → GF Γ hp' (.inr E) := fun E h => by subst h; exact hk
  refine ha.go hok hL hR hw (by omega) (by omega) hf hE fun g1 x ad1 v1 H1 locs1 e1 q1 q2 q3 => ?_
  cases q2
  cases e1
  have kt : (x = 0) → GW Γ H1 locs1 c1 s1 t ls st := fun q => by
    have z : z_eq x = true := by unfold z_eq; exact decide_eq_true (q)
    rw [z] at hk
    exact hk ad1 H1 locs1 q1 q3
  have kf : ¬ (x = 0) → GW Γ H1 locs1 c1 s1 (p1 + 3) ls st := fun q => by
    have z : z_eq x = false := by unfold z_eq; exact decide_eq_false (q)
    rw [z] at hk
    exact hk ad1 H1 locs1 q1 q3
  obtain ⟨⟨p, l, e, R, s⟩, ⟨m, args, below, meth, c⟩, g, own, ⟨nL, jl⟩, Fin, ad0⟩ := Γ
  obtain ⟨hx, hb0, hml, hown, hts, henv, hlk, htb⟩ := hok
  exact W.widen (by omega) (by omega) (lv_if_eq hx hb0 hd ht kt kf)
theorem Cv_icmp_eq_n (ha : Ev Γ cc Value.int pc p1 w k1 n1 a) (hb : Ev Γ cc Value.int p1 p2 (w + 1) k2 n2 b) {off : Int} {t : Nat} (hd : decode cc p2 = .ok (.if_icmp .eq off, 3)) (ht : (p2 : Int) + off = (t : Int)) : Cv Γ cc pc (p2 + 3) (t) w (k1 + k2) (n1 + n2) (cB c_ne a b) := by
  intro hok ls lc st hp H locs cells slots c1 s1 ad hL hR hw b1 b2 b3 b4 hp' r hf hk
  have hE : ∀ E, r = .inr E → GF Γ hp' (.inr E) := fun E h => by subst h; exact hk
  refine ha.go hok hL hR hw (by omega) (by omega) hf hE fun g1 x ad1 v1 H1 locs1 e1 q1 q2 q3 => ?_
  cases q2
  refine hb.go hok (hL.mono q1) q3 (stW_i hw) (by omega) (by omega) e1 hE fun g2 y ad2 v2 H2 locs2 e2 r1 r2 r3 => ?_
  cases r2
  cases e2
  have kt : (x = y) → GW Γ H2 locs2 c1 s1 t ls st := fun q => by
    have z : c_ne x y = false := by unfold c_ne; exact decide_eq_false (fun z => z q)
    rw [z] at hk
    exact hk ad2 H2 locs2 (q1.tr r1) r3
  have kf : ¬ (x = y) → GW Γ H2 locs2 c1 s1 (p2 + 3) ls st := fun q => by
    have z : c_ne x y = true := by unfold c_ne; exact decide_eq_true (q)
    rw [z] at hk
    exact hk ad2 H2 locs2 (q1.tr r1) r3
  obtain ⟨⟨p, l, e, R, s⟩, ⟨m, args, below, meth, c⟩, g, own, ⟨nL, jl⟩, Fin, ad0⟩ := Γ
  obtain ⟨hx, hb0, hml, hown, hts, henv, hlk, htb⟩ := hok
  exact W.widen (by omega) (by omega) (lv_icmp_eq hx hb0 hd ht kt kf)
theorem Cv_if_eq_n (ha : Ev Γ cc Value.int pc p1 w k1 n1 a) {off : Int} {t : Nat} (hd : decode cc p1 = .ok (.ifCond .eq off, 3)) (ht : (p1 : Int) + off = (t : Int)) : Cv Γ cc pc (p1 + 3) (t) w k1 n1 (cZ z_ne a) := by
  intro hok ls lc st hp H locs cells slots c1 s1 ad hL hR hw b1 b2 b3 b4 hp' r hf hk
  have hE : ∀ E, r = .inr E → GF Γ hp' (.inr E) := fun E h => by subst h; exact hk
  refine ha.go hok hL hR hw (by omega) (by omega) hf hE fun g1 x ad1 v1 H1 locs1 e1 q1 q2 q3 => ?_
  cases q2
  cases e1
  have kt : (x = 0) → GW Γ H1 locs1 c1 s1 t ls st := fun q => by
    have z : z_ne x = false := by unfold z_ne; exact decide_eq_false (fun z => z q)
    rw [z] at hk
    exact hk ad1 H1 locs1 q1 q3
  have kf : ¬ (x = 0) → GW Γ H1 locs1 c1 s1 (p1 + 3) ls st := fun q => by
    have z : z_ne x = true := by unfold z_ne; exact decide_eq_true (q)
    rw [z] at hk
    exact hk ad1 H1 locs1 q1 q3
  obtain ⟨⟨p, l, e, R, s⟩, ⟨m, args, below, meth, c⟩, g, own, ⟨nL, jl⟩, Fin, ad0⟩ := Γ
  obtain ⟨hx, hb0, hml, hown, hts, henv, hlk, htb⟩ := hok
  exact W.widen (by omega) (by omega) (lv_if_eq hx hb0 hd ht kt kf)
theorem Cv_icmp_ne_j (ha : Ev Γ cc Value.int pc p1 w k1 n1 a) (hb : Ev Γ cc Value.int p1 p2 (w + 1) k2 n2 b) {off : Int} {t : Nat} (hd : decode cc p2 = .ok (.if_icmp .ne off, 3)) (ht : (p2 : Int) + off = (t : Int)) : Cv Γ cc pc (t) (p2 + 3) w (k1 + k2) (n1 + n2) (cB c_ne a b) := by
  intro hok ls lc st hp H locs cells slots c1 s1 ad hL hR hw b1 b2 b3 b4 hp' r hf hk
  have hE : ∀ E, r = .inr E → GF Γ hp' (.inr E) := fun E h => by subst h; exact hk
  refine ha.go hok hL hR hw (by omega) (by omega) hf hE fun g1 x ad1 v1 H1 locs1 e1 q1 q2 q3 => ?_
  cases q2
  refine hb.go hok (hL.mono q1) q3 (stW_i hw) (by omega) (by omega) e1 hE fun g2 y ad2 v2 H2 locs2 e2 r1 r2 r3 => ?_
  cases r2
  cases e2
  have kt : (¬ x = y) → GW Γ H2 locs2 c1 s1 t ls st := fun q => by
    have z : c_ne x y = true := by unfold c_ne; exact decide_eq_true (q)
    rw [z] at hk
    exact hk ad2 H2 locs2 (q1.tr r1) r3
  have kf : ¬ (¬ x = y) → GW Γ H2 locs2 c1 s1 (p2 + 3) ls st := fun q => by
    have z : c_ne x y = false := by unfold c_ne; exact decide_eq_false (q)
    rw [z] at hk
    exact hk ad2 H2 locs2 (q1.tr r1) r3
  obtain ⟨⟨p, l, e, R, s⟩, ⟨m, args, below, meth, c⟩, g, own, ⟨nL, jl⟩, Fin, ad0⟩ := Γ
  obtain ⟨hx, hb0, hml, hown, hts, henv, hlk, htb⟩ := hok
  exact W.widen (by omega) (by omega) (lv_icmp_ne hx hb0 hd ht kt (fun q => kf (fun z => z q)))
theorem Cv_if_ne_j (ha : Ev Γ cc Value.int pc p1 w k1 n1 a) {off : Int} {t : Nat} (hd : decode cc p1 = .ok (.ifCond .ne off, 3)) (ht : (p1 : Int) + off = (t : Int)) : Cv Γ cc pc (t) (p1 + 3) w k1 n1 (cZ z_ne a) := by
  intro hok ls lc st hp H locs cells slots c1 s1 ad hL hR hw b1 b2 b3 b4 hp' r hf hk
  have hE : ∀ E, r = .inr E → GF Γ hp' (.inr E) := fun E h => by subst h; exact hk
  refine ha.go hok hL hR hw (by omega) (by omega) hf hE fun g1 x ad1 v1 H1 locs1 e1 q1 q2 q3 => ?_
  cases q2
  cases e1
  have kt : (¬ x = 0) → GW Γ H1 locs1 c1 s1 t ls st := fun q => by
    have z : z_ne x = true := by unfold z_ne; exact decide_eq_true (q)
    rw [z] at hk
    exact hk ad1 H1 locs1 q1 q3
  have kf : ¬ (¬ x = 0) → GW Γ H1 locs1 c1 s1 (p1 + 3) ls st := fun q => by
    have z : z_ne x = false := by unfold z_ne; exact decide_eq_false (q)
    rw [z] at hk
    exact hk ad1 H1 locs1 q1 q3
  obtain ⟨⟨p, l, e, R, s⟩, ⟨m, args, below, meth, c⟩, g, own, ⟨nL, jl⟩, Fin, ad0⟩ := Γ
  obtain ⟨hx, hb0, hml, hown, hts, henv, hlk, htb⟩ := hok
  exact W.widen (by omega) (by omega) (lv_if_ne hx hb0 hd ht kt (fun q => kf (fun z => z q)))
theorem Cv_icmp_ne_n (ha : Ev Γ cc Value.int pc p1 w k1 n1 a) (hb : Ev Γ cc Value.int p1 p2 (w + 1) k2 n2 b) {off : Int} {t : Nat} (hd : decode cc p2 = .ok (.if_icmp .ne off, 3)) (ht : (p2 : Int) + off = (t : Int)) : Cv Γ cc pc (p2 + 3) (t) w (k1 + k2) (n1 + n2) (cB c_eq a b) := by
  intro hok ls lc st hp H locs cells slots c1 s1 ad hL hR hw b1 b2 b3 b4 hp' r hf hk
  have hE : ∀ E, r = .inr E → GF Γ hp' (.inr E) := fun E h => by subst h; exact hk
  refine ha.go hok hL hR hw (by omega) (by omega) hf hE fun g1 x ad1 v1 H1 locs1 e1 q1 q2 q3 => ?_
  cases q2
  refine hb.go hok (hL.mono q1) q3 (stW_i hw) (by omega) (by omega) e1 hE fun g2 y ad2 v2 H2 locs2 e2 r1 r2 r3 => ?_
  cases r2
  cases e2
  have kt : (¬ x = y) → GW Γ H2 locs2 c1 s1 t ls st := fun q => by
    have z : c_eq x y = false := by unfold c_eq; exact decide_eq_false (q)
    rw [z] at hk
    exact hk ad2 H2 locs2 (q1.tr r1) r3
  have kf : ¬ (¬ x = y) → GW Γ H2 locs2 c1 s1 (p2 + 3) ls st := fun q => by
    have z : c_eq x y = true := by unfold c_eq; exact decide_eq_true (Decidable.of_not_not q)
    rw [z] at hk
    exact hk ad2 H2 locs2 (q1.tr r1) r3
  obtain ⟨⟨p, l, e, R, s⟩, ⟨m, args, below, meth, c⟩, g, own, ⟨nL, jl⟩, Fin, ad0⟩ := Γ
  obtain ⟨hx, hb0, hml, hown, hts, henv, hlk, htb⟩ := hok
  exact W.widen (by omega) (by omega) (lv_icmp_ne hx hb0 hd ht kt (fun q => kf (fun z => z q)))
theorem Cv_if_ne_n (ha : Ev Γ cc Value.int pc p1 w k1 n1 a) {off : Int} {t : Nat} (hd : decode cc p1 = .ok (.ifCond .ne off, 3)) (ht : (p1 : Int) + off = (t : Int)) : Cv Γ cc pc (p1 + 3) (t) w k1 n1 (cZ z_eq a) := by
  intro hok ls lc st hp H locs cells slots c1 s1 ad hL hR hw b1 b2 b3 b4 hp' r hf hk
  have hE : ∀ E, r = .inr E → GF Γ hp' (.inr E) := fun E h => by subst h; exact hk
  refine ha.go hok hL hR hw (by omega) (by omega) hf hE fun g1 x ad1 v1 H1 locs1 e1 q1 q2 q3 => ?_
  cases q2
  cases e1
  have kt : (¬ x = 0) → GW Γ H1 locs1 c1 s1 t ls st := fun q => by
    have z : z_eq x = false := by unfold z_eq; exact decide_eq_false (q)
    rw [z] at hk
    exact hk ad1 H1 locs1 q1 q3
  have kf : ¬ (¬ x = 0) → GW Γ H1 locs1 c1 s1 (p1 + 3) ls st := fun q => by
    have z : z_eq x = true := by unfold z_eq; exact decide_eq_true (Decidable.of_not_not q)
    rw [z] at hk
    exact hk ad1 H1 locs1 q1 q3
  obtain ⟨⟨p, l, e, R, s⟩, ⟨m, args, below, meth, c⟩, g, own, ⟨nL, jl⟩, Fin, ad0⟩ := Γ
  obtain ⟨hx, hb0, hml, hown, hts, henv, hlk, htb⟩ := hok
  exact W.widen (by omega) (by omega) (lv_if_ne hx hb0 hd ht kt (fun q => kf (fun z => z q)))
theorem Cv_icmp_lt_j (ha : Ev Γ cc Value.int pc p1 w k1 n1 a) (hb : Ev Γ cc Value.int p1 p2 (w + 1) k2 n2 b) {off : Int} {t : Nat} (hd : decode cc p2 = .ok (.if_icmp .lt off, 3)) (ht : (p2 : Int) + off = (t : Int)) : Cv Γ cc pc (t) (p2 + 3) w (k1 + k2) (n1 + n2) (cB c_lt a b) := by
  intro hok ls lc st hp H locs cells slots c1 s1 ad hL hR hw b1 b2 b3 b4 hp' r hf hk
  have hE : ∀ E, r = .inr E → GF Γ hp' (.inr E) := fun E h => by subst h; exact hk
  refine ha.go hok hL hR hw (by omega) (by omega) hf hE fun g1 x ad1 v1 H1 locs1 e1 q1 q2 q3 => ?_
  cases q2
  refine hb.go hok (hL.mono q1) q3 (stW_i hw) (by omega) (by omega) e1 hE fun g2 y ad2 v2 H2 locs2 e2 r1 r2 r3 => ?_
  cases r2
  cases e2
  have kt : (x < y) → GW Γ H2 locs2 c1 s1 t ls st := fun q => by
    have z : c_lt x y = true := by unfold c_lt; exact decide_eq_true (q)
    rw [z] at hk
    exact hk ad2 H2 locs2 (q1.tr r1) r3
  have kf : ¬ (x < y) → GW Γ H2 locs2 c1 s1 (p2 + 3) ls st := fun q => by
    have z : c_lt x y = false := by unfold c_lt; exact decide_eq_false (q)
    rw [z] at hk
    exact hk ad2 H2 locs2 (q1.tr r1) r3
  obtain ⟨⟨p, l, e, R, s⟩, ⟨m, args, below, meth, c⟩, g, own, ⟨nL, jl⟩, Fin, ad0⟩ := Γ
  obtain ⟨hx, hb0, hml, hown, hts, henv, hlk, htb⟩ := hok
  exact W.widen (by omega) (by omega) (lv_icmp_lt hx hb0 hd ht kt kf)
theorem Cv_if_lt_j (ha : Ev Γ cc Value.int pc p1 w k1 n1 a) {off : Int} {t : Nat} (hd : decode cc p1 = .ok (.ifCond .lt off, 3)) (ht : (p1 : Int) + off = (t : Int)) : Cv Γ cc pc (t) (p1 + 3) w k1 n1 (cZ z_lt a) := by
  intro hok ls lc st hp H locs cells slots c1 s1 ad hL hR hw b1 b2 b3 b4 hp' r hf hk
  have hE : ∀ E, r = .inr E → GF Γ hp' (.inr E) := fun E h => by subst h; exact hk
  refine ha.go hok hL hR hw (by omega) (by omega) hf hE fun g1 x ad1 v1 H1 locs1 e1 q1 q2 q3 => ?_
  cases q2
  cases e1
  have kt : (x < 0) → GW Γ H1 locs1 c1 s1 t ls st := fun q => by
    have z : z_lt x = true := by unfold z_lt; exact decide_eq_true (q)
    rw [z] at hk
    exact hk ad1 H1 locs1 q1 q3
  have kf : ¬ (x < 0) → GW Γ H1 locs1 c1 s1 (p1 + 3) ls st := fun q => by
    have z : z_lt x = false := by unfold z_lt; exact decide_eq_false (q)
    rw [z] at hk
    exact hk ad1 H1 locs1 q1 q3
  obtain ⟨⟨p, l, e, R, s⟩, ⟨m, args, below, meth, c⟩, g, own, ⟨nL, jl⟩, Fin, ad0⟩ := Γ
  obtain ⟨hx, hb0, hml, hown, hts, henv, hlk, htb⟩ := hok
  exact W.widen (by omega) (by omega) (lv_if_lt hx hb0 hd ht kt kf)
theorem Cv_icmp_lt_n (ha : Ev Γ cc Value.int pc p1 w k1 n1 a) (hb : Ev Γ cc Value.int p1 p2 (w + 1) k2 n2 b) {off : Int} {t : Nat} (hd : decode cc p2 = .ok (.if_icmp .lt off, 3)) (ht : (p2 : Int) + off = (t : Int)) : Cv Γ cc pc (p2 + 3) (t) w (k1 + k2) (n1 + n2) (cB c_ge a b) := by
  intro hok ls lc st hp H locs cells slots c1 s1 ad hL hR hw b1 b2 b3 b4 hp' r hf hk
  have hE : ∀ E, r = .inr E → GF Γ hp' (.inr E) := fun E h => by subst h; exact hk
  refine ha.go hok hL hR hw (by omega) (by omega) hf hE fun g1 x ad1 v1 H1 locs1 e1 q1 q2 q3 => ?_
  cases q2
  refine hb.go hok (hL.mono q1) q3 (stW_i hw) (by omega) (by omega) e1 hE fun g2 y ad2 v2 H2 locs2 e2 r1 r2 r3 => ?_
  cases r2
  cases e2
  have kt : (x < y) → GW Γ H2 locs2 c1 s1 t ls st := fun q => by
    have z : c_ge x y = false := by unfold c_ge; exact decide_eq_false (i_ltn q)
    rw [z] at hk
    exact hk ad2 H2 locs2 (q1.tr r1) r3
  have kf : ¬ (x < y) → GW Γ H2 locs2 c1 s1 (p2 + 3) ls st := fun q => by
    have z : c_ge x y = true := by unfold c_ge; exact decide_eq_true (i_nlt q)
    rw [z] at hk
    exact hk ad2 H2 locs2 (q1.tr r1) r3
  obtain ⟨⟨p, l, e, R, s⟩, ⟨m, args, below, meth, c⟩, g, own, ⟨nL, jl⟩, Fin, ad0⟩ := Γ
  obtain ⟨hx, hb0, hml, hown, hts, henv, hlk, htb⟩ := hok
  exact W.widen (by omega) (by omega) (lv_icmp_lt hx hb0 hd ht kt kf)
theorem Cv_if_lt_n (ha : Ev Γ cc Value.int pc p1 w k1 n1 a) {off : Int} {t : Nat} (hd : decode cc p1 = .ok (.ifCond .lt off, 3)) (ht : (p1 : Int) + off = (t : Int)) : Cv Γ cc pc (p1 + 3) (t) w k1 n1 (cZ z_ge a) := by
  intro hok ls lc st hp H locs cells slots c1 s1 ad hL hR hw b1 b2 b3 b4 hp' r hf hk
  have hE : ∀ E, r = .inr E → GF Γ hp' (.inr E) := fun E h => by subst h; exact hk
  refine ha.go hok hL hR hw (by omega) (by omega) hf hE fun g1 x ad1 v1 H1 locs1 e1 q1 q2 q3 => ?_
  cases q2
  cases e1
  have kt : (x < 0) → GW Γ H1 locs1 c1 s1 t ls st := fun q => by
    have z : z_ge x = false := by unfold z_ge; exact decide_eq_false (i_ltn q)
    rw [z] at hk
    exact hk ad1 H1 locs1 q1 q3
  have kf : ¬ (x < 0) → GW Γ H1 locs1 c1 s1 (p1 + 3) ls st := fun q => by
    have z : z_ge x = true := by unfold z_ge; exact decide_eq_true (i_nlt q)
    rw [z] at hk
    exact hk ad1 H1 locs1 q1 q3
  obtain ⟨⟨p, l, e, R, s⟩, ⟨m, args, below, meth, c⟩, g, own, ⟨nL, jl⟩, Fin, ad0⟩ := Γ
  obtain ⟨hx, hb0, hml, hown, hts, henv, hlk, htb⟩ := hok
  exact W.widen (by omega) (by omega) (lv_if_lt hx hb0 hd ht kt kf)
theorem Cv_icmp_ge_j (ha : Ev Γ cc Value.int pc p1 w k1 n1 a) (hb : Ev Γ cc Value.int p1 p2 (w + 1) k2 n2 b) {off : Int} {t : Nat} (hd : decode cc p2 = .ok (.if_icmp .ge off, 3)) (ht : (p2 : Int) + off = (t : Int)) : Cv Γ cc pc (t) (p2 + 3) w (k1 + k2) (n1 + n2) (cB c_ge a b) := by
  intro hok ls lc st hp H locs cells slots c1 s1 ad hL hR hw b1 b2 b3 b4 hp' r hf hk
  have hE : ∀ E, r = .inr E → GF Γ hp' (.inr E) := fun E h => by subst h; exact hk
  refine ha.go hok hL hR hw (by omega) (by omega) hf hE fun g1 x ad1 v1 H1 locs1 e1 q1 q2 q3 => ?_
  cases q2
  refine hb.go hok (hL.mono q1) q3 (stW_i hw) (by omega) (by omega) e1 hE fun g2 y ad2 v2 H2 locs2 e2 r1 r2 r3 => ?_
  cases r2
  cases e2
  have kt : (y ≤ x) → GW Γ H2 locs2 c1 s1 t ls st := fun q => by
    have z : c_ge x y = true := by unfold c_ge; exact decide_eq_true (q)
    rw [z] at hk
    exact hk ad2 H2 locs2 (q1.tr r1) r3
  have kf : ¬ (y ≤ x) → GW Γ H2 locs2 c1 s1 (p2 + 3) ls st := fun q => by
    have z : c_ge x y = false := by unfold c_ge; exact decide_eq_false (q)
    rw [z] at hk
    exact hk ad2 H2 locs2 (q1.tr r1) r3
  obtain ⟨⟨p, l, e, R, s⟩, ⟨m, args, below, meth, c⟩, g, own, ⟨nL, jl⟩, Fin, ad0⟩ := Γ
  obtain ⟨hx, hb0, hml, hown, hts, henv, hlk, htb⟩ := hok
  exact W.widen (by omega) (by omega) (lv_icmp_ge hx hb0 hd ht kt kf)
theorem Cv_if_ge_j (ha : Ev Γ cc Value.int pc p1 w k1 n1 a) {off : Int} {t : Nat} (hd : decode cc p1 = .ok (.ifCond .ge off, 3)) (ht : (p1 : Int) + off = (t : Int)) : Cv Γ cc pc (t) (p1 + 3) w k1 n1 (cZ z_ge a) := by
  intro hok ls lc st hp H locs cells slots c1 s1 ad hL hR hw b1 b2 b3 b4 hp' r hf hk
  have hE : ∀ E, r = .inr E → GF Γ hp' (.inr E) := fun E h => by subst h; exact hk
  refine ha.go hok hL hR hw (by omega) (by omega) hf hE fun g1 x ad1 v1 H1 locs1 e1 q1 q2 q3 => ?_
  cases q2
  cases e1
  have kt : (0 ≤ x) → GW Γ H1 locs1 c1 s1 t ls st := fun q => by
    have z : z_ge x = true := by unfold z_ge; exact decide_eq_true (q)
    rw [z] at hk
    exact hk ad1 H1 locs1 q1 q3
  have kf : ¬ (0 ≤ x) → GW Γ H1 locs1 c1 s1 (p1 + 3) ls st := fun q => by
    have z : z_ge x = false := by unfold z_ge; exact decide_eq_false (q)
    rw [z] at hk
    exact hk ad1 H1 locs1 q1 q3
  obtain ⟨⟨p, l, e, R, s⟩, ⟨m, args, below, meth, c⟩, g, own, ⟨nL, jl⟩, Fin, ad0⟩ := Γ
  obtain ⟨hx, hb0, hml, hown, hts, henv, hlk, htb⟩ := hok
  exact W.widen (by omega) (by omega) (lv_if_ge hx hb0 hd ht kt kf)
theorem Cv_icmp_ge_n (ha : Ev Γ cc Value.int pc p1 w k1 n1 a) (hb : Ev Γ cc Value.int p1 p2 (w + 1) k2 n2 b) {off : Int} {t : Nat} (hd : decode cc p2 = .ok (.if_icmp .ge off, 3)) (ht : (p2 : Int) + off = (t : Int)) : Cv Γ cc pc (p2 + 3) (t) w (k1 + k2) (n1 + n2) (cB c_lt a b) := by
  intro hok ls lc st hp H locs cells slots c1 s1 ad hL hR hw b1 b2 b3 b4 hp' r hf hk
  have hE : ∀ E, r = .inr E → GF Γ hp' (.inr E) := fun E h => by subst h; exact hk
  refine ha.go hok hL hR hw (by omega) (by omega) hf hE fun g1 x ad1 v1 H1 locs1 e1 q1 q2 q3 => ?_
  cases q2
  refine hb.go hok (hL.mono q1) q3 (stW_i hw) (by omega) (by omega) e1 hE fun g2 y ad2 v2 H2 locs2 e2 r1 r2 r3 => ?_
  cases r2
  cases e2
  have kt : (y ≤ x) → GW Γ H2 locs2 c1 s1 t ls st := fun q => by
    have z : c_lt x y = false := by unfold c_lt; exact decide_eq_false (i_len q)
    rw [z] at hk
    exact hk ad2 H2 locs2 (q1.tr r1) r3
  have kf : ¬ (y ≤ x) → GW Γ H2 locs2 c1 s1 (p2 + 3) ls st := fun q => by
    have z : c_lt x y = true := by unfold c_lt; exact decide_eq_true (i_nle q)
    rw [z] at hk
    exact hk ad2 H2 locs2 (q1.tr r1) r3
  obtain ⟨⟨p, l, e, R, s⟩, ⟨m, args, below, meth, c⟩, g, own, ⟨nL, jl⟩, Fin, ad0⟩ := Γ
  obtain ⟨hx, hb0, hml, hown, hts, henv, hlk, htb⟩ := hok
  exact W.widen (by omega) (by omega) (lv_icmp_ge hx hb0 hd ht kt kf)
theorem Cv_if_ge_n (ha : Ev Γ cc Value.int pc p1 w k1 n1 a) {off : Int} {t : Nat} (hd : decode cc p1 = .ok (.ifCond .ge off, 3)) (ht : (p1 : Int) + off = (t : Int)) : Cv Γ cc pc (p1 + 3) (t) w k1 n1 (cZ z_lt a) := by
  intro hok ls lc st hp H locs cells slots c1 s1 ad hL hR hw b1 b2 b3 b4 hp' r hf hk
  have hE : ∀ E, r = .inr E → GF Γ hp' (.inr E) := fun E h => by subst h; exact hk
  refine ha.go hok hL hR hw (by omega) (by omega) hf hE fun g1 x ad1 v1 H1 locs1 e1 q1 q2 q3 => ?_
  cases q2
  cases e1
  have kt : (0 ≤ x) → GW Γ H1 locs1 c1 s1 t ls st := fun q => by
    have z : z_lt x = false := by unfold z_lt; exact decide_eq_false (i_len q)
    rw [z] at hk
    exact hk ad1 H1 locs1 q1 q3
  have kf : ¬ (0 ≤ x) → GW Γ H1 locs1 c1 s1 (p1 + 3) ls st := fun q => by
    have z : z_lt x = true := by unfold z_lt; exact decide_eq_true (i_nle q)
    rw [z] at hk
    exact hk ad1 H1 locs1 q1 q3
  obtain ⟨⟨p, l, e, R, s⟩, ⟨m, args, below, meth, c⟩, g, own, ⟨nL, jl⟩, Fin, ad0⟩ := Γ
  obtain ⟨hx, hb0, hml, hown, hts, henv, hlk, htb⟩ := hok
  exact W.widen (by omega) (by omega) (lv_if_ge hx hb0 hd ht kt kf)
theorem Cv_icmp_gt_j (ha : Ev Γ cc Value.int pc p1 w k1 n1 a) (hb : Ev Γ cc Value.int p1 p2 (w + 1) k2 n2 b) {off : Int} {t : Nat} (hd : decode cc p2 = .ok (.if_icmp .gt off, 3)) (ht : (p2 : Int) + off = (t : Int)) : Cv Γ cc pc (t) (p2 + 3) w (k1 + k2) (n1 + n2) (cB c_gt a b) := by
  intro hok ls lc st hp H locs cells slots c1 s1 ad hL hR hw b1 b2 b3 b4 hp' r hf hk
  have hE : ∀ E, r = .inr E → GF Γ hp' (.inr E) := fun E h => by subst h; exact hk
  refine ha.go hok hL hR hw (by omega) (by omega) hf hE fun g1 x ad1 v1 H1 locs1 e1 q1 q2 q3 => ?_
  cases q2
  refine hb.go hok (hL.mono q1) q3 (stW_i hw) (by omega) (by omega) e1 hE fun g2 y ad2 v2 H2 locs2 e2 r1 r2 r3 => ?_
  cases r2
  cases e2
  have kt : (y < x) → GW Γ H2 locs2 c1 s1 t ls st := fun q => by
    have z : c_gt x y = true := by unfold c_gt; exact decide_eq_true (q)
    rw [z] at hk
    exact hk ad2 H2 locs2 (q1.tr r1) r3
  have kf : ¬ (y < x) → GW Γ H2 locs2 c1 s1 (p2 + 3) ls st := fun q => by
    have z : c_gt x y = false := by unfold c_gt; exact decide_eq_false (q)
    rw [z] at hk
    exact hk ad2 H2 locs2 (q1.tr r1) r3
  obtain ⟨⟨p, l, e, R, s⟩, ⟨m, args, below, meth, c⟩, g, own, ⟨nL, jl⟩, Fin, ad0⟩ := Γ
  obtain ⟨hx, hb0, hml, hown, hts, henv, hlk, htb⟩ := hok
  exact W.widen (by omega) (by omega) (lv_icmp_gt hx hb0 hd ht kt kf)
theorem Cv_if_gt_j (ha : Ev Γ cc Value.int pc p1 w k1 n1 a) {off : Int} {t : Nat} (hd : decode cc p1 = .ok (.ifCond .gt off, 3)) (ht : (p1 : Int) + off = (t : Int)) : Cv Γ cc pc (t) (p1 + 3) w k1 n1 (cZ z_gt a) := by
  intro hok ls lc st hp H locs cells slots c1 s1 ad hL hR hw b1 b2 b3 b4 hp' r hf hk
  have hE : ∀ E, r = .inr E → GF Γ hp' (.inr E) := fun E h => by subst h; exact hk
  refine ha.go hok hL hR hw (by omega) (by omega) hf hE fun g1 x ad1 v1 H1 locs1 e1 q1 q2 q3 => ?_
  cases q2
  cases e1
  have kt : (0 < x) → GW Γ H1 locs1 c1 s1 t ls st := fun q => by
    have z : z_gt x = true := by unfold z_gt; exact decide_eq_true (q)
    rw [z] at hk
    exact hk ad1 H1 locs1 q1 q3
  have kf : ¬ (0 < x) → GW Γ H1 locs1 c1 s1 (p1 + 3) ls st := fun q => by
    have z : z_gt x = false := by unfold z_gt; exact decide_eq_false (q)
    rw [z] at hk
    exact hk ad1 H1 locs1 q1 q3
  obtain ⟨⟨p, l, e, R, s⟩, ⟨m, args, below, meth, c⟩, g, own, ⟨nL, jl⟩, Fin, ad0⟩ := Γ
  obtain ⟨hx, hb0, hml, hown, hts, henv, hlk, htb⟩ := hok
  exact W.widen (by omega) (by omega) (lv_if_gt hx hb0 hd ht kt kf)
theorem Cv_icmp_gt_n (ha : Ev Γ cc Value.int pc p1 w k1 n1 a) (hb : Ev Γ cc Value.int p1 p2 (w + 1) k2 n2 b) {off : Int} {t : Nat} (hd : decode cc p2 = .ok (.if_icmp .gt off, 3)) (ht : (p2 : Int) + off = (t : Int)) : Cv Γ cc pc (p2 + 3) (t) w (k1 + k2) (n1 + n2) (cB c_le a b) := by
  intro hok ls lc st hp H locs cells slots c1 s1 ad hL hR hw b1 b2 b3 b4 hp' r hf hk
  have hE : ∀ E, r = .inr E → GF Γ hp' (.inr E) := fun E h => by subst h; exact hk
  refine ha.go hok hL hR hw (by omega) (by omega) hf hE fun g1 x ad1 v1 H1 locs1 e1 q1 q2 q3 => ?_
  cases q2
  refine hb.go hok (hL.mono q1) q3 (stW_i hw) (by omega) (by omega) e1 hE fun g2 y ad2 v2 H2 locs2 e2 r1 r2 r3 => ?_
  cases r2
  cases e2
  have kt : (y < x) → GW Γ H2 locs2 c1 s1 t ls st := fun q => by
    have z : c_le x y = false := by unfold c_le; exact decide_eq_false (i_ltn q)
    rw [z] at hk
    exact hk ad2 H2 locs2 (q1.tr r1) r3
  have kf : ¬ (y < x) → GW Γ H2 locs2 c1 s1 (p2 + 3) ls st := fun q => by
    have z : c_le x y = true := by unfold c_le; exact decide_eq_true (i_nlt q)
    rw [z] at hk
    exact hk ad2 H2 locs2 (q1.tr r1) r3
  obtain ⟨⟨p, l, e, R, s⟩, ⟨m, args, below, meth, c⟩, g, own, ⟨nL, jl⟩, Fin, ad0⟩ := Γ
  obtain ⟨hx, hb0, hml, hown, hts, henv, hlk, htb⟩ := hok
  exact W.widen (by omega) (by omega) (lv_icmp_gt hx hb0 hd ht kt kf)
theorem Cv_if_gt_n (ha : Ev Γ cc Value.int pc p1 w k1 n1 a) {off : Int} {t : Nat} (hd : decode cc p1 = .ok (.ifCond .gt off, 3)) (ht : (p1 : Int) + off = (t : Int)) : Cv Γ cc pc (p1 + 3) (t) w k1 n1 (cZ z_le a) := by
  intro hok ls lc st hp H locs cells slots c1 s1 ad hL hR hw b1 b2 b3 b4 hp' r hf hk
  have hE : ∀ E, r = .inr E → GF Γ hp' (.inr E) := fun E h => by subst h; exact hk
  refine ha.go hok hL hR hw (by omega) (by omega) hf hE fun g1 x ad1 v1 H1 locs1 e1 q1 q2 q3 => ?_
  cases q2
  cases e1
  have kt : (0 < x) → GW Γ H1 locs1 c1 s1 t ls st := fun q => by
    have z : z_le x = false := by unfold z_le; exact decide_eq_false (i_ltn q)
    rw [z] at hk
    exact hk ad1 H1 locs1 q1 q3
  have kf : ¬ (0 < x) → GW Γ H1 locs1 c1 s1 (p1 + 3) ls st := fun q => by
    have z : z_le x = true := by unfold z_le; exact decide_eq_true (i_nlt q)
    rw [z] at hk
    exact hk ad1 H1 locs1 q1 q3
  obtain ⟨⟨p, l, e, R, s⟩, ⟨m, args, below, meth, c⟩, g, own, ⟨nL, jl⟩, Fin, ad0⟩ := Γ
  obtain ⟨hx, hb0, hml, hown, hts, henv, hlk, htb⟩ := hok
  exact W.widen (by omega) (by omega) (lv_if_gt hx hb0 hd ht kt kf)
theorem Cv_icmp_le_j (ha : Ev Γ cc Value.int pc p1 w k1 n1 a) (hb : Ev Γ cc Value.int p1 p2 (w + 1) k2 n2 b) {off : Int} {t : Nat} (hd : decode cc p2 = .ok (.if_icmp .le off, 3)) (ht : (p2 : Int) + off = (t : Int)) : Cv Γ cc pc (t) (p2 + 3) w (k1 + k2) (n1 + n2) (cB c_le a b) := by
  intro hok ls lc st hp H locs cells slots c1 s1 ad hL hR hw b1 b2 b3 b4 hp' r hf hk
  have hE : ∀ E, r = .inr E → GF Γ hp' (.inr E) := fun E h => by subst h; exact hk
  refine ha.go hok hL hR hw (by omega) (by omega) hf hE fun g1 x ad1 v1 H1 locs1 e1 q1 q2 q3 => ?_
  cases q2
  refine hb.go hok (hL.mono q1) q3 (stW_i hw) (by omega) (by omega) e1 hE fun g2 y ad2 v2 H2 locs2 e2 r1 r2 r3 => ?_
  cases r2
  cases e2
  have kt : (x ≤ y) → GW Γ H2 locs2 c1 s1 t ls st := fun q => by
    have z : c_le x y = true := by unfold c_le; exact decide_eq_true (q)
    rw [z] at hk
    exact hk ad2 H2 locs2 (q1.tr r1) r3
  have kf : ¬ (x ≤ y) → GW Γ H2 locs2 c1 s1 (p2 + 3) ls st := fun q => by
    have z : c_le x y = false := by unfold c_le; exact decide_eq_false (q)
    rw [z] at hk
    exact hk ad2 H2 locs2 (q1.tr r1) r3
  obtain ⟨⟨p, l, e, R, s⟩, ⟨m, args, below, meth, c⟩, g, own, ⟨nL, jl⟩, Fin, ad0⟩ := Γ
  obtain ⟨hx, hb0, hml, hown, hts, henv, hlk, htb⟩ := hok
  exact W.widen (by omega) (by omega) (lv_icmp_le hx hb0 hd ht kt kf)
theorem Cv_if_le_j (ha : Ev Γ cc Value.int pc p1 w k1 n1 a) {off : Int} {t : Nat} (hd : decode cc p1 = .ok (.ifCond .le off, 3)) (ht : (p1 : Int) + off = (t : Int)) : Cv Γ cc pc (t) (p1 + 3) w k1 n1 (cZ z_le a) := by
  intro hok ls lc st hp H locs cells slots c1 s1 ad hL hR hw b1 b2 b3 b4 hp' r hf hk
  have hE : ∀ E, r = .inr E → GF Γ hp' (.inr E) := fun E h => by subst h; exact hk
  refine ha.go hok hL hR hw (by omega) (by omega) hf hE fun g1 x ad1 v1 H1 locs1 e1 q1 q2 q3 => ?_
  cases q2
  cases e1
  have kt : (x ≤ 0) → GW Γ H1 locs1 c1 s1 t ls st := fun q => by
    have z : z_le x = true := by unfold z_le; exact decide_eq_true (q)
    rw [z] at hk
    exact hk ad1 H1 locs1 q1 q3
  have kf : ¬ (x ≤ 0) → GW Γ H1 locs1 c1 s1 (p1 + 3) ls st := fun q => by
    have z : z_le x = false := by unfold z_le; exact decide_eq_false (q)
    rw [z] at hk
    exact hk ad1 H1 locs1 q1 q3
  obtain ⟨⟨p, l, e, R, s⟩, ⟨m, args, below, meth, c⟩, g, own, ⟨nL, jl⟩, Fin, ad0⟩ := Γ
  obtain ⟨hx, hb0, hml, hown, hts, henv, hlk, htb⟩ := hok
  exact W.widen (by omega) (by omega) (lv_if_le hx hb0 hd ht kt kf)
theorem Cv_icmp_le_n (ha : Ev Γ cc Value.int pc p1 w k1 n1 a) (hb : Ev Γ cc Value.int p1 p2 (w + 1) k2 n2 b) {off : Int} {t : Nat} (hd : decode cc p2 = .ok (.if_icmp .le off, 3)) (ht : (p2 : Int) + off = (t : Int)) : Cv Γ cc pc (p2 + 3) (t) w (k1 + k2) (n1 + n2) (cB c_gt a b) := by
  intro hok ls lc st hp H locs cells slots c1 s1 ad hL hR hw b1 b2 b3 b4 hp' r hf hk
  have hE : ∀ E, r = .inr E → GF Γ hp' (.inr E) := fun E h => by subst h; exact hk
  refine ha.go hok hL hR hw (by omega) (by omega) hf hE fun g1 x ad1 v1 H1 locs1 e1 q1 q2 q3 => ?_
  cases q2
  refine hb.go hok (hL.mono q1) q3 (stW_i hw) (by omega) (by omega) e1 hE fun g2 y ad2 v2 H2 locs2 e2 r1 r2 r3 => ?_
  cases r2
  cases e2
  have kt : (x ≤ y) → GW Γ H2 locs2 c1 s1 t ls st := fun q => by
    have z : c_gt x y = false := by unfold c_gt; exact decide_eq_false (i_len q)
    rw [z] at hk
    exact hk ad2 H2 locs2 (q1.tr r1) r3
  have kf : ¬ (x ≤ y) → GW Γ H2 locs2 c1 s1 (p2 + 3) ls st := fun q => by
    have z : c_gt x y = true := by unfold c_gt; exact decide_eq_true (i_nle q)
    rw [z] at hk
    exact hk ad2 H2 locs2 (q1.tr r1) r3
  obtain ⟨⟨p, l, e, R, s⟩, ⟨m, args, below, meth, c⟩, g, own, ⟨nL, jl⟩, Fin, ad0⟩ := Γ
  obtain ⟨hx, hb0, hml, hown, hts, henv, hlk, htb⟩ := hok
  exact W.widen (by omega) (by omega) (lv_icmp_le hx hb0 hd ht kt kf)
theorem Cv_if_le_n (ha : Ev Γ cc Value.int pc p1 w k1 n1 a) {off : Int} {t : Nat} (hd : decode cc p1 = .ok (.ifCond .le off, 3)) (ht : (p1 : Int) + off = (t : Int)) : Cv Γ cc pc (p1 + 3) (t) w k1 n1 (cZ z_gt a) := by
  intro hok ls lc st hp H locs cells slots c1 s1 ad hL hR hw b1 b2 b3 b4 hp' r hf hk
  have hE : ∀ E, r = .inr E → GF Γ hp' (.inr E) := fun E h => by subst h; exact hk
  refine ha.go hok hL hR hw (by omega) (by omega) hf hE fun g1 x ad1 v1 H1 locs1 e1 q1 q2 q3 => ?_
  cases q2
  cases e1
  have kt : (x ≤ 0) → GW Γ H1 locs1 c1 s1 t ls st := fun q => by
    have z : z_gt x = false := by unfold z_gt; exact decide_eq_false (i_len q)
    rw [z] at hk
    exact hk ad1 H1 locs1 q1 q3
  have kf : ¬ (x ≤ 0) → GW Γ H1 locs1 c1 s1 (p1 + 3) ls st := fun q => by
    have z : z_gt x = true := by unfold z_gt; exact decide_eq_true (i_nle q)
    rw [z] at hk
    exact hk ad1 H1 locs1 q1 q3
  obtain ⟨⟨p, l, e, R, s⟩, ⟨m, args, below, meth, c⟩, g, own, ⟨nL, jl⟩, Fin, ad0⟩ := Γ
  obtain ⟨hx, hb0, hml, hown, hts, henv, hlk, htb⟩ := hok
  exact W.widen (by omega) (by omega) (lv_if_le hx hb0 hd ht kt kf)
end Ops
