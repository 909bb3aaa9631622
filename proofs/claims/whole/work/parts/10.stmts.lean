section Stmts
variable {Γ : Ct} {cc : ByteArray} {pc p1 p2 p3 pE w k1 n1 k2 n2 k3 n3 : Nat} {o : EXa} {i e0 : EXi} {ci N k idx : Nat} {C host : String} {T : u_T} {ty : Nat → FieldType}
theorem Sv_nop : Sv Γ cc pc pc 0 0 sN := by
  intro hok ls lc hp H locs cells slots c1 s1 ad hL hR b1 b2 b3 b4 hp' r hf hk9
  cases hf
  exact GW.widen (by omega) (by omega) (hk9 ad ls H locs AE.rf hL hR)
theorem Sv_seq {a b : SX} (ha : Sv Γ cc pc p1 k1 n1 a) (hb : Sv Γ cc p1 p2 k2 n2 b) : Sv Γ cc pc p2 (k1 + k2) (n1 + n2) (sQ a b) := by
  intro hok ls lc hp H locs cells slots c1 s1 ad hL hR b1 b2 b3 b4 hp' r hf hk9
  rcases sB_cases hf with ⟨h1, l1, e1, e2⟩ | ⟨x, e1, e2⟩
  · refine ha hok ls lc hp H locs cells slots (cells + k1) (slots + n1) ad hL hR (by omega) (by omega) (by omega) (by omega) h1 (.inl l1) e1 fun ad1 ls1 H1 locs1 q1 q2 q3 => ?_
    refine hb hok ls1 l1 h1 H1 locs1 _ _ c1 s1 ad1 q2 q3 (by omega) b2 (by omega) b4 hp' r e2 ?_
    rcases r with l2 | x
    · exact fun ad' ls' H' locs' f1 f2 f3 => hk9 ad' ls' H' locs' (q1.tr f1) f2 f3
    · exact hk9
  · subst e2
    exact ha hok ls lc hp H locs cells slots (cells + k1) (slots + n1) ad hL hR (by omega) (by omega) (by omega) (by omega) hp' (.inr x) e1 hk9
/-- a jump behind a statement -/
theorem Sv_goto {a : SX} {off : Int} (ha : Sv Γ cc pc p1 k1 n1 a) (hd : decode cc p1 = .ok (.goto off, 3)) (ht : (p1 : Int) + off = (pE : Int)) : Sv Γ cc pc pE k1 n1 a := by
  intro hok ls lc hp H locs cells slots c1 s1 ad hL hR b1 b2 b3 b4 hp' r hf hk9
  refine ha hok ls lc hp H locs cells slots c1 s1 ad hL hR b1 b2 b3 b4 hp' r hf ?_
  rcases r with l2 | x
  · intro ad' ls' H' locs' f1 f2 f3
    have h9 := hk9 ad' ls' H' locs' f1 f2 f3
    obtain ⟨⟨p, l, e, R, s⟩, ⟨m, args, below, meth, c⟩, g, own, ⟨nL, jl⟩, Fin, ad0⟩ := Γ
    exact lv_goto hok.1 hok.2.1 hd ht h9
  · exact hk9
/-- a statement that never goes on has any end -/
def noEnd (a : SX) : Prop := ∀ (l : Lc) (h h' : Hp) (l' : Lc), a l h ≠ some (h', .inl l')
theorem Sv_any {a : SX} (hn : noEnd a) (ha : Sv Γ cc pc p1 k1 n1 a) : Sv Γ cc pc pE k1 n1 a := by
  intro hok ls lc hp H locs cells slots c1 s1 ad hL hR b1 b2 b3 b4 hp' r hf hk9
  refine ha hok ls lc hp H locs cells slots c1 s1 ad hL hR b1 b2 b3 b4 hp' r hf ?_
  rcases r with l2 | x
  · exact absurd hf (hn _ _ _ _)
  · exact hk9
theorem Sv_if {c : CX} {a b : SX} (hc : Cv Γ cc pc p1 p2 0 k1 n1 c) (ha : Sv Γ cc p1 pE k2 n2 a) (hb : Sv Γ cc p2 pE k3 n3 b) : Sv Γ cc pc pE (k1 + k2 + k3) (n1 + n2 + n3) (sIf c a b) := by
  intro hok ls lc hp H locs cells slots c1 s1 ad hL hR b1 b2 b3 b4 hp' r hf hk9
  have hE : ∀ x, r = .inr x → GF Γ hp' x := fun x h => by subst h; exact hk9
  refine hc.goS hok hL hR (show stW [] ≤ 0 from Nat.le_refl 0) (by omega) (by omega) hf hE (fun h1 ad1 H1 locs1 e1 q1 q3 => ?_) (fun h1 ad1 H1 locs1 e1 q1 q3 => ?_)
  · refine ha hok ls lc h1 H1 locs1 _ _ c1 s1 ad1 (hL.mono q1) q3 (by omega) b2 (by omega) b4 hp' r e1 ?_
    rcases r with l2 | x
    · exact fun ad' ls' H' locs' f1 f2 f3 => hk9 ad' ls' H' locs' (q1.tr f1) f2 f3
    · exact hk9
  · refine hb hok ls lc h1 H1 locs1 _ _ c1 s1 ad1 (hL.mono q1) q3 (by omega) b2 (by omega) b4 hp' r e1 ?_
    rcases r with l2 | x
    · exact fun ad' ls' H' locs' f1 f2 f3 => hk9 ad' ls' H' locs' (q1.tr f1) f2 f3
    · exact hk9
/-- a loop: its condition at the head, the body (with its step) jumps back -/
theorem Sv_loop {c : CX} {b : SX} (hc : Cv Γ cc pc p1 pE 0 k1 n1 c) (hb : Sv Γ cc p1 pc k2 n2 b) : ∀ n : Nat, Sv Γ cc pc pE (n * (k1 + k2)) (n * (n1 + n2)) (sLp c b n) := by
  intro n
  induction n with
  | zero =>
    intro hok ls lc hp H locs cells slots c1 s1 ad hL hR b1 b2 b3 b4 hp' r hf hk9
    cases hf
  | succ n ih =>
    intro hok ls lc hp H locs cells slots c1 s1 ad hL hR b1 b2 b3 b4 hp' r hf hk9
    rw [Nat.succ_mul] at b1 b3
    have hE : ∀ x, r = .inr x → GF Γ hp' x := fun x h => by subst h; exact hk9
    refine hc.goS hok hL hR (show stW [] ≤ 0 from Nat.le_refl 0) (by omega) (by omega) hf hE (fun h1 ad1 H1 locs1 e1 q1 q3 => ?_) (fun h1 ad1 H1 locs1 e1 q1 q3 => ?_)
    · rcases sB_cases e1 with ⟨h2, l2, e2, e3⟩ | ⟨x, e2, e3⟩
      · refine hb hok ls lc h1 H1 locs1 _ _ (cells + k1 + k2) (slots + n1 + n2) ad1 (hL.mono q1) q3 (by omega) (by omega) (by omega) (by omega) h2 (.inl l2) e2 fun ad2 ls2 H2 locs2 r1 r2 r3 => ?_
        refine ih hok ls2 l2 h2 H2 locs2 _ _ c1 s1 ad2 r2 r3 (by omega) b2 (by omega) b4 hp' r e3 ?_
        rcases r with l3 | x
        · exact fun ad' ls' H' locs' f1 f2 f3 => hk9 ad' ls' H' locs' ((q1.tr r1).tr f1) f2 f3
        · exact hk9
      · subst e3
        exact hb hok ls lc h1 H1 locs1 _ _ (cells + k1 + k2) (slots + n1 + n2) ad1 (hL.mono q1) q3 (by omega) (by omega) (by omega) (by omega) hp' (.inr x) e2 hk9
    · cases e1
      exact GW.widen (by omega) (by omega) (hk9 ad1 ls H1 locs1 q1 (hL.mono q1) q3)
/-- without cost -/
theorem Sv_loop0 {c : CX} {b : SX} (n : Nat) (hc : Cv Γ cc pc p1 pE 0 0 0 c) (hb : Sv Γ cc p1 pc 0 0 b) : Sv Γ cc pc pE 0 0 (sLp c b n) := by
  have h := Sv_loop hc hb n
  simpa using h
theorem Sv_istore_n {a : EXi} (ha : Ev Γ cc Value.int pc p1 0 k1 n1 a) {q : Fin 4} {j : Nat} (hd : decode cc p1 = .ok (.istore_n q, 1)) (hi : (q : Nat) = j) (hn : j < Γ.2.2.2.2.1.1) (hj : j ≠ Γ.2.2.2.2.1.2) : Sv Γ cc pc (p1 + 1) k1 n1 (sTi j a) := by
  intro hok ls lc hp H locs cells slots c1 s1 ad hL hR b1 b2 b3 b4 hp' r hf hk9
  have hE : ∀ x, r = .inr x → GF Γ hp' x := fun x h => by subst h; exact hk9
  refine ha.goS hok hL hR (show stW [] ≤ 0 from Nat.le_refl 0) (by omega) (by omega) hf hE fun g1 x ad1 v1 H1 locs1 e1 q1 q2 q3 => ?_
  cases q2
  cases e1
  obtain ⟨⟨p, l, e, R, s⟩, ⟨m, args, below, meth, c⟩, g, own, ⟨nL, jl⟩, Fin, ad0⟩ := Γ
  obtain ⟨hx, hb0, hml, hown, hts, henv, hlk, htb⟩ := hok
  have hL1 := hL.mono q1
  exact W.widen (k := c1) (n := s1) (by omega) (by omega) (lv_istore_n hx hb0 hd hi (fullL_has hL1.1 hL1.2.1) hn rfl (fun ls' h' => hk9 ad1 ls' H1 locs1 q1 (hL1.store1 hj (show VR _ _ (Value.int x) _ from rfl) rfl h') q3))
theorem Sv_istore {a : EXi} (ha : Ev Γ cc Value.int pc p1 0 k1 n1 a) {j : Nat} (hd : decode cc p1 = .ok (.istore j, 2)) (hn : j < Γ.2.2.2.2.1.1) (hj : j ≠ Γ.2.2.2.2.1.2) : Sv Γ cc pc (p1 + 2) k1 n1 (sTi j a) := by
  intro hok ls lc hp H locs cells slots c1 s1 ad hL hR b1 b2 b3 b4 hp' r hf hk9
  have hE : ∀ x, r = .inr x → GF Γ hp' x := fun x h => by subst h; exact hk9
  refine ha.goS hok hL hR (show stW [] ≤ 0 from Nat.le_refl 0) (by omega) (by omega) hf hE fun g1 x ad1 v1 H1 locs1 e1 q1 q2 q3 => ?_
  cases q2
  cases e1
  obtain ⟨⟨p, l, e, R, s⟩, ⟨m, args, below, meth, c⟩, g, own, ⟨nL, jl⟩, Fin, ad0⟩ := Γ
  obtain ⟨hx, hb0, hml, hown, hts, henv, hlk, htb⟩ := hok
  have hL1 := hL.mono q1
  exact W.widen (k := c1) (n := s1) (by omega) (by omega) (lv_istore hx hb0 hd (fullL_has hL1.1 hL1.2.1) hn rfl (fun ls' h' => hk9 ad1 ls' H1 locs1 q1 (hL1.store1 hj (show VR _ _ (Value.int x) _ from rfl) rfl h') q3))
theorem Sv_astore_n {a : EXa} (ha : Ev Γ cc Value.ref pc p1 0 k1 n1 a) {q : Fin 4} {j : Nat} (hd : decode cc p1 = .ok (.astore_n q, 1)) (hi : (q : Nat) = j) (hn : j < Γ.2.2.2.2.1.1) (hj : j ≠ Γ.2.2.2.2.1.2) : Sv Γ cc pc (p1 + 1) k1 n1 (sTa j a) := by
  intro hok ls lc hp H locs cells slots c1 s1 ad hL hR b1 b2 b3 b4 hp' r hf hk9
  have hE : ∀ x, r = .inr x → GF Γ hp' x := fun x h => by subst h; exact hk9
  refine ha.goS hok hL hR (show stW [] ≤ 0 from Nat.le_refl 0) (by omega) (by omega) hf hE fun g1 x ad1 v1 H1 locs1 e1 q1 q2 q3 => ?_
  obtain ⟨b, q4, rfl⟩ := q2
  cases e1
  obtain ⟨⟨p, l, e, R, s⟩, ⟨m, args, below, meth, c⟩, g, own, ⟨nL, jl⟩, Fin, ad0⟩ := Γ
  obtain ⟨hx, hb0, hml, hown, hts, henv, hlk, htb⟩ := hok
  have hL1 := hL.mono q1
  exact W.widen (k := c1) (n := s1) (by omega) (by omega) (lv_astore_n hx hb0 hd hi (fullL_has hL1.1 hL1.2.1) hn rfl (fun ls' h' => hk9 ad1 ls' H1 locs1 q1 (hL1.store1 hj (show VR _ _ (Value.ref x) _ from ⟨b, q4, rfl⟩) rfl h') q3))
theorem Sv_astore {a : EXa} (ha : Ev Γ cc Value.ref pc p1 0 k1 n1 a) {j : Nat} (hd : decode cc p1 = .ok (.astore j, 2)) (hn : j < Γ.2.2.2.2.1.1) (hj : j ≠ Γ.2.2.2.2.1.2) : Sv Γ cc pc (p1 + 2) k1 n1 (sTa j a) := by
  intro hok ls lc hp H locs cells slots c1 s1 ad hL hR b1 b2 b3 b4 hp' r hf hk9
  have hE : ∀ x, r = .inr x → GF Γ hp' x := fun x h => by subst h; exact hk9
  refine ha.goS hok hL hR (show stW [] ≤ 0 from Nat.le_refl 0) (by omega) (by omega) hf hE fun g1 x ad1 v1 H1 locs1 e1 q1 q2 q3 => ?_
  obtain ⟨b, q4, rfl⟩ := q2
  cases e1
  obtain ⟨⟨p, l, e, R, s⟩, ⟨m, args, below, meth, c⟩, g, own, ⟨nL, jl⟩, Fin, ad0⟩ := Γ
  obtain ⟨hx, hb0, hml, hown, hts, henv, hlk, htb⟩ := hok
  have hL1 := hL.mono q1
  exact W.widen (k := c1) (n := s1) (by omega) (by omega) (lv_astore hx hb0 hd (fullL_has hL1.1 hL1.2.1) hn rfl (fun ls' h' => hk9 ad1 ls' H1 locs1 q1 (hL1.store1 hj (show VR _ _ (Value.ref x) _ from ⟨b, q4, rfl⟩) rfl h') q3))
theorem Sv_lstore_n {a : EXl} (ha : Ev Γ cc Value.long pc p1 0 k1 n1 a) {q : Fin 4} {j : Nat} (hd : decode cc p1 = .ok (.lstore_n q, 1)) (hi : (q : Nat) = j) (hn : j + 1 < Γ.2.2.2.2.1.1) (hj : j + 1 = Γ.2.2.2.2.1.2) : Sv Γ cc pc (p1 + 1) k1 n1 (sTl j a) := by
  intro hok ls lc hp H locs cells slots c1 s1 ad hL hR b1 b2 b3 b4 hp' r hf hk9
  have hE : ∀ x, r = .inr x → GF Γ hp' x := fun x h => by subst h; exact hk9
  refine ha.goS hok hL hR (show stW [] ≤ 0 from Nat.le_refl 0) (by omega) (by omega) hf hE fun g1 x ad1 v1 H1 locs1 e1 q1 q2 q3 => ?_
  cases q2
  cases e1
  obtain ⟨⟨p, l, e, R, s⟩, ⟨m, args, below, meth, c⟩, g, own, ⟨nL, jl⟩, Fin, ad0⟩ := Γ
  obtain ⟨hx, hb0, hml, hown, hts, henv, hlk, htb⟩ := hok
  have hL1 := hL.mono q1
  exact W.widen (k := c1) (n := s1) (by omega) (by omega) (lv_lstore_n hx hb0 hd hi (fullL_has hL1.1 hL1.2.1) hn rfl (fun ls' h' => hk9 ad1 ls' H1 locs1 q1 (hL1.store2 hj h') q3))
theorem Sv_lstore {a : EXl} (ha : Ev Γ cc Value.long pc p1 0 k1 n1 a) {j : Nat} (hd : decode cc p1 = .ok (.lstore j, 2)) (hn : j + 1 < Γ.2.2.2.2.1.1) (hj : j + 1 = Γ.2.2.2.2.1.2) : Sv Γ cc pc (p1 + 2) k1 n1 (sTl j a) := by
  intro hok ls lc hp H locs cells slots c1 s1 ad hL hR b1 b2 b3 b4 hp' r hf hk9
  have hE : ∀ x, r = .inr x → GF Γ hp' x := fun x h => by subst h; exact hk9
  refine ha.goS hok hL hR (show stW [] ≤ 0 from Nat.le_refl 0) (by omega) (by omega) hf hE fun g1 x ad1 v1 H1 locs1 e1 q1 q2 q3 => ?_
  cases q2
  cases e1
  obtain ⟨⟨p, l, e, R, s⟩, ⟨m, args, below, meth, c⟩, g, own, ⟨nL, jl⟩, Fin, ad0⟩ := Γ
  obtain ⟨hx, hb0, hml, hown, hts, henv, hlk, htb⟩ := hok
  have hL1 := hL.mono q1
  exact W.widen (k := c1) (n := s1) (by omega) (by omega) (lv_lstore hx hb0 hd (fullL_has hL1.1 hL1.2.1) hn rfl (fun ls' h' => hk9 ad1 ls' H1 locs1 q1 (hL1.store2 hj h') q3))
theorem Sv_iinc {j : Nat} {z : Int} {v : Int32} (hd : decode cc pc = .ok (.iinc j z, 3)) (hv : Int32.ofInt z = v) (hn : j < Γ.2.2.2.2.1.1) (hj : j ≠ Γ.2.2.2.2.1.2) : Sv Γ cc pc (pc + 3) 0 0 (sInc j v) := by
  intro hok ls lc hp H locs cells slots c1 s1 ad hL hR b1 b2 b3 b4 hp' r hf hk9
  unfold sInc at hf
  split at hf
  · rename_i x hx9
    cases hf
    subst hv
    obtain ⟨⟨p, l, e, R, s⟩, ⟨m, args, below, meth, c⟩, g, own, ⟨nL, jl⟩, Fin, ad0⟩ := Γ
    obtain ⟨hx, hb0, hml, hown, hts, henv, hlk, htb⟩ := hok
    obtain ⟨v', f1, f2⟩ := hL.2.2.2 _ _ hx9 (by intro q; cases q)
    cases f2
    obtain ⟨q, hq⟩ := List.getElem?_of_mem (fullL_mem f1)
    exact W.widen (k := c1) (n := s1) (by omega) (by omega) (lv_iinc hx hb0 hd (fullL_has hL.1 hL.2.1) hq rfl hn rfl (fun ls' h' => hk9 ad ls' H locs AE.rf (hL.store1 hj (show VR _ _ (Value.int _) _ from rfl) rfl h') hR))
  · cases hf
theorem GR.fin {g : GE} {s t : State} {ad ad0 : List Nat} {hp : Hp} {H : Heap} {locs : List Loc} (h : WR g s ad hp H locs) (ht : t.heap = H) (hvm : s.vm.Alike t.vm) : HW g t ad hp t.heap ∧ va_F (gA g) s t := ⟨by rw [ht]; exact h.1.moved hvm, h.2.F ht⟩
theorem Sv_ret {a : EXi} (ha : Ev Γ cc Value.int pc p1 0 k1 n1 a) (hr : Γ.2.1.2.2.2.1.sig.returnType = some .int) (hd : decode cc p1 = .ok (.ireturn, 1)) : Sv Γ cc pc pE k1 n1 (sR a) := by
  intro hok ls lc hp H locs cells slots c1 s1 ad hL hR b1 b2 b3 b4 hp' r hf hk9
  have hE : ∀ x, r = .inr x → GF Γ hp' x := fun x h => by subst h; exact hk9
  refine ha.goS hok hL hR (show stW [] ≤ 0 from Nat.le_refl 0) (by omega) (by omega) hf hE fun g1 x ad1 v1 H1 locs1 e1 q1 q2 q3 => ?_
  cases q2
  cases e1
  obtain ⟨⟨p, l, e, R, s⟩, ⟨m, args, below, meth, c⟩, g, own, ⟨nL, jl⟩, Fin, ad0⟩ := Γ
  obtain ⟨hx, hb0, hml, hown, hts, henv, hlk, htb⟩ := hok
  refine W.widen (k := R.cells) (n := R.slots) (Nat.le_trans (m := c1) (by omega) b2) (Nat.le_trans (m := s1) (by omega) b4) (vx_ret (W.iret hx hb0 hr (fun t ht hW => ?_) q3.1.2.2.2 hd))
  exact ⟨hp', _, ad1, hk9, q3.2, rfl, GR.fin (ad0 := ad0) q3.1 ht hW.alike⟩
theorem Sv_retv (hr : Γ.2.1.2.2.2.1.sig.returnType = none) (hd : decode cc pc = .ok (.return_, 1)) : Sv Γ cc pc pE 0 0 sRv := by
  intro hok ls lc hp H locs cells slots c1 s1 ad hL hR b1 b2 b3 b4 hp' r hf hk9
  cases hf
  obtain ⟨⟨p, l, e, R, s⟩, ⟨m, args, below, meth, c⟩, g, own, ⟨nL, jl⟩, Fin, ad0⟩ := Γ
  obtain ⟨hx, hb0, hml, hown, hts, henv, hlk, htb⟩ := hok
  refine W.widen (k := R.cells) (n := R.slots) (Nat.le_trans (m := c1) (by omega) b2) (Nat.le_trans (m := s1) (by omega) b4) (vx_ret (W.vret hx hb0 hr (fun t ht hW => ?_) hR.1.2.2.2 hd))
  exact ⟨hp, _, ad, hk9, hR.2, rfl, GR.fin (ad0 := ad0) hR.1 ht hW.alike⟩
/-- a boolean is 0 or 1 -/
def sRz (e : EXi) : SX := fun l h => eS (e l h) fun x h => if x = 0 ∨ x = 1 then some (h, .inr (.inl (some (.int x)))) else none
theorem Sv_retz {a : EXi} (ha : Ev Γ cc Value.int pc p1 0 k1 n1 a) (hr : Γ.2.1.2.2.2.1.sig.returnType = some .boolean) (hd : decode cc p1 = .ok (.ireturn, 1)) : Sv Γ cc pc pE k1 n1 (sRz a) := by
  intro hok ls lc hp H locs cells slots c1 s1 ad hL hR b1 b2 b3 b4 hp' r hf hk9
  have hE : ∀ x, r = .inr x → GF Γ hp' x := fun x h => by subst h; exact hk9
  refine ha.goS hok hL hR (show stW [] ≤ 0 from Nat.le_refl 0) (by omega) (by omega) hf hE fun g1 x ad1 v1 H1 locs1 e1 q1 q2 q3 => ?_
  cases q2
  split at e1
  rotate_left
  · cases e1
  rename_i hz
  cases e1
  obtain ⟨⟨p, l, e, R, s⟩, ⟨m, args, below, meth, c⟩, g, own, ⟨nL, jl⟩, Fin, ad0⟩ := Γ
  obtain ⟨hx, hb0, hml, hown, hts, henv, hlk, htb⟩ := hok
  refine W.widen (k := R.cells) (n := R.slots) (Nat.le_trans (m := c1) (by omega) b2) (Nat.le_trans (m := s1) (by omega) b4) (vx_ret (W.zret (ty := .boolean) hx hb0 hr (by rcases hz with rfl | rfl <;> rfl) (fun t ht hW => ?_) q3.1.2.2.2 hd))
  exact ⟨hp', _, ad1, hk9, q3.2, rfl, GR.fin (ad0 := ad0) q3.1 ht hW.alike⟩
end Stmts
