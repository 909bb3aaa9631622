/-! conditions joined; an expression by a condition; locals -/
section Conds
variable {Γ : Ct} {cc : ByteArray} {pc p1 p2 pT pF w k1 n1 k2 n2 k3 n3 : Nat}
theorem Cv_and {a b : CX} (ha : Cv Γ cc pc p1 pF w k1 n1 a) (hb : Cv Γ cc p1 pT pF w k2 n2 b) : Cv Γ cc pc pT pF w (k1 + k2) (n1 + n2) (cAnd a b) := by
  intro hok ls lc st hp H locs cells slots c1 s1 ad hL hR hw b1 b2 b3 b4 hp' r hf hk
  have hE : ∀ E, r = .inr E → GF Γ hp' (.inr E) := fun E h => by subst h; exact hk
  refine ha.go hok hL hR hw (by omega) (by omega) hf hE (fun h1 ad1 H1 locs1 e1 q1 q3 => ?_) (fun h1 ad1 H1 locs1 e1 q1 q3 => ?_)
  · refine hb hok ls lc st h1 H1 locs1 _ _ c1 s1 ad1 (hL.mono q1) q3 hw (by omega) b2 (by omega) b4 hp' r e1 ?_
    rcases r with (_ | _) | E
    · exact fun ad' H' locs' f1 f2 => hk ad' H' locs' (q1.tr f1) f2
    · exact fun ad' H' locs' f1 f2 => hk ad' H' locs' (q1.tr f1) f2
    · exact hk
  · cases e1
    exact GW.widen (by omega) (by omega) (hk ad1 H1 locs1 q1 q3)
theorem Cv_or {a b : CX} (ha : Cv Γ cc pc pT p1 w k1 n1 a) (hb : Cv Γ cc p1 pT pF w k2 n2 b) : Cv Γ cc pc pT pF w (k1 + k2) (n1 + n2) (cOr a b) := by
  intro hok ls lc st hp H locs cells slots c1 s1 ad hL hR hw b1 b2 b3 b4 hp' r hf hk
  have hE : ∀ E, r = .inr E → GF Γ hp' (.inr E) := fun E h => by subst h; exact hk
  refine ha.go hok hL hR hw (by omega) (by omega) hf hE (fun h1 ad1 H1 locs1 e1 q1 q3 => ?_) (fun h1 ad1 H1 locs1 e1 q1 q3 => ?_)
  · cases e1
    exact GW.widen (by omega) (by omega) (hk ad1 H1 locs1 q1 q3)
  · refine hb hok ls lc st h1 H1 locs1 _ _ c1 s1 ad1 (hL.mono q1) q3 hw (by omega) b2 (by omega) b4 hp' r e1 ?_
    rcases r with (_ | _) | E
    · exact fun ad' H' locs' f1 f2 => hk ad' H' locs' (q1.tr f1) f2
    · exact fun ad' H' locs' f1 f2 => hk ad' H' locs' (q1.tr f1) f2
    · exact hk
theorem Cv_not {a : CX} (ha : Cv Γ cc pc pF pT w k1 n1 a) : Cv Γ cc pc pT pF w k1 n1 (cNot a) := by
  intro hok ls lc st hp H locs cells slots c1 s1 ad hL hR hw b1 b2 b3 b4 hp' r hf hk
  have hE : ∀ E, r = .inr E → GF Γ hp' (.inr E) := fun E h => by subst h; exact hk
  refine ha.go hok hL hR hw (by omega) (by omega) hf hE (fun h1 ad1 H1 locs1 e1 q1 q3 => ?_) (fun h1 ad1 H1 locs1 e1 q1 q3 => ?_)
  · cases e1
    exact GW.widen (by omega) (by omega) (hk ad1 H1 locs1 q1 q3)
  · cases e1
    exact GW.widen (by omega) (by omega) (hk ad1 H1 locs1 q1 q3)
/-- c ? a : b, with the goto behind a -/
theorem Ev_if {α : Type} {inj : α → Value} {c : CX} {a b : Lc → Hp → RE α} {pE : Nat} {off : Int} (hc : Cv Γ cc pc p1 p2 w k1 n1 c) (ha : Ev Γ cc inj p1 pE w k2 n2 a) (hd : decode cc pE = .ok (.goto off, 3)) (ht : (pE : Int) + off = (pT : Int)) (hb : Ev Γ cc inj p2 pT w k3 n3 b) : Ev Γ cc inj pc pT w (k1 + k2 + k3) (n1 + n2 + n3) (eIf c a b) := by
  intro hok ls lc st hp H locs cells slots c1 s1 ad hL hR hw b1 b2 b3 b4 hp' r hf hk
  have hE : ∀ E, r = .inr E → GF Γ hp' (.inr E) := fun E h => by subst h; exact hk
  refine hc.go hok hL hR hw (by omega) (by omega) hf hE (fun h1 ad1 H1 locs1 e1 q1 q3 => ?_) (fun h1 ad1 H1 locs1 e1 q1 q3 => ?_)
  · refine ha hok ls lc st h1 H1 locs1 _ _ c1 s1 ad1 (hL.mono q1) q3 hw (by omega) b2 (by omega) b4 hp' r e1 ?_
    rcases r with v | E
    · intro ad' v' H' locs' f1 f2 f3
      have h9 := hk ad' v' H' locs' (q1.tr f1) f2 f3
      obtain ⟨⟨p, l, e, R, s⟩, ⟨m, args, below, meth, c⟩, g, own, ⟨nL, jl⟩, Fin, ad0⟩ := Γ
      exact lv_goto hok.1 hok.2.1 hd ht h9
    · exact hk
  · refine hb hok ls lc st h1 H1 locs1 _ _ c1 s1 ad1 (hL.mono q1) q3 hw (by omega) b2 (by omega) b4 hp' r e1 ?_
    rcases r with v | E
    · exact fun ad' v' H' locs' f1 f2 f3 => hk ad' v' H' locs' (q1.tr f1) f2 f3
    · exact hk
/-- a condition by a condition, with the goto behind the first -/
theorem Cv_ite {c a b : CX} {pA : Nat} {off : Int} (hc : Cv Γ cc pc p1 p2 w k1 n1 c) (ha : Cv Γ cc p1 pA pF w k2 n2 a) (hd : decode cc pA = .ok (.goto off, 3)) (ht : (pA : Int) + off = (pT : Int)) (hb : Cv Γ cc p2 pT pF w k3 n3 b) : Cv Γ cc pc pT pF w (k1 + k2 + k3) (n1 + n2 + n3) (eIf c a b) := by
  intro hok ls lc st hp H locs cells slots c1 s1 ad hL hR hw b1 b2 b3 b4 hp' r hf hk
  have hE : ∀ E, r = .inr E → GF Γ hp' (.inr E) := fun E h => by subst h; exact hk
  refine hc.go hok hL hR hw (by omega) (by omega) hf hE (fun h1 ad1 H1 locs1 e1 q1 q3 => ?_) (fun h1 ad1 H1 locs1 e1 q1 q3 => ?_)
  · refine ha hok ls lc st h1 H1 locs1 _ _ c1 s1 ad1 (hL.mono q1) q3 hw (by omega) b2 (by omega) b4 hp' r e1 ?_
    rcases r with (_ | _) | E
    · exact fun ad' H' locs' f1 f2 => hk ad' H' locs' (q1.tr f1) f2
    · intro ad' H' locs' f1 f3
      have h9 := hk ad' H' locs' (q1.tr f1) f3
      obtain ⟨⟨p, l, e, R, s⟩, ⟨m, args, below, meth, c⟩, g, own, ⟨nL, jl⟩, Fin, ad0⟩ := Γ
      exact lv_goto hok.1 hok.2.1 hd ht h9
    · exact hk
  · refine hb hok ls lc st h1 H1 locs1 _ _ c1 s1 ad1 (hL.mono q1) q3 hw (by omega) b2 (by omega) b4 hp' r e1 ?_
    rcases r with (_ | _) | E
    · exact fun ad' H' locs' f1 f2 => hk ad' H' locs' (q1.tr f1) f2
    · exact fun ad' H' locs' f1 f2 => hk ad' H' locs' (q1.tr f1) f2
    · exact hk
end Conds
/-- all values that the locals hold -/
def fullL (ls : Array Slot) : List (Nat × Value) := (List.range ls.size).filterMap fun (i : Nat) => match (ls[i]? : Option Slot) with
  | some (.val v) => some (i, v)
  | _ => none
theorem fullL_has {ls : Array Slot} {nL : Nat} (h : ls.size = nL) (hw : lv_wf ls) : lv_has ls nL (fullL ls) := by
  refine ⟨h, hw, fun q hq => ?_⟩
  obtain ⟨i, -, hi⟩ := List.mem_filterMap.mp hq
  split at hi
  · rename_i v hv
    cases hi
    exact hv
  · cases hi
theorem fullL_mem {ls : Array Slot} {i : Nat} {v : Value} (h : ls[i]? = some (.val v)) : (i, v) ∈ fullL ls := by
  refine List.mem_filterMap.mpr ⟨i, List.mem_range.mpr (Array.getElem?_eq_some_iff.mp h).1, ?_⟩
  rw [h]
theorem VR.cat {g : GE} {ad : List Nat} {v v' : Value} (h : VR g ad v v') (hn : v ≠ .null) : v'.category = v.category := by
  cases v <;> first | (cases h; rfl) | exact absurd rfl hn | (obtain ⟨a, -, rfl⟩ := h; rfl)
theorem LR.store1 {g : GE} {nL jl : Nat} {ad : List Nat} {ls ls' : Array Slot} {lc : Lc} {i : Nat} {v v' : Value} (h : LR g nL jl ad ls lc) (hj : i ≠ jl) (hv : VR g ad v v') (hc : v.category = 1)
    (h' : lv_has ls' nL ((i, v') :: (fullL ls).filter (fun q => !(q.1 == i) && !(q.1 + 1 == i && q.2.category == 2)))) : LR g nL jl ad ls' (lc.set i v) := by
  obtain ⟨h1, h2, h3, h4⟩ := h
  refine ⟨h'.1, h'.2.1, fun j x hx hx2 => ?_, fun j x hx hxn => ?_⟩
  · by_cases e : i = j
    · subst e
      by_cases hl : i < lc.length
      · rw [List.getElem?_set_self hl] at hx
        cases hx
        omega
      · rw [List.getElem?_eq_none (by simp; omega)] at hx
        cases hx
    · rw [List.getElem?_set_ne e] at hx
      exact h3 j x hx hx2
  · by_cases e : i = j
    · subst e
      have hl : i < lc.length := by have := (List.getElem?_eq_some_iff.mp hx).1; simpa using this
      rw [List.getElem?_set_self hl] at hx
      cases hx
      exact ⟨v', h'.2.2 (i, v') List.mem_cons_self, hv⟩
    · rw [List.getElem?_set_ne e] at hx
      obtain ⟨x', q1, q2⟩ := h4 j x hx hxn
      refine ⟨x', h'.2.2 (j, x') (List.mem_cons_of_mem _ (List.mem_filter.mpr ⟨fullL_mem q1, ?_⟩)), q2⟩
      have hcat := q2.cat hxn
      simp only [Bool.and_eq_true, Bool.not_eq_true', beq_eq_false_iff_ne, ne_eq, Bool.and_eq_false_iff]
      refine ⟨fun z => e z.symm, ?_⟩
      by_cases z : j + 1 = i
      · right
        intro z2
        exact hj (z ▸ h3 j x hx (by rw [← hcat]; exact z2))
      · left; exact z
theorem LR.store2 {g : GE} {nL jl : Nat} {ad : List Nat} {ls ls' : Array Slot} {lc : Lc} {i : Nat} {x : Int64} (h : LR g nL jl ad ls lc) (hj : i + 1 = jl)
    (h' : lv_has ls' nL ((i, .long x) :: (fullL ls).filter (fun q => !(q.1 == i) && (!(q.1 == i + 1) && !(q.1 + 1 == i && q.2.category == 2))))) : LR g nL jl ad ls' ((lc.set i (.long x)).set (i + 1) .null) := by
  obtain ⟨h1, h2, h3, h4⟩ := h
  refine ⟨h'.1, h'.2.1, fun j y hy hy2 => ?_, fun j y hy hyn => ?_⟩
  · by_cases e : i + 1 = j
    · subst e
      by_cases hl : i + 1 < lc.length
      · rw [List.getElem?_set_self (by simpa using hl)] at hy
        cases hy
        cases hy2
      · rw [List.getElem?_eq_none (by simp; omega)] at hy
        cases hy
    · rw [List.getElem?_set_ne e] at hy
      by_cases e2 : i = j
      · subst e2; exact hj
      · rw [List.getElem?_set_ne e2] at hy
        exact h3 j y hy hy2
  · by_cases e : i + 1 = j
    · subst e
      have hl : i + 1 < lc.length := by have := (List.getElem?_eq_some_iff.mp hy).1; simpa using this
      rw [List.getElem?_set_self (by simpa using hl)] at hy
      cases hy
      exact absurd rfl hyn
    · rw [List.getElem?_set_ne e] at hy
      by_cases e2 : i = j
      · subst e2
        have hl : i < lc.length := by have := (List.getElem?_eq_some_iff.mp hy).1; simpa using this
        rw [List.getElem?_set_self hl] at hy
        cases hy
        exact ⟨_, h'.2.2 (i, .long x) List.mem_cons_self, rfl⟩
      · rw [List.getElem?_set_ne e2] at hy
        obtain ⟨y', q1, q2⟩ := h4 j y hy hyn
        refine ⟨y', h'.2.2 (j, y') (List.mem_cons_of_mem _ (List.mem_filter.mpr ⟨fullL_mem q1, ?_⟩)), q2⟩
        have hcat := q2.cat hyn
        simp only [Bool.and_eq_true, Bool.not_eq_true', beq_eq_false_iff_ne, ne_eq, Bool.and_eq_false_iff]
        refine ⟨fun z => e2 z.symm, fun z => e z.symm, ?_⟩
        by_cases z : j + 1 = i
        · right
          intro z2
          have := h3 j y hy (by rw [← hcat]; exact z2)
          omega
        · left; exact z
