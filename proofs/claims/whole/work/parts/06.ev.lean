/-! SOUNDNESS: a method's frame, and what it owes -/
abbrev Ct : Type := (Program × Launch × Env × Room × State) × (MethodId × Array Value × List Frame × Method × Code) × GE × String × (Nat × Nat) × (Hp → (Option Value ⊕ String) → Prop) × List Nat
def cQc (g : GE) (ad0 : List Nat) (Fin : Hp → (Option Value ⊕ String) → Prop) : Array Value → State → Outcome → State → Prop := fun _ st oc t => ∃ (hp : Hp) (rv : Option Value) (ad : List Nat), Fin hp (.inl rv) ∧ AE ad0 ad ∧ oc = .returned rv ∧ HW g t ad hp t.heap ∧ va_F (gA g) st t
def cXC (g : GE) (ad0 : List Nat) (Fin : Hp → (Option Value ⊕ String) → Prop) : String → State → State → Prop := fun E st t => ∃ (hp : Hp) (ad : List Nat), Fin hp (.inr E) ∧ AE ad0 ad ∧ HW g t ad hp t.heap ∧ va_F (gA g) st t
def GW (Γ : Ct) (H : Heap) (locs : List Loc) (cells slots pc : Nat) (ls : Array Slot) (st : List Value) : Prop := match Γ with
  | ((p, l, e, R, s), (m, args, below, meth, c), g, _, _, Fin, ad0) => W p l e R s m args below meth c H locs cells slots (vx_MQ below (cQc g ad0 Fin) (cXC g ad0 Fin) args s R.cells R.slots (gA g)) (F0 m pc ls st)
def OKc (Γ : Ct) (cc : ByteArray) : Prop := match Γ with
  | ((p, l, _, _, s), (m, args, _, meth, c), g, own, nl, _, _) => p.tables.exec = Jvm.exec ∧ c.code = cc ∧ c.maxLocals = nl.1 ∧ s.vm.findClass own = some m.cls ∧ (∀ w ∈ WS, w.before args s = true) ∧ EnvOK g l s ∧ meth.locks = false ∧ (nl.2 ≠ 200 → ∀ x ∈ c.exceptionTable.toList, False)
def LR (g : GE) (nL jl : Nat) (ad : List Nat) (ls : Array Slot) (lc : Lc) : Prop := ls.size = nL ∧ lv_wf ls ∧ (∀ (j : Nat) (v : Value), lc[j]? = some v → v.category = 2 → j + 1 = jl) ∧ ∀ (i : Nat) (v : Value), lc[i]? = some v → v ≠ .null → ∃ v', ls[i]? = some (.val v') ∧ VR g ad v v'
theorem LR.mono {g : GE} {nL jl : Nat} {ad ad' : List Nat} {ls : Array Slot} {lc : Lc} (h : AE ad ad') (k : LR g nL jl ad ls lc) : LR g nL jl ad' ls lc := ⟨k.1, k.2.1, k.2.2.1, fun i v h1 h2 => by obtain ⟨v', q1, q2⟩ := k.2.2.2 i v h1 h2; exact ⟨v', q1, q2.mono h⟩⟩
abbrev GL (Γ : Ct) (ad : List Nat) (ls : Array Slot) (lc : Lc) : Prop := LR Γ.2.2.1 Γ.2.2.2.2.1.1 Γ.2.2.2.2.1.2 ad ls lc
abbrev GR (Γ : Ct) (ad : List Nat) (hp : Hp) (H : Heap) (locs : List Loc) : Prop := WR Γ.2.2.1 Γ.1.2.2.2.2 ad hp H locs ∧ AE Γ.2.2.2.2.2.2 ad
abbrev GF (Γ : Ct) (hp : Hp) (x : Option Value ⊕ String) : Prop := Γ.2.2.2.2.2.1 hp x
abbrev Rm (Γ : Ct) : Room := Γ.1.2.2.2.1
def stW (st : List Value) : Nat := (st.map fun v => v.category).sum
/-- the machine, standing at pc with the stack st, comes to pc' with what f answers on it -/
def Ev {α : Type} (Γ : Ct) (cc : ByteArray) (inj : α → Value) (pc pc' w kc ks : Nat) (f : Lc → Hp → RE α) : Prop := OKc Γ cc →
  ∀ (ls : Array Slot) (lc : Lc) (st : List Value) (hp : Hp) (H : Heap) (locs : List Loc) (cells slots c1 s1 : Nat) (ad : List Nat), GL Γ ad ls lc → GR Γ ad hp H locs → stW st ≤ w → cells + kc ≤ c1 → c1 ≤ (Rm Γ).cells → slots + ks ≤ s1 → s1 ≤ (Rm Γ).slots →
  ∀ (hp' : Hp) (r : α ⊕ String), f lc hp = some (hp', r) →
  (match r with
    | .inl v => ∀ (ad' : List Nat) (v' : Value) (H' : Heap) (locs' : List Loc), AE ad ad' → VR Γ.2.2.1 ad' (inj v) v' → GR Γ ad' hp' H' locs' → GW Γ H' locs' c1 s1 pc' ls (v' :: st)
    | .inr E => GF Γ hp' (.inr E)) → GW Γ H locs cells slots pc ls st
/-- .. to pcT where it is true, to pcF where it isn't -/
def Cv (Γ : Ct) (cc : ByteArray) (pc pcT pcF w kc ks : Nat) (f : CX) : Prop := OKc Γ cc →
  ∀ (ls : Array Slot) (lc : Lc) (st : List Value) (hp : Hp) (H : Heap) (locs : List Loc) (cells slots c1 s1 : Nat) (ad : List Nat), GL Γ ad ls lc → GR Γ ad hp H locs → stW st ≤ w → cells + kc ≤ c1 → c1 ≤ (Rm Γ).cells → slots + ks ≤ s1 → s1 ≤ (Rm Γ).slots →
  ∀ (hp' : Hp) (r : Bool ⊕ String), f lc hp = some (hp', r) →
  (match r with
    | .inl true => ∀ (ad' : List Nat) (H' : Heap) (locs' : List Loc), AE ad ad' → GR Γ ad' hp' H' locs' → GW Γ H' locs' c1 s1 pcT ls st
    | .inl false => ∀ (ad' : List Nat) (H' : Heap) (locs' : List Loc), AE ad ad' → GR Γ ad' hp' H' locs' → GW Γ H' locs' c1 s1 pcF ls st
    | .inr E => GF Γ hp' (.inr E)) → GW Γ H locs cells slots pc ls st
/-- arguments: the first lies deepest -/
def Av (Γ : Ct) (cc : ByteArray) (pc pc' w n kc ks : Nat) (f : AX) : Prop := OKc Γ cc →
  ∀ (ls : Array Slot) (lc : Lc) (st : List Value) (hp : Hp) (H : Heap) (locs : List Loc) (cells slots c1 s1 : Nat) (ad : List Nat), GL Γ ad ls lc → GR Γ ad hp H locs → stW st ≤ w → cells + kc ≤ c1 → c1 ≤ (Rm Γ).cells → slots + ks ≤ s1 → s1 ≤ (Rm Γ).slots →
  ∀ (hp' : Hp) (r : List Value ⊕ String), f lc hp = some (hp', r) →
  (match r with
    | .inl vs => ∀ (ad' : List Nat) (vs' : List Value) (H' : Heap) (locs' : List Loc), AE ad ad' → FR Γ.2.2.1 ad' vs vs' → vs.length = n → (∀ v ∈ vs, v ≠ .null ∧ v.category = 1) → stW vs' = n → GR Γ ad' hp' H' locs' → GW Γ H' locs' c1 s1 pc' ls (vs'.reverse ++ st)
    | .inr E => GF Γ hp' (.inr E)) → GW Γ H locs cells slots pc ls st
def Sv (Γ : Ct) (cc : ByteArray) (pc pc' kc ks : Nat) (f : SX) : Prop := OKc Γ cc →
  ∀ (ls : Array Slot) (lc : Lc) (hp : Hp) (H : Heap) (locs : List Loc) (cells slots c1 s1 : Nat) (ad : List Nat), GL Γ ad ls lc → GR Γ ad hp H locs → cells + kc ≤ c1 → c1 ≤ (Rm Γ).cells → slots + ks ≤ s1 → s1 ≤ (Rm Γ).slots →
  ∀ (hp' : Hp) (r : Lc ⊕ (Option Value ⊕ String)), f lc hp = some (hp', r) →
  (match r with
    | .inl lc' => ∀ (ad' : List Nat) (ls' : Array Slot) (H' : Heap) (locs' : List Loc), AE ad ad' → GL Γ ad' ls' lc' → GR Γ ad' hp' H' locs' → GW Γ H' locs' c1 s1 pc' ls' []
    | .inr x => GF Γ hp' x) → GW Γ H locs cells slots pc ls []
theorem eB_cases {α β : Type} {r : RE α} {k : α → Hp → RE β} {h' : Hp} {z : β ⊕ String} (h : eB r k = some (h', z)) : (∃ (h1 : Hp) (a : α), r = some (h1, .inl a) ∧ k a h1 = some (h', z)) ∨ ∃ E, r = some (h', .inr E) ∧ z = .inr E := by
  rcases r with _ | ⟨h1, a | E⟩
  · cases h
  · exact Or.inl ⟨h1, a, rfl, h⟩
  · cases h; exact Or.inr ⟨E, rfl, rfl⟩
theorem eS_cases {α : Type} {r : RE α} {k : α → Hp → RS} {h' : Hp} {z : Lc ⊕ (Option Value ⊕ String)} (h : eS r k = some (h', z)) : (∃ (h1 : Hp) (a : α), r = some (h1, .inl a) ∧ k a h1 = some (h', z)) ∨ ∃ E, r = some (h', .inr E) ∧ z = .inr (.inr E) := by
  rcases r with _ | ⟨h1, a | E⟩
  · cases h
  · exact Or.inl ⟨h1, a, rfl, h⟩
  · cases h; exact Or.inr ⟨E, rfl, rfl⟩
theorem sB_cases {r : RS} {k : Lc → Hp → RS} {h' : Hp} {z : Lc ⊕ (Option Value ⊕ String)} (h : sB r k = some (h', z)) : (∃ (h1 : Hp) (a : Lc), r = some (h1, .inl a) ∧ k a h1 = some (h', z)) ∨ ∃ x, r = some (h', .inr x) ∧ z = .inr x := by
  rcases r with _ | ⟨h1, a | x⟩
  · cases h
  · exact Or.inl ⟨h1, a, rfl, h⟩
  · cases h; exact Or.inr ⟨x, rfl, rfl⟩
theorem oE_cases {α β : Type} {o : Option α} {k : α → RE β} {h' : Hp} {z : β ⊕ String} (h : oE o k = some (h', z)) : ∃ a, o = some a ∧ k a = some (h', z) := by
  cases o with
  | none => cases h
  | some a => exact ⟨a, rfl, h⟩
theorem oS_cases {α : Type} {o : Option α} {k : α → RS} {h' : Hp} {z : Lc ⊕ (Option Value ⊕ String)} (h : oS o k = some (h', z)) : ∃ a, o = some a ∧ k a = some (h', z) := by
  cases o with
  | none => cases h
  | some a => exact ⟨a, rfl, h⟩
section Bind
variable {α β : Type} {Γ : Ct} {cc : ByteArray} {inj : α → Value} {pc p1 w kc ks : Nat} {a : Lc → Hp → RE α} {ls : Array Slot} {lc : Lc} {st : List Value} {hp hp' : Hp} {H : Heap} {locs : List Loc} {cells slots : Nat} {ad : List Nat}
/-- an expression first, in an expression or a condition -/
theorem Ev.go (ha : Ev Γ cc inj pc p1 w kc ks a) (hok : OKc Γ cc) (hL : GL Γ ad ls lc) (hR : GR Γ ad hp H locs) (hw : stW st ≤ w) (hc : cells + kc ≤ (Rm Γ).cells) (hs : slots + ks ≤ (Rm Γ).slots) {k : α → Hp → RE β} {z : β ⊕ String} (hz : eB (a lc hp) k = some (hp', z)) (hE : ∀ E, z = .inr E → GF Γ hp' (.inr E))
    (kk : ∀ (h1 : Hp) (x : α) (ad1 : List Nat) (v1 : Value) (H1 : Heap) (locs1 : List Loc), k x h1 = some (hp', z) → AE ad ad1 → VR Γ.2.2.1 ad1 (inj x) v1 → GR Γ ad1 h1 H1 locs1 → GW Γ H1 locs1 (cells + kc) (slots + ks) p1 ls (v1 :: st)) : GW Γ H locs cells slots pc ls st := by
  rcases eB_cases hz with ⟨h1, x, e1, e2⟩ | ⟨E, e1, e2⟩
  · exact ha hok ls lc st hp H locs cells slots _ _ ad hL hR hw (Nat.le_refl _) hc (Nat.le_refl _) hs h1 (.inl x) e1 (fun ad1 v1 H1 locs1 q1 q2 q3 => kk h1 x ad1 v1 H1 locs1 e2 q1 q2 q3)
  · exact ha hok ls lc st hp H locs cells slots _ _ ad hL hR hw (Nat.le_refl _) hc (Nat.le_refl _) hs hp' (.inr E) e1 (hE E e2)
/-- .. in a statement -/
theorem Ev.goS (ha : Ev Γ cc inj pc p1 w kc ks a) (hok : OKc Γ cc) (hL : GL Γ ad ls lc) (hR : GR Γ ad hp H locs) (hw : stW st ≤ w) (hc : cells + kc ≤ (Rm Γ).cells) (hs : slots + ks ≤ (Rm Γ).slots) {k : α → Hp → RS} {z : Lc ⊕ (Option Value ⊕ String)} (hz : eS (a lc hp) k = some (hp', z)) (hE : ∀ x, z = .inr x → GF Γ hp' x)
    (kk : ∀ (h1 : Hp) (x : α) (ad1 : List Nat) (v1 : Value) (H1 : Heap) (locs1 : List Loc), k x h1 = some (hp', z) → AE ad ad1 → VR Γ.2.2.1 ad1 (inj x) v1 → GR Γ ad1 h1 H1 locs1 → GW Γ H1 locs1 (cells + kc) (slots + ks) p1 ls (v1 :: st)) : GW Γ H locs cells slots pc ls st := by
  rcases eS_cases hz with ⟨h1, x, e1, e2⟩ | ⟨E, e1, e2⟩
  · exact ha hok ls lc st hp H locs cells slots _ _ ad hL hR hw (Nat.le_refl _) hc (Nat.le_refl _) hs h1 (.inl x) e1 (fun ad1 v1 H1 locs1 q1 q2 q3 => kk h1 x ad1 v1 H1 locs1 e2 q1 q2 q3)
  · exact ha hok ls lc st hp H locs cells slots _ _ ad hL hR hw (Nat.le_refl _) hc (Nat.le_refl _) hs hp' (.inr E) e1 (hE _ e2)
end Bind
section CBind
variable {β : Type} {Γ : Ct} {cc : ByteArray} {pc pT pF w kc ks : Nat} {a : CX} {ls : Array Slot} {lc : Lc} {st : List Value} {hp hp' : Hp} {H : Heap} {locs : List Loc} {cells slots : Nat} {ad : List Nat}
theorem Cv.go (ha : Cv Γ cc pc pT pF w kc ks a) (hok : OKc Γ cc) (hL : GL Γ ad ls lc) (hR : GR Γ ad hp H locs) (hw : stW st ≤ w) (hc : cells + kc ≤ (Rm Γ).cells) (hs : slots + ks ≤ (Rm Γ).slots) {k : Bool → Hp → RE β} {z : β ⊕ String} (hz : eB (a lc hp) k = some (hp', z)) (hE : ∀ E, z = .inr E → GF Γ hp' (.inr E))
    (kt : ∀ (h1 : Hp) (ad1 : List Nat) (H1 : Heap) (locs1 : List Loc), k true h1 = some (hp', z) → AE ad ad1 → GR Γ ad1 h1 H1 locs1 → GW Γ H1 locs1 (cells + kc) (slots + ks) pT ls st)
    (kf : ∀ (h1 : Hp) (ad1 : List Nat) (H1 : Heap) (locs1 : List Loc), k false h1 = some (hp', z) → AE ad ad1 → GR Γ ad1 h1 H1 locs1 → GW Γ H1 locs1 (cells + kc) (slots + ks) pF ls st) : GW Γ H locs cells slots pc ls st := by
  rcases eB_cases hz with ⟨h1, x, e1, e2⟩ | ⟨E, e1, e2⟩
  · cases x
    · exact ha hok ls lc st hp H locs cells slots _ _ ad hL hR hw (Nat.le_refl _) hc (Nat.le_refl _) hs h1 (.inl false) e1 (fun ad1 H1 locs1 q1 q3 => kf h1 ad1 H1 locs1 e2 q1 q3)
    · exact ha hok ls lc st hp H locs cells slots _ _ ad hL hR hw (Nat.le_refl _) hc (Nat.le_refl _) hs h1 (.inl true) e1 (fun ad1 H1 locs1 q1 q3 => kt h1 ad1 H1 locs1 e2 q1 q3)
  · exact ha hok ls lc st hp H locs cells slots _ _ ad hL hR hw (Nat.le_refl _) hc (Nat.le_refl _) hs hp' (.inr E) e1 (hE E e2)
theorem Cv.goS (ha : Cv Γ cc pc pT pF w kc ks a) (hok : OKc Γ cc) (hL : GL Γ ad ls lc) (hR : GR Γ ad hp H locs) (hw : stW st ≤ w) (hc : cells + kc ≤ (Rm Γ).cells) (hs : slots + ks ≤ (Rm Γ).slots) {k : Bool → Hp → RS} {z : Lc ⊕ (Option Value ⊕ String)} (hz : eS (a lc hp) k = some (hp', z)) (hE : ∀ x, z = .inr x → GF Γ hp' x)
    (kt : ∀ (h1 : Hp) (ad1 : List Nat) (H1 : Heap) (locs1 : List Loc), k true h1 = some (hp', z) → AE ad ad1 → GR Γ ad1 h1 H1 locs1 → GW Γ H1 locs1 (cells + kc) (slots + ks) pT ls st)
    (kf : ∀ (h1 : Hp) (ad1 : List Nat) (H1 : Heap) (locs1 : List Loc), k false h1 = some (hp', z) → AE ad ad1 → GR Γ ad1 h1 H1 locs1 → GW Γ H1 locs1 (cells + kc) (slots + ks) pF ls st) : GW Γ H locs cells slots pc ls st := by
  rcases eS_cases hz with ⟨h1, x, e1, e2⟩ | ⟨E, e1, e2⟩
  · cases x
    · exact ha hok ls lc st hp H locs cells slots _ _ ad hL hR hw (Nat.le_refl _) hc (Nat.le_refl _) hs h1 (.inl false) e1 (fun ad1 H1 locs1 q1 q3 => kf h1 ad1 H1 locs1 e2 q1 q3)
    · exact ha hok ls lc st hp H locs cells slots _ _ ad hL hR hw (Nat.le_refl _) hc (Nat.le_refl _) hs h1 (.inl true) e1 (fun ad1 H1 locs1 q1 q3 => kt h1 ad1 H1 locs1 e2 q1 q3)
  · exact ha hok ls lc st hp H locs cells slots _ _ ad hL hR hw (Nat.le_refl _) hc (Nat.le_refl _) hs hp' (.inr E) e1 (hE _ e2)
end CBind
theorem GW.widen {Γ : Ct} {H : Heap} {locs : List Loc} {cells slots pc k n : Nat} {ls : Array Slot} {st : List Value} (h1 : cells ≤ k) (h2 : slots ≤ n) (kk : GW Γ H locs k n pc ls st) : GW Γ H locs cells slots pc ls st := by
  obtain ⟨⟨p, l, e, R, s⟩, ⟨m, args, below, meth, c⟩, g, own, ⟨nL, jl⟩, Fin, ad0⟩ := Γ
  exact W.widen h1 h2 kk
