/-! THE STATE: the numbers of the model's row; what a tunnel of the class has of it -/
abbrev St : Type := Nat → Int32
def su (S : St) (k : Nat) (x : Int32) : St := fun j => if j = k then x else S j
def mw (m : Mm) (a : Nat) (f : St) : Mm := fun a' => if a' = a then f else m a'
theorem ms_mw {m : Mm} {a n : Nat} {x : Int32} : ms m a n x = mw m a (su (m a) n x) := by
  funext a' n'
  unfold ms mw su
  by_cases h : a' = a <;> by_cases h' : n' = n <;> simp [h, h']
theorem mw_at {m : Mm} {a : Nat} {f : St} : mw m a f a = f := by simp [mw]
theorem mw_v {m : Mm} {a a' : Nat} {f : St} : mw m a f a' = if a' = a then f else m a' := rfl
theorem mw_ne {m : Mm} {a a' : Nat} {f : St} (h : a' ≠ a) : mw m a f a' = m a' := by simp [mw, h]
theorem mw_mw {m : Mm} {a : Nat} {f g : St} : mw (mw m a f) a g = mw m a g := by
  funext a'
  by_cases h : a' = a <;> simp [mw, h]
theorem mw_self {m : Mm} {a : Nat} : mw m a (m a) = m := by
  funext a'
  by_cases h : a' = a <;> simp [mw, h]
theorem mw_comm {m : Mm} {a b : Nat} {f g : St} (h : a ≠ b) : mw (mw m a f) b g = mw (mw m b g) a f := by
  funext a'
  by_cases h1 : a' = a <;> by_cases h2 : a' = b <;> simp [mw, h1, h2]
  · exact absurd (h1.symm.trans h2) h
  · subst h1; intro h3; exact absurd h3 h
  · subst h2; intro h3; exact absurd h3.symm h
theorem su_at {S : St} {k : Nat} {x : Int32} : su S k x k = x := by simp [su]
theorem su_v {S : St} {k j : Nat} {x : Int32} : su S k x j = if j = k then x else S j := rfl
theorem su_ne {S : St} {k j : Nat} {x : Int32} (h : j ≠ k) : su S k x j = S j := by simp [su, h]
theorem su_self {S : St} {k : Nat} : su S k (S k) = S := by
  funext j
  by_cases h : j = k <;> simp [su, h]
theorem su_two {S : St} {i k : Nat} {x y dx dy : Int32} (h : i ≠ k) : su (su (su (su S i x) k y) i (su (su S i x) k y i + dx)) k (su (su S i x) k y k + dy) = su (su S i (x + dx)) k (y + dy) := by
  funext j
  simp only [su_v, if_neg h]
  by_cases h1 : j = k
  · simp [h1]
  · by_cases h2 : j = i <;> simp [h1, h2]
theorem su_two0 {S : St} {i k : Nat} : su (su S i (S i + nz 0)) k (S k + nz 0) = S := by
  rw [show S i + nz 0 = S i from Int32.add_zero _, show S k + nz 0 = S k from Int32.add_zero _, su_self, su_self]
/-- what a cell holds -/
def vS (S : St) (c r : Nat) : Int32 := S (882 + (32 * r + c))
def wN (S : St) : Nat := (S 0).toNatClampNeg
def hN (S : St) : Nat := (S 1).toNatClampNeg
def tN (S : St) : Nat := (S 2).toNatClampNeg
def gN (S : St) : Nat := (S 6).toNatClampNeg
def rN (S : St) : Nat := (S 7).toNatClampNeg
def okV (v : Int32) : Prop := (∃ n, n < 64 ∧ v = nz n) ∨ ∃ k, k < 6 ∧ v = -1 - nz k
def pq (v : Int32) (d : Nat) : Bool := decide (0 ≤ v) && bt v d
def bq (v : Int32) (k : Nat) : Bool := decide (v = -1 - nz k)
def gustOK (S : St) (g : Nat) : Prop := (∃ k, k < 3 ∧ S (66 + 8 * g) = nz k) ∧ (∃ c, c < wN S ∧ S (66 + 8 * g + 1) = nz c) ∧ (∃ f l, f ≤ l ∧ l < hN S ∧ S (66 + 8 * g + 2) = nz f ∧ S (66 + 8 * g + 3) = nz l) ∧ ∃ p, 1 ≤ p ∧ p ≤ 60 ∧ S (66 + 8 * g + 5) = nz p
def recOK (x : Int32) : Prop := -20000 ≤ x.toInt ∧ x.toInt ≤ 20000
def WF (T : Nat) (S : St) : Prop :=
  (4 ≤ wN S ∧ wN S ≤ 32 ∧ S 0 = nz (wN S)) ∧ (2 ≤ hN S ∧ hN S ≤ 16 ∧ S 1 = nz (hN S)) ∧ (tN S ≤ T ∧ S 2 = nz (tN S)) ∧ (∀ k, k < 3 → S (3 + k) = nz 0 ∨ S (3 + k) = nz 1) ∧
  (gN S ≤ 6 ∧ S 6 = nz (gN S)) ∧ (rN S ≤ 64 ∧ S 7 = nz (rN S)) ∧
  (∀ r, r < 16 → ∀ c, c < 32 → okV (vS S c r) ∧ (¬ (c < wN S ∧ r < hN S) → vS S c r = nz 0)) ∧
  (∀ g, g < gN S → gustOK S g) ∧ (∀ k, k < 128 → ∃ b, b < 64 ∧ S (1394 + k) = nz b) ∧ (S 1394 = nz 0 ∧ S 1458 = nz 0) ∧
  ∀ i, i < rN S → ∀ j, j < 12 → recOK (S (114 + 12 * i + j))
/-- a crossing to the east counts, one to the west counts less -/
def sg (d : Nat) (x : Int32) : Int32 := if d = 0 ∨ d = 1 ∨ d = 5 then x else -x
def TRv (V : Nat → Nat → Int32) (S : St) : Prop :=
  (V 1 0 = S 0 ∧ V 1 1 = S 1 ∧ ∀ c, c < 32 → bt (V 1 2) c = decide (c < wN S)) ∧
  (∀ r, r < 16 → ∀ d, d < 6 → ∀ c, c < 32 → bt (V 2 (r * 6 + d)) c = pq (vS S c r) d) ∧
  (∀ r, r < 16 → ∀ k, k < 6 → ∀ c, c < 32 → bt (V 3 (r * 6 + k)) c = bq (vS S c r) k) ∧
  (V 4 0 = S 6 ∧ ∀ k, k < 8 * gN S → V 5 k = S (66 + k)) ∧
  (V 6 0 = S 7 ∧ ∃ L, L < 64 ∧ V 6 1 = nz L ∧ ∀ i, i < rN S → ∀ j, j < 12 → V 7 ((L + 64 - i) % 64 * 12 + j) = S (114 + 12 * (rN S - 1 - i) + j)) ∧
  (∀ k, k < 4 → V 9 k = S (8 + k)) ∧ (∀ k, k < 5 → ∀ x, x < 2 → V 10 (k * 2 + x) = S (12 + 5 * x + k)) ∧
  (∀ k, k < 3 → V 11 k = S (3 + k)) ∧ (∀ k, k < 128 → V 12 k = S (1394 + k)) ∧ (V 0 6 = S 1522 ∧ V 0 7 = S 2) ∧
  (∀ k, k < 12 → V 13 k = S (22 + k)) ∧
  ∀ c, c < wN S → sm (hN S) (fun r => sm 6 (fun d => sg d (b01 (bt (V 14 (r * 6 + d)) c)))) = S (34 + c)
def TR (b : Nat) (m : Mm) (S : St) : Prop := TRv (fun k j => m (b + k) j) S
def Sq (S S' : St) : Prop := ∀ k, k < 1523 → S k = S' k
section
variable {S S' : St} {T : Nat}
theorem Sq.rf : Sq S S := fun _ _ => rfl
theorem Sq.sy (h : Sq S S') : Sq S' S := fun k hk => (h k hk).symm
theorem Sq.tr {S'' : St} (h : Sq S S') (h' : Sq S' S'') : Sq S S'' := fun k hk => (h k hk).trans (h' k hk)
theorem Sq.w (h : Sq S S') : wN S = wN S' := by unfold wN; rw [h 0 (by decide)]
theorem Sq.h (h : Sq S S') : hN S = hN S' := by unfold hN; rw [h 1 (by decide)]
theorem Sq.t (h : Sq S S') : tN S = tN S' := by unfold tN; rw [h 2 (by decide)]
theorem Sq.g (h : Sq S S') : gN S = gN S' := by unfold gN; rw [h 6 (by decide)]
theorem Sq.r (h : Sq S S') : rN S = rN S' := by unfold rN; rw [h 7 (by decide)]
theorem Sq.v (h : Sq S S') {c r : Nat} (hc : c < 32) (hr : r < 16) : vS S c r = vS S' c r := h _ (by omega)
theorem Sq.wf (q : Sq S S') (h : WF T S) : WF T S' := by
  obtain ⟨h1, h2, h3, h4, h5, h6, h7, h8, h9, h10, h11⟩ := h
  unfold WF
  rw [← q.w, ← q.h, ← q.t, ← q.g, ← q.r]
  refine ⟨⟨h1.1, h1.2.1, (q 0 (by decide)).symm.trans h1.2.2⟩, ⟨h2.1, h2.2.1, (q 1 (by decide)).symm.trans h2.2.2⟩, ⟨h3.1, (q 2 (by decide)).symm.trans h3.2⟩, fun k hk => ?_, ⟨h5.1, (q 6 (by decide)).symm.trans h5.2⟩, ⟨h6.1, (q 7 (by decide)).symm.trans h6.2⟩, fun r hr c hc => ?_, fun g hg => ?_, fun k hk => ?_, ⟨?_, ?_⟩, fun i hi j hj => ?_⟩
  · rw [← q _ (by omega)]; exact h4 k hk
  · rw [← q.v hc hr]; exact h7 r hr c hc
  · have := h8 g hg
    unfold gustOK at this ⊢
    rw [← q.w, ← q.h, ← q (66 + 8 * g) (by omega), ← q (66 + 8 * g + 1) (by omega), ← q (66 + 8 * g + 2) (by omega), ← q (66 + 8 * g + 3) (by omega), ← q (66 + 8 * g + 5) (by omega)]
    exact this
  · rw [← q _ (by omega)]; exact h9 k hk
  · rw [← q _ (by omega)]; exact h10.1
  · rw [← q _ (by omega)]; exact h10.2
  · rw [← q _ (by omega)]; exact h11 i hi j hj
theorem WF.mono {T' : Nat} (h : WF T S) (ht : T ≤ T') : WF T' S := ⟨h.1, h.2.1, ⟨Nat.le_trans h.2.2.1.1 ht, h.2.2.1.2⟩, h.2.2.2⟩
/-- which places of a tunnel count -/
def usK (k j : Nat) : Prop := match k with
  | 0 => j = 6 ∨ j = 7
  | 1 => j < 3
  | 2 => j < 96
  | 3 => j < 96
  | 4 => j = 0
  | 5 => j < 48
  | 6 => j < 2
  | 7 => j < 768
  | 9 => j < 4
  | 10 => j < 10
  | 11 => j < 3
  | 12 => j < 128
  | 13 => j < 12
  | 14 => j < 96
  | _ => False
theorem TRv.congr {V V' : Nat → Nat → Int32} (hg : gN S ≤ 6) (hh : hN S ≤ 16) (e : ∀ k j, usK k j → V' k j = V k j) (h : TRv V S) : TRv V' S := by
  obtain ⟨h1, h2, h3, h4, h5, h6, h7, h8, h9, h10, h11, h12⟩ := h
  obtain ⟨L, l1, l2, l3⟩ := h5.2
  refine ⟨⟨(e 1 0 (by show _ < _; omega)).trans h1.1, (e 1 1 (by show _ < _; omega)).trans h1.2.1, fun c hc => by rw [e 1 2 (by show _ < _; omega)]; exact h1.2.2 c hc⟩, fun r hr d hd c hc => ?_, fun r hr d hd c hc => ?_, ⟨(e 4 0 (by show _ = _; omega)).trans h4.1, fun k hk => ?_⟩, ⟨(e 6 0 (by show _ < _; omega)).trans h5.1, L, l1, (e 6 1 (by show _ < _; omega)).trans l2, fun i hi j hj => ?_⟩, fun k hk => ?_, fun k hk x hx => ?_, fun k hk => ?_, fun k hk => ?_, ⟨(e 0 6 (by show _ ∨ _; omega)).trans h10.1, (e 0 7 (by show _ ∨ _; omega)).trans h10.2⟩, fun k hk => ?_, fun c hc => ?_⟩
  · rw [e 2 _ (by show _ < 96; omega)]; exact h2 r hr d hd c hc
  · rw [e 3 _ (by show _ < 96; omega)]; exact h3 r hr d hd c hc
  · rw [e 5 _ (by show _ < 48; omega)]; exact h4.2 k hk
  · rw [e 7 _ (by show _ < 768; omega)]; exact l3 i hi j hj
  · rw [e 9 _ (by show _ < 4; omega)]; exact h6 k hk
  · rw [e 10 _ (by show _ < 10; omega)]; exact h7 k hk x hx
  · rw [e 11 _ (by show _ < 3; omega)]; exact h8 k hk
  · rw [e 12 _ (by show _ < 128; omega)]; exact h9 k hk
  · rw [e 13 _ (by show _ < 12; omega)]; exact h11 k hk
  · rw [← h12 c hc]
    refine sm_congr fun r hr => sm_congr fun d hd => ?_
    rw [e 14 _ (by show _ < 96; omega)]
theorem TRv.sq {V : Nat → Nat → Int32} (hw : wN S ≤ 32) (hg : gN S ≤ 6) (hr : rN S ≤ 64) (q : Sq S S') (h : TRv V S) : TRv V S' := by
  obtain ⟨h1, h2, h3, h4, h5, h6, h7, h8, h9, h10, h11, h12⟩ := h
  obtain ⟨L, l1, l2, l3⟩ := h5.2
  unfold TRv
  rw [← q.w, ← q.h, ← q.g, ← q.r]
  refine ⟨⟨h1.1.trans (q _ (by decide)), h1.2.1.trans (q _ (by decide)), h1.2.2⟩, fun r hr d hd c hc => ?_, fun r hr d hd c hc => ?_, ⟨h4.1.trans (q _ (by decide)), fun k hk => (h4.2 k hk).trans (q _ (by omega))⟩, ⟨h5.1.trans (q _ (by decide)), L, l1, l2, fun i hi j hj => (l3 i hi j hj).trans (q _ (by omega))⟩, fun k hk => (h6 k hk).trans (q _ (by omega)), fun k hk x hx => (h7 k hk x hx).trans (q _ (by omega)), fun k hk => (h8 k hk).trans (q _ (by omega)), fun k hk => (h9 k hk).trans (q _ (by omega)), ⟨h10.1.trans (q _ (by decide)), h10.2.trans (q _ (by decide))⟩, fun k hk => (h11 k hk).trans (q _ (by omega)), fun c hc => (h12 c hc).trans (q _ (by omega))⟩
  · rw [← q.v hc hr]; exact h2 r hr d hd c hc
  · rw [← q.v hc hr]; exact h3 r hr d hd c hc
end
