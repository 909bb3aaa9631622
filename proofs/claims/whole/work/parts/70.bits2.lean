section
variable {b : Nat} {m : Mm}
theorem ncol_ring {W c : Nat} {s : Int} : ncol W true s c ≠ none := by
  unfold ncol
  split
  · simp
  · split
    · split <;> simp
    · split <;> simp
/-- what moves, bit by bit: sl tells where the row t is solid -/
theorem bt_mvL {W c : Nat} {ring : Bool} {s : Int} {x : Int32} (hs : s = -1 ∨ s = 0 ∨ s = 1) (hW : 4 ≤ W) (hW2 : W ≤ 32) (hc : c < W) : bt (mvL W ring s x) c = true ↔ bt x c = true ∧ ncol W ring s c = none := by
  unfold mvL
  cases ring with
  | true =>
    rw [if_pos rfl, show bt (nz 0) c = false from bt_0 c]
    exact ⟨fun h => (by cases h), fun h => absurd h.2 ncol_ring⟩
  | false =>
    rw [if_neg (by decide), bt_and, Bool.and_eq_true, bt_endC hs hW hW2 hc]
theorem bt_mvB {W c t : Nat} {ring : Bool} {s : Int} {x : Int32} {sl : Nat → Bool} (hs : s = -1 ∨ s = 0 ∨ s = 1) (hW : 4 ≤ W) (hW2 : W ≤ 32) (hA : ∀ c, c < 32 → bt (m (b + 1) 2) c = decide (c < W)) (hsl : ∀ c, bt (orr (fun k => m (b + 3) (t * 6 + k)) 6) c = true ↔ c < W ∧ sl c = true) (hc : c < W) :
    bt (mvB m b W ring s x t) c = true ↔ bt x c = true ∧ ∃ c2, ncol W ring s c = some c2 ∧ sl c2 = true := by
  have hs' : -s = -1 ∨ -s = 0 ∨ -s = 1 := by omega
  unfold mvB
  rw [bt_and, Bool.and_eq_true, bt_stp hs' hW hW2 hA (fun c h => ((hsl c).mp h).1) (by omega)]
  constructor
  · rintro ⟨h1, c2, h2, h3, h4⟩
    exact ⟨h1, c2, (ncol_back hs hW hc h2).mp h4, ((hsl c2).mp h3).2⟩
  · rintro ⟨h1, c2, h2, h3⟩
    have hc2 := ncol_lt (by omega) hc h2
    exact ⟨h1, c2, hc2, (hsl c2).mpr ⟨hc2, h3⟩, (ncol_back hs hW hc hc2).mpr h2⟩
theorem bt_mvG {W c t : Nat} {ring : Bool} {s : Int} {x : Int32} {sl : Nat → Bool} (hs : s = -1 ∨ s = 0 ∨ s = 1) (hW : 4 ≤ W) (hW2 : W ≤ 32) (hA : ∀ c, c < 32 → bt (m (b + 1) 2) c = decide (c < W)) (hsl : ∀ c, bt (orr (fun k => m (b + 3) (t * 6 + k)) 6) c = true ↔ c < W ∧ sl c = true) (hc : c < W) :
    bt (mvG m b W ring s x t) c = true ↔ bt x c = true ∧ ∃ c2, ncol W ring s c = some c2 ∧ sl c2 = false := by
  have hL := bt_mvL (x := x) (ring := ring) hs hW hW2 hc
  have hB := bt_mvB (m := m) (b := b) (t := t) (x := x) (ring := ring) hs hW hW2 hA hsl hc
  unfold mvG
  rw [bt_and, bt_and, bt_not _ (by omega), bt_not _ (by omega)]
  simp only [Bool.and_eq_true, Bool.not_eq_true']
  constructor
  · rintro ⟨⟨h1, h2⟩, h3⟩
    refine ⟨h1, ?_⟩
    cases hn : ncol W ring s c with
    | none =>
      rw [hL.mpr ⟨h1, hn⟩] at h2
      cases h2
    | some c2 =>
      refine ⟨c2, rfl, ?_⟩
      cases hq : sl c2 with
      | false => rfl
      | true =>
        rw [hB.mpr ⟨h1, c2, hn, hq⟩] at h3
        cases h3
  · rintro ⟨h1, c2, h2, h3⟩
    refine ⟨⟨h1, ?_⟩, ?_⟩
    · cases hq : bt (mvL W ring s x) c with
      | false => rfl
      | true =>
        have := (hL.mp hq).2
        rw [h2] at this
        cases this
    · cases hq : bt (mvB m b W ring s x t) c with
      | false => rfl
      | true =>
        obtain ⟨-, c3, h4, h5⟩ := hB.mp hq
        rw [h2] at h4
        cases h4
        rw [h3] at h5
        cases h5
theorem bt_mvA {W c t : Nat} {ring : Bool} {s : Int} {x : Int32} {sl : Nat → Bool} (hs : s = -1 ∨ s = 0 ∨ s = 1) (hW : 4 ≤ W) (hW2 : W ≤ 32) (hA : ∀ c, c < 32 → bt (m (b + 1) 2) c = decide (c < W)) (hsl : ∀ c, bt (orr (fun k => m (b + 3) (t * 6 + k)) 6) c = true ↔ c < W ∧ sl c = true) (hx : ∀ c, bt x c = true → c < W) (hc : c < 32) :
    bt (mvA m b W ring s x t) c = true ↔ ∃ c', c' < W ∧ bt x c' = true ∧ ncol W ring s c' = some c ∧ sl c = false := by
  unfold mvA
  rw [bt_stp hs hW hW2 hA (fun c h => by
    unfold mvG at h
    rw [bt_and, bt_and] at h
    simp only [Bool.and_eq_true] at h
    exact hx c h.1.1) hc]
  constructor
  · rintro ⟨c', h1, h2, h3⟩
    obtain ⟨h4, c2, h5, h6⟩ := (bt_mvG hs hW hW2 hA hsl h1).mp h2
    rw [h3] at h5
    cases h5
    exact ⟨c', h1, h4, h3, h6⟩
  · rintro ⟨c', h1, h2, h3, h4⟩
    exact ⟨c', h1, (bt_mvG hs hW hW2 hA hsl h1).mpr ⟨h2, c, h3, h4⟩, h3⟩
end
noncomputable def dB (p : Prop) : Bool := @decide p (Classical.propDecidable p)
theorem dB_t {p : Prop} : dB p = true ↔ p := @decide_eq_true_iff p (Classical.propDecidable p)
/-! THE MOVE, as the state has it (S: when the gusts have blown) -/
/-- the particles of a cell behind the collision -/
def uS (S : St) (c r : Nat) : Nat := bkN S (64 * ((c + r + tN S) % 2) + nS S c r)
def prS (S : St) (c r d : Nat) : Bool := (uS S c r).testBit d
def solS (S : St) (c r : Nat) : Bool := !z_ge (vS S c r)
def tuS (S : St) (d : Nat) : Nat := if S (if upD d then 4 else 5) = nz 1 then miN d else opN d
def nbS (S : St) (r d c : Nat) : Option Nat := ncol (wN S) (rgB S) (stq r d) c
/-- a particle comes to lie in the cell (c', r') with the direction d' -/
def EvN (S : St) (r' d' c' : Nat) : Prop := ∃ r, r < hN S ∧ ∃ d, d < 6 ∧
  ((wlB (hN S) r d = true ∧ r' = r ∧ d' = tuS S d ∧ prS S c' r d = true) ∨
   (wlB (hN S) r d = false ∧ ((r' = r ∧ d' = opN d ∧ prS S c' r d = true ∧ ∃ c2, nbS S r d c' = some c2 ∧ solS S c2 (tgN r d) = true) ∨
     (r' = tgN r d ∧ d' = d ∧ ∃ c, c < wN S ∧ prS S c r d = true ∧ nbS S r d c = some c' ∧ solS S c' (tgN r d) = false))))
