section
variable {S : St} {T b R : Nat} {m1 m2 m3 : Mm}
/-- the right border of the column c is crossed by a particle of the row r, by the direction d -/
def CrS (S : St) (r d c : Nat) : Prop := wlB (hN S) r d = false ∧ ((stq r d = 1 ∧ prS S c r d = true ∧ ∀ c2, nbS S r d c = some c2 → solS S c2 (tgN r d) = false) ∨ (stq r d = -1 ∧ ∃ c0, c0 < wN S ∧ prS S c0 r d = true ∧ nbS S r d c0 = some c ∧ solS S c (tgN r d) = false))
theorem mv_cross (hb : TB b) (hw : WF T S) (t1 : TR b m1 S) (f2 : ∀ a, a ≠ 32 → m2 a = m1 a) (p2 : PB (m2 32) (hN S) (fun r c => uS S c r)) {r d c : Nat} (hr : r < hN S) (hd : d < 6) (hc : c < wN S) :
    bt (cX m2 b (wN S) (hN S) (rgB S) (r * 6 + d)) c = dB (CrS S r d c) := by
  have hW := hw.1
  have hH := hw.2.1.2.1
  have n1 := TBne hb (k := 1) (by decide)
  have hA : ∀ c, c < 32 → bt (m2 (b + 1) 2) c = decide (c < wN S) := fun c hc => by rw [f2 _ (by omega), t1.all c hc]
  have hx : ∀ c, bt (m2 32 (r * 6 + d)) c = true ↔ c < wN S ∧ prS S c r d = true := fun c => mv_bits hw p2 hr hd
  have hs := stq_3 r d
  rw [Bool.eq_iff_iff, dB_t]
  unfold cX CrS
  rw [show (r * 6 + d) / 6 = r by omega, show (r * 6 + d) % 6 = d by omega]
  cases hwl : wlB (hN S) r d with
  | true =>
    rw [if_pos (Or.inl rfl), show bt (nz 0) c = false from bt_0 c]
    exact ⟨fun h => (by cases h), fun h => (by cases h.1)⟩
  | false =>
    have ht := (tg_row hd hr hH hwl).2
    have hsl := mv_sol hw t1 f2 hb ht
    rcases hs with h1 | h1 | h1
    · rw [if_neg (fun z => z.elim (fun q => by cases q) (fun q => by omega))]
      unfold mvX
      rw [if_neg (by omega), bt_mvA (stq_3 r d) hW.1 hW.2.1 hA hsl (fun c h => ((hx c).mp h).1) (by omega)]
      constructor
      · rintro ⟨c0, g1, g2, g3, g4⟩
        exact ⟨rfl, Or.inr ⟨h1, c0, g1, ((hx c0).mp g2).2, g3, g4⟩⟩
      · rintro ⟨-, g | ⟨-, c0, g1, g2, g3, g4⟩⟩
        · have := g.1; omega
        · exact ⟨c0, g1, (hx c0).mpr ⟨g1, g2⟩, g3, g4⟩
    · rw [if_pos (Or.inr h1), show bt (nz 0) c = false from bt_0 c]
      exact ⟨fun h => (by cases h), fun h => h.2.elim (fun g => by have := g.1; omega) (fun g => by have := g.1; omega)⟩
    · rw [if_neg (fun z => z.elim (fun q => by cases q) (fun q => by omega))]
      unfold mvX
      rw [if_pos (by omega), bt_or, Bool.or_eq_true, bt_mvG (stq_3 r d) hW.1 hW.2.1 hA hsl hc, bt_mvL (stq_3 r d) hW.1 hW.2.1 hc, hx c]
      constructor
      · rintro (⟨⟨-, g1⟩, c2, g2, g3⟩ | ⟨⟨-, g1⟩, g2⟩)
        · refine ⟨rfl, Or.inl ⟨h1, g1, fun c3 q => ?_⟩⟩
          have q : ncol (wN S) (rgB S) (stq r d) c = some c3 := q
          rw [g2] at q
          cases q
          exact g3
        · refine ⟨rfl, Or.inl ⟨h1, g1, fun c3 q => ?_⟩⟩
          have q : ncol (wN S) (rgB S) (stq r d) c = some c3 := q
          rw [g2] at q
          cases q
      · rintro ⟨-, ⟨-, g1, g2⟩ | g⟩
        · cases hn : ncol (wN S) (rgB S) (stq r d) c with
          | none => exact Or.inr ⟨⟨hc, g1⟩, rfl⟩
          | some c2 => exact Or.inl ⟨⟨hc, g1⟩, c2, rfl, g2 c2 hn⟩
        · have := g.1; omega
end
