section
variable {S : St} {T b R : Nat} {m1 m2 m3 : Mm}
theorem uS_0 (hw : WF T S) {c r : Nat} (h : nS S c r = 0) : uS S c r = 0 := by
  obtain ⟨-, k2, k3⟩ := bkN_ok hw
  unfold uS
  rw [h]
  rcases (show (c + r + tN S) % 2 = 0 ∨ (c + r + tN S) % 2 = 1 by omega) with q | q <;> rw [q]
  · exact k2
  · exact k3
theorem mv_bits (hw : WF T S) (p2 : PB (m2 32) (hN S) (fun r c => uS S c r)) {r d c : Nat} (hr : r < hN S) (hd : d < 6) : bt (m2 32 (r * 6 + d)) c = true ↔ c < wN S ∧ prS S c r d = true := by
  have hW := hw.1.2.1
  have hH := hw.2.1.2.1
  constructor
  · intro h
    have hc := bt_lt h
    have h2 : bt (m2 32 (r * 6 + d)) c = (uS S c r).testBit d := p2 r hr d hd c hc
    rw [h2] at h
    refine ⟨?_, h⟩
    rcases Nat.lt_or_ge c (wN S) with z | z
    · exact z
    · have := (nS_ok hw hc (show r < 16 by omega)).2.2 (by omega)
      rw [uS_0 hw this] at h
      simp at h
  · rintro ⟨hc, h⟩
    have h2 : bt (m2 32 (r * 6 + d)) c = (uS S c r).testBit d := p2 r hr d hd c (by omega)
    rw [h2]
    exact h
theorem mv_sol (hw : WF T S) (t1 : TR b m1 S) (f2 : ∀ a, a ≠ 32 → m2 a = m1 a) (hb : TB b) {t : Nat} (ht : t < hN S) (c : Nat) : bt (orr (fun k => m2 (b + 3) (t * 6 + k)) 6) c = true ↔ c < wN S ∧ solS S c t = true := by
  have hW := hw.1.2.1
  have hH := hw.2.1.2.1
  have n3 := TBne hb (k := 3) (by decide)
  rw [f2 _ (by omega)]
  have key : ∀ c, c < 32 → bt (orr (fun k => m1 (b + 3) (t * 6 + k)) 6) c = solS S c t := fun c hc => sol_bt t1 (by omega) hc (hw.2.2.2.2.2.2.1 t (by omega) c hc).1
  constructor
  · intro h
    have hc := bt_lt h
    rw [key c hc] at h
    refine ⟨?_, h⟩
    rcases Nat.lt_or_ge c (wN S) with z | z
    · exact z
    · have := (hw.2.2.2.2.2.2.1 t (by omega) c hc).2 (by omega)
      unfold solS at h
      rw [this] at h
      exact absurd h (by decide)
  · rintro ⟨hc, h⟩
    rw [key c (by omega)]
    exact h
theorem mv_tu (t1 : TR b m1 S) (f2 : ∀ a, a ≠ 32 → m2 a = m1 a) (hb : TB b) (d : Nat) : tuN m2 b d = tuS S d := by
  have n11 := TBne hb (k := 11) (by decide)
  unfold tuN tuS
  rw [f2 _ (by omega)]
  cases upD d with
  | true =>
    have : m1 (b + 11) 1 = S 4 := t1.fit (by decide)
    simp only [if_true, this]
  | false =>
    have : m1 (b + 11) 2 = S 5 := t1.fit (by decide)
    simp only [Bool.false_eq_true, if_false, this]
theorem rg_eq (hR0 : R < 2) (hR : S 3 = nz R) : decide (R = 1) = rgB S := by
  unfold rgB
  rw [hR]
  exact decide_eq_decide.mpr (by rw [nz_inj (by omega) (by decide)])
/-- the particles, once they have moved -/
theorem mv_part (hb : TB b) (hw : WF T S) (t1 : TR b m1 S) (f2 : ∀ a, a ≠ 32 → m2 a = m1 a) (p2 : PB (m2 32) (hN S) (fun r c => uS S c r)) (hR0 : R < 2) (hR : S 3 = nz R) (i3 : MvI m2 b (wN S) (hN S) (decide (R = 1)) (hN S * 6) m3) {r' d' c' : Nat} (hr' : r' < 16) (hd' : d' < 6) (hc' : c' < 32) :
    bt (m3 (b + 2) (r' * 6 + d')) c' = true ↔ c' < wN S ∧ EvN S r' d' c' := by
  have hW := hw.1
  have hH := hw.2.1.2.1
  have n1 := TBne hb (k := 1) (by decide)
  have hA : ∀ c, c < 32 → bt (m2 (b + 1) 2) c = decide (c < wN S) := fun c hc => by rw [f2 _ (by omega), t1.all c hc]
  rw [rg_eq hR0 hR] at i3
  rw [i3.2.1 _ (by omega) c']
  constructor
  · rintro ⟨k, hk, h⟩
    have hr : k / 6 < hN S := by omega
    have hd : k % 6 < 6 := Nat.mod_lt _ (by decide)
    have hkk : k = k / 6 * 6 + k % 6 := by omega
    have hx : ∀ c, bt (m2 32 k) c = true ↔ c < wN S ∧ prS S c (k / 6) (k % 6) = true := fun c => by
      rw [hkk, show (k / 6 * 6 + k % 6) / 6 = k / 6 by omega, show (k / 6 * 6 + k % 6) % 6 = k % 6 by omega]
      exact mv_bits hw p2 hr hd
    have hs := stq_3 (k / 6) (k % 6)
    generalize hrr : k / 6 = r at *
    generalize hdd : k % 6 = d at *
    unfold cP at h
    rw [hrr, hdd] at h
    cases hwl : wlB (hN S) r d with
    | true =>
      rw [hwl, if_pos rfl, mv_tu t1 f2 hb] at h
      simp only [Bool.and_eq_true, decide_eq_true_eq] at h
      have htu := tuN_lt (m := m2) (b := b) d
      rw [mv_tu t1 f2 hb] at htu
      obtain ⟨g1, g2⟩ := (hx c').mp h.2
      exact ⟨g1, r, hr, d, hd, Or.inl ⟨hwl, by omega, by omega, g2⟩⟩
    | false =>
      rw [hwl, if_neg (by decide)] at h
      have ht := (tg_row hd hr hH hwl).2
      have hsl := mv_sol hw t1 f2 hb ht
      have ho := opN_lt d
      simp only [Bool.or_eq_true, Bool.and_eq_true, decide_eq_true_eq] at h
      rcases h with ⟨q, h⟩ | ⟨q, h⟩
      · obtain ⟨c, c1, c2, c3, c4⟩ := (bt_mvA hs hW.1 hW.2.1 hA hsl (fun c h => ((hx c).mp h).1) hc').mp h
        refine ⟨ncol_lt (by omega) c1 c3, r, hr, d, hd, Or.inr ⟨hwl, Or.inr ⟨by omega, by omega, c, c1, ((hx c).mp c2).2, c3, c4⟩⟩⟩
      · have hcw : c' < wN S := by
          unfold mvB at h
          rw [bt_and, Bool.and_eq_true] at h
          exact ((hx c').mp h.1).1
        obtain ⟨g1, c2, g2, g3⟩ := (bt_mvB hs hW.1 hW.2.1 hA hsl hcw).mp h
        exact ⟨hcw, r, hr, d, hd, Or.inr ⟨hwl, Or.inl ⟨by omega, by omega, ((hx c').mp g1).2, c2, g2, g3⟩⟩⟩
  · rintro ⟨hcw, r, hr, d, hd, h⟩
    refine ⟨r * 6 + d, by omega, ?_⟩
    have hx : ∀ c, bt (m2 32 (r * 6 + d)) c = true ↔ c < wN S ∧ prS S c r d = true := fun c => mv_bits hw p2 hr hd
    have hs := stq_3 r d
    unfold cP
    rw [show (r * 6 + d) / 6 = r by omega, show (r * 6 + d) % 6 = d by omega, mv_tu t1 f2 hb]
    rcases h with ⟨h1, h2, h3, h4⟩ | ⟨h1, h⟩
    · rw [h1, if_pos rfl, h2, h3, decide_eq_true rfl, Bool.true_and]
      exact (hx c').mpr ⟨hcw, h4⟩
    · rw [h1, if_neg (by decide)]
      have ht := (tg_row hd hr hH h1).2
      have hsl := mv_sol hw t1 f2 hb ht
      simp only [Bool.or_eq_true, Bool.and_eq_true, decide_eq_true_eq]
      rcases h with ⟨h2, h3, h4, c2, h5, h6⟩ | ⟨h2, h3, c, h4, h5, h6, h7⟩
      · exact Or.inr ⟨by rw [h2, h3], (bt_mvB hs hW.1 hW.2.1 hA hsl hcw).mpr ⟨(hx c').mpr ⟨hcw, h4⟩, c2, h5, h6⟩⟩
      · exact Or.inl ⟨by rw [h2, h3], (bt_mvA hs hW.1 hW.2.1 hA hsl (fun c h => ((hx c).mp h).1) hc').mpr ⟨c, h4, (hx c).mpr ⟨h4, h5⟩, h6, h7⟩⟩
end
