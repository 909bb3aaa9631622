section
variable {S S' : St} {T b c n k p a G : Nat} {e : Nat → Nat × (Nat → Int32)} {m m' m0 m1 m2 : Mm} {w : Ml}
/-- the model's trace: what the cells are, tick by tick (its loop) -/
theorem traceM (hw : WF T S) (hn : n ≤ 60) (hT : T + 62 < 900000) {cc : CX} {bb : SX} {l : Lc} {h : Hp} {R : RS} (hR : sLp cc bb NF l h = R) {x : Value}
    (hc : ∀ j m1 y, j ≤ n + 1 → cc [.ref 133, .int (nz n), x, .int (nz j), y] (HM e m1 w) = some (HM e m1 w, .inl (decide (j < n + 1))))
    (hb : ∀ j m1 m2 y, j < n + 1 → f_X8_tick [.ref 133] (HM e (mw m1 140 (fun i => if 512 * j ≤ i ∧ i < 512 * j + 512 then m1 134 (882 + (i - 512 * j)) else m1 140 i)) w) = some (HM e m2 w, .inl none) → ∃ y', bb [.ref 133, .int (nz n), x, .int (nz j), y] (HM e m1 w) = some (HM e m2 w, .inl [.ref 133, .int (nz n), x, .int (nz (j + 1)), y']))
    {y : Value} (hl : l = [.ref 133, .int (nz n), x, .int (nz 0), y]) (hh : h = HM e m w) (hS : m 134 = S) : ∃ m1 y', R = some (HM e m1 w, .inl [.ref 133, .int (nz n), x, .int (nz (n + 1)), y']) ∧ m1 134 = tkN S (n + 1) ∧ (∀ k, k ≤ n → ∀ j, j < 512 → m1 140 (512 * k + j) = tkN S k (882 + j)) ∧ ∀ a, a ≠ 134 → a ≠ 140 → a ≠ 141 → a ≠ 142 → m1 a = m a := by
  obtain ⟨l', h', q1, m1, y', rfl, rfl, q2, q3, q4⟩ := sLp_invR hR (fun j l h => ∃ m1 y, l = [.ref 133, .int (nz n), x, .int (nz j), y] ∧ h = HM e m1 w ∧ m1 134 = tkN S j ∧ (∀ k, k < j → ∀ i, i < 512 → m1 140 (512 * k + i) = tkN S k (882 + i)) ∧ ∀ a, a ≠ 134 → a ≠ 140 → a ≠ 141 → a ≠ 142 → m1 a = m a) (n + 1) (NF_lt (by omega)) (fun j l h hj hQ => by
    obtain ⟨m1, y, rfl, rfl, i1, i2, i3⟩ := hQ
    generalize hm2 : mw m1 140 (fun i => if 512 * j ≤ i ∧ i < 512 * j + 512 then m1 134 (882 + (i - 512 * j)) else m1 140 i) = m2
    have h2 : m2 134 = tkN S j := by rw [← hm2, mw_ne (by decide), i1]
    obtain ⟨m3, f1, f2, f3⟩ := e_tickM (e := e) (w := w) (m := m2) (T := T + j) (by rw [h2]; exact tkN_wf hw j (by omega)) (by omega)
    obtain ⟨y', hy⟩ := hb j m1 m3 y hj (by rw [hm2]; exact f1)
    refine ⟨by rw [hc j m1 y (by omega), decide_eq_true hj], _, _, hy, m3, y', rfl, rfl, by rw [f2, h2]; rfl, fun k hk i hi => ?_, fun a a1 a2 a3 a4 => by rw [f3 a a1 a3 a4, ← hm2, mw_ne a2, i3 a a1 a2 a3 a4]⟩
    rw [f3 _ (by decide) (by decide) (by decide), ← hm2, mw_at]
    by_cases q : k = j
    · subst q
      rw [if_pos (by omega), i1, show 512 * k + i - 512 * k = i by omega]
    · rw [if_neg (by omega)]
      exact i2 k (by omega) i hi) (fun l h hQ => by
    obtain ⟨m1, y, rfl, rfl, -, -, -⟩ := hQ
    rw [hc (n + 1) m1 y (Nat.le_refl _), decide_eq_false (Nat.lt_irrefl _)]) ⟨m, y, hl, hh, hS, fun k hk => absurd hk (Nat.not_lt_zero k), fun _ _ _ _ _ => rfl⟩
  exact ⟨m1, y', q1, q2, fun k hk => q3 k (by omega), q4⟩
/-- one row of the trace -/
theorem rowM {cc : CX} {bb : SX} {l : Lc} {h : Hp} {R : RS} {k : Nat} (hR : sLp cc bb NF l h = R) (L : Nat → Lc) (hc : ∀ j m1, j ≤ 512 → cc (L j) (HM e m1 w) = some (HM e m1 w, .inl (decide (j < 512)))) (hb : ∀ j m1, j < 512 → m1 134 = m 134 → bb (L j) (HM e m1 w) = some (HM e (ms m1 140 (512 * k + j) (m 134 (882 + j))) w, .inl (L (j + 1)))) (hl : l = L 0) (hh : h = HM e m w) : R = some (HM e (mw m 140 (fun i => if 512 * k ≤ i ∧ i < 512 * k + 512 then m 134 (882 + (i - 512 * k)) else m 140 i)) w, .inl (L 512)) := by
  refine sLp_fnR hR L (fun j => HM e (mw m 140 (fun i => if 512 * k ≤ i ∧ i < 512 * k + j then m 134 (882 + (i - 512 * k)) else m 140 i)) w) 512 (NF_lt (by omega)) (fun j hj => ⟨by rw [hc j _ (by omega), decide_eq_true hj], ?_⟩) (by rw [hc 512 _ (Nat.le_refl _), decide_eq_false (Nat.lt_irrefl _)]) hl ?_
  · rw [hb j _ hj (mw_ne (by decide))]
    have : ms (mw m 140 (fun i => if 512 * k ≤ i ∧ i < 512 * k + j then m 134 (882 + (i - 512 * k)) else m 140 i)) 140 (512 * k + j) (m 134 (882 + j)) = mw m 140 (fun i => if 512 * k ≤ i ∧ i < 512 * k + (j + 1) then m 134 (882 + (i - 512 * k)) else m 140 i) := by
      rw [ms_mw, mw_mw, mw_at]
      refine congrArg (mw m 140) (funext fun i => ?_)
      unfold su
      dsimp only
      by_cases q : i = 512 * k + j
      · subst q
        rw [if_pos rfl, if_pos (by omega), show 512 * k + j - 512 * k = j by omega]
      · rw [if_neg q]
        by_cases q2 : 512 * k ≤ i ∧ i < 512 * k + j
        · rw [if_pos q2, if_pos (by omega)]
        · rw [if_neg q2, if_neg (by omega)]
    rw [this]
  · rw [hh]
    have hz : (fun i => if 512 * k ≤ i ∧ i < 512 * k + 0 then m 134 (882 + (i - 512 * k)) else m 140 i) = m 140 := funext fun i => if_neg (by omega)
    rw [hz, mw_self]
end
