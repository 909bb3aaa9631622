section
variable {b r : Nat} {e : Nat → Nat × (Nat → Int32)} {m : Mm} {w : Ml} {h : Hp}
def wlB (H r d : Nat) : Bool := (upD d && decide (r = 0)) || (dnD d && decide (r + 1 = H))
def tgN (r d : Nat) : Nat := if upD d then r - 1 else if dnD d then r + 1 else r
theorem tg_wall {H d : Nat} (hd : d < 6) (hr : r < H) (hH : H ≤ 16) : (z_lt (nz r + q_rs d) || decide (nz H ≤ nz r + q_rs d)) = wlB H r d := by
  have e0 : q_rs 0 = nz 0 := rfl
  have e1 : q_rs 1 = -1 := rfl
  have e2 : q_rs 2 = -1 := rfl
  have e3 : q_rs 3 = nz 0 := rfl
  have e4 : q_rs 4 = nz 1 := rfl
  have e5 : q_rs 5 = nz 1 := rfl
  have hup : (z_lt (nz r + -1) || decide (nz H ≤ nz r + -1)) = decide (r = 0) := by
    by_cases h0 : r = 0
    · subst h0
      rw [decide_eq_true rfl, show nz 0 + -1 = (-1 : Int32) by decide, show z_lt (-1) = true by decide]
      rfl
    · rw [nz_m1 (by omega), zlt_nz (by omega), decide_eq_false h0, Bool.false_or, decide_eq_false_iff_not, nz_le (by omega) (by omega)]
      omega
  have hst : (z_lt (nz r + nz 0) || decide (nz H ≤ nz r + nz 0)) = false := by
    rw [nz_add, zlt_nz (by omega), Bool.false_or, decide_eq_false_iff_not, nz_le (by omega) (by omega)]
    omega
  have hdn : (z_lt (nz r + nz 1) || decide (nz H ≤ nz r + nz 1)) = decide (r + 1 = H) := by
    rw [nz_add, zlt_nz (by omega), Bool.false_or, decide_eq_decide, nz_le (by omega) (by omega)]
    omega
  rcases (show d = 0 ∨ d = 1 ∨ d = 2 ∨ d = 3 ∨ d = 4 ∨ d = 5 by omega) with rfl | rfl | rfl | rfl | rfl | rfl
  · rw [e0, hst]; rfl
  · rw [e1, hup]; simp [wlB, upD, dnD]
  · rw [e2, hup]; simp [wlB, upD, dnD]
  · rw [e3, hst]; rfl
  · rw [e4, hdn]; simp [wlB, upD, dnD]
  · rw [e5, hdn]; simp [wlB, upD, dnD]
theorem tg_row {H d : Nat} (hd : d < 6) (hr : r < H) (hH : H ≤ 16) (hw : wlB H r d = false) : nz r + q_rs d = nz (tgN r d) ∧ tgN r d < H := by
  have e0 : q_rs 0 = nz 0 := rfl
  have e1 : q_rs 1 = -1 := rfl
  have e2 : q_rs 2 = -1 := rfl
  have e3 : q_rs 3 = nz 0 := rfl
  have e4 : q_rs 4 = nz 1 := rfl
  have e5 : q_rs 5 = nz 1 := rfl
  rcases (show d = 0 ∨ d = 1 ∨ d = 2 ∨ d = 3 ∨ d = 4 ∨ d = 5 by omega) with rfl | rfl | rfl | rfl | rfl | rfl
  · rw [e0, nz_add]; exact ⟨rfl, hr⟩
  · have h0 : r ≠ 0 := by simpa [wlB, upD, dnD] using hw
    rw [e1, nz_m1 (by omega)]
    exact ⟨rfl, show r - 1 < H by omega⟩
  · have h0 : r ≠ 0 := by simpa [wlB, upD, dnD] using hw
    rw [e2, nz_m1 (by omega)]
    exact ⟨rfl, show r - 1 < H by omega⟩
  · rw [e3, nz_add]; exact ⟨rfl, hr⟩
  · have h0 : r + 1 ≠ H := by simpa [wlB, upD, dnD] using hw
    rw [e4, nz_add]
    exact ⟨rfl, show r + 1 < H by omega⟩
  · have h0 : r + 1 ≠ H := by simpa [wlB, upD, dnD] using hw
    rw [e5, nz_add]
    exact ⟨rfl, show r + 1 < H by omega⟩
theorem nz0_and (y : Int32) : o_iand (nz 0) y = nz 0 := Int32.zero_and
theorem stp_0 {A : Int32} {W : Nat} {ring : Bool} {s : Int} (hW : 4 ≤ W) (hW2 : W ≤ 32) (hs : s = -1 ∨ s = 0 ∨ s = 1) (hA : ∀ c, c < 32 → bt A c = decide (c < W)) : stp A W ring s (nz 0) = nz 0 := by
  apply bt_ext
  intro c hc
  rw [show bt (nz 0) c = false from bt_0 c]
  cases h : bt (stp A W ring s (nz 0)) c with
  | false => rfl
  | true =>
    obtain ⟨c', -, h2, -⟩ := (bt_stp hs hW hW2 hA (fun c h => by rw [show bt (nz 0) c = false from bt_0 c] at h; cases h) hc).mp h
    rw [show bt (nz 0) c' = false from bt_0 c'] at h2
    cases h2
/-- what the particles of the row q / 6 with the direction q % 6 do -/
def cP (m : Mm) (b W H : Nat) (ring : Bool) (q i c : Nat) : Bool := if wlB H (q / 6) (q % 6) then decide (i = q / 6 * 6 + tuN m b (q % 6)) && bt (m 32 q) c else (decide (i = tgN (q / 6) (q % 6) * 6 + q % 6) && bt (mvA m b W ring (stq (q / 6) (q % 6)) (m 32 q) (tgN (q / 6) (q % 6))) c) || (decide (i = q / 6 * 6 + opN (q % 6)) && bt (mvB m b W ring (stq (q / 6) (q % 6)) (m 32 q) (tgN (q / 6) (q % 6))) c)
def cX (m : Mm) (b W H : Nat) (ring : Bool) (q : Nat) : Int32 := if wlB H (q / 6) (q % 6) ∨ stq (q / 6) (q % 6) = 0 then nz 0 else mvX m b W ring (stq (q / 6) (q % 6)) (m 32 q) (tgN (q / 6) (q % 6))
def cL (m : Mm) (W H : Nat) (ring : Bool) (q : Nat) : Int32 := if wlB H (q / 6) (q % 6) then nz 0 else nz (pc (mvL W ring (stq (q / 6) (q % 6)) (m 32 q)))
def cBo (m : Mm) (b W H : Nat) (ring : Bool) (i q : Nat) : Int32 := if wlB H (q / 6) (q % 6) then nz 0 else gvB m b W ring (mvB m b W ring (stq (q / 6) (q % 6)) (m 32 q) (tgN (q / 6) (q % 6))) (q % 6) (tgN (q / 6) (q % 6)) (stq (q / 6) (q % 6)) i
def cWa (m : Mm) (b H : Nat) (i q : Nat) : Int32 := if wlB H (q / 6) (q % 6) then (mo i (q % 6) - mo i (tuN m b (q % 6))) * nz (pc (m 32 q)) else nz 0
/-- how far the move has come: q rows of particles -/
def MvI (m : Mm) (b W H : Nat) (ring : Bool) (q : Nat) (m1 : Mm) : Prop := (∀ a, a ≠ b + 2 → a ≠ b + 9 → a ≠ b + 10 → a ≠ b + 14 → a ≠ 33 → a ≠ 34 → m1 a = m a) ∧
  (∀ i, i < 96 → ∀ c, (bt (m1 (b + 2) i) c = true ↔ ∃ k, k < q ∧ cP m b W H ring k i c = true)) ∧ (∀ i, i < 96 → m1 (b + 14) i = if i < q then cX m b W H ring i else nz 0) ∧
  m1 (b + 9) = su (m (b + 9)) 3 (m (b + 9) 3 + sm q (cL m W H ring)) ∧ m1 (b + 10) = su (su (m (b + 10)) 8 (m (b + 10) 8 + sm q (fun k => q_al (k % 6) * cL m W H ring k))) 9 (m (b + 10) 9 + sm q (fun k => q_ac (k % 6) * cL m W H ring k)) ∧
  (∀ i, i < 12 → m1 33 i = sm q (cBo m b W H ring i)) ∧ ∀ i, i < 2 → m1 34 i = sm q (cWa m b H i)
theorem mvI_step (he : EO e) (hb : TB b) {W H R d : Nat} {m1 : Mm} {l : Lc} (hd : d < 6) (hr : r < H) (hH : H ≤ 16) (hW : 4 ≤ W) (hW2 : W ≤ 32) (h0 : m (b + 1) 0 = nz W) (hA : ∀ c, c < 32 → bt (m (b + 1) 2) c = decide (c < W)) (hR0 : R < 2) (hR1 : m (b + 11) 0 = nz R) (hI : MvI m b W H (decide (R = 1)) (r * 6 + d) m1) :
    ∃ m2, (bif z_ne (m 32 (r * 6 + d)) then (bif wlB H r d then kV l (f_X4_bounceOffWall [.ref 31, .ref b, .int (nz r), .int (nz d)] (HM e m1 w)) else kV l (f_X4_moveToRow [.ref 31, .ref b, .int (nz r), .int (nz d), .int (nz r + q_rs d)] (HM e m1 w))) else (some (HM e m1 w, .inl l) : RS)) = some (HM e m2 w, .inl l) ∧ MvI m b W H (decide (R = 1)) (r * 6 + d + 1) m2 := by
  obtain ⟨i1, i2, i3, i4, i5, i6, i7⟩ := hI
  have n1 := TBne hb (k := 1) (by decide)
  have n2 := TBne hb (k := 2) (by decide)
  have n3 := TBne hb (k := 3) (by decide)
  have n9 := TBne hb (k := 9) (by decide)
  have n10 := TBne hb (k := 10) (by decide)
  have n11 := TBne hb (k := 11) (by decide)
  have n14 := TBne hb (k := 14) (by decide)
  have e1 : m1 (b + 1) = m (b + 1) := i1 _ (by omega) (by omega) (by omega) (by omega) (by omega) (by omega)
  have e3 : m1 (b + 3) = m (b + 3) := i1 _ (by omega) (by omega) (by omega) (by omega) (by omega) (by omega)
  have e11 : m1 (b + 11) = m (b + 11) := i1 _ (by omega) (by omega) (by omega) (by omega) (by omega) (by omega)
  have e32 : m1 32 = m 32 := i1 _ (by omega) (by omega) (by omega) (by omega) (by omega) (by omega)
  have hs := stq_3 r d
  have q6 : (r * 6 + d) / 6 = r := by omega
  have q7 : (r * 6 + d) % 6 = d := by omega
  have cPd : ∀ i c, cP m b W H (decide (R = 1)) (r * 6 + d) i c = if wlB H r d then decide (i = r * 6 + tuN m b d) && bt (m 32 (r * 6 + d)) c else (decide (i = tgN r d * 6 + d) && bt (mvA m b W (decide (R = 1)) (stq r d) (m 32 (r * 6 + d)) (tgN r d)) c) || (decide (i = r * 6 + opN d) && bt (mvB m b W (decide (R = 1)) (stq r d) (m 32 (r * 6 + d)) (tgN r d)) c) := by
    intro i c; unfold cP; rw [q6, q7]
  have cXd : cX m b W H (decide (R = 1)) (r * 6 + d) = if wlB H r d ∨ stq r d = 0 then nz 0 else mvX m b W (decide (R = 1)) (stq r d) (m 32 (r * 6 + d)) (tgN r d) := by
    unfold cX; rw [q6, q7]
  have cLd : cL m W H (decide (R = 1)) (r * 6 + d) = if wlB H r d then nz 0 else nz (pc (mvL W (decide (R = 1)) (stq r d) (m 32 (r * 6 + d)))) := by
    unfold cL; rw [q6, q7]
  have cBd : ∀ i, cBo m b W H (decide (R = 1)) i (r * 6 + d) = if wlB H r d then nz 0 else gvB m b W (decide (R = 1)) (mvB m b W (decide (R = 1)) (stq r d) (m 32 (r * 6 + d)) (tgN r d)) d (tgN r d) (stq r d) i := by
    intro i; unfold cBo; rw [q6, q7]
  have cWd : ∀ i, cWa m b H i (r * 6 + d) = if wlB H r d then (mo i d - mo i (tuN m b d)) * nz (pc (m 32 (r * 6 + d))) else nz 0 := by
    intro i; unfold cWa; rw [q6, q7]
  have hex : ∀ i c, (∃ k, k < r * 6 + d + 1 ∧ cP m b W H (decide (R = 1)) k i c = true) ↔ (∃ k, k < r * 6 + d ∧ cP m b W H (decide (R = 1)) k i c = true) ∨ cP m b W H (decide (R = 1)) (r * 6 + d) i c = true := by
    intro i c
    constructor
    · rintro ⟨k, k1, k2⟩
      by_cases hk : k = r * 6 + d
      · subst hk; exact Or.inr k2
      · exact Or.inl ⟨k, by omega, k2⟩
    · rintro (⟨k, k1, k2⟩ | k2)
      · exact ⟨k, by omega, k2⟩
      · exact ⟨_, by omega, k2⟩
  have hmu : ∀ y : Int32, y * nz 0 = nz 0 := fun y => Int32.mul_zero
  unfold MvI
  by_cases hx : m 32 (r * 6 + d) = nz 0
  · have z1 : z_ne (m 32 (r * 6 + d)) = false := by rw [hx]; rfl
    have hB0 : ∀ t, mvB m b W (decide (R = 1)) (stq r d) (nz 0) t = nz 0 := fun t => nz0_and _
    have hL0 : mvL W (decide (R = 1)) (stq r d) (nz 0) = nz 0 := by
      unfold mvL; split
      · rfl
      · exact nz0_and _
    have hG0 : ∀ t, mvG m b W (decide (R = 1)) (stq r d) (nz 0) t = nz 0 := fun t => by
      unfold mvG; rw [nz0_and, nz0_and]
    have hA0 : ∀ t, mvA m b W (decide (R = 1)) (stq r d) (nz 0) t = nz 0 := fun t => by
      unfold mvA; rw [hG0, stp_0 hW hW2 hs hA]
    have hX0 : ∀ t, mvX m b W (decide (R = 1)) (stq r d) (nz 0) t = nz 0 := fun t => by
      unfold mvX; rw [hG0, hL0, hA0, or_nz0]; split <;> rfl
    rw [hx] at cPd cXd cLd cBd cWd
    have bz : ∀ c, bt (nz 0) c = false := bt_0
    refine ⟨m1, by rw [z1]; rfl, i1, fun i hi c => ?_, fun i hi => ?_, ?_, ?_, fun i hi => ?_, fun i hi => ?_⟩
    · rw [hex, cPd, hA0, hB0, bz, i2 i hi c]
      simp
    · rw [i3 i hi]
      by_cases h9 : i = r * 6 + d
      · rw [h9, if_neg (by omega), if_pos (by omega), cXd, hX0]
        split <;> rfl
      · by_cases h8 : i < r * 6 + d
        · rw [if_pos h8, if_pos (show i < r * 6 + d + 1 by omega)]
        · rw [if_neg h8, if_neg (show ¬ i < r * 6 + d + 1 by omega)]
    · rw [i4, sm_succ, cLd, hL0, pc_0]
      have : (if wlB H r d = true then nz 0 else nz 0) = nz 0 := by split <;> rfl
      rw [this, add_nz0]
    · rw [i5, sm_succ, sm_succ, cLd, hL0, pc_0]
      have : (if wlB H r d = true then nz 0 else nz 0) = nz 0 := by split <;> rfl
      rw [this, hmu, hmu, add_nz0, add_nz0]
    · rw [i6 i hi, sm_succ, cBd, hB0, gvB_0]
      have : (if wlB H r d = true then nz 0 else nz 0) = nz 0 := by split <;> rfl
      rw [this, add_nz0]
    · rw [i7 i hi, sm_succ, cWd, pc_0, hmu]
      have : (if wlB H r d = true then nz 0 else nz 0) = nz 0 := by split <;> rfl
      rw [this, add_nz0]
  · have z1 : z_ne (m 32 (r * 6 + d)) = true := by
      unfold z_ne
      rw [decide_eq_true_eq]
      exact hx
    cases hwl : wlB H r d with
    | true =>
      rw [hwl] at cXd cLd cBd cWd
      obtain ⟨m2, g0, g1, g2, g3⟩ := e_bounceOffWall (e := e) (w := w) (m := m1) he hb hd (show r < 16 by omega)
      have htu : tuN m1 b d = tuN m b d := by unfold tuN; rw [e11]
      have htl := tuN_lt (m := m) (b := b) d
      rw [htu, e32] at g2 g3
      refine ⟨m2, by rw [z1, g0]; rfl, fun a a1 a2 a3 a4 a5 a6 => by rw [g1 a a1 a6, i1 a a1 a2 a3 a4 a5 a6], fun i hi c => ?_, fun i hi => ?_, ?_, ?_, fun i hi => ?_, fun i hi => ?_⟩
      · rw [hex, cPd, hwl, if_pos rfl, g2, su_v]
        by_cases h9 : i = r * 6 + tuN m b d
        · rw [if_pos h9, bt_or, Bool.or_eq_true, ← h9, i2 i hi c]
          simp [h9]
        · rw [if_neg h9, i2 i hi c]
          simp [h9]
      · rw [g1 _ (by omega) (by omega), i3 i hi]
        by_cases h9 : i = r * 6 + d
        · rw [h9, if_neg (by omega), if_pos (by omega), cXd, if_pos (Or.inl rfl)]
        · by_cases h8 : i < r * 6 + d
          · rw [if_pos h8, if_pos (show i < r * 6 + d + 1 by omega)]
          · rw [if_neg h8, if_neg (show ¬ i < r * 6 + d + 1 by omega)]
      · rw [g1 _ (by omega) (by omega), i4, sm_succ, cLd, if_pos rfl, add_nz0]
      · rw [g1 _ (by omega) (by omega), i5, sm_succ, sm_succ, cLd, if_pos rfl, hmu, hmu, add_nz0, add_nz0]
      · rw [g1 _ (by omega) (by omega), i6 i hi, sm_succ, cBd, if_pos rfl, add_nz0]
      · rw [g3, if_pos hi, i7 i hi, sm_succ, cWd, if_pos rfl]
    | false =>
      rw [hwl] at cXd cLd cBd cWd
      obtain ⟨t1, t2⟩ := tg_row hd hr hH hwl
      obtain ⟨m2, g0, g1, g2, g3, g4, g5, g6⟩ := e_moveToRow (e := e) (w := w) (m := m1) (t := tgN r d) he hb hd (show r < 16 by omega) (by omega) hW hW2 (by rw [e1]; exact h0) hR0 (by rw [e11]; exact hR1)
      have x1 : ∀ s x t, mvB m1 b W (decide (R = 1)) s x t = mvB m b W (decide (R = 1)) s x t := fun s x t => by unfold mvB; rw [e1, e3]
      have x2 : ∀ s x t, mvG m1 b W (decide (R = 1)) s x t = mvG m b W (decide (R = 1)) s x t := fun s x t => by unfold mvG; rw [x1]
      have x3 : ∀ s x t, mvA m1 b W (decide (R = 1)) s x t = mvA m b W (decide (R = 1)) s x t := fun s x t => by unfold mvA; rw [x2, e1]
      have x4 : ∀ s x t, mvX m1 b W (decide (R = 1)) s x t = mvX m b W (decide (R = 1)) s x t := fun s x t => by unfold mvX; rw [x2, x3]
      have x5 : ∀ x d t s i, gvB m1 b W (decide (R = 1)) x d t s i = gvB m b W (decide (R = 1)) x d t s i := fun x d t s i => by unfold gvB; rw [e1, e3]
      rw [e32] at g2 g3 g4 g5 g6
      refine ⟨m2, by rw [z1, t1, g0]; rfl, fun a a1 a2 a3 a4 a5 a6 => by rw [g1 a a1 a2 a3 a4 a5, i1 a a1 a2 a3 a4 a5 a6], fun i hi c => ?_, fun i hi => ?_, ?_, ?_, fun i hi => ?_, fun i hi => ?_⟩
      · rw [hex, cPd, hwl, if_neg (by decide), g2, x3, x1, Bool.or_assoc, Bool.or_eq_true, i2 i hi c]
      · rw [g3, i3 i hi, x4]
        by_cases h9 : i = r * 6 + d
        · by_cases h7 : stq r d = 0
          · rw [h9, if_neg (fun z => z.2 h7), if_neg (by omega), if_pos (by omega), cXd, if_pos (Or.inr h7)]
          · rw [h9, if_pos ⟨rfl, h7⟩, if_pos (by omega), cXd, if_neg (fun z => z.elim (by decide) h7)]
        · rw [if_neg (fun z => h9 z.1)]
          by_cases h8 : i < r * 6 + d
          · rw [if_pos h8, if_pos (show i < r * 6 + d + 1 by omega)]
          · rw [if_neg h8, if_neg (show ¬ i < r * 6 + d + 1 by omega)]
      · rw [g4, i4, sm_succ, cLd, if_neg (by decide)]
        simp only [su_at]
        rw [Int32.add_assoc]
        funext j
        simp only [su_v]
        split <;> rfl
      · rw [g5, i5, sm_succ, sm_succ, cLd, if_neg (by decide), su_two (by decide), q7]
        simp only [Int32.add_assoc]
      · rw [g6, if_pos hi, i6 i hi, sm_succ, cBd, if_neg (by decide), x5, x1]
      · rw [g1 _ (by omega) (by omega) (by omega) (by omega) (by decide), i7 i hi, sm_succ, cWd, if_neg (by decide), add_nz0]
end
