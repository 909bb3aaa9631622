section
variable {S : St} {T b R : Nat} {m1 m2 m3 : Mm}
theorem pcW {x : Int32} {W : Nat} (hW : W ≤ 32) (h : ∀ c, bt x c = true → c < W) : nz (pc x) = sm W (fun c => b01 (bt x c)) := by
  rw [pc_sm]
  refine sm_cut hW fun c h1 _ => ?_
  cases hb : bt x c with
  | false => rfl
  | true => have := h c hb; omega
def lvS (S : St) (r d c : Nat) : Bool := !wlB (hN S) r d && (prS S c r d && decide (nbS S r d c = none))
def waS (S : St) (r d c : Nat) : Bool := wlB (hN S) r d && prS S c r d
theorem sm_rd {H : Nat} {f : Nat → Int32} {g : Nat → Nat → Int32} (h : ∀ r, r < H → ∀ d, d < 6 → f (r * 6 + d) = g r d) : sm (H * 6) f = sm H (fun r => sm 6 (fun d => g r d)) := by
  rw [sm_flat]
  exact sm_congr fun r hr => sm_congr fun d hd => h r hr d hd
/-- those that leave -/
theorem mv_left (hw : WF T S) (p2 : PB (m2 32) (hN S) (fun r c => uS S c r)) {r d : Nat} (hr : r < hN S) (hd : d < 6) : cL m2 (wN S) (hN S) (rgB S) (r * 6 + d) = sm (wN S) (fun c => b01 (lvS S r d c)) := by
  have hW := hw.1
  have hx : ∀ c, bt (m2 32 (r * 6 + d)) c = true ↔ c < wN S ∧ prS S c r d = true := fun c => mv_bits hw p2 hr hd
  have hs := stq_3 r d
  unfold cL
  rw [show (r * 6 + d) / 6 = r by omega, show (r * 6 + d) % 6 = d by omega]
  cases hwl : wlB (hN S) r d with
  | true =>
    rw [if_pos rfl]
    refine (sm_zero fun c _ => ?_).symm
    unfold lvS
    rw [hwl]
    rfl
  | false =>
    rw [if_neg (by decide), pcW hW.2.1 (fun c h => by
      unfold mvL at h
      split at h
      · rw [show bt (nz 0) c = false from bt_0 c] at h; cases h
      · rw [bt_and, Bool.and_eq_true] at h
        exact ((hx c).mp h.1).1)]
    refine sm_congr fun c hc => ?_
    congr 1
    rw [Bool.eq_iff_iff, bt_mvL hs hW.1 hW.2.1 hc, hx c]
    unfold lvS nbS
    rw [hwl]
    simp [hc]
/-- those at a wall -/
theorem mv_wall (hb : TB b) (hw : WF T S) (t1 : TR b m1 S) (f2 : ∀ a, a ≠ 32 → m2 a = m1 a) (p2 : PB (m2 32) (hN S) (fun r c => uS S c r)) {x r d : Nat} (hr : r < hN S) (hd : d < 6) : cWa m2 b (hN S) x (r * 6 + d) = (mo x d - mo x (tuS S d)) * sm (wN S) (fun c => b01 (waS S r d c)) := by
  have hW := hw.1
  have hx : ∀ c, bt (m2 32 (r * 6 + d)) c = true ↔ c < wN S ∧ prS S c r d = true := fun c => mv_bits hw p2 hr hd
  unfold cWa
  rw [show (r * 6 + d) / 6 = r by omega, show (r * 6 + d) % 6 = d by omega, mv_tu t1 f2 hb]
  cases hwl : wlB (hN S) r d with
  | true =>
    rw [if_pos rfl, pcW hW.2.1 (fun c h => ((hx c).mp h).1)]
    congr 1
    refine sm_congr fun c hc => ?_
    congr 1
    rw [Bool.eq_iff_iff, hx c]
    unfold waS
    rw [hwl]
    simp [hc]
  | false =>
    rw [if_neg (by decide), sm_zero (fun c _ => by unfold waS; rw [hwl]; rfl)]
    exact Int32.mul_zero.symm
/-- those that bounce off a body -/
def boS (S : St) (k r d c : Nat) : Bool := !wlB (hN S) r d && (prS S c r d && (match nbS S r d c with
  | none => false
  | some c2 => bq (vS S c2 (tgN r d)) k))
theorem bq_sol {v : Int32} {k : Nat} (hk : k < 6) (h : bq v k = true) : z_ge v = false := by
  have hf : ∀ k, k < 6 → z_ge (-1 - nz k) = false := by decide
  have h := of_decide_eq_true h
  rw [h]
  exact hf k hk
theorem mv_body (hb : TB b) (hw : WF T S) (t1 : TR b m1 S) (f2 : ∀ a, a ≠ 32 → m2 a = m1 a) (p2 : PB (m2 32) (hN S) (fun r c => uS S c r)) {i r d : Nat} (hi : i < 12) (hr : r < hN S) (hd : d < 6) :
    cBo m2 b (wN S) (hN S) (rgB S) i (r * 6 + d) = nz 2 * mo (i % 2) d * sm (wN S) (fun c => b01 (boS S (i / 2) r d c)) := by
  have hW := hw.1
  have hH := hw.2.1.2.1
  have n1 := TBne hb (k := 1) (by decide)
  have n3 := TBne hb (k := 3) (by decide)
  have hA : ∀ c, c < 32 → bt (m2 (b + 1) 2) c = decide (c < wN S) := fun c hc => by rw [f2 _ (by omega), t1.all c hc]
  have hx : ∀ c, bt (m2 32 (r * 6 + d)) c = true ↔ c < wN S ∧ prS S c r d = true := fun c => mv_bits hw p2 hr hd
  have hs := stq_3 r d
  have hs' : -(stq r d) = -1 ∨ -(stq r d) = 0 ∨ -(stq r d) = 1 := by omega
  unfold cBo
  rw [show (r * 6 + d) / 6 = r by omega, show (r * 6 + d) % 6 = d by omega]
  cases hwl : wlB (hN S) r d with
  | true =>
    rw [if_pos rfl, sm_zero (fun c _ => by unfold boS; rw [hwl]; rfl)]
    exact Int32.mul_zero.symm
  | false =>
    have ht := (tg_row hd hr hH hwl).2
    have hsl := mv_sol hw t1 f2 hb ht
    have hbd : ∀ c, bt (m2 (b + 3) (tgN r d * 6 + i / 2)) c = true ↔ c < wN S ∧ bq (vS S c (tgN r d)) (i / 2) = true := fun c => by
      rw [f2 _ (by omega)]
      constructor
      · intro h
        have hc := bt_lt h
        rw [t1.bod (by omega) (by omega) hc] at h
        refine ⟨?_, h⟩
        rcases Nat.lt_or_ge c (wN S) with z | z
        · exact z
        · have := (hw.2.2.2.2.2.2.1 (tgN r d) (by omega) c hc).2 (by omega)
          rw [this] at h
          have := bq_sol (by omega) h
          exact absurd this (by decide)
      · rintro ⟨hc, h⟩
        rw [t1.bod (by omega) (by omega) (by omega)]
        exact h
    rw [if_neg (by decide)]
    unfold gvB
    have hmo : (if i % 2 = 0 then q_al d else q_ac d) = mo (i % 2) d := rfl
    rw [hmo, pcW hW.2.1 (fun c h => by
      unfold mvB at h
      rw [bt_and, bt_and, Bool.and_eq_true, Bool.and_eq_true] at h
      exact ((hx c).mp h.1.1).1)]
    congr 1
    refine sm_congr fun c hc => ?_
    congr 1
    rw [Bool.eq_iff_iff, bt_and, Bool.and_eq_true, bt_mvB hs hW.1 hW.2.1 hA hsl hc, bt_stp hs' hW.1 hW.2.1 hA (fun c h => ((hbd c).mp h).1) (by omega), hx c]
    unfold boS nbS
    rw [hwl]
    constructor
    · rintro ⟨⟨⟨h1, h2⟩, c2, h3, h4⟩, c3, h5, h6, h7⟩
      have := (ncol_back hs hW.1 hc h5).mp h7
      rw [h2, this]
      simpa using ((hbd c3).mp h6).2
    · intro h
      cases hn : ncol (wN S) (rgB S) (stq r d) c with
      | none => rw [hn] at h; simp at h
      | some c2 =>
        rw [hn] at h
        have hp : prS S c r d = true ∧ bq (vS S c2 (tgN r d)) (i / 2) = true := by simpa using h
        have hc2 := ncol_lt (by omega) hc hn
        refine ⟨⟨⟨hc, hp.1⟩, c2, rfl, ?_⟩, c2, hc2, (hbd c2).mpr ⟨hc2, hp.2⟩, (ncol_back hs hW.1 hc hc2).mpr hn⟩
        unfold solS
        rw [bq_sol (by omega) hp.2]
        rfl
end
