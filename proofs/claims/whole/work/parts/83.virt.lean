/-! A TICK TAKEN BACK: all turn round and move; the state of the particles turned round -/
theorem opN_op {d : Nat} (hd : d < 6) : opN (opN d) = d := by unfold opN; omega
def turnN (n : Nat) : Nat := paN (fun d => n.testBit (opN d)) 6
theorem turnN_lt (n : Nat) : turnN n < 64 := paN_lt _ 6
theorem turnN_bit {n d : Nat} (hd : d < 6) : (turnN n).testBit d = n.testBit (opN d) := by
  unfold turnN
  rw [paN_bit, decide_eq_true hd, Bool.true_and]
theorem turnN_0 : turnN 0 = 0 := by decide
def vir (S : St) : St := fun k => if 882 ≤ k ∧ k < 1394 then (if z_ge (S k) then nz (turnN (S k).toNatClampNeg) else S k) else if 1394 ≤ k ∧ k < 1522 then nz ((k - 1394) % 64) else S k
section
variable {S : St} {T : Nat}
theorem vir_lo {k : Nat} (h : k < 882 ∨ 1522 ≤ k) : vir S k = S k := by
  unfold vir
  rw [if_neg (by omega), if_neg (by omega)]
theorem vir_w : wN (vir S) = wN S := by unfold wN; rw [vir_lo (by omega)]
theorem vir_h : hN (vir S) = hN S := by unfold hN; rw [vir_lo (by omega)]
theorem vir_t : tN (vir S) = tN S := by unfold tN; rw [vir_lo (by omega)]
theorem vir_g : gN (vir S) = gN S := by unfold gN; rw [vir_lo (by omega)]
theorem vir_r : rN (vir S) = rN S := by unfold rN; rw [vir_lo (by omega)]
theorem vir_rg : rgB (vir S) = rgB S := by unfold rgB; rw [vir_lo (by omega)]
theorem vir_v {c r : Nat} (hc : c < 32) (hr : r < 16) : vS (vir S) c r = if z_ge (vS S c r) then nz (turnN (vS S c r).toNatClampNeg) else vS S c r := by
  unfold vS vir
  rw [if_pos (by omega)]
theorem vir_ge (hw : WF T S) {c r : Nat} (hc : c < 32) (hr : r < 16) : z_ge (vS (vir S) c r) = z_ge (vS S c r) := by
  rw [vir_v hc hr]
  cases hz : z_ge (vS S c r) with
  | true =>
    rw [if_pos rfl]
    have := turnN_lt (vS S c r).toNatClampNeg
    exact zge_nz (by omega)
  | false => rw [if_neg (by decide), hz]
theorem vir_n (hw : WF T S) {c r : Nat} (hc : c < 32) (hr : r < 16) : nS (vir S) c r = turnN (nS S c r) := by
  have hg := vir_ge hw hc hr
  unfold nS
  rw [hg, vir_v hc hr]
  cases hz : z_ge (vS S c r) with
  | true =>
    rw [if_pos rfl, if_pos rfl, if_pos rfl]
    have := turnN_lt (vS S c r).toNatClampNeg
    exact nz_cl (by omega)
  | false =>
    rw [if_neg (by decide), if_neg (by decide)]
    exact turnN_0.symm
theorem vir_b {k : Nat} (hk : k < 128) : bkN (vir S) k = k % 64 := by
  unfold bkN vir
  rw [if_neg (by omega), if_pos (by omega), nz_cl (by omega), Nat.add_sub_cancel_left]
theorem vir_u (hw : WF T S) {c r : Nat} (hc : c < 32) (hr : r < 16) : uS (vir S) c r = turnN (nS S c r) := by
  have := turnN_lt (nS S c r)
  unfold uS
  rw [vir_n hw hc hr, vir_t, vir_b (by omega)]
  omega
theorem vir_wf (hw : WF T S) : WF T (vir S) := by
  obtain ⟨t1, t2, t3, t4, t5, t6, t7, t8, t9, t10, t11⟩ := hw
  unfold WF
  rw [vir_w, vir_h, vir_t, vir_g, vir_r, vir_lo (k := 0) (by omega), vir_lo (k := 1) (by omega), vir_lo (k := 2) (by omega), vir_lo (k := 6) (by omega), vir_lo (k := 7) (by omega)]
  refine ⟨t1, t2, t3, fun k hk => ?_, t5, t6, fun r hr c hc => ?_, fun g hg => ?_, fun k hk => ?_, ⟨?_, ?_⟩, fun i hi j hj => ?_⟩
  · rw [vir_lo (by omega)]; exact t4 k hk
  · rw [vir_v hc hr]
    obtain ⟨h1, h2⟩ := t7 r hr c hc
    refine ⟨?_, fun z => ?_⟩
    · by_cases hz : z_ge (vS S c r) = true
      · rw [if_pos hz]
        exact Or.inl ⟨_, turnN_lt _, rfl⟩
      · rw [if_neg hz]; exact h1
    · rw [h2 z]
      rfl
  · have := t8 g hg
    unfold gustOK at this ⊢
    rw [vir_w, vir_h, vir_lo (k := 66 + 8 * g) (by omega), vir_lo (k := 66 + 8 * g + 1) (by omega), vir_lo (k := 66 + 8 * g + 2) (by omega), vir_lo (k := 66 + 8 * g + 3) (by omega), vir_lo (k := 66 + 8 * g + 5) (by omega)]
    exact this
  · unfold vir
    rw [if_neg (by omega), if_pos (by omega)]
    exact ⟨_, Nat.mod_lt _ (by decide), rfl⟩
  · unfold vir
    rw [if_neg (by omega), if_pos (by omega)]
  · unfold vir
    rw [if_neg (by omega), if_pos (by omega)]
  · rw [vir_lo (by omega)]; exact t11 i hi j hj
theorem vir_pr (hw : WF T S) {c r d : Nat} (hc : c < 32) (hr : r < 16) (hd : d < 6) : prS (vir S) c r d = (nS S c r).testBit (opN d) := by
  unfold prS
  rw [vir_u hw hc hr, turnN_bit hd]
/-- where a state comes from -/
noncomputable def ivS (S : St) (p k : Nat) : Nat := Classical.epsilon (fun s => s < 64 ∧ bkN S (64 * p + s) = k)
def Rev (S : St) : Prop := ∀ p, p < 2 → ∀ s, s < 64 → ∀ s', s' < 64 → bkN S (64 * p + s) = bkN S (64 * p + s') → s = s'
theorem iv_1 (hw : WF T S) (hv : Rev S) : ∀ p, p < 2 → ∀ k, k < 64 → ivS S p k < 64 ∧ bkN S (64 * p + ivS S p k) = k := by
  intro p hp k hk
  have hb := (bkN_ok hw).1
  obtain ⟨i, hi, he⟩ := inj_onto 64 (fun s => bkN S (64 * p + s)) (fun i hi => (hb _ (by omega)).1) (fun i hi j hj h => hv p hp i hi j hj h) k hk
  exact Classical.epsilon_spec (p := fun s => s < 64 ∧ bkN S (64 * p + s) = k) ⟨i, hi, he⟩
theorem iv_2 (hw : WF T S) (hv : Rev S) : ∀ p, p < 2 → ∀ s, s < 64 → ivS S p (bkN S (64 * p + s)) = s := by
  intro p hp s hs
  have hb := (bkN_ok hw).1
  obtain ⟨h1, h2⟩ := iv_1 hw hv p hp (bkN S (64 * p + s)) (hb _ (by omega)).1
  exact hv p hp _ h1 s hs h2
theorem iv_0 (hw : WF T S) (hv : Rev S) : ∀ p, p < 2 → ivS S p 0 = 0 := by
  intro p hp
  obtain ⟨-, h0, h1⟩ := bkN_ok hw
  have := iv_2 hw hv p hp 0 (by decide)
  rcases (show p = 0 ∨ p = 1 by omega) with rfl | rfl
  · rwa [show 64 * 0 + 0 = 0 from rfl, h0] at this
  · rwa [show 64 * 1 + 0 = 64 from rfl, h1] at this
/-- the particles of a cell, ahead of the collision taken back -/
noncomputable def bkP (S : St) (r c : Nat) : Nat := paN (fun d => dB (EvN (vir S) r (opN d) c)) 6
noncomputable def bxS (S : St) (c r : Nat) : Int32 := if c < wN S ∧ r < hN S then (if z_ge (vS S c r) then nz (ivS S ((c + r + (tN S - 1)) % 2) (bkP S r c)) else vS S c r) else nz 0
noncomputable def backE (S : St) : St := fun k =>
  if k = 2 then nz (tN S - 1)
  else if k = 7 then nz (rN S - 1)
  else if 12 ≤ k ∧ k < 22 then (if (k - 12) % 5 = 2 then S k + sm 6 (fun j => -nz 1 * tkS (vir S) (j * 2 + (k - 12) / 5)) else if (k - 12) % 5 = 3 then S k + -nz 1 * wkS (vir S) ((k - 12) / 5) else S k)
  else if 22 ≤ k ∧ k < 34 then S k + -nz 1 * tkS (vir S) (k - 22)
  else if 34 ≤ k ∧ k < 66 then nz 0
  else if 882 ≤ k ∧ k < 1394 then bxS S ((k - 882) % 32) ((k - 882) / 32)
  else S k
theorem backE_keep {k : Nat} (h : k < 12 ∧ k ≠ 2 ∧ k ≠ 7 ∨ 66 ≤ k ∧ k < 882 ∨ 1394 ≤ k) : backE S k = S k := by
  unfold backE
  rw [if_neg (by omega), if_neg (by omega), if_neg (by omega), if_neg (by omega), if_neg (by omega), if_neg (by omega)]
theorem backE_sum {i : Nat} (h : i < 12) : backE S (22 + i) = S (22 + i) + -nz 1 * tkS (vir S) i := by
  unfold backE
  rw [if_neg (by omega), if_neg (by omega), if_neg (by omega), if_pos (by omega), Nat.add_sub_cancel_left]
theorem backE_cross {c : Nat} (h2 : c < 32) : backE S (34 + c) = nz 0 := by
  unfold backE
  rw [if_neg (by omega), if_neg (by omega), if_neg (by omega), if_neg (by omega), if_pos (by omega)]
theorem backE_cell {c r : Nat} (hc : c < 32) (hr : r < 16) : vS (backE S) c r = bxS S c r := by
  unfold vS backE
  rw [if_neg (by omega), if_neg (by omega), if_neg (by omega), if_neg (by omega), if_neg (by omega), if_pos (by omega)]
  rw [show (882 + (32 * r + c) - 882) % 32 = c by omega, show (882 + (32 * r + c) - 882) / 32 = r by omega]
theorem backE_mom {x k : Nat} (hx : x < 2) (hk : k < 5) : backE S (12 + 5 * x + k) = if k = 2 then S (12 + 5 * x + k) + sm 6 (fun j => -nz 1 * tkS (vir S) (j * 2 + x)) else if k = 3 then S (12 + 5 * x + k) + -nz 1 * wkS (vir S) x else S (12 + 5 * x + k) := by
  unfold backE
  rw [if_neg (by omega), if_neg (by omega), if_pos (by omega), show (12 + 5 * x + k - 12) % 5 = k by omega, show (12 + 5 * x + k - 12) / 5 = x by omega]
theorem backE_time : backE S 2 = nz (tN S - 1) := by
  unfold backE
  rw [if_pos rfl]
theorem backE_rn : backE S 7 = nz (rN S - 1) := by
  unfold backE
  rw [if_neg (by omega), if_pos rfl]
theorem backE_w : wN (backE S) = wN S := by unfold wN; rw [backE_keep (by omega)]
theorem backE_h : hN (backE S) = hN S := by unfold hN; rw [backE_keep (by omega)]
theorem backE_g : gN (backE S) = gN S := by unfold gN; rw [backE_keep (by omega)]
theorem backE_rN (hr : rN S ≤ 64) : rN (backE S) = rN S - 1 := by
  have h : rN (backE S) = (backE S 7).toNatClampNeg := rfl
  rw [h, backE_rn, nz_cl (by omega)]
theorem bkP_lt (r c : Nat) : bkP S r c < 64 := paN_lt _ 6
theorem bkP_bit {r c d : Nat} (hd : d < 6) : (bkP S r c).testBit d = dB (EvN (vir S) r (opN d) c) := by
  unfold bkP
  rw [paN_bit, decide_eq_true hd, Bool.true_and]
theorem EvN_no (hw : WF T S) {r c : Nat} (hc : c < 32) (hr : r < 16) (hz : z_ge (vS S c r) = false) (d : Nat) : dB (EvN (vir S) r d c) = false := dB_f fun h => by
  have := (EvN_ok (vir_wf hw) h).2
  rw [vir_ge hw hc hr, hz] at this
  cases this
theorem bxS_pq (hw : WF T S) (hv : Rev S) {c r d : Nat} (hd : d < 6) (hc : c < 32) (hr : r < 16) : pq (bxS S c r) d = if c < wN S ∧ r < hN S ∧ z_ge (vS S c r) = true then (ivS S ((c + r + (tN S - 1)) % 2) (bkP S r c)).testBit d else false := by
  unfold bxS
  by_cases q : c < wN S ∧ r < hN S
  · rw [if_pos q]
    cases hz : z_ge (vS S c r) with
    | true =>
      have h1 := iv_1 hw hv ((c + r + (tN S - 1)) % 2) (Nat.mod_lt _ (by decide)) (bkP S r c) (bkP_lt r c)
      rw [if_pos rfl, if_pos ⟨q.1, q.2, rfl⟩, pq_nz h1.1 hd]
    | false =>
      obtain ⟨k, hk, hv⟩ := okV_neg (hw.2.2.2.2.2.2.1 r hr c hc).1 hz
      rw [if_neg (show ¬ false = true by decide), hv, pq_neg hk, if_neg (fun z => by cases z.2.2)]
  · rw [if_neg q, pq_nz (by decide) hd, if_neg (fun z => q ⟨z.1, z.2.1⟩)]
    simp
theorem bxS_bq (hw : WF T S) (hv : Rev S) {c r k : Nat} (hk : k < 6) (hc : c < 32) (hr : r < 16) : bq (bxS S c r) k = bq (vS S c r) k := by
  have hf : ∀ n, n < 64 → ∀ k, k < 6 → bq (nz n) k = false := by decide +kernel
  have h7 := hw.2.2.2.2.2.2.1 r hr c hc
  unfold bxS
  by_cases q : c < wN S ∧ r < hN S
  · rw [if_pos q]
    cases hz : z_ge (vS S c r) with
    | true =>
      have h1 := iv_1 hw hv ((c + r + (tN S - 1)) % 2) (Nat.mod_lt _ (by decide)) (bkP S r c) (bkP_lt r c)
      rw [if_pos rfl, hf _ h1.1 k hk]
      cases hq : bq (vS S c r) k with
      | false => rfl
      | true =>
        have := bq_sol hk hq
        rw [hz] at this
        cases this
    | false => rw [if_neg (show ¬ false = true by decide)]
  · rw [if_neg q, h7.2 q]
theorem bxS_ok (hw : WF T S) (hv : Rev S) {c r : Nat} (hc : c < 32) (hr : r < 16) : okV (bxS S c r) ∧ (¬ (c < wN S ∧ r < hN S) → bxS S c r = nz 0) := by
  unfold bxS
  refine ⟨?_, fun q => if_neg q⟩
  by_cases q : c < wN S ∧ r < hN S
  · rw [if_pos q]
    cases hz : z_ge (vS S c r) with
    | true =>
      rw [if_pos rfl]
      exact Or.inl ⟨_, (iv_1 hw hv ((c + r + (tN S - 1)) % 2) (Nat.mod_lt _ (by decide)) (bkP S r c) (bkP_lt r c)).1, rfl⟩
    | false =>
      rw [if_neg (show ¬ false = true by decide)]
      exact (hw.2.2.2.2.2.2.1 r hr c hc).1
  · rw [if_neg q]
    exact okV_z
theorem backE_wf (hw : WF T S) (hv : Rev S) (hT : T < 900000) : WF T (backE S) := by
  have ht := hw.2.2.1
  have hr := hw.2.2.2.2.2.1
  have hg := hw.2.2.2.2.1
  have hT2 : tN (backE S) = tN S - 1 := by
    have : tN (backE S) = (backE S 2).toNatClampNeg := rfl
    rw [this, backE_time, nz_cl (by omega)]
  unfold WF
  rw [backE_w, backE_h, backE_g, hT2, backE_rN hr.1]
  refine ⟨⟨hw.1.1, hw.1.2.1, ?_⟩, ⟨hw.2.1.1, hw.2.1.2.1, ?_⟩, ⟨by omega, backE_time⟩, fun k hk => ?_, ⟨hg.1, ?_⟩, ⟨by omega, backE_rn⟩, fun r hr' c hc => ?_, fun g hg' => ?_, fun k hk => ?_, ⟨?_, ?_⟩, fun i hi j hj => ?_⟩
  · rw [backE_keep (by omega)]; exact hw.1.2.2
  · rw [backE_keep (by omega)]; exact hw.2.1.2.2
  · rw [backE_keep (by omega)]; exact hw.2.2.2.1 k hk
  · rw [backE_keep (by omega)]; exact hg.2
  · rw [backE_cell hc hr']
    exact bxS_ok hw hv hc hr'
  · have := hw.2.2.2.2.2.2.2.1 g hg'
    unfold gustOK at this ⊢
    rw [backE_w, backE_h, backE_keep (k := 66 + 8 * g) (by omega), backE_keep (k := 66 + 8 * g + 1) (by omega), backE_keep (k := 66 + 8 * g + 2) (by omega), backE_keep (k := 66 + 8 * g + 3) (by omega), backE_keep (k := 66 + 8 * g + 5) (by omega)]
    exact this
  · rw [backE_keep (by omega)]; exact hw.2.2.2.2.2.2.2.2.1 k hk
  · rw [backE_keep (by omega)]; exact hw.2.2.2.2.2.2.2.2.2.1.1
  · rw [backE_keep (by omega)]; exact hw.2.2.2.2.2.2.2.2.2.1.2
  · rw [backE_keep (by omega)]; exact hw.2.2.2.2.2.2.2.2.2.2 i (by omega) j hj
end
