section
variable {S S' : St} {T b c n k c0 l r0 i j r nc x N : Nat} {e : Nat → Nat × (Nat → Int32)} {m m' m0 m1 m2 : Mm} {w : Ml}
/-- a row's particles and their momentum, as the class counts them -/
theorem row_on (hw : WF T S) (hT : TR b m S) (hl : l < 32) (hc : c0 ≤ l) (hr : r < 16) : sm 6 (fun d => nz (pc (o_iand (m (b + 2) (r * 6 + d)) (cb c0 l)))) = sm (l + 1 - c0) (fun j => on1 (posV (vS S (c0 + j) r))) := by
  have h1 : sm 6 (fun d => nz (pc (o_iand (m (b + 2) (r * 6 + d)) (cb c0 l)))) = sm 6 (fun d => sm (l + 1 - c0) (fun j => b01 (pq (vS S (c0 + j) r) d))) := sm_congr fun d hd => by
    rw [pc_win hl hc]
    exact sm_congr fun j hj => by rw [hT.bits hr hd (by omega)]
  rw [h1, sm_swap]
  exact sm_congr fun j hj => (on_pos (hw.2.2.2.2.2.2.1 r hr (c0 + j) (by omega)).1).symm
theorem row_mo (hw : WF T S) (hT : TR b m S) (hl : l < 32) (hc : c0 ≤ l) (hr : r < 16) (hx : x < 2) : sm 6 (fun d => mo x d * -nz (pc (o_iand (m (b + 2) (r * 6 + d)) (cb c0 l)))) = sm (l + 1 - c0) (fun j => -nz 1 * pu x (posV (vS S (c0 + j) r))) := by
  have h1 : sm 6 (fun d => mo x d * -nz (pc (o_iand (m (b + 2) (r * 6 + d)) (cb c0 l)))) = sm 6 (fun d => sm (l + 1 - c0) (fun j => -nz 1 * (mo x d * b01 (pq (vS S (c0 + j) r) d)))) := sm_congr fun d hd => by
    rw [pc_win hl hc, ← neg_mulz, sm_mul, sm_mul]
    have : sm (l + 1 - c0) (fun j => b01 (bt (m (b + 2) (r * 6 + d)) (c0 + j))) = sm (l + 1 - c0) (fun j => b01 (pq (vS S (c0 + j) r) d)) := sm_congr fun j hj => by rw [hT.bits hr hd (by omega)]
    rw [this, ← Int32.mul_assoc, Int32.mul_comm (mo x d), Int32.mul_assoc]
  rw [h1, sm_swap]
  refine sm_congr fun j hj => ?_
  rw [sm_mul, ← pu_pos (hw.2.2.2.2.2.2.1 r hr (c0 + j) (by omega)).1 hx]
def emT (S : St) (c0 l r0 i : Nat) : St := su (emS S c0 l r0 i 0) 10 (S 10 + enC S c0 (l + 1 - c0) r0 i 0)
theorem emT_v (hc : c < 32) (hr : r < 16) : vS (emT S c0 l r0 i) c r = if z_gt (vS S c r) = true ∧ blkB c0 l r0 i 0 c r = true then nz 0 else vS S c r := by
  have : vS (emT S c0 l r0 i) c r = vS (emS S c0 l r0 i 0) c r := by
    unfold vS emT
    exact su_ne (by omega)
  rw [this, em_v hc hr]
theorem emT_ne {a : Nat} (h : ¬ (882 ≤ a ∧ a < 1394)) (h0 : a ≠ 10) (h1 : a ≠ 12) (h2 : a ≠ 17) : emT S c0 l r0 i a = S a := by
  unfold emT
  rw [su_ne h0, em_ne h h1 h2]
theorem emT_wf (hw : WF T S) (hl : l < wN S) (hr : r0 + i ≤ hN S) : WF T (emT S c0 l r0 i) := by
  refine WF.gen hw (fun j hj => emT_ne (by omega) (by omega) (by omega) (by omega)) (hw.fit fun k hk => emT_ne (by omega) (by omega) (by omega) (by omega)) (fun r hr2 c hc => ?_) (hw.gus fun j hj => emT_ne (by omega) (by omega) (by omega) (by omega)) (hw.boo fun k hk => emT_ne (by omega) (by omega) (by omega) (by omega))
  rw [emT_v hc hr2]
  by_cases q : z_gt (vS S c r) = true ∧ blkB c0 l r0 i 0 c r = true
  · rw [if_pos q]
    exact ⟨okV_z, fun _ => rfl⟩
  · rw [if_neg q]
    exact hw.2.2.2.2.2.2.1 r hr2 c hc
theorem pq_zgt {v : Int32} (hv : okV v) {d : Nat} (hd : d < 6) (h : z_gt v = false) : pq v d = false := by
  rcases hv with ⟨n, hn, rfl⟩ | ⟨k, hk, rfl⟩
  · have : n = 0 := by
      rw [zgt_nz (by omega), decide_eq_false_iff_not] at h
      omega
    subst this
    exact pq_0 hd
  · exact pq_neg hk
theorem bq_zgt {v : Int32} (hk : k < 6) (h : z_gt v = true) : bq v k = false := by
  cases q : bq v k with
  | false => rfl
  | true =>
    have hf : ∀ k, k < 6 → z_gt (-nz 1 - nz k) = false := by decide
    rw [bq_two hk q, hf k hk] at h
    exact absurd h (by decide)
def EmI (S : St) (b c0 l r0 i : Nat) (m1 m2 : Mm) : Prop := (∀ a, a ≠ b + 2 → a ≠ b + 9 → a ≠ b + 10 → m2 a = m1 a) ∧
  (∀ jj, m2 (b + 2) jj = if r0 * 6 ≤ jj ∧ jj < (r0 + i) * 6 then o_iand (m1 (b + 2) jj) (o_ixor (cb c0 l) (-1)) else m1 (b + 2) jj) ∧
  (∀ k, m2 (b + 9) k = m1 (b + 9) k + (if k = 2 then enC S c0 (l + 1 - c0) r0 i 0 else nz 0)) ∧
  (∀ k, m2 (b + 10) k = m1 (b + 10) k + (if k = 0 then emC S c0 (l + 1 - c0) r0 0 i 0 else if k = 1 then emC S c0 (l + 1 - c0) r0 1 i 0 else nz 0))
theorem EmI.tr (hb : TB b) (hw : WF T S) (hT : TR b m1 S) (hcl : c0 ≤ l) (hl : l < wN S) (hr : r0 + i ≤ hN S) (h : EmI S b c0 l r0 i m1 m2) : TR b m2 (emT S c0 l r0 i) := by
  have hW := hw.1.2.1
  have hH := hw.2.1.2.1
  obtain ⟨a1, a2, a3, a4⟩ := h
  have t9 : ∀ k, k < 4 → m1 (b + 9) k = S (8 + k) := hT.2.2.2.2.2.1
  have t10 : ∀ k, k < 5 → ∀ x, x < 2 → m1 (b + 10) (k * 2 + x) = S (12 + 5 * x + k) := hT.2.2.2.2.2.2.1
  have off : ∀ j, (j < 8 ∨ 22 ≤ j ∧ j < 882 ∨ 1394 ≤ j) → emT S c0 l r0 i j = S j := fun j hj => emT_ne (by omega) (by omega) (by omega) (by omega)
  have n := fun a h1 h2 h3 => a1 a h1 h2 h3
  refine hT.gen hw (n _ (by omega) (by omega) (by omega)) (n _ (by omega) (by omega) (by omega)) (n _ (by omega) (by omega) (by omega)) (n _ (by omega) (by omega) (by omega)) (by rw [n _ (by omega) (by omega) (by omega)]) (fun j hj => off j (by omega))
    (Or.inr ⟨fun r hr2 d hd c hc => ?_, fun r hr2 k' hk' c hc => ?_⟩) (Or.inl ⟨n _ (by omega) (by omega) (by omega), n _ (by omega) (by omega) (by omega), off _ (by omega), fun k hk => off _ (by omega)⟩)
    (Or.inr fun k hk => ?_) (Or.inr fun k hk x hx => ?_) (Or.inl ⟨n _ (by omega) (by omega) (by omega), fun k hk => off _ (by omega)⟩) (Or.inl ⟨n _ (by omega) (by omega) (by omega), by rw [n _ (by omega) (by omega) (by omega)], off _ (by omega), fun k hk => off _ (by omega)⟩) (Or.inl ⟨n _ (by omega) (by omega) (by omega), fun k hk => off _ (by omega)⟩)
  · have hv := (hw.2.2.2.2.2.2.1 r hr2 c hc).1
    rw [a2, emT_v hc hr2]
    by_cases q1 : r0 * 6 ≤ r * 6 + d ∧ r * 6 + d < (r0 + i) * 6
    · rw [if_pos q1, bt_and, bt_not _ hc, hT.bits hr2 hd hc, bt_cb (by omega) (by omega) hc]
      by_cases q2 : c0 ≤ c ∧ c ≤ l
      · have hB : blkB c0 l r0 i 0 c r = true := blkB_iff.mpr ⟨q2, by omega⟩
        rw [decide_eq_true q2.1, decide_eq_true q2.2, hB]
        cases z : z_gt (vS S c r) with
        | true =>
          rw [if_pos ⟨rfl, rfl⟩, pq_0 hd]
          simp
        | false =>
          rw [if_neg (fun y => absurd y.1 (by decide)), pq_zgt hv hd z]
          simp
      · have hf : (decide (c0 ≤ c) && decide (c ≤ l)) = false := by
          simp only [Bool.and_eq_false_iff, decide_eq_false_iff_not]
          omega
        rw [hf, if_neg (fun y => q2 (blkB_iff.mp y.2).1)]
        simp
    · rw [if_neg q1, hT.bits hr2 hd hc, if_neg (fun y => by
        have := blkB_iff.mp y.2
        omega)]
  · rw [n _ (by omega) (by omega) (by omega), hT.bod hr2 hk' hc, emT_v hc hr2]
    by_cases q : z_gt (vS S c r) = true ∧ blkB c0 l r0 i 0 c r = true
    · rw [if_pos q, bq_0 k' hk', bq_zgt hk' q.1]
    · rw [if_neg q]
  · rw [a3, t9 k hk]
    by_cases q : k = 2
    · subst q
      rw [if_pos rfl]
      exact su_at.symm
    · rw [if_neg q, add_z, emT_ne (by omega) (by omega) (by omega) (by omega)]
  · rw [a4, t10 k hk x hx]
    by_cases q1 : k * 2 + x = 0
    · obtain ⟨rfl, rfl⟩ : k = 0 ∧ x = 0 := by omega
      rw [if_pos rfl]
      rfl
    · rw [if_neg q1]
      by_cases q2 : k * 2 + x = 1
      · obtain ⟨rfl, rfl⟩ : k = 0 ∧ x = 1 := by omega
        rw [if_pos rfl]
        rfl
      · rw [if_neg q2, add_z, emT_ne (by omega) (by omega) (by omega) (by omega)]
theorem EmI.step (he : EO e) (hb : TB b) (hw : WF T S) (hT : TR b m1 S) (hcl : c0 ≤ l) (hl : l < wN S) (hr : r0 + i < hN S) (h : EmI S b c0 l r0 i m1 m2) : ∃ m3, f_X6_removeParticles [.ref b, .int (nz (r0 + i)), .int (cb c0 l), .int (nz 0)] (HM e m2 w) = some (HM e m3 w, .inl (some (.int (sm (l + 1 - c0) (fun j => on1 (posV (vS S (c0 + j) (r0 + i)))))))) ∧ EmI S b c0 l r0 (i + 1) m1 m3 := by
  have hW := hw.1.2.1
  have hH := hw.2.1.2.1
  obtain ⟨a1, a2, a3, a4⟩ := h
  obtain ⟨m3, g1, g2, g3, g4, g5⟩ := e_removeParticles (e := e) (w := w) (m := m2) (r := r0 + i) (a := 0) (x := cb c0 l) he hb (by omega) (by omega)
  have rd : ∀ d, d < 6 → m2 (b + 2) ((r0 + i) * 6 + d) = m1 (b + 2) ((r0 + i) * 6 + d) := fun d hd => by rw [a2, if_neg (by omega)]
  have e0 : sm 6 (fun d => nz (pc (o_iand (m2 (b + 2) ((r0 + i) * 6 + d)) (cb c0 l)))) = sm (l + 1 - c0) (fun j => on1 (posV (vS S (c0 + j) (r0 + i)))) := by
    rw [← row_on hw hT (by omega) hcl (by omega)]
    exact sm_congr fun d hd => by rw [rd d hd]
  have e1 : sm 6 (fun d => q_al d * -nz (pc (o_iand (m2 (b + 2) ((r0 + i) * 6 + d)) (cb c0 l)))) = sm (l + 1 - c0) (fun j => -nz 1 * pu 0 (posV (vS S (c0 + j) (r0 + i)))) := by
    rw [← row_mo hw hT (by omega) hcl (by omega) (by omega)]
    exact sm_congr fun d hd => by rw [rd d hd]; rfl
  have e2 : sm 6 (fun d => q_ac d * -nz (pc (o_iand (m2 (b + 2) ((r0 + i) * 6 + d)) (cb c0 l)))) = sm (l + 1 - c0) (fun j => -nz 1 * pu 1 (posV (vS S (c0 + j) (r0 + i)))) := by
    rw [← row_mo hw hT (by omega) hcl (by omega) (by omega)]
    exact sm_congr fun d hd => by rw [rd d hd]; rfl
  rw [e0] at g1 g4
  rw [e1, e2] at g5
  refine ⟨m3, g1, fun a h1 h2 h3 => by rw [g2 a h1 h2 h3, a1 a h1 h2 h3], fun jj => ?_, fun k => ?_, fun k => ?_⟩
  · rw [g3, a2]
    by_cases q1 : (r0 + i) * 6 ≤ jj ∧ jj < (r0 + i) * 6 + 6
    · rw [if_pos q1, if_neg (show ¬ (r0 * 6 ≤ jj ∧ jj < (r0 + i) * 6) by omega), if_pos (show r0 * 6 ≤ jj ∧ jj < (r0 + (i + 1)) * 6 by omega)]
    · rw [if_neg q1]
      by_cases q2 : r0 * 6 ≤ jj ∧ jj < (r0 + i) * 6
      · rw [if_pos q2, if_pos (by omega)]
      · rw [if_neg q2, if_neg (by omega)]
  · have hrow : enC S c0 (l + 1 - c0) r0 (i + 1) 0 = enC S c0 (l + 1 - c0) r0 i 0 + sm (l + 1 - c0) (fun j => on1 (posV (vS S (c0 + j) (r0 + i)))) := by
      unfold enC
      rw [sm_succ, sm_0, sm_0, add_z, add_z]
    rw [g4, su_v]
    by_cases q : k = 2
    · rw [if_pos q, if_pos q, a3, if_pos rfl, hrow, q, Int32.add_assoc]
    · rw [if_neg q, if_neg q, a3, if_neg q]
  · have hrow : ∀ x, emC S c0 (l + 1 - c0) r0 x (i + 1) 0 = emC S c0 (l + 1 - c0) r0 x i 0 + sm (l + 1 - c0) (fun j => -nz 1 * pu x (posV (vS S (c0 + j) (r0 + i)))) := fun x => by
      unfold emC
      rw [sm_succ, sm_0, sm_0, add_z, add_z]
    rw [g5, su_v]
    by_cases q1 : k = 1
    · subst q1
      rw [if_pos rfl, if_neg (by decide), if_pos rfl, a4, if_neg (by decide), if_pos rfl, hrow, Int32.add_assoc]
    · rw [if_neg q1, su_v]
      by_cases q0 : k = 0
      · subst q0
        rw [if_pos rfl, if_pos rfl, a4, if_pos rfl, hrow, Int32.add_assoc]
      · rw [if_neg q0, a4, if_neg q0, if_neg q1, if_neg q0, if_neg q1]
end
