section
variable {S S' : St} {T b c n k c0 l r0 i j r nc x t d : Nat} {e : Nat → Nat × (Nat → Int32)} {m m' m0 m1 m2 : Mm} {w : Ml}
def cnF (m1 : Mm) (b t c0 l R d : Nat) : Int32 := if t.testBit d = true then nz (pc (adn m1 b R d (cb c0 l))) else nz 0
def NCf (m1 : Mm) (b t c0 l r0 i d : Nat) : Int32 := sm i (fun i => sm 6 (fun d => cnF m1 b t c0 l (r0 + i) d)) + sm d (fun d => cnF m1 b t c0 l (r0 + i) d)
def MCf (m1 : Mm) (b t c0 l r0 x i d : Nat) : Int32 := sm i (fun i => sm 6 (fun d => mo x d * cnF m1 b t c0 l (r0 + i) d)) + sm d (fun d => mo x d * cnF m1 b t c0 l (r0 + i) d)
theorem cnF_j (hb : TB b) (hw : WF T S) (hT : TR b m1 S) (hl : l < 32) (hc : c0 ≤ l) (hr : r < 16) (hd : d < 6) : cnF m1 b t c0 l r d = sm (l + 1 - c0) (fun j => b01 (t.testBit d && (z_ge (vS S (c0 + j) r) && !pq (vS S (c0 + j) r) d))) := by
  unfold cnF
  cases q : t.testBit d with
  | false =>
    rw [if_neg (by decide)]
    refine (sm_zero fun j hj => ?_).symm
    rw [Bool.false_and]
    rfl
  | true =>
    rw [if_pos rfl]
    have bits : ∀ c, c < 32 → bt (adn m1 b r d (cb c0 l)) c = ((decide (c0 ≤ c) && decide (c ≤ l)) && (z_ge (vS S c r) && !pq (vS S c r) d)) := fun c hc => by
      rw [adn_bt hb hw hT hc hr hd, bt_cb (by omega) (by omega) hc]
    have e1 : adn m1 b r d (cb c0 l) = o_iand (adn m1 b r d (cb c0 l)) (cb c0 l) := bt_ext fun c hc => by
      rw [bt_and, bits c hc, bt_cb (by omega) (by omega) hc]
      cases (decide (c0 ≤ c) && decide (c ≤ l)) <;> simp
    rw [e1, pc_win hl hc]
    refine sm_congr fun j hj => ?_
    rw [bits _ (by omega), decide_eq_true (by omega), decide_eq_true (by omega), Bool.and_self, Bool.true_and]
theorem row_fn (hb : TB b) (hw : WF T S) (hT : TR b m1 S) (hl : l < 32) (hc : c0 ≤ l) (hr : r < 16) (ht : t < 64) : sm 6 (fun d => cnF m1 b t c0 l r d) = sm (l + 1 - c0) (fun j => on1 (mrF (nz t) (vS S (c0 + j) r))) := by
  have h1 : sm 6 (fun d => cnF m1 b t c0 l r d) = sm 6 (fun d => sm (l + 1 - c0) (fun j => b01 (t.testBit d && (z_ge (vS S (c0 + j) r) && !pq (vS S (c0 + j) r) d)))) := sm_congr fun d hd => cnF_j hb hw hT hl hc hr hd
  rw [h1, sm_swap]
  refine sm_congr fun j hj => ?_
  unfold on1
  exact sm_congr fun d hd => by rw [mr_bt (hw.2.2.2.2.2.2.1 r hr (c0 + j) (by omega)).1 ht hd]
theorem row_fm (hb : TB b) (hw : WF T S) (hT : TR b m1 S) (hl : l < 32) (hc : c0 ≤ l) (hr : r < 16) (ht : t < 64) : sm 6 (fun d => mo x d * cnF m1 b t c0 l r d) = sm (l + 1 - c0) (fun j => pu x (mrF (nz t) (vS S (c0 + j) r))) := by
  have h1 : sm 6 (fun d => mo x d * cnF m1 b t c0 l r d) = sm 6 (fun d => sm (l + 1 - c0) (fun j => mo x d * b01 (t.testBit d && (z_ge (vS S (c0 + j) r) && !pq (vS S (c0 + j) r) d)))) := sm_congr fun d hd => by rw [cnF_j hb hw hT hl hc hr hd, sm_mul]
  rw [h1, sm_swap]
  refine sm_congr fun j hj => ?_
  unfold pu
  refine sm_congr fun d hd => ?_
  rw [mr_bt (hw.2.2.2.2.2.2.1 r hr (c0 + j) (by omega)).1 ht hd]
  cases (t.testBit d && (z_ge (vS S (c0 + j) r) && !pq (vS S (c0 + j) r) d)) with
  | true =>
    rw [if_pos rfl]
    exact Int32.mul_one _
  | false =>
    rw [if_neg (by decide)]
    exact Int32.mul_zero
theorem NC_fn (hb : TB b) (hw : WF T S) (hT : TR b m1 S) (hl : l < 32) (hc : c0 ≤ l) (hr : r0 + i ≤ 16) (ht : t < 64) : NCf m1 b t c0 l r0 i 0 = fnC S (nz t) c0 (l + 1 - c0) r0 i 0 := by
  unfold NCf fnC
  rw [sm_0, sm_0, add_z, add_z]
  exact sm_congr fun i' hi => row_fn hb hw hT hl hc (by omega) ht
theorem MC_fl (hb : TB b) (hw : WF T S) (hT : TR b m1 S) (hl : l < 32) (hc : c0 ≤ l) (hr : r0 + i ≤ 16) (ht : t < 64) : MCf m1 b t c0 l r0 x i 0 = flC S (nz t) c0 (l + 1 - c0) r0 x i 0 := by
  unfold MCf flC
  rw [sm_0, sm_0, add_z, add_z]
  exact sm_congr fun i' hi => row_fm hb hw hT hl hc (by omega) ht
theorem NC_row : NCf m1 b t c0 l r0 i 6 = NCf m1 b t c0 l r0 (i + 1) 0 := by
  unfold NCf
  rw [sm_succ (n := i), sm_0, add_z]
theorem MC_row : MCf m1 b t c0 l r0 x i 6 = MCf m1 b t c0 l r0 x (i + 1) 0 := by
  unfold MCf
  rw [sm_succ (n := i), sm_0, add_z]
theorem NC_d : NCf m1 b t c0 l r0 i (d + 1) = NCf m1 b t c0 l r0 i d + cnF m1 b t c0 l (r0 + i) d := by
  unfold NCf
  rw [sm_succ (n := d), Int32.add_assoc]
theorem MC_d : MCf m1 b t c0 l r0 x i (d + 1) = MCf m1 b t c0 l r0 x i d + mo x d * cnF m1 b t c0 l (r0 + i) d := by
  unfold MCf
  rw [sm_succ (n := d), Int32.add_assoc]
def FlI (b t c0 l r0 i d : Nat) (m1 m2 : Mm) : Prop := (∀ a, a ≠ b + 2 → a ≠ b + 9 → a ≠ b + 10 → m2 a = m1 a) ∧
  (∀ jj, m2 (b + 2) jj = if (r0 * 6 ≤ jj ∧ jj < (r0 + i) * 6 + d) ∧ t.testBit (jj % 6) = true then o_ior (m1 (b + 2) jj) (adn m1 b (jj / 6) (jj % 6) (cb c0 l)) else m1 (b + 2) jj) ∧
  (∀ k, m2 (b + 9) k = m1 (b + 9) k + (if k = 0 then NCf m1 b t c0 l r0 i d else nz 0)) ∧
  (∀ k, m2 (b + 10) k = m1 (b + 10) k + (if k = 0 then MCf m1 b t c0 l r0 0 i d else if k = 1 then MCf m1 b t c0 l r0 1 i d else nz 0))
theorem FlI.zero : FlI b t c0 l r0 0 0 m1 m1 := by
  have n0 : NCf m1 b t c0 l r0 0 0 = nz 0 := nz0_add _
  have m0 : ∀ x, MCf m1 b t c0 l r0 x 0 0 = nz 0 := fun x => nz0_add _
  refine ⟨fun _ _ _ _ => rfl, fun jj => by rw [if_neg (by omega)], fun k => ?_, fun k => ?_⟩
  · rw [n0]
    split <;> rw [add_z]
  · rw [m0, m0]
    split
    · rw [add_z]
    · split <;> rw [add_z]
theorem FlI.row (h : FlI b t c0 l r0 i 6 m1 m2) : FlI b t c0 l r0 (i + 1) 0 m1 m2 := by
  obtain ⟨a1, a2, a3, a4⟩ := h
  refine ⟨a1, fun jj => ?_, fun k => ?_, fun k => ?_⟩
  · rw [a2]
    by_cases q : (r0 * 6 ≤ jj ∧ jj < (r0 + i) * 6 + 6) ∧ t.testBit (jj % 6) = true
    · rw [if_pos q, if_pos ⟨by omega, q.2⟩]
    · rw [if_neg q, if_neg (fun z => q ⟨by omega, z.2⟩)]
  · rw [a3, NC_row]
  · rw [a4, MC_row, MC_row]
theorem FlI.skip (h : FlI b t c0 l r0 i d m1 m2) (hd : d < 6) (hq : t.testBit d = false) : FlI b t c0 l r0 i (d + 1) m1 m2 := by
  obtain ⟨a1, a2, a3, a4⟩ := h
  have c0' : cnF m1 b t c0 l (r0 + i) d = nz 0 := by
    unfold cnF
    rw [hq]
    rfl
  have mz : ∀ x : Int32, x * nz 0 = nz 0 := fun x => Int32.mul_zero
  refine ⟨a1, fun jj => ?_, fun k => ?_, fun k => ?_⟩
  · rw [a2]
    by_cases q : (r0 * 6 ≤ jj ∧ jj < (r0 + i) * 6 + d) ∧ t.testBit (jj % 6) = true
    · rw [if_pos q, if_pos ⟨by omega, q.2⟩]
    · rw [if_neg q, if_neg (fun z => by
        by_cases y : jj = (r0 + i) * 6 + d
        · have := z.2
          rw [y, show ((r0 + i) * 6 + d) % 6 = d by omega, hq] at this
          exact absurd this (by decide)
        · exact q ⟨by omega, z.2⟩)]
  · rw [a3, NC_d, c0', add_z]
  · rw [a4, MC_d, MC_d, c0', mz, mz, add_z, add_z]
theorem FlI.step (he : EO e) (hb : TB b) (h : FlI b t c0 l r0 i d m1 m2) (hd : d < 6) (hr : r0 + i < 16) (hq : t.testBit d = true) : ∃ m3, f_X6_addParticles [.ref b, .int (nz (r0 + i)), .int (nz d), .int (cb c0 l)] (HM e m2 w) = some (HM e m3 w, .inl (some (.int (cnF m1 b t c0 l (r0 + i) d)))) ∧ FlI b t c0 l r0 i (d + 1) m1 m3 := by
  obtain ⟨a1, a2, a3, a4⟩ := h
  have aw := hb.aw
  have rd : m2 (b + 2) ((r0 + i) * 6 + d) = m1 (b + 2) ((r0 + i) * 6 + d) := by rw [a2, if_neg (by omega)]
  have ea : adn m2 b (r0 + i) d (cb c0 l) = adn m1 b (r0 + i) d (cb c0 l) := by
    unfold adn
    rw [rd, a1 (b + 3) (by omega) (by omega) (by omega)]
  have ec : cnF m1 b t c0 l (r0 + i) d = nz (pc (adn m1 b (r0 + i) d (cb c0 l))) := by
    unfold cnF
    rw [if_pos hq]
  obtain ⟨m3, g1, g2, g3, g4, g5⟩ := e_addParticles (e := e) (w := w) (m := m2) (r := r0 + i) (d := d) (x := cb c0 l) he hb hr hd
  rw [ea, ← ec] at g1 g4 g5
  rw [ea] at g3
  refine ⟨m3, g1, fun a h1 h2 h3 => by rw [g2 a h1 h2 h3, a1 a h1 h2 h3], fun jj => ?_, fun k => ?_, fun k => ?_⟩
  · rw [g3, su_v]
    by_cases y : jj = (r0 + i) * 6 + d
    · subst y
      rw [if_pos rfl, rd, if_pos ⟨by omega, by rw [show ((r0 + i) * 6 + d) % 6 = d by omega]; exact hq⟩, show ((r0 + i) * 6 + d) % 6 = d by omega, show ((r0 + i) * 6 + d) / 6 = r0 + i by omega]
    · rw [if_neg y, a2]
      by_cases q : (r0 * 6 ≤ jj ∧ jj < (r0 + i) * 6 + d) ∧ t.testBit (jj % 6) = true
      · rw [if_pos q, if_pos ⟨by omega, q.2⟩]
      · rw [if_neg q, if_neg (fun z => q ⟨by omega, z.2⟩)]
  · rw [g4, su_v]
    by_cases q : k = 0
    · rw [if_pos q, if_pos q, a3, if_pos rfl, NC_d, q, Int32.add_assoc]
    · rw [if_neg q, if_neg q, a3, if_neg q]
  · rw [g5, su_v]
    have m0 : mo 0 d = q_al d := rfl
    have m1' : mo 1 d = q_ac d := rfl
    by_cases q1 : k = 1
    · subst q1
      rw [if_pos rfl, if_neg (by decide), if_pos rfl, a4, if_neg (by decide), if_pos rfl, MC_d, m1', Int32.add_assoc]
    · rw [if_neg q1, su_v]
      by_cases q0 : k = 0
      · subst q0
        rw [if_pos rfl, if_pos rfl, a4, if_pos rfl, MC_d, m0, Int32.add_assoc]
      · rw [if_neg q0, a4, if_neg q0, if_neg q1, if_neg q0, if_neg q1]
theorem FlI.tr (hb : TB b) (hw : WF T S) (hT : TR b m1 S) (hcl : c0 ≤ l) (hl : l < wN S) (hr : r0 + i ≤ hN S) (ht : t < 64) (h : FlI b t c0 l r0 i 0 m1 m2) : TR b m2 (flT S (nz t) c0 l r0 i) := by
  have hW := hw.1.2.1
  have hH := hw.2.1.2.1
  obtain ⟨a1, a2, a3, a4⟩ := h
  rw [NC_fn hb hw hT (by omega) hcl (by omega) ht] at a3
  rw [MC_fl hb hw hT (by omega) hcl (by omega) ht, MC_fl hb hw hT (by omega) hcl (by omega) ht] at a4
  have t9 : ∀ k, k < 4 → m1 (b + 9) k = S (8 + k) := hT.2.2.2.2.2.1
  have t10 : ∀ k, k < 5 → ∀ x, x < 2 → m1 (b + 10) (k * 2 + x) = S (12 + 5 * x + k) := hT.2.2.2.2.2.2.1
  have off : ∀ j, (j < 8 ∨ 22 ≤ j ∧ j < 882 ∨ 1394 ≤ j) → flT S (nz t) c0 l r0 i j = S j := fun j hj => flT_ne (by omega) (by omega) (by omega) (by omega)
  have n := fun a h1 h2 h3 => a1 a h1 h2 h3
  refine hT.gen hw (n _ (by omega) (by omega) (by omega)) (n _ (by omega) (by omega) (by omega)) (n _ (by omega) (by omega) (by omega)) (n _ (by omega) (by omega) (by omega)) (by rw [n _ (by omega) (by omega) (by omega)]) (fun j hj => off j (by omega))
    (Or.inr ⟨fun r hr2 d hd c hc => ?_, fun r hr2 k' hk' c hc => ?_⟩) (Or.inl ⟨n _ (by omega) (by omega) (by omega), n _ (by omega) (by omega) (by omega), off _ (by omega), fun k hk => off _ (by omega)⟩)
    (Or.inr fun k hk => ?_) (Or.inr fun k hk x hx => ?_) (Or.inl ⟨n _ (by omega) (by omega) (by omega), fun k hk => off _ (by omega)⟩) (Or.inl ⟨n _ (by omega) (by omega) (by omega), by rw [n _ (by omega) (by omega) (by omega)], off _ (by omega), fun k hk => off _ (by omega)⟩) (Or.inl ⟨n _ (by omega) (by omega) (by omega), fun k hk => off _ (by omega)⟩)
  · have hv := (hw.2.2.2.2.2.2.1 r hr2 c hc).1
    rw [a2, flT_v hc hr2, show (r * 6 + d) % 6 = d by omega, show (r * 6 + d) / 6 = r by omega]
    by_cases q1 : (r0 * 6 ≤ r * 6 + d ∧ r * 6 + d < (r0 + i) * 6 + 0) ∧ t.testBit d = true
    · rw [if_pos q1, bt_or, hT.bits hr2 hd hc, adn_bt hb hw hT hc hr2 hd, bt_cb (by omega) (by omega) hc]
      by_cases q2 : c0 ≤ c ∧ c ≤ l
      · have hB : blkB c0 l r0 i 0 c r = true := blkB_iff.mpr ⟨q2, by omega⟩
        rw [decide_eq_true q2.1, decide_eq_true q2.2, if_pos hB, gF_pq hv ht hd, q1.2]
        cases pq (vS S c r) d <;> cases z_ge (vS S c r) <;> rfl
      · have hf : (decide (c0 ≤ c) && decide (c ≤ l)) = false := by
          simp only [Bool.and_eq_false_iff, decide_eq_false_iff_not]
          omega
        rw [hf, if_neg (fun y => q2 (blkB_iff.mp y).1)]
        simp
    · rw [if_neg q1, hT.bits hr2 hd hc]
      by_cases hB : blkB c0 l r0 i 0 c r = true
      · have := blkB_iff.mp hB
        have htf : t.testBit d = false := by
          cases z : t.testBit d with
          | false => rfl
          | true => exact absurd ⟨by omega, z⟩ q1
        rw [if_pos hB, gF_pq hv ht hd, htf, Bool.and_false, Bool.or_false]
      · rw [if_neg hB]
  · have hv := (hw.2.2.2.2.2.2.1 r hr2 c hc).1
    rw [n _ (by omega) (by omega) (by omega), hT.bod hr2 hk' hc, flT_v hc hr2]
    by_cases q : blkB c0 l r0 i 0 c r = true
    · rw [if_pos q, gF_bq hv ht hk']
    · rw [if_neg q]
  · rw [a3, t9 k hk]
    by_cases q : k = 0
    · subst q
      rw [if_pos rfl]
      exact su_at.symm
    · rw [if_neg q, add_z, flT_ne (by omega) (by omega) (by omega) (by omega)]
  · rw [a4, t10 k hk x hx]
    by_cases q1 : k * 2 + x = 0
    · obtain ⟨rfl, rfl⟩ : k = 0 ∧ x = 0 := by omega
      rw [if_pos rfl]
      rfl
    · rw [if_neg q1]
      by_cases q2 : k * 2 + x = 1
      · obtain ⟨rfl, rfl⟩ : k = 0 ∧ x = 1 := by omega
        rw [if_pos rfl]
        rfl
      · rw [if_neg q2, add_z, flT_ne (by omega) (by omega) (by omega) (by omega)]
end
