/-! THE MODEL'S TICK TAKEN BACK: all particles, then the collisions -/
section
variable {S : St} {T k : Nat} {e : Nat → Nat × (Nat → Int32)} {m : Mm} {w : Ml} {h : Hp}
def gB (S : St) (r d c k : Nat) : Int32 := if (nS S c r).testBit d then inB S r d c k else nz 0
def gT (S : St) (r d c i : Nat) : Int32 := if (nS S c r).testBit d then -nz 1 * inS (vir S) r (opN d) c (22 + i) else nz 0
def qB (S : St) (k q : Nat) : Int32 := gB S (q / 6 / wN S) (q % 6) (q / 6 % wN S) k
def qT (S : St) (i q : Nat) : Int32 := gT S (q / 6 / wN S) (q % 6) (q / 6 % wN S) i
def tqB (S : St) (q : Nat) : Option (Nat × Nat) := if (nS S (q / 6 % wN S) (q / 6 / wN S)).testBit (q % 6) then tgB S (q / 6 / wN S) (q % 6) (q / 6 % wN S) else none
def MoB (S : St) (m : Mm) (Q : Nat) (m1 : Mm) : Prop := (∀ a, a ≠ 134 → a ≠ 141 → a ≠ 142 → m1 a = m a) ∧ (∀ k, m1 134 k = bgS S k + sm Q (qB S k)) ∧ (∀ i, i < 12 → m1 142 i = sm Q (qT S i)) ∧ ∀ p j, p < 512 → j < 32 → (bt (m1 141 p) j = true ↔ ∃ q, q < Q ∧ tqB S q = some (j, p))
theorem qB_lo (hW : wN S ≤ 32) (hW4 : 4 ≤ wN S) {k q : Nat} (h : k < 11 ∨ 34 ≤ k) : qB S k q = nz 0 := by
  unfold qB gB
  split
  · unfold inB
    by_cases h2 : 34 ≤ k ∧ k < 66
    · rw [if_pos h2]
    · rw [if_neg h2, inS_lo (by rw [vir_w]; exact Nat.mod_lt _ (by omega)) (by rw [vir_w]; exact hW) (opN_lt _) (by omega)]
      exact Int32.mul_zero
  · rfl
theorem MoB.lo (hw : WF T S) {Q k : Nat} {m1 : Mm} (hI : MoB S m Q m1) (h : k < 11 ∨ 66 ≤ k) : m1 134 k = S k := by
  rw [hI.2.1 k, sm_zero (fun q _ => qB_lo hw.1.2.1 hw.1.1 (by omega)), add_nz0]
  unfold bgS
  rw [if_neg (by omega)]
theorem nS_pos (hw : WF T S) {c r d : Nat} (hc : c < 32) (hr : r < 16) (hd : d < 6) : (z_gt (vS S c r) && decide (bt (vS S c r) d = true)) = (nS S c r).testBit d := by
  rcases (hw.2.2.2.2.2.2.1 r hr c hc).1 with ⟨n, hn, hq⟩ | ⟨k, hk, hq⟩
  · have : nS S c r = n := by
      unfold nS
      rw [hq, zge_nz (by omega), if_pos rfl, nz_cl (by omega)]
    rw [this, hq, zgt_nz (by omega), bt_nz _ (by omega)]
    by_cases h0 : n = 0
    · rw [h0]; simp
    · rw [decide_eq_true (by omega), Bool.true_and]
      simp
  · have hf : ∀ k, k < 6 → z_gt (-1 - nz k) = false ∧ z_ge (-1 - nz k) = false := by decide
    have : nS S c r = 0 := by
      unfold nS
      rw [hq, (hf k hk).2, if_neg (by decide)]
    rw [this, hq, (hf k hk).1]
    simp
theorem mb_step (hw : WF T S) (hrg : rgB S = true) {r c d : Nat} {m1 : Mm} (hr : r < hN S) (hc : c < wN S) (hd : d < 6) (hI : MoB S m ((r * wN S + c) * 6 + d) m1) :
    ∃ m2, (sQ (sIf (cAnd (cZ z_gt (eM (gd 8 f_X8_had) (aI (aI (aA (aN) (eLa 0)) (eLi 2)) (eLi 1)))) (cB c_eq (eOp o_iand (eOp o_ishr (eM (gd 8 f_X8_had) (aI (aI (aA (aN) (eLa 0)) (eLi 2)) (eLi 1))) (eLi 3)) (eI (1))) (eI (1)))) (sM (gd 8 f_X8_stepBack) (aI (aI (aI (aA (aN) (eLa 0)) (eLi 2)) (eLi 1)) (eLi 3))) sN) (sInc 3 (1))) [.ref 133, .int (nz r), .int (nz c), .int (nz d)] (HM e m1 w) = some (HM e m2 w, .inl [.ref 133, .int (nz r), .int (nz c), .int (nz (d + 1))]) ∧ MoB S m ((r * wN S + c) * 6 + d + 1) m2 := by
  have hW := hw.1.2.1
  have hH := hw.2.1.2.1
  have hlo := fun k (h : k < 11 ∨ 66 ≤ k) => hI.lo hw h
  have hA : ∀ k, k < 8 → m1 134 k = S k := fun k hk => hlo k (by omega)
  have hcell : ∀ c r, c < 32 → r < 16 → vS (m1 134) c r = vS S c r := fun c r hc hr => hlo _ (by omega)
  obtain ⟨d1, d2, d3⟩ := dec_q (r := r) hc hd
  have hg : ∀ k, qB S k ((r * wN S + c) * 6 + d) = gB S r d c k := fun k => by
    unfold qB
    rw [d1, d2, d3]
  have hgT : ∀ i, qT S i ((r * wN S + c) * 6 + d) = gT S r d c i := fun i => by
    unfold qT
    rw [d1, d2, d3]
  have htq : tqB S ((r * wN S + c) * 6 + d) = if (nS S c r).testBit d then tgB S r d c else none := by
    unfold tqB
    rw [d1, d2, d3]
  obtain ⟨i1, i2, i3, i4⟩ := hI
  have hpr := nS_pos hw (show c < 32 by omega) (show r < 16 by omega) hd
  rw [← hcell c r (by omega) (by omega)] at hpr
  have hex : ∀ p j, (∃ q, q < (r * wN S + c) * 6 + d + 1 ∧ tqB S q = some (j, p)) ↔ (∃ q, q < (r * wN S + c) * 6 + d ∧ tqB S q = some (j, p)) ∨ tqB S ((r * wN S + c) * 6 + d) = some (j, p) := by
    intro p j
    constructor
    · rintro ⟨q, q1, q2⟩
      by_cases hq : q = (r * wN S + c) * 6 + d
      · subst hq; exact Or.inr q2
      · exact Or.inl ⟨q, by omega, q2⟩
    · rintro (⟨q, q1, q2⟩ | q2)
      · exact ⟨q, by omega, q2⟩
      · exact ⟨_, by omega, q2⟩
  cases hp : (nS S c r).testBit d with
  | false =>
    rw [hp] at hpr
    refine ⟨m1, ?_, i1, fun k => ?_, fun i hi => ?_, fun p j hp' hj => ?_⟩
    · simp (disch := omega) only [mth_w, kR_w, kR_if, sQ_v, sN_v, sTi_v, sTa_v, sTl_v, sR_v, sRv_v, sX_v, sPi_v, sPo_v, sPz_w, zP_b, sRz_w, zR_bw, zR_0w, zR_1w, sPa_v, sAi_v, sAl_v, sAo_v, sAa_v, sM_w, sMp_w, eM_w, sIf_w, eIf_w, cAnd_w, cOr_w, cB_v, cZ_v, cNot_v, eC_v, eI_v, eJ_v, eOp_v, eQ_v, eU_v, eIL_v, eLO_v, eLS_v, eLC_v, eGi_v, eGa_v, eZ_w, eAi_v, eAl_v, eAa_v, eAn_v, aN_v, aI_v, aA_v, sInc_v, sB_okw, sB_xw, eS_okw, eS_xw, eB_okw, eB_xw, oE_w, oS_w, kI_iw, kI_xw, kV_w, kV_xw, kP_iw, kP_xw, List.set_cons_zero, List.set_cons_succ, List.cons_append, List.nil_append, List.length_cons, List.length_nil, List.replicate_succ, List.replicate_zero, List.append_nil, bif_and, bif_or, zne_b01, zeq_b01, bif_d, cond_true, cond_false, nar_0, o_iadd, o_isub, o_imul, c_eq, c_ne, c_lt, c_ge, c_gt, c_le, Nat.reduceAdd, Nat.reduceSub, Nat.zero_add, if_true, if_false, eLl_2, eLi_0, eLi_1, eLi_2, eLi_3, eLi_4, eLi_5, eLi_6, eLi_7, eLi_8, eLi_9, eLi_10, eLi_11, eLi_12, eLi_13, eLa_0, eLa_1, eLa_2, eLa_3, eLa_4, eLa_5, eLa_6, eLa_7, nz_add, nz_mul, nz_sub, nz_lt, nz_le, nz_inj, zeq_nz, zne_nz, zge_nz, zgt_nz, zlt_nz, nlit0, nlit1, nlit2, nlit3, nlit4, nlit5, nlit6, nlit7, nlit8, nlit9, nlit10, nlit11, nlit12, nlit16, nlit18, nlit22, nlit31, nlit32, nlit33, nlit34, nlit40, nlit48, nlit60, nlit63, nlit64, nlit66, nlit80, nlit96, nlit114, nlit126, nlit128, nlit512, nlit756, nlit882, nlit1000, nlit1394, nlit1522, nlit1523, nlit10000, gd_133, rf_133_0, rf_133_1, rf_133_2, rf_133_3, rf_133_4, rf_133_5, rf_133_6, rf_133_7, rf_133_8, rd_133_9, wr_133_9, rd_133_10, wr_133_10, rf_133_11, rd_133_12, wr_133_12, rd_133_13, wr_133_13, rd_133_14, wr_133_14, rd_133_15, wr_133_15, rd_133_16, wr_133_16, rf_133_17, rf_133_18, ar_134, aw_134, an_134, ar_135, aw_135, an_135, ar_136, aw_136, an_136, ar_137, aw_137, ar_138, aw_138, an_138, ar_139, aw_139, an_139, ar_140, aw_140, an_140, ar_141, aw_141, an_141, ar_142, aw_142, an_142, ar_143, aw_143, an_143, ar_144, aw_144, an_144, ar_145, aw_145, e_had, and1, bt_shr, b01_eq, hpr]
    · have : gB S r d c k = nz 0 := by unfold gB; rw [hp, if_neg (by decide)]
      rw [i2 k, sm_succ, hg, this, add_nz0]
    · have : gT S r d c i = nz 0 := by unfold gT; rw [hp, if_neg (by decide)]
      rw [i3 i hi, sm_succ, hgT, this, add_nz0]
    · rw [i4 p j hp' hj, hex, htq, hp, if_neg (by decide)]
      exact ⟨Or.inl, fun z => z.elim id (fun y => by cases y)⟩
  | true =>
    rw [hp] at hpr
    obtain ⟨m2, g0, g1, g2, g3, g4⟩ := e_stepBack (e := e) (w := w) (m := m1) hw hrg hr hd hc hA hcell
    refine ⟨m2, ?_, fun a a1 a2 a3 => by rw [g1 a a1 a2 a3, i1 a a1 a2 a3], fun k => ?_, fun i hi => ?_, fun p j hp' hj => ?_⟩
    · simp (disch := omega) only [mth_w, kR_w, kR_if, sQ_v, sN_v, sTi_v, sTa_v, sTl_v, sR_v, sRv_v, sX_v, sPi_v, sPo_v, sPz_w, zP_b, sRz_w, zR_bw, zR_0w, zR_1w, sPa_v, sAi_v, sAl_v, sAo_v, sAa_v, sM_w, sMp_w, eM_w, sIf_w, eIf_w, cAnd_w, cOr_w, cB_v, cZ_v, cNot_v, eC_v, eI_v, eJ_v, eOp_v, eQ_v, eU_v, eIL_v, eLO_v, eLS_v, eLC_v, eGi_v, eGa_v, eZ_w, eAi_v, eAl_v, eAa_v, eAn_v, aN_v, aI_v, aA_v, sInc_v, sB_okw, sB_xw, eS_okw, eS_xw, eB_okw, eB_xw, oE_w, oS_w, kI_iw, kI_xw, kV_w, kV_xw, kP_iw, kP_xw, List.set_cons_zero, List.set_cons_succ, List.cons_append, List.nil_append, List.length_cons, List.length_nil, List.replicate_succ, List.replicate_zero, List.append_nil, bif_and, bif_or, zne_b01, zeq_b01, bif_d, cond_true, cond_false, nar_0, o_iadd, o_isub, o_imul, c_eq, c_ne, c_lt, c_ge, c_gt, c_le, Nat.reduceAdd, Nat.reduceSub, Nat.zero_add, if_true, if_false, eLl_2, eLi_0, eLi_1, eLi_2, eLi_3, eLi_4, eLi_5, eLi_6, eLi_7, eLi_8, eLi_9, eLi_10, eLi_11, eLi_12, eLi_13, eLa_0, eLa_1, eLa_2, eLa_3, eLa_4, eLa_5, eLa_6, eLa_7, nz_add, nz_mul, nz_sub, nz_lt, nz_le, nz_inj, zeq_nz, zne_nz, zge_nz, zgt_nz, zlt_nz, nlit0, nlit1, nlit2, nlit3, nlit4, nlit5, nlit6, nlit7, nlit8, nlit9, nlit10, nlit11, nlit12, nlit16, nlit18, nlit22, nlit31, nlit32, nlit33, nlit34, nlit40, nlit48, nlit60, nlit63, nlit64, nlit66, nlit80, nlit96, nlit114, nlit126, nlit128, nlit512, nlit756, nlit882, nlit1000, nlit1394, nlit1522, nlit1523, nlit10000, gd_133, rf_133_0, rf_133_1, rf_133_2, rf_133_3, rf_133_4, rf_133_5, rf_133_6, rf_133_7, rf_133_8, rd_133_9, wr_133_9, rd_133_10, wr_133_10, rf_133_11, rd_133_12, wr_133_12, rd_133_13, wr_133_13, rd_133_14, wr_133_14, rd_133_15, wr_133_15, rd_133_16, wr_133_16, rf_133_17, rf_133_18, ar_134, aw_134, an_134, ar_135, aw_135, an_135, ar_136, aw_136, an_136, ar_137, aw_137, ar_138, aw_138, an_138, ar_139, aw_139, an_139, ar_140, aw_140, an_140, ar_141, aw_141, an_141, ar_142, aw_142, an_142, ar_143, aw_143, an_143, ar_144, aw_144, an_144, ar_145, aw_145, e_had, and1, bt_shr, b01_eq, hpr, g0]
    · have : gB S r d c k = inB S r d c k := by unfold gB; rw [hp, if_pos rfl]
      rw [g2 k, i2 k, sm_succ, hg, this, Int32.add_assoc]
    · have : gT S r d c i = -nz 1 * inS (vir S) r (opN d) c (22 + i) := by unfold gT; rw [hp, if_pos rfl]
      rw [g3 i hi, i3 i hi, sm_succ, hgT, this]
    · rw [g4 p j hj, i4 p j hp' hj, hex, htq, hp, if_pos rfl]
-- the sums
theorem sB_flat {f : Nat → Nat → Nat → Int32} : sm (hN S * wN S * 6) (fun q => f (q / 6 / wN S) (q % 6) (q / 6 % wN S)) = sm (hN S) (fun r => sm (wN S) (fun c => sm 6 (fun d => f r d c))) := by
  rw [sm_flat, sm_flat]
  refine sm_congr fun r hr => sm_congr fun c hc => sm_congr fun d hd => ?_
  obtain ⟨d1, d2, d3⟩ := dec_q (r := r) hc hd
  rw [d1, d2, d3]
theorem tot_f : tot S k = sm (hN S) (fun r => sm (wN S) (fun c => sm 6 (fun d => gv S r d c k))) := by
  rw [tot_v]
  exact sm_congr fun r _ => sm_swap
theorem gB_gv (hw : WF T S) {r d c k : Nat} (hr : r < hN S) (hc : c < wN S) (hd : d < 6) (hk : ¬ (34 ≤ k ∧ k < 66)) : gB S r d c k = -nz 1 * gv (vir S) r (opN d) c k := by
  have hW := hw.1.2.1
  have hH := hw.2.1.2.1
  have hp := vir_pr hw (show c < 32 by omega) (show r < 16 by omega) (opN_lt d)
  rw [opN_op hd] at hp
  unfold gB
  cases hb : (nS S c r).testBit d with
  | true =>
    rw [if_pos rfl, gv_t (by rw [hp, hb])]
    unfold inB
    rw [if_neg hk]
  | false =>
    rw [if_neg (by decide), gv_f (by rw [hp, hb])]
    exact Int32.mul_zero.symm
theorem gT_gv (hw : WF T S) {r d c i : Nat} (hr : r < hN S) (hc : c < wN S) (hd : d < 6) : gT S r d c i = -nz 1 * gv (vir S) r (opN d) c (22 + i) := by
  have hW := hw.1.2.1
  have hH := hw.2.1.2.1
  have hp := vir_pr hw (show c < 32 by omega) (show r < 16 by omega) (opN_lt d)
  rw [opN_op hd] at hp
  unfold gT
  cases hb : (nS S c r).testBit d with
  | true => rw [if_pos rfl, gv_t (by rw [hp, hb])]
  | false =>
    rw [if_neg (by decide), gv_f (by rw [hp, hb])]
    exact Int32.mul_zero.symm
theorem neg_tot (f : Nat → Nat → Nat → Int32) (hf : ∀ r, r < hN S → ∀ c, c < wN S → ∀ d, d < 6 → f r d c = -nz 1 * gv (vir S) r (opN d) c k) : sm (hN S) (fun r => sm (wN S) (fun c => sm 6 (fun d => f r d c))) = -nz 1 * tot (vir S) k := by
  have h1 : sm (hN S) (fun r => sm (wN S) (fun c => sm 6 (fun d => f r d c))) = sm (hN S) (fun r => -nz 1 * sm (wN S) (fun c => sm 6 (fun d => gv (vir S) r d c k))) := by
    refine sm_congr fun r hr => ?_
    rw [← sm_mul]
    refine sm_congr fun c hc => ?_
    rw [← sm_op (f := fun d => gv (vir S) r d c k), ← sm_mul]
    exact sm_congr fun d hd => hf r hr c hc d hd
  rw [h1, sm_mul, tot_f, vir_w, vir_h]
theorem totB (hw : WF T S) {k : Nat} (hk : ¬ (34 ≤ k ∧ k < 66)) : sm (hN S * wN S * 6) (qB S k) = -nz 1 * tot (vir S) k := by
  exact Eq.trans (sB_flat (S := S) (f := fun r d c => gB S r d c k)) (neg_tot (fun r d c => gB S r d c k) fun r hr c hc d hd => gB_gv hw hr hc hd hk)
theorem totT (hw : WF T S) {i : Nat} : sm (hN S * wN S * 6) (qT S i) = -nz 1 * tot (vir S) (22 + i) := by
  exact Eq.trans (sB_flat (S := S) (f := fun r d c => gT S r d c i)) (neg_tot (fun r d c => gT S r d c i) fun r hr c hc d hd => gT_gv hw hr hc hd)
-- the cells
theorem tgS_j {r d c j p : Nat} (hd : d < 6) (h : tgS S r d c = some (j, p)) : j < 6 := by
  unfold tgS at h
  split at h
  · have := congrArg Prod.fst (Option.some.inj h)
    have h2 := tuS_lt (S := S) d
    dsimp only at this
    omega
  · split at h
    · cases h
    · split at h
      · have := congrArg Prod.fst (Option.some.inj h)
        dsimp only at this
        omega
      · have := congrArg Prod.fst (Option.some.inj h)
        have h2 := opN_lt d
        dsimp only at this
        omega
theorem tqB_ex (hw : WF T S) {j p : Nat} : (∃ q, q < hN S * wN S * 6 ∧ tqB S q = some (j, p)) ↔ j < 6 ∧ ∃ q, q < hN S * wN S * 6 ∧ tqS (vir S) q = some (opN j, p) := by
  have hW := hw.1
  have hH := hw.2.1.2.1
  have dec : ∀ q, q < hN S * wN S * 6 → q / 6 / wN S < hN S ∧ q / 6 % wN S < wN S ∧ q % 6 < 6 ∧ q / 6 / wN S * wN S + q / 6 % wN S = q / 6 := fun q hq => by
    have hq2 : q / 6 < hN S * wN S := by omega
    have h4 := Nat.div_add_mod (q / 6) (wN S)
    rw [Nat.mul_comm] at h4
    exact ⟨(Nat.div_lt_iff_lt_mul (by omega)).mpr hq2, Nat.mod_lt _ (by omega), Nat.mod_lt _ (by decide), h4⟩
  have key : ∀ q, q < hN S * wN S * 6 → ∀ jj, (tqB S q = some (jj, p) ↔ jj < 6 ∧ tqS (vir S) (q / 6 * 6 + opN (q % 6)) = some (opN jj, p)) := fun q hq jj => by
    obtain ⟨a1, a2, a3, a4⟩ := dec q hq
    have ho := opN_lt (q % 6)
    have e1 : (q / 6 * 6 + opN (q % 6)) / 6 = q / 6 := by omega
    have e2 : (q / 6 * 6 + opN (q % 6)) % 6 = opN (q % 6) := by omega
    have hp := vir_pr hw (show q / 6 % wN S < 32 by omega) (show q / 6 / wN S < 16 by omega) ho
    rw [opN_op a3] at hp
    unfold tqB tqS
    rw [e1, e2, vir_w, hp]
    cases (nS S (q / 6 % wN S) (q / 6 / wN S)).testBit (q % 6) with
    | false =>
      rw [if_neg (by decide), if_neg (by decide)]
      exact ⟨fun z => (by cases z), fun z => (by cases z.2)⟩
    | true =>
      rw [if_pos rfl, if_pos rfl]
      unfold tgB
      cases ht : tgS (vir S) (q / 6 / wN S) (opN (q % 6)) (q / 6 % wN S) with
      | none => exact ⟨fun z => (by cases z), fun z => (by cases z.2)⟩
      | some x =>
        obtain ⟨x1, x2⟩ := x
        have hx := tgS_j ho ht
        dsimp only
        constructor
        · intro z
          have z1 := congrArg Prod.fst (Option.some.inj z)
          have z2 := congrArg Prod.snd (Option.some.inj z)
          dsimp only at z1 z2
          rw [← z1, ← z2, opN_op hx]
          exact ⟨opN_lt _, rfl⟩
        · rintro ⟨z0, z⟩
          have z1 := congrArg Prod.fst (Option.some.inj z)
          have z2 := congrArg Prod.snd (Option.some.inj z)
          dsimp only at z1 z2
          rw [z1, z2, opN_op z0]
  constructor
  · rintro ⟨q, q1, q2⟩
    obtain ⟨z0, z⟩ := (key q q1 j).mp q2
    have ho := opN_lt (q % 6)
    exact ⟨z0, _, by omega, z⟩
  · rintro ⟨hj, q, q1, q2⟩
    have ho := opN_lt (q % 6)
    have hq' : q / 6 * 6 + opN (q % 6) < hN S * wN S * 6 := by omega
    refine ⟨_, hq', (key _ hq' j).mpr ⟨hj, ?_⟩⟩
    have e1 : (q / 6 * 6 + opN (q % 6)) / 6 = q / 6 := by omega
    have e2 : (q / 6 * 6 + opN (q % 6)) % 6 = opN (q % 6) := by omega
    rw [e1, e2, opN_op (Nat.mod_lt _ (by decide)), show q / 6 * 6 + q % 6 = q by omega]
    exact q2
theorem nxB_bits (hw : WF T S) {N : Int32} {r c : Nat} (hc : c < wN S) (hr : r < hN S) (hN' : ∀ j, j < 32 → (bt N j = true ↔ ∃ q, q < hN S * wN S * 6 ∧ tqB S q = some (j, 32 * r + c))) : N = nz (bkP S r c) := by
  have hN2 : ∀ j, j < 32 → (bt (nz (paN (fun d => bt N (opN d)) 6)) j = true ↔ ∃ q, q < hN (vir S) * wN (vir S) * 6 ∧ tqS (vir S) q = some (j, 32 * r + c)) := fun j hj => by
    rw [vir_h, vir_w, bt_nz _ hj, paN_bit]
    by_cases h6 : j < 6
    · have ho := opN_lt j
      rw [decide_eq_true h6, Bool.true_and, hN' _ (by omega), tqB_ex hw, opN_op h6]
      exact ⟨fun z => z.2, fun z => ⟨ho, z⟩⟩
    · rw [decide_eq_false h6, Bool.false_and]
      refine ⟨fun z => (by cases z), ?_⟩
      rintro ⟨q, q1, q2⟩
      unfold tqS at q2
      split at q2
      · exact absurd (tgS_j (Nat.mod_lt _ (by decide)) q2) h6
      · cases q2
  have h1 := nx_bits (vir_wf hw) (by rw [vir_w]; exact hc) (by rw [vir_h]; exact hr) hN2
  apply bt_ext
  intro j hj
  have hl := bkP_lt (S := S) r c
  rw [bt_nz _ hj]
  by_cases h6 : j < 6
  · have h2 := congrArg (fun x => bt x (opN j)) h1
    have ho := opN_lt j
    rw [bt_nz _ (by omega), bt_nz _ (by omega), paN_bit, paN_bit, decide_eq_true ho, Bool.true_and, Bool.true_and, opN_op h6] at h2
    rw [h2, bkP_bit h6]
  · have h3 : (bkP S r c).testBit j = false := by
      unfold bkP
      rw [paN_bit, decide_eq_false h6, Bool.false_and]
    rw [h3]
    cases hb : bt N j with
    | false => rfl
    | true => exact absurd ((tqB_ex hw).mp ((hN' j hj).mp hb)).1 h6
end
