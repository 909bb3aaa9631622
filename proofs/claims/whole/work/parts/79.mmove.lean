/-! THE MODEL'S TICK: collisions, then all particles -/
theorem ite_ic {p q : Prop} [Decidable p] [Decidable q] (h : p ↔ q) {a b : Int32} : (if p then a else b) = if q then a else b := by
  by_cases hp : p
  · rw [if_pos hp, if_pos (h.mp hp)]
  · rw [if_neg hp, if_neg (fun z => hp (h.mpr z))]
/-- the model's row while it collides: rows below r0, and c0 columns of the row r0, are done -/
def colF (S : St) (r0 c0 : Nat) : St := fun k => if 34 ≤ k ∧ k < 66 then nz 0 else if (882 ≤ k ∧ k < 1394) ∧ ((k - 882) / 32 < r0 ∧ (k - 882) % 32 < wN S ∨ (k - 882) / 32 = r0 ∧ (k - 882) % 32 < c0) ∧ z_ge (S k) = true then nz (uS S ((k - 882) % 32) ((k - 882) / 32)) else S k
section
variable {S : St} {T : Nat} {e : Nat → Nat × (Nat → Int32)} {m : Mm} {w : Ml} {h : Hp}
theorem colF_lo {r c k : Nat} (h : k < 34 ∨ 66 ≤ k ∧ k < 882 ∨ 1394 ≤ k) : colF S r c k = S k := by
  unfold colF
  rw [if_neg (by omega), if_neg (fun z => by omega)]
theorem colF_0 : colF S 0 0 = bgS S := by
  funext k
  unfold colF bgS
  by_cases h : 34 ≤ k ∧ k < 66
  · rw [if_pos h, if_pos h]
  · rw [if_neg h, if_neg h, if_neg (fun z => by omega)]
theorem colF_row {r : Nat} : colF S r (wN S) = colF S (r + 1) 0 := by
  funext k
  unfold colF
  by_cases h : 34 ≤ k ∧ k < 66
  · rw [if_pos h, if_pos h]
  · rw [if_neg h, if_neg h]
    exact ite_ic (and_congr Iff.rfl (and_congr (by omega) Iff.rfl))
theorem colF_now {r c : Nat} (hr : r < 16) (hc : c < 32) : colF S r c (882 + (32 * r + c)) = S (882 + (32 * r + c)) := by
  unfold colF
  rw [if_neg (by omega), if_neg (fun z => by omega)]
theorem colF_s {r c : Nat} (hr : r < 16) (hc : c < 32) : colF S r (c + 1) = su (colF S r c) (882 + (32 * r + c)) (if z_ge (vS S c r) then nz (uS S c r) else vS S c r) := by
  funext k
  unfold su
  by_cases h : k = 882 + (32 * r + c)
  · rw [if_pos h, h]
    unfold colF
    rw [if_neg (by omega), show (882 + (32 * r + c) - 882) / 32 = r by omega, show (882 + (32 * r + c) - 882) % 32 = c by omega]
    exact ite_ic ⟨fun z => z.2.2, fun z => ⟨by omega, by omega, z⟩⟩
  · rw [if_neg h]
    unfold colF
    by_cases h4 : 34 ≤ k ∧ k < 66
    · rw [if_pos h4, if_pos h4]
    · rw [if_neg h4, if_neg h4]
      by_cases h2 : 882 ≤ k ∧ k < 1394
      · exact ite_ic (and_congr Iff.rfl (and_congr (by omega) Iff.rfl))
      · rw [if_neg (fun z => h2 z.1), if_neg (fun z => h2 z.1)]
theorem colF_end (hw : WF T S) {c r : Nat} (hc : c < 32) (hr : r < 16) : vS (colF S (hN S) 0) c r = if z_ge (vS S c r) then nz (uS S c r) else vS S c r := by
  have h9 : vS (colF S (hN S) 0) c r = if ((r < hN S ∧ c < wN S ∨ r = hN S ∧ c < 0) ∧ z_ge (vS S c r) = true) then nz (uS S c r) else vS S c r := by
    show colF S (hN S) 0 (882 + (32 * r + c)) = _
    unfold colF
    rw [if_neg (by omega), show (882 + (32 * r + c) - 882) / 32 = r by omega, show (882 + (32 * r + c) - 882) % 32 = c by omega]
    exact ite_ic ⟨fun z => z.2, fun z => ⟨by omega, z⟩⟩
  rw [h9]
  by_cases h : r < hN S ∧ c < wN S
  · cases hz : z_ge (vS S c r) with
    | true => rw [if_pos ⟨Or.inl h, rfl⟩, if_pos rfl]
    | false => rw [if_neg (fun z => by cases z.2), if_neg (by decide)]
  · rw [if_neg (fun z => by omega)]
    have h0 : vS S c r = nz 0 := (hw.2.2.2.2.2.2.1 r hr c hc).2 (by omega)
    have h1 : nS S c r = 0 := (nS_ok hw hc hr).2.2 (by omega)
    rw [uS_0 hw h1, h0]
    rfl
theorem uS_lt (hw : WF T S) {c r : Nat} (hc : c < 32) (hr : r < 16) : uS S c r < 64 := by
  have hb := bkN_ok hw
  have hn2 := (nS_ok hw hc hr).1
  unfold uS
  exact (hb.1 _ (by omega)).1
/-- what a collision writes -/
theorem col_val (hw : WF T S) {c r : Nat} (hc : c < 32) (hr : r < 16) : (z_gt (vS S c r) = true → ∃ n, n < 64 ∧ vS S c r = nz n ∧ S (1394 + 64 * ((c + r + tN S) % 2) + n) = nz (uS S c r) ∧ z_ge (vS S c r) = true) ∧ (z_gt (vS S c r) = false → (if z_ge (vS S c r) then nz (uS S c r) else vS S c r) = vS S c r) := by
  have hv := (hw.2.2.2.2.2.2.1 r hr c hc).1
  have hb := bkN_ok hw
  have hns : ∀ n, n < 64 → vS S c r = nz n → nS S c r = n := fun n hn hq => by
    unfold nS
    rw [hq, zge_nz (by omega), if_pos rfl, nz_cl (by omega)]
  rcases hv with ⟨n, hn, hq⟩ | ⟨k, hk, hq⟩
  · refine ⟨fun _ => ⟨n, hn, hq, ?_, by rw [hq]; exact zge_nz (by omega)⟩, fun hz => ?_⟩
    · unfold uS
      rw [hns n hn hq, Nat.add_assoc]
      exact (hb.1 _ (by omega)).2
    · rw [hq, zgt_nz (by omega)] at hz
      have hn0 : n = 0 := by
        have := of_decide_eq_false hz
        omega
      subst hn0
      rw [uS_0 hw (hns 0 hn hq), hq]
      rfl
  · have hf : ∀ k, k < 6 → z_gt (-1 - nz k) = false ∧ z_ge (-1 - nz k) = false := by decide
    refine ⟨fun z => ?_, fun _ => ?_⟩
    · rw [hq, (hf k hk).1] at z
      cases z
    · rw [hq, (hf k hk).2, if_neg (by decide)]
theorem col_step (hw : WF T S) (hT : T < 900000) {r c : Nat} (hr : r < hN S) (hc : c < wN S) (hm : m 134 = colF S r c) (v3 : Value) :
    (sQ (sIf (cZ z_gt (eM (gd 8 f_X8_had) (aI (aI (aA (aN) (eLa 0)) (eLi 2)) (eLi 1)))) (sAi 0 (eGa (eLa 0) 8 0) (eOp o_iadd (eI (882)) (eM (f_X8_place) (aI (aI (aN) (eLi 2)) (eLi 1)))) (eAi 0 (eGa (eLa 0) 8 0) (eOp o_iadd (eOp o_iadd (eI (1394)) (eOp o_imul (eI (64)) (eQ o_irem (eOp o_iadd (eOp o_iadd (eLi 2) (eLi 1)) (eAi 0 (eGa (eLa 0) 8 0) (eI (2)))) (eI (2))))) (eM (gd 8 f_X8_had) (aI (aI (aA (aN) (eLa 0)) (eLi 2)) (eLi 1)))))) sN) (sInc 2 (1))) [.ref 133, .int (nz r), .int (nz c), v3] (HM e m w) = some (HM e (mw m 134 (colF S r (c + 1))) w, .inl [.ref 133, .int (nz r), .int (nz (c + 1)), v3]) := by
  have hW := hw.1.2.1
  have hH := hw.2.1.2.1
  have ht := hw.2.2.1
  have q2 : ((2 : Nat) = 0) = False := by simp
  have hv : vS (m 134) c r = vS S c r := by
    show m 134 (882 + (32 * r + c)) = _
    rw [hm]
    exact colF_now (by omega) (by omega)
  have h2 : m 134 2 = nz (tN S) := by rw [hm, colF_lo (by omega)]; exact ht.2
  obtain ⟨k1, k2⟩ := col_val hw (c := c) (r := r) (by omega) (by omega)
  cases hz : z_gt (vS S c r) with
  | true =>
    obtain ⟨n, hn, h3, h4, h5⟩ := k1 hz
    have hz' : z_gt (nz n) = true := by rw [← h3]; exact hz
    have hx : m 134 (1394 + 64 * ((c + r + tN S) % 2) + n) = nz (uS S c r) := by
      rw [hm, colF_lo (by omega)]
      exact h4
    rw [colF_s (by omega) (by omega), h5, if_pos rfl, ← hm]
    simp (disch := omega) only [mth_w, kR_w, kR_if, sQ_v, sN_v, sTi_v, sTa_v, sTl_v, sR_v, sRv_v, sX_v, sPi_v, sPo_v, sPz_w, zP_b, sRz_w, zR_bw, zR_0w, zR_1w, sPa_v, sAi_v, sAl_v, sAo_v, sAa_v, sM_w, sMp_w, eM_w, sIf_w, eIf_w, cAnd_w, cOr_w, cB_v, cZ_v, cNot_v, eC_v, eI_v, eJ_v, eOp_v, eQ_v, eU_v, eIL_v, eLO_v, eLS_v, eLC_v, eGi_v, eGa_v, eZ_w, eAi_v, eAl_v, eAa_v, eAn_v, aN_v, aI_v, aA_v, sInc_v, sB_okw, sB_xw, eS_okw, eS_xw, eB_okw, eB_xw, oE_w, oS_w, kI_iw, kI_xw, kV_w, kV_xw, kP_iw, kP_xw, List.set_cons_zero, List.set_cons_succ, List.cons_append, List.nil_append, List.length_cons, List.length_nil, List.replicate_succ, List.replicate_zero, List.append_nil, bif_and, bif_or, zne_b01, zeq_b01, bif_d, cond_true, cond_false, nar_0, o_iadd, o_isub, o_imul, c_eq, c_ne, c_lt, c_ge, c_gt, c_le, Nat.reduceAdd, Nat.reduceSub, Nat.zero_add, if_true, if_false, eLl_2, eLi_0, eLi_1, eLi_2, eLi_3, eLi_4, eLi_5, eLi_6, eLi_7, eLi_8, eLi_9, eLi_10, eLi_11, eLi_12, eLi_13, eLa_0, eLa_1, eLa_2, eLa_3, eLa_4, eLa_5, eLa_6, eLa_7, nz_add, nz_mul, nz_sub, nz_lt, nz_le, nz_inj, zeq_nz, zne_nz, zge_nz, zgt_nz, zlt_nz, nlit0, nlit1, nlit2, nlit3, nlit4, nlit5, nlit6, nlit7, nlit8, nlit9, nlit10, nlit11, nlit12, nlit16, nlit18, nlit22, nlit31, nlit32, nlit33, nlit34, nlit40, nlit48, nlit60, nlit63, nlit64, nlit66, nlit80, nlit96, nlit114, nlit126, nlit128, nlit512, nlit756, nlit882, nlit1000, nlit1394, nlit1522, nlit1523, nlit10000, gd_133, rf_133_0, rf_133_1, rf_133_2, rf_133_3, rf_133_4, rf_133_5, rf_133_6, rf_133_7, rf_133_8, rd_133_9, wr_133_9, rd_133_10, wr_133_10, rf_133_11, rd_133_12, wr_133_12, rd_133_13, wr_133_13, rd_133_14, wr_133_14, rd_133_15, wr_133_15, rd_133_16, wr_133_16, rf_133_17, rf_133_18, ar_134, aw_134, an_134, ar_135, aw_135, an_135, ar_136, aw_136, an_136, ar_137, aw_137, ar_138, aw_138, an_138, ar_139, aw_139, an_139, ar_140, aw_140, an_140, ar_141, aw_141, an_141, ar_142, aw_142, an_142, ar_143, aw_143, an_143, ar_144, aw_144, an_144, ar_145, aw_145, e_had, e_place, hv, h3, hz', h2, q2, nz_rem, hx, ms_mw]
  | false =>
    rw [colF_s (by omega) (by omega), k2 hz]
    have : su (colF S r c) (882 + (32 * r + c)) (vS S c r) = m 134 := by
      rw [hm]
      have h9 : vS S c r = colF S r c (882 + (32 * r + c)) := (colF_now (by omega) (by omega)).symm
      rw [h9, su_self]
    rw [this, mw_self]
    simp (disch := omega) only [mth_w, kR_w, kR_if, sQ_v, sN_v, sTi_v, sTa_v, sTl_v, sR_v, sRv_v, sX_v, sPi_v, sPo_v, sPz_w, zP_b, sRz_w, zR_bw, zR_0w, zR_1w, sPa_v, sAi_v, sAl_v, sAo_v, sAa_v, sM_w, sMp_w, eM_w, sIf_w, eIf_w, cAnd_w, cOr_w, cB_v, cZ_v, cNot_v, eC_v, eI_v, eJ_v, eOp_v, eQ_v, eU_v, eIL_v, eLO_v, eLS_v, eLC_v, eGi_v, eGa_v, eZ_w, eAi_v, eAl_v, eAa_v, eAn_v, aN_v, aI_v, aA_v, sInc_v, sB_okw, sB_xw, eS_okw, eS_xw, eB_okw, eB_xw, oE_w, oS_w, kI_iw, kI_xw, kV_w, kV_xw, kP_iw, kP_xw, List.set_cons_zero, List.set_cons_succ, List.cons_append, List.nil_append, List.length_cons, List.length_nil, List.replicate_succ, List.replicate_zero, List.append_nil, bif_and, bif_or, zne_b01, zeq_b01, bif_d, cond_true, cond_false, nar_0, o_iadd, o_isub, o_imul, c_eq, c_ne, c_lt, c_ge, c_gt, c_le, Nat.reduceAdd, Nat.reduceSub, Nat.zero_add, if_true, if_false, eLl_2, eLi_0, eLi_1, eLi_2, eLi_3, eLi_4, eLi_5, eLi_6, eLi_7, eLi_8, eLi_9, eLi_10, eLi_11, eLi_12, eLi_13, eLa_0, eLa_1, eLa_2, eLa_3, eLa_4, eLa_5, eLa_6, eLa_7, nz_add, nz_mul, nz_sub, nz_lt, nz_le, nz_inj, zeq_nz, zne_nz, zge_nz, zgt_nz, zlt_nz, nlit0, nlit1, nlit2, nlit3, nlit4, nlit5, nlit6, nlit7, nlit8, nlit9, nlit10, nlit11, nlit12, nlit16, nlit18, nlit22, nlit31, nlit32, nlit33, nlit34, nlit40, nlit48, nlit60, nlit63, nlit64, nlit66, nlit80, nlit96, nlit114, nlit126, nlit128, nlit512, nlit756, nlit882, nlit1000, nlit1394, nlit1522, nlit1523, nlit10000, gd_133, rf_133_0, rf_133_1, rf_133_2, rf_133_3, rf_133_4, rf_133_5, rf_133_6, rf_133_7, rf_133_8, rd_133_9, wr_133_9, rd_133_10, wr_133_10, rf_133_11, rd_133_12, wr_133_12, rd_133_13, wr_133_13, rd_133_14, wr_133_14, rd_133_15, wr_133_15, rd_133_16, wr_133_16, rf_133_17, rf_133_18, ar_134, aw_134, an_134, ar_135, aw_135, an_135, ar_136, aw_136, an_136, ar_137, aw_137, ar_138, aw_138, an_138, ar_139, aw_139, an_139, ar_140, aw_140, an_140, ar_141, aw_141, an_141, ar_142, aw_142, an_142, ar_143, aw_143, an_143, ar_144, aw_144, an_144, ar_145, aw_145, e_had, hv, hz]
/-- how far the particles have come -/
def gS (S : St) (k q : Nat) : Int32 := if prS S (q / 6 % wN S) (q / 6 / wN S) (q % 6) then inS S (q / 6 / wN S) (q % 6) (q / 6 % wN S) k else nz 0
def tqS (S : St) (q : Nat) : Option (Nat × Nat) := if prS S (q / 6 % wN S) (q / 6 / wN S) (q % 6) then tgS S (q / 6 / wN S) (q % 6) (q / 6 % wN S) else none
def MoI (S : St) (m : Mm) (Q : Nat) (m1 : Mm) : Prop := (∀ a, a ≠ 134 → a ≠ 141 → a ≠ 142 → m1 a = m a) ∧ (∀ k, m1 134 k = colF S (hN S) 0 k + sm Q (gS S k)) ∧ (∀ i, i < 12 → m1 142 i = sm Q (gS S (22 + i))) ∧ ∀ p j, p < 512 → j < 32 → (bt (m1 141 p) j = true ↔ ∃ q, q < Q ∧ tqS S q = some (j, p))
theorem dec_q {W r c d : Nat} (hc : c < W) (hd : d < 6) : ((r * W + c) * 6 + d) % 6 = d ∧ ((r * W + c) * 6 + d) / 6 / W = r ∧ ((r * W + c) * 6 + d) / 6 % W = c := by
  have h1 : ((r * W + c) * 6 + d) / 6 = r * W + c := by omega
  refine ⟨by omega, ?_, ?_⟩
  · rw [h1, Nat.add_comm, Nat.add_mul_div_right _ _ (by omega), Nat.div_eq_of_lt hc, Nat.zero_add]
  · rw [h1, Nat.add_comm, Nat.add_mul_mod_self_right, Nat.mod_eq_of_lt hc]
theorem inS_lo {r d c k : Nat} (hc : c < wN S) (hW : wN S ≤ 32) (hd : d < 6) (h : k < 11 ∨ 66 ≤ k) : inS S r d c k = nz 0 := by
  unfold inS
  split
  · rw [if_neg (by omega), if_neg (by omega)]
  · split
    · rw [if_neg (by omega), if_neg (by omega), if_neg (by omega), if_neg (fun z => by omega)]
    · rename_i c2 hn
      have hc2 : c2 < wN S := ncol_lt (by omega) hc hn
      split
      · rw [if_neg (fun z => by omega), if_neg (fun z => by omega)]
      · rw [if_neg (by omega), if_neg (by omega), if_neg (by omega)]
theorem gS_lo (hW : wN S ≤ 32) (hW4 : 4 ≤ wN S) {k q : Nat} (h : k < 11 ∨ 66 ≤ k) : gS S k q = nz 0 := by
  unfold gS
  split
  · exact inS_lo (Nat.mod_lt _ (by omega)) hW (Nat.mod_lt _ (by decide)) h
  · rfl
theorem MoI.lo (hw : WF T S) {Q k : Nat} {m1 : Mm} (hI : MoI S m Q m1) (h : k < 11 ∨ 66 ≤ k) : m1 134 k = colF S (hN S) 0 k := by
  rw [hI.2.1 k, sm_zero (fun q _ => gS_lo hw.1.2.1 hw.1.1 h), add_nz0]
theorem mo_step (hw : WF T S) {r c d : Nat} {m1 : Mm} (hr : r < hN S) (hc : c < wN S) (hd : d < 6) (hI : MoI S m ((r * wN S + c) * 6 + d) m1) :
    ∃ m2, (sQ (sIf (cAnd (cZ z_gt (eM (gd 8 f_X8_had) (aI (aI (aA (aN) (eLa 0)) (eLi 2)) (eLi 1)))) (cB c_eq (eOp o_iand (eOp o_ishr (eM (gd 8 f_X8_had) (aI (aI (aA (aN) (eLa 0)) (eLi 2)) (eLi 1))) (eLi 3)) (eI (1))) (eI (1)))) (sM (gd 8 f_X8_step) (aI (aI (aI (aA (aN) (eLa 0)) (eLi 2)) (eLi 1)) (eLi 3))) sN) (sInc 3 (1))) [.ref 133, .int (nz r), .int (nz c), .int (nz d)] (HM e m1 w) = some (HM e m2 w, .inl [.ref 133, .int (nz r), .int (nz c), .int (nz (d + 1))]) ∧ MoI S m ((r * wN S + c) * 6 + d + 1) m2 := by
  have hW := hw.1.2.1
  have hH := hw.2.1.2.1
  have hlo := fun k (h : k < 11 ∨ 66 ≤ k) => hI.lo hw h
  have hA : ∀ k, k < 8 → m1 134 k = S k := fun k hk => by rw [hlo k (by omega), colF_lo (by omega)]
  have hcell : ∀ c r, c < 32 → r < 16 → vS (m1 134) c r = if z_ge (vS S c r) then nz (uS S c r) else vS S c r := fun c r hc hr => by
    rw [← colF_end hw hc hr]
    exact hlo _ (by omega)
  obtain ⟨d1, d2, d3⟩ := dec_q (r := r) hc hd
  have hg : ∀ k, gS S k ((r * wN S + c) * 6 + d) = if prS S c r d then inS S r d c k else nz 0 := fun k => by
    unfold gS
    rw [d1, d2, d3]
  have htq : tqS S ((r * wN S + c) * 6 + d) = if prS S c r d then tgS S r d c else none := by
    unfold tqS
    rw [d1, d2, d3]
  obtain ⟨i1, i2, i3, i4⟩ := hI
  have hv := hcell c r (by omega) (by omega)
  have hpr : (z_gt (vS (m1 134) c r) && decide (bt (vS (m1 134) c r) d = true)) = prS S c r d := by
    rw [hv]
    have hul := uS_lt hw (show c < 32 by omega) (show r < 16 by omega)
    cases hz : z_ge (vS S c r) with
    | true =>
      rw [if_pos rfl, zgt_nz (by omega), bt_nz _ (by omega)]
      unfold prS
      by_cases h0 : uS S c r = 0
      · rw [h0]; simp
      · rw [decide_eq_true (by omega), Bool.true_and]
        simp
    | false =>
      rw [if_neg (by decide)]
      obtain ⟨k, hk, hq⟩ := okV_neg (hw.2.2.2.2.2.2.1 r (by omega) c (by omega)).1 hz
      have hf : ∀ k, k < 6 → z_gt (-1 - nz k) = false := by decide
      rw [hq, hf k hk, Bool.false_and]
      cases hp : prS S c r d with
      | false => rfl
      | true =>
        have := prS_free hw hp
        rw [hz] at this
        cases this
  have hex : ∀ p j, (∃ q, q < (r * wN S + c) * 6 + d + 1 ∧ tqS S q = some (j, p)) ↔ (∃ q, q < (r * wN S + c) * 6 + d ∧ tqS S q = some (j, p)) ∨ tqS S ((r * wN S + c) * 6 + d) = some (j, p) := by
    intro p j
    constructor
    · rintro ⟨q, q1, q2⟩
      by_cases hq : q = (r * wN S + c) * 6 + d
      · subst hq; exact Or.inr q2
      · exact Or.inl ⟨q, by omega, q2⟩
    · rintro (⟨q, q1, q2⟩ | q2)
      · exact ⟨q, by omega, q2⟩
      · exact ⟨_, by omega, q2⟩
  cases hp : prS S c r d with
  | false =>
    rw [hp] at hpr
    refine ⟨m1, ?_, i1, fun k => ?_, fun i hi => ?_, fun p j hp' hj => ?_⟩
    · simp (disch := omega) only [mth_w, kR_w, kR_if, sQ_v, sN_v, sTi_v, sTa_v, sTl_v, sR_v, sRv_v, sX_v, sPi_v, sPo_v, sPz_w, zP_b, sRz_w, zR_bw, zR_0w, zR_1w, sPa_v, sAi_v, sAl_v, sAo_v, sAa_v, sM_w, sMp_w, eM_w, sIf_w, eIf_w, cAnd_w, cOr_w, cB_v, cZ_v, cNot_v, eC_v, eI_v, eJ_v, eOp_v, eQ_v, eU_v, eIL_v, eLO_v, eLS_v, eLC_v, eGi_v, eGa_v, eZ_w, eAi_v, eAl_v, eAa_v, eAn_v, aN_v, aI_v, aA_v, sInc_v, sB_okw, sB_xw, eS_okw, eS_xw, eB_okw, eB_xw, oE_w, oS_w, kI_iw, kI_xw, kV_w, kV_xw, kP_iw, kP_xw, List.set_cons_zero, List.set_cons_succ, List.cons_append, List.nil_append, List.length_cons, List.length_nil, List.replicate_succ, List.replicate_zero, List.append_nil, bif_and, bif_or, zne_b01, zeq_b01, bif_d, cond_true, cond_false, nar_0, o_iadd, o_isub, o_imul, c_eq, c_ne, c_lt, c_ge, c_gt, c_le, Nat.reduceAdd, Nat.reduceSub, Nat.zero_add, if_true, if_false, eLl_2, eLi_0, eLi_1, eLi_2, eLi_3, eLi_4, eLi_5, eLi_6, eLi_7, eLi_8, eLi_9, eLi_10, eLi_11, eLi_12, eLi_13, eLa_0, eLa_1, eLa_2, eLa_3, eLa_4, eLa_5, eLa_6, eLa_7, nz_add, nz_mul, nz_sub, nz_lt, nz_le, nz_inj, zeq_nz, zne_nz, zge_nz, zgt_nz, zlt_nz, nlit0, nlit1, nlit2, nlit3, nlit4, nlit5, nlit6, nlit7, nlit8, nlit9, nlit10, nlit11, nlit12, nlit16, nlit18, nlit22, nlit31, nlit32, nlit33, nlit34, nlit40, nlit48, nlit60, nlit63, nlit64, nlit66, nlit80, nlit96, nlit114, nlit126, nlit128, nlit512, nlit756, nlit882, nlit1000, nlit1394, nlit1522, nlit1523, nlit10000, gd_133, rf_133_0, rf_133_1, rf_133_2, rf_133_3, rf_133_4, rf_133_5, rf_133_6, rf_133_7, rf_133_8, rd_133_9, wr_133_9, rd_133_10, wr_133_10, rf_133_11, rd_133_12, wr_133_12, rd_133_13, wr_133_13, rd_133_14, wr_133_14, rd_133_15, wr_133_15, rd_133_16, wr_133_16, rf_133_17, rf_133_18, ar_134, aw_134, an_134, ar_135, aw_135, an_135, ar_136, aw_136, an_136, ar_137, aw_137, ar_138, aw_138, an_138, ar_139, aw_139, an_139, ar_140, aw_140, an_140, ar_141, aw_141, an_141, ar_142, aw_142, an_142, ar_143, aw_143, an_143, ar_144, aw_144, an_144, ar_145, aw_145, e_had, and1, bt_shr, b01_eq, hpr]
    · rw [i2 k, sm_succ, hg, hp, if_neg (by decide), add_nz0]
    · rw [i3 i hi, sm_succ, hg, hp, if_neg (by decide), add_nz0]
    · rw [i4 p j hp' hj, hex, htq, hp, if_neg (by decide)]
      exact ⟨Or.inl, fun z => z.elim id (fun y => by cases y)⟩
  | true =>
    rw [hp] at hpr
    obtain ⟨m2, g0, g1, g2, g3, g4⟩ := e_step (e := e) (w := w) (m := m1) hw hr hd hc hA hcell
    refine ⟨m2, ?_, fun a a1 a2 a3 => by rw [g1 a a1 a2 a3, i1 a a1 a2 a3], fun k => ?_, fun i hi => ?_, fun p j hp' hj => ?_⟩
    · simp (disch := omega) only [mth_w, kR_w, kR_if, sQ_v, sN_v, sTi_v, sTa_v, sTl_v, sR_v, sRv_v, sX_v, sPi_v, sPo_v, sPz_w, zP_b, sRz_w, zR_bw, zR_0w, zR_1w, sPa_v, sAi_v, sAl_v, sAo_v, sAa_v, sM_w, sMp_w, eM_w, sIf_w, eIf_w, cAnd_w, cOr_w, cB_v, cZ_v, cNot_v, eC_v, eI_v, eJ_v, eOp_v, eQ_v, eU_v, eIL_v, eLO_v, eLS_v, eLC_v, eGi_v, eGa_v, eZ_w, eAi_v, eAl_v, eAa_v, eAn_v, aN_v, aI_v, aA_v, sInc_v, sB_okw, sB_xw, eS_okw, eS_xw, eB_okw, eB_xw, oE_w, oS_w, kI_iw, kI_xw, kV_w, kV_xw, kP_iw, kP_xw, List.set_cons_zero, List.set_cons_succ, List.cons_append, List.nil_append, List.length_cons, List.length_nil, List.replicate_succ, List.replicate_zero, List.append_nil, bif_and, bif_or, zne_b01, zeq_b01, bif_d, cond_true, cond_false, nar_0, o_iadd, o_isub, o_imul, c_eq, c_ne, c_lt, c_ge, c_gt, c_le, Nat.reduceAdd, Nat.reduceSub, Nat.zero_add, if_true, if_false, eLl_2, eLi_0, eLi_1, eLi_2, eLi_3, eLi_4, eLi_5, eLi_6, eLi_7, eLi_8, eLi_9, eLi_10, eLi_11, eLi_12, eLi_13, eLa_0, eLa_1, eLa_2, eLa_3, eLa_4, eLa_5, eLa_6, eLa_7, nz_add, nz_mul, nz_sub, nz_lt, nz_le, nz_inj, zeq_nz, zne_nz, zge_nz, zgt_nz, zlt_nz, nlit0, nlit1, nlit2, nlit3, nlit4, nlit5, nlit6, nlit7, nlit8, nlit9, nlit10, nlit11, nlit12, nlit16, nlit18, nlit22, nlit31, nlit32, nlit33, nlit34, nlit40, nlit48, nlit60, nlit63, nlit64, nlit66, nlit80, nlit96, nlit114, nlit126, nlit128, nlit512, nlit756, nlit882, nlit1000, nlit1394, nlit1522, nlit1523, nlit10000, gd_133, rf_133_0, rf_133_1, rf_133_2, rf_133_3, rf_133_4, rf_133_5, rf_133_6, rf_133_7, rf_133_8, rd_133_9, wr_133_9, rd_133_10, wr_133_10, rf_133_11, rd_133_12, wr_133_12, rd_133_13, wr_133_13, rd_133_14, wr_133_14, rd_133_15, wr_133_15, rd_133_16, wr_133_16, rf_133_17, rf_133_18, ar_134, aw_134, an_134, ar_135, aw_135, an_135, ar_136, aw_136, an_136, ar_137, aw_137, ar_138, aw_138, an_138, ar_139, aw_139, an_139, ar_140, aw_140, an_140, ar_141, aw_141, an_141, ar_142, aw_142, an_142, ar_143, aw_143, an_143, ar_144, aw_144, an_144, ar_145, aw_145, e_had, and1, bt_shr, b01_eq, hpr, g0]
    · rw [g2 k, i2 k, sm_succ, hg, hp, if_pos rfl, Int32.add_assoc]
    · rw [g3 i hi, i3 i hi, sm_succ, hg, hp, if_pos rfl]
    · rw [g4 p j hj, i4 p j hp' hj, hex, htq, hp, if_pos rfl]
end
