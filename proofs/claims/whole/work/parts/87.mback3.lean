/-! THE MODEL'S TICK TAKEN BACK -/
/-- collisions taken back, cell by cell; A: what there was -/
noncomputable def unF (A S : St) (r0 c0 : Nat) : St := fun k => if (882 ≤ k ∧ k < 1394) ∧ ((k - 882) / 32 < r0 ∧ (k - 882) % 32 < wN S ∨ (k - 882) / 32 = r0 ∧ (k - 882) % 32 < c0) ∧ z_ge (A k) = true then nz (ivS S (((k - 882) % 32 + (k - 882) / 32 + (tN S - 1)) % 2) (A k).toNatClampNeg) else A k
section
variable {S A : St} {T k : Nat} {e : Nat → Nat × (Nat → Int32)} {m : Mm} {w : Ml} {h : Hp}
theorem unF_lo {r c k : Nat} (h : k < 882 ∨ 1394 ≤ k) : unF A S r c k = A k := by
  unfold unF
  rw [if_neg (fun z => by omega)]
theorem unF_0 : unF A S 0 0 = A := by
  funext k
  unfold unF
  rw [if_neg (fun z => by omega)]
theorem unF_row {r : Nat} : unF A S r (wN S) = unF A S (r + 1) 0 := by
  funext k
  unfold unF
  exact ite_ic (and_congr Iff.rfl (and_congr (by omega) Iff.rfl))
theorem unF_now {r c : Nat} (hr : r < 16) (hc : c < 32) : unF A S r c (882 + (32 * r + c)) = A (882 + (32 * r + c)) := by
  unfold unF
  rw [if_neg (fun z => by omega)]
theorem unF_s {r c : Nat} (hr : r < 16) (hc : c < 32) : unF A S r (c + 1) = su (unF A S r c) (882 + (32 * r + c)) (if z_ge (A (882 + (32 * r + c))) = true then nz (ivS S ((c + r + (tN S - 1)) % 2) (A (882 + (32 * r + c))).toNatClampNeg) else A (882 + (32 * r + c))) := by
  funext k
  unfold su
  by_cases h : k = 882 + (32 * r + c)
  · rw [if_pos h, h]
    unfold unF
    rw [show (882 + (32 * r + c) - 882) / 32 = r by omega, show (882 + (32 * r + c) - 882) % 32 = c by omega]
    exact ite_ic ⟨fun z => z.2.2, fun z => ⟨by omega, by omega, z⟩⟩
  · rw [if_neg h]
    unfold unF
    by_cases h2 : 882 ≤ k ∧ k < 1394
    · exact ite_ic (and_congr Iff.rfl (and_congr (by omega) Iff.rfl))
    · rw [if_neg (fun z => h2 z.1), if_neg (fun z => h2 z.1)]
theorem unF_at {r0 k : Nat} {v : Int32} (hk : A k = v) (h3 : 882 ≤ k ∧ k < 1394) : unF A S r0 0 k = if ((k - 882) / 32 < r0 ∧ (k - 882) % 32 < wN S) ∧ z_ge v = true then nz (ivS S (((k - 882) % 32 + (k - 882) / 32 + (tN S - 1)) % 2) v.toNatClampNeg) else v := by
  subst hk
  unfold unF
  exact ite_ic ⟨fun z => ⟨by omega, z.2.2⟩, fun z => ⟨h3, Or.inl z.1, z.2⟩⟩
theorem e_comesOf (hw : WF T S) (hv : Rev S) {p n : Nat} (hp : p < 2) (hn : n < 64) (hm : ∀ k, k < 128 → m 134 (1394 + k) = S (1394 + k)) : f_X8_comesOf [.ref 133, .int (nz n), .int (nz p)] (HM e m w) = some (HM e m w, .inl (some (.int (nz (ivS S p n))))) := by
  obtain ⟨h1, h2⟩ := iv_1 hw hv p hp n hn
  have hb := (bkN_ok hw).1
  have hval : ∀ k, k < 64 → m 134 (1394 + 64 * p + k) = nz (bkN S (64 * p + k)) := fun k hk => by
    rw [Nat.add_assoc, hm _ (by omega)]
    exact (hb _ (by omega)).2
  have hne : ∀ k, k < ivS S p n → bkN S (64 * p + k) ≠ n := fun k hk hq => by
    have := iv_2 hw hv p hp k (by omega)
    rw [hq] at this
    omega
  unfold f_X8_comesOf
  simp (disch := omega) only [mth_w, kR_w, kR_if, sQ_v, sN_v, sTi_v, sTa_v, sTl_v, sR_v, sRv_v, sX_v, sPi_v, sPo_v, sPz_w, zP_b, sRz_w, zR_bw, zR_0w, zR_1w, sPa_v, sAi_v, sAl_v, sAo_v, sAa_v, sM_w, sMp_w, eM_w, sIf_w, eIf_w, cAnd_w, cOr_w, cB_v, cZ_v, cNot_v, eC_v, eI_v, eJ_v, eOp_v, eQ_v, eU_v, eIL_v, eLO_v, eLS_v, eLC_v, eGi_v, eGa_v, eZ_w, eAi_v, eAl_v, eAa_v, eAn_v, aN_v, aI_v, aA_v, sInc_v, sB_okw, sB_xw, eS_okw, eS_xw, eB_okw, eB_xw, oE_w, oS_w, kI_iw, kI_xw, kV_w, kV_xw, kP_iw, kP_xw, List.set_cons_zero, List.set_cons_succ, List.cons_append, List.nil_append, List.length_cons, List.length_nil, List.replicate_succ, List.replicate_zero, List.append_nil, bif_and, bif_or, zne_b01, zeq_b01, bif_d, cond_true, cond_false, nar_0, o_iadd, o_isub, o_imul, c_eq, c_ne, c_lt, c_ge, c_gt, c_le, Nat.reduceAdd, Nat.reduceSub, Nat.zero_add, if_true, if_false, eLl_2, eLi_0, eLi_1, eLi_2, eLi_3, eLi_4, eLi_5, eLi_6, eLi_7, eLi_8, eLi_9, eLi_10, eLi_11, eLi_12, eLi_13, eLa_0, eLa_1, eLa_2, eLa_3, eLa_4, eLa_5, eLa_6, eLa_7, nz_add, nz_mul, nz_sub, nz_lt, nz_le, nz_inj, zeq_nz, zne_nz, zge_nz, zgt_nz, zlt_nz, nlit0, nlit1, nlit2, nlit3, nlit4, nlit5, nlit6, nlit7, nlit8, nlit9, nlit10, nlit11, nlit12, nlit16, nlit18, nlit22, nlit31, nlit32, nlit33, nlit34, nlit40, nlit48, nlit60, nlit63, nlit64, nlit66, nlit80, nlit96, nlit114, nlit126, nlit128, nlit512, nlit756, nlit882, nlit1000, nlit1394, nlit1522, nlit1523, nlit10000]
  rw [sLp_fn (fun k => [.ref 133, .int (nz n), .int (nz p), .int (nz k)]) (fun _ => HM e m w) (ivS S p n) ?_ ?_ NF (NF_lt (by omega)) ?_ ?_]
  · simp (disch := omega) only [mth_w, kR_w, kR_if, sQ_v, sN_v, sTi_v, sTa_v, sTl_v, sR_v, sRv_v, sX_v, sPi_v, sPo_v, sPz_w, zP_b, sRz_w, zR_bw, zR_0w, zR_1w, sPa_v, sAi_v, sAl_v, sAo_v, sAa_v, sM_w, sMp_w, eM_w, sIf_w, eIf_w, cAnd_w, cOr_w, cB_v, cZ_v, cNot_v, eC_v, eI_v, eJ_v, eOp_v, eQ_v, eU_v, eIL_v, eLO_v, eLS_v, eLC_v, eGi_v, eGa_v, eZ_w, eAi_v, eAl_v, eAa_v, eAn_v, aN_v, aI_v, aA_v, sInc_v, sB_okw, sB_xw, eS_okw, eS_xw, eB_okw, eB_xw, oE_w, oS_w, kI_iw, kI_xw, kV_w, kV_xw, kP_iw, kP_xw, List.set_cons_zero, List.set_cons_succ, List.cons_append, List.nil_append, List.length_cons, List.length_nil, List.replicate_succ, List.replicate_zero, List.append_nil, bif_and, bif_or, zne_b01, zeq_b01, bif_d, cond_true, cond_false, nar_0, o_iadd, o_isub, o_imul, c_eq, c_ne, c_lt, c_ge, c_gt, c_le, Nat.reduceAdd, Nat.reduceSub, Nat.zero_add, if_true, if_false, eLl_2, eLi_0, eLi_1, eLi_2, eLi_3, eLi_4, eLi_5, eLi_6, eLi_7, eLi_8, eLi_9, eLi_10, eLi_11, eLi_12, eLi_13, eLa_0, eLa_1, eLa_2, eLa_3, eLa_4, eLa_5, eLa_6, eLa_7, nz_add, nz_mul, nz_sub, nz_lt, nz_le, nz_inj, zeq_nz, zne_nz, zge_nz, zgt_nz, zlt_nz, nlit0, nlit1, nlit2, nlit3, nlit4, nlit5, nlit6, nlit7, nlit8, nlit9, nlit10, nlit11, nlit12, nlit16, nlit18, nlit22, nlit31, nlit32, nlit33, nlit34, nlit40, nlit48, nlit60, nlit63, nlit64, nlit66, nlit80, nlit96, nlit114, nlit126, nlit128, nlit512, nlit756, nlit882, nlit1000, nlit1394, nlit1522, nlit1523, nlit10000]
  · intro k hk
    have hk2 := (hb (64 * p + k) (by omega)).1
    have hq : (bkN S (64 * p + k) = n) = False := eq_false (hne k hk)
    simp (disch := omega) only [mth_w, kR_w, kR_if, sQ_v, sN_v, sTi_v, sTa_v, sTl_v, sR_v, sRv_v, sX_v, sPi_v, sPo_v, sPz_w, zP_b, sRz_w, zR_bw, zR_0w, zR_1w, sPa_v, sAi_v, sAl_v, sAo_v, sAa_v, sM_w, sMp_w, eM_w, sIf_w, eIf_w, cAnd_w, cOr_w, cB_v, cZ_v, cNot_v, eC_v, eI_v, eJ_v, eOp_v, eQ_v, eU_v, eIL_v, eLO_v, eLS_v, eLC_v, eGi_v, eGa_v, eZ_w, eAi_v, eAl_v, eAa_v, eAn_v, aN_v, aI_v, aA_v, sInc_v, sB_okw, sB_xw, eS_okw, eS_xw, eB_okw, eB_xw, oE_w, oS_w, kI_iw, kI_xw, kV_w, kV_xw, kP_iw, kP_xw, List.set_cons_zero, List.set_cons_succ, List.cons_append, List.nil_append, List.length_cons, List.length_nil, List.replicate_succ, List.replicate_zero, List.append_nil, bif_and, bif_or, zne_b01, zeq_b01, bif_d, cond_true, cond_false, nar_0, o_iadd, o_isub, o_imul, c_eq, c_ne, c_lt, c_ge, c_gt, c_le, Nat.reduceAdd, Nat.reduceSub, Nat.zero_add, if_true, if_false, eLl_2, eLi_0, eLi_1, eLi_2, eLi_3, eLi_4, eLi_5, eLi_6, eLi_7, eLi_8, eLi_9, eLi_10, eLi_11, eLi_12, eLi_13, eLa_0, eLa_1, eLa_2, eLa_3, eLa_4, eLa_5, eLa_6, eLa_7, nz_add, nz_mul, nz_sub, nz_lt, nz_le, nz_inj, zeq_nz, zne_nz, zge_nz, zgt_nz, zlt_nz, nlit0, nlit1, nlit2, nlit3, nlit4, nlit5, nlit6, nlit7, nlit8, nlit9, nlit10, nlit11, nlit12, nlit16, nlit18, nlit22, nlit31, nlit32, nlit33, nlit34, nlit40, nlit48, nlit60, nlit63, nlit64, nlit66, nlit80, nlit96, nlit114, nlit126, nlit128, nlit512, nlit756, nlit882, nlit1000, nlit1394, nlit1522, nlit1523, nlit10000, decide_true, decide_false, not_true_eq_false, not_false_eq_true, ne_eq, and_self, and_true, true_and, Bool.and_true, Bool.true_and, Bool.and_false, Bool.false_and, Bool.or_false, Bool.false_or, Bool.or_true, Bool.true_or, Bool.not_true, Bool.not_false, gd_133, rf_133_0, rf_133_1, rf_133_2, rf_133_3, rf_133_4, rf_133_5, rf_133_6, rf_133_7, rf_133_8, rd_133_9, wr_133_9, rd_133_10, wr_133_10, rf_133_11, rd_133_12, wr_133_12, rd_133_13, wr_133_13, rd_133_14, wr_133_14, rd_133_15, wr_133_15, rd_133_16, wr_133_16, rf_133_17, rf_133_18, ar_134, aw_134, an_134, ar_135, aw_135, an_135, ar_136, aw_136, an_136, ar_137, aw_137, ar_138, aw_138, an_138, ar_139, aw_139, an_139, ar_140, aw_140, an_140, ar_141, aw_141, an_141, ar_142, aw_142, an_142, ar_143, aw_143, an_143, ar_144, aw_144, an_144, ar_145, aw_145, hval, hq]
  · simp (disch := omega) only [mth_w, kR_w, kR_if, sQ_v, sN_v, sTi_v, sTa_v, sTl_v, sR_v, sRv_v, sX_v, sPi_v, sPo_v, sPz_w, zP_b, sRz_w, zR_bw, zR_0w, zR_1w, sPa_v, sAi_v, sAl_v, sAo_v, sAa_v, sM_w, sMp_w, eM_w, sIf_w, eIf_w, cAnd_w, cOr_w, cB_v, cZ_v, cNot_v, eC_v, eI_v, eJ_v, eOp_v, eQ_v, eU_v, eIL_v, eLO_v, eLS_v, eLC_v, eGi_v, eGa_v, eZ_w, eAi_v, eAl_v, eAa_v, eAn_v, aN_v, aI_v, aA_v, sInc_v, sB_okw, sB_xw, eS_okw, eS_xw, eB_okw, eB_xw, oE_w, oS_w, kI_iw, kI_xw, kV_w, kV_xw, kP_iw, kP_xw, List.set_cons_zero, List.set_cons_succ, List.cons_append, List.nil_append, List.length_cons, List.length_nil, List.replicate_succ, List.replicate_zero, List.append_nil, bif_and, bif_or, zne_b01, zeq_b01, bif_d, cond_true, cond_false, nar_0, o_iadd, o_isub, o_imul, c_eq, c_ne, c_lt, c_ge, c_gt, c_le, Nat.reduceAdd, Nat.reduceSub, Nat.zero_add, if_true, if_false, eLl_2, eLi_0, eLi_1, eLi_2, eLi_3, eLi_4, eLi_5, eLi_6, eLi_7, eLi_8, eLi_9, eLi_10, eLi_11, eLi_12, eLi_13, eLa_0, eLa_1, eLa_2, eLa_3, eLa_4, eLa_5, eLa_6, eLa_7, nz_add, nz_mul, nz_sub, nz_lt, nz_le, nz_inj, zeq_nz, zne_nz, zge_nz, zgt_nz, zlt_nz, nlit0, nlit1, nlit2, nlit3, nlit4, nlit5, nlit6, nlit7, nlit8, nlit9, nlit10, nlit11, nlit12, nlit16, nlit18, nlit22, nlit31, nlit32, nlit33, nlit34, nlit40, nlit48, nlit60, nlit63, nlit64, nlit66, nlit80, nlit96, nlit114, nlit126, nlit128, nlit512, nlit756, nlit882, nlit1000, nlit1394, nlit1522, nlit1523, nlit10000, decide_true, decide_false, not_true_eq_false, not_false_eq_true, ne_eq, and_self, and_true, true_and, Bool.and_true, Bool.true_and, Bool.and_false, Bool.false_and, Bool.or_false, Bool.false_or, Bool.or_true, Bool.true_or, Bool.not_true, Bool.not_false, gd_133, rf_133_0, rf_133_1, rf_133_2, rf_133_3, rf_133_4, rf_133_5, rf_133_6, rf_133_7, rf_133_8, rd_133_9, wr_133_9, rd_133_10, wr_133_10, rf_133_11, rd_133_12, wr_133_12, rd_133_13, wr_133_13, rd_133_14, wr_133_14, rd_133_15, wr_133_15, rd_133_16, wr_133_16, rf_133_17, rf_133_18, ar_134, aw_134, an_134, ar_135, aw_135, an_135, ar_136, aw_136, an_136, ar_137, aw_137, ar_138, aw_138, an_138, ar_139, aw_139, an_139, ar_140, aw_140, an_140, ar_141, aw_141, an_141, ar_142, aw_142, an_142, ar_143, aw_143, an_143, ar_144, aw_144, an_144, ar_145, aw_145, hval, h2]
  · rfl
  · rfl
/-- all that the move's end makes of the row -/
theorem back_end (hw : WF T S) (hrg : rgB S = true) {A N : St} (hA : ∀ k, A k = bgS S k + sm (hN S * wN S * 6) (qB S k)) (hN' : ∀ p j, p < 512 → j < 32 → (bt (N p) j = true ↔ ∃ q, q < hN S * wN S * 6 ∧ tqB S q = some (j, p))) {r c : Nat} (hr : r < 16) (hc : c < 32) :
    nxF A N (wN S) (hN S) 0 (882 + (32 * r + c)) = if c < wN S ∧ r < hN S then (if z_ge (vS S c r) then nz (bkP S r c) else vS S c r) else nz 0 := by
  have hAk : A (882 + (32 * r + c)) = vS S c r := by
    rw [hA, sm_zero (fun q _ => qB_lo hw.1.2.1 hw.1.1 (by omega)), add_nz0]
    unfold bgS
    rw [if_neg (by omega)]
    rfl
  have hv := hw.2.2.2.2.2.2.1 r hr c hc
  unfold nxF
  rw [show (882 + (32 * r + c) - 882) / 32 = r by omega, show (882 + (32 * r + c) - 882) % 32 = c by omega, hAk, Nat.add_sub_cancel_left]
  by_cases hin : c < wN S ∧ r < hN S
  · rw [if_pos ⟨by omega, by omega⟩, if_pos hin]
    cases hz : z_ge (vS S c r) with
    | true =>
      have hlt : z_lt (vS S c r) = false := by
        rcases hv.1 with ⟨n, hn, hq⟩ | ⟨k, hk, hq⟩
        · rw [hq]; exact zlt_nz (by omega)
        · have hf : ∀ k, k < 6 → z_ge (-1 - nz k) = false := by decide
          rw [hq, hf k hk] at hz
          cases hz
      rw [hlt, if_neg (show ¬ (false = true) by decide), if_pos (show true = true from rfl)]
      exact nxB_bits hw hin.1 hin.2 (fun j hj => hN' _ j (by omega) hj)
    | false =>
      obtain ⟨j, hj, hq⟩ := okV_neg hv.1 hz
      have hf : ∀ j, j < 6 → z_lt (-1 - nz j) = true := by decide
      rw [if_neg (show ¬ (false = true) by decide), hq, hf j hj, if_pos rfl]
  · rw [if_neg (fun z => by omega), if_neg hin, hv.2 hin]
theorem back_fin (hw : WF T S) (hv : Rev S) (hrg : rgB S = true) {A N : St} (hA : ∀ k, A k = bgS S k + sm (hN S * wN S * 6) (qB S k)) (hN' : ∀ p j, p < 512 → j < 32 → (bt (N p) j = true ↔ ∃ q, q < hN S * wN S * 6 ∧ tqB S q = some (j, p))) :
    su (unF (su (nxF A N (wN S) (hN S) 0) 2 (nz (tN S - 1))) S (hN S) 0) 7 (nz (rN S - 1)) = backE S := by
  have hW := hw.1
  have hH := hw.2.1.2.1
  have hA2 : ∀ k, ¬ (34 ≤ k ∧ k < 66) → A k = S k + -nz 1 * tot (vir S) k := fun k hk => by
    rw [hA, totB hw hk]
    unfold bgS
    rw [if_neg hk]
  have wv := vir_wf hw
  have n0 : -nz 1 * nz 0 = nz 0 := Int32.mul_zero
  have hrv : rgB (vir S) = true := by rw [vir_rg]; exact hrg
  have hA0 : ∀ k, (k < 11 ∨ 66 ≤ k ∨ k = 12 ∨ k = 13 ∨ k = 17 ∨ k = 18) → A k = S k := fun k hk => by
    rw [hA2 k (by omega), tot_0 wv (by omega), n0, add_nz0]
  funext k
  unfold su
  by_cases k7 : k = 7
  · rw [if_pos k7, k7, backE_rn]
  · rw [if_neg k7]
    by_cases k3 : 882 ≤ k ∧ k < 1394
    · have hk : k = 882 + (32 * ((k - 882) / 32) + (k - 882) % 32) := by omega
      have hr2 : (k - 882) / 32 < 16 := by omega
      have hc2 : (k - 882) % 32 < 32 := by omega
      have hgoal : backE S k = bxS S ((k - 882) % 32) ((k - 882) / 32) := by
        have := backE_cell (S := S) hc2 hr2
        unfold vS at this
        rw [← hk] at this
        exact this
      have hx := back_end hw hrg hA hN' hr2 hc2
      rw [← hk] at hx
      rw [hgoal]
      rw [unF_at (A := fun j => if j = 2 then nz (tN S - 1) else nxF A N (wN S) (hN S) 0 j) (r0 := hN S) ((if_neg (show ¬ k = 2 by omega)).trans hx) k3]
      unfold bxS
      generalize (k - 882) / 32 = r at *
      generalize (k - 882) % 32 = c at *
      have hv7 := hw.2.2.2.2.2.2.1 r hr2 c hc2
      by_cases hin : c < wN S ∧ r < hN S
      · rw [if_pos hin, if_pos hin]
        cases hz : z_ge (vS S c r) with
        | true =>
          have hbl := bkP_lt (S := S) r c
          rw [if_pos (show true = true from rfl), if_pos (show true = true from rfl), zge_nz (by omega), if_pos ⟨⟨hin.2, hin.1⟩, rfl⟩, nz_cl (by omega)]
        | false =>
          rw [if_neg (show ¬ (false = true) by decide), if_neg (show ¬ (false = true) by decide), hz, if_neg (fun z => by cases z.2)]
      · rw [if_neg hin, if_neg hin, if_neg (fun z => by omega)]
    · rw [unF_lo (by omega)]
      by_cases k2 : k = 2
      · rw [if_pos k2, k2, backE_time]
      · rw [if_neg k2, nxF_lo (by omega)]
        by_cases k4 : 34 ≤ k ∧ k < 66
        · have hq : A k = nz 0 := by
            rw [hA, sm_zero (fun q _ => qB_lo hw.1.2.1 hw.1.1 (by omega)), add_nz0]
            unfold bgS
            rw [if_pos k4]
          have hk : k = 34 + (k - 34) := by omega
          have := backE_cross (S := S) (c := k - 34) (by omega)
          rw [← hk] at this
          rw [hq, this]
        · by_cases k5 : 22 ≤ k ∧ k < 34
          · have hk : k = 22 + (k - 22) := by omega
            have h1 := backE_sum (S := S) (i := k - 22) (by omega)
            have h2 := tot_bo (S := vir S) (i := k - 22) (by omega)
            rw [← hk] at h1 h2
            rw [h1, hA2 k k4, h2]
          · by_cases k6 : k = 11
            · rw [k6, hA2 11 (by omega), tot_left, lk_ring hrv, n0, add_nz0, backE_keep (by omega)]
            · by_cases k8 : 12 ≤ k ∧ k < 22
              · obtain ⟨x, hx, j, hj, hk⟩ : ∃ x, x < 2 ∧ ∃ j, j < 5 ∧ k = 12 + 5 * x + j := ⟨(k - 12) / 5, by omega, (k - 12) % 5, by omega, by omega⟩
                rw [hk, backE_mom hx hj]
                rcases (show j < 2 ∨ j = 2 ∨ j = 3 ∨ j = 4 by omega) with q | q | q | q
                · rw [if_neg (by omega), if_neg (by omega), hA0 _ (by omega)]
                · subst q
                  rw [if_pos rfl, hA2 _ (by omega), tot_b2 wv hx, ← sm_mul]
                · subst q
                  rw [if_neg (by decide), if_pos rfl, hA2 _ (by omega), tot_wa hx]
                · subst q
                  rw [if_neg (by decide), if_neg (by decide), hA2 _ (by omega), tot_lm hx, lm_ring hrv, n0, add_nz0]
              · rw [hA0 k (by omega), backE_keep (by omega)]
end
