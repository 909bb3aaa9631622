section
variable {S S' : St} {T b : Nat} {e : Nat → Nat × (Nat → Int32)} {m m' : Mm} {w : Ml}
theorem nar_b : ∀ x, x < 2 → nar 2 (nz x) = nz x := by decide
/-- the state with one number set -/
theorem su_off {k : Nat} {x : Int32} {j : Nat} (h : j ≠ k) : su S k x j = S j := su_ne h
theorem vS_su_off {k : Nat} {x : Int32} (h : k < 882 ∨ 1394 ≤ k) {c r : Nat} (hc : c < 32) (hr : r < 16) : vS (su S k x) c r = vS S c r := by
  unfold vS
  rw [su_ne (by omega)]
theorem A_set (hI : INV T m) (p0 p1 : Int32) : AgI e m w f_X7_set f_X8_set [.ref 0, .int p0, .int p1] [.ref 133, .int p0, .int p1] [xA] (INV T) := by
  obtain ⟨b, hb1, hb, hT, h0⟩ := hI.tun (e := e)
  have hw := hI.1
  have hW := hw.1
  have hH := hw.2.1
  have w0 : m (b + 1) 0 = nz (wN (m 134)) := by rw [hT.wd]; exact hW.2.2
  have w1 : m (b + 1) 1 = nz (hN (m 134)) := by rw [hT.ht]; exact hH.2.2
  have nc := fun x y => needCell_q (e := e) (w := w) hb h0 hW.2.1 hH.2.1 w0 w1 (x := x) (y := y)
  have nd := fun x y x' y' => needCells_q (e := e) (w := w) hb h0 hW.2.1 hH.2.1 w0 w1 (x := x) (y := y) (x' := x') (y' := y')
  have ic := fun w' x y => isCell_q (e := e) (m := m) (w := w') hW.2.1 hH.2.1 hW.2.2 hH.2.2 (x := x) (y := y)
  cases hq : inQ p0 (nz 0) (nz 2) with
  | false => exact Ag_fail hI xA 1 (by unfold f_X7_set; simp (disch := omega) only [mth_w, kR_w, kR_if, sQ_v, sN_v, sTi_v, sTa_v, sTl_v, sR_v, sRv_v, sX_v, sPi_v, sPo_v, sPz_w, zP_b, sRz_w, zR_bw, zR_0w, zR_1w, sPa_v, sAi_v, sAl_v, sAo_v, sAa_v, sM_w, sMp_w, eM_w, sIf_w, eIf_w, cAnd_w, cOr_w, cB_v, cZ_v, cNot_v, eC_v, eI_v, eJ_v, eOp_v, eQ_v, eU_v, eIL_v, eLO_v, eLS_v, eLC_v, eGi_v, eGa_v, eZ_w, eAi_v, eAl_v, eAa_v, eAn_v, aN_v, aI_v, aA_v, sInc_v, sB_okw, sB_xw, eS_okw, eS_xw, eB_okw, eB_xw, oE_w, oS_w, kI_iw, kI_xw, kV_w, kV_xw, kP_iw, kP_xw, List.set_cons_zero, List.set_cons_succ, List.cons_append, List.nil_append, List.length_cons, List.length_nil, List.replicate_succ, List.replicate_zero, List.append_nil, bif_and, bif_or, zne_b01, zeq_b01, bif_d, cond_true, cond_false, nar_0, o_iadd, o_isub, o_imul, c_eq, c_ne, c_lt, c_ge, c_gt, c_le, Nat.reduceAdd, Nat.reduceSub, Nat.zero_add, if_true, if_false, eLl_2, eLi_0, eLi_1, eLi_2, eLi_3, eLi_4, eLi_5, eLi_6, eLi_7, eLi_8, eLi_9, eLi_10, eLi_11, eLi_12, eLi_13, eLa_0, eLa_1, eLa_2, eLa_3, eLa_4, eLa_5, eLa_6, eLa_7, nz_add, nz_mul, nz_sub, nz_lt, nz_le, nz_inj, zeq_nz, zne_nz, zge_nz, zgt_nz, zlt_nz, nlit0, nlit1, nlit2, nlit3, nlit4, nlit5, nlit6, nlit7, nlit8, nlit9, nlit10, nlit11, nlit12, nlit16, nlit18, nlit22, nlit31, nlit32, nlit33, nlit34, nlit40, nlit48, nlit60, nlit63, nlit64, nlit66, nlit80, nlit96, nlit114, nlit126, nlit128, nlit512, nlit756, nlit882, nlit1000, nlit1394, nlit1522, nlit1523, nlit10000, decide_true, decide_false, not_true_eq_false, not_false_eq_true, ne_eq, and_self, and_true, true_and, Bool.and_true, Bool.true_and, Bool.and_false, Bool.false_and, Bool.or_false, Bool.false_or, Bool.or_true, Bool.true_or, Bool.not_true, Bool.not_false, needRange_q, hq]) (by simp) (by simp) (fun w' => by unfold f_X8_set; simp (disch := omega) only [mth_w, kR_w, kR_if, sQ_v, sN_v, sTi_v, sTa_v, sTl_v, sR_v, sRv_v, sX_v, sPi_v, sPo_v, sPz_w, zP_b, sRz_w, zR_bw, zR_0w, zR_1w, sPa_v, sAi_v, sAl_v, sAo_v, sAa_v, sM_w, sMp_w, eM_w, sIf_w, eIf_w, cAnd_w, cOr_w, cB_v, cZ_v, cNot_v, eC_v, eI_v, eJ_v, eOp_v, eQ_v, eU_v, eIL_v, eLO_v, eLS_v, eLC_v, eGi_v, eGa_v, eZ_w, eAi_v, eAl_v, eAa_v, eAn_v, aN_v, aI_v, aA_v, sInc_v, sB_okw, sB_xw, eS_okw, eS_xw, eB_okw, eB_xw, oE_w, oS_w, kI_iw, kI_xw, kV_w, kV_xw, kP_iw, kP_xw, List.set_cons_zero, List.set_cons_succ, List.cons_append, List.nil_append, List.length_cons, List.length_nil, List.replicate_succ, List.replicate_zero, List.append_nil, bif_and, bif_or, zne_b01, zeq_b01, bif_d, cond_true, cond_false, nar_0, o_iadd, o_isub, o_imul, c_eq, c_ne, c_lt, c_ge, c_gt, c_le, Nat.reduceAdd, Nat.reduceSub, Nat.zero_add, if_true, if_false, eLl_2, eLi_0, eLi_1, eLi_2, eLi_3, eLi_4, eLi_5, eLi_6, eLi_7, eLi_8, eLi_9, eLi_10, eLi_11, eLi_12, eLi_13, eLa_0, eLa_1, eLa_2, eLa_3, eLa_4, eLa_5, eLa_6, eLa_7, nz_add, nz_mul, nz_sub, nz_lt, nz_le, nz_inj, zeq_nz, zne_nz, zge_nz, zgt_nz, zlt_nz, nlit0, nlit1, nlit2, nlit3, nlit4, nlit5, nlit6, nlit7, nlit8, nlit9, nlit10, nlit11, nlit12, nlit16, nlit18, nlit22, nlit31, nlit32, nlit33, nlit34, nlit40, nlit48, nlit60, nlit63, nlit64, nlit66, nlit80, nlit96, nlit114, nlit126, nlit128, nlit512, nlit756, nlit882, nlit1000, nlit1394, nlit1522, nlit1523, nlit10000, decide_true, decide_false, not_true_eq_false, not_false_eq_true, ne_eq, and_self, and_true, true_and, Bool.and_true, Bool.true_and, Bool.and_false, Bool.false_and, Bool.or_false, Bool.false_or, Bool.or_true, Bool.true_or, Bool.not_true, Bool.not_false, gd_133, rf_133_0, rf_133_1, rf_133_2, rf_133_3, rf_133_4, rf_133_5, rf_133_6, rf_133_7, rf_133_8, rd_133_9, wr_133_9, rd_133_10, wr_133_10, rf_133_11, rd_133_12, wr_133_12, rd_133_13, wr_133_13, rd_133_14, wr_133_14, rd_133_15, wr_133_15, rd_133_16, wr_133_16, rf_133_17, rf_133_18, ar_134, aw_134, an_134, ar_135, aw_135, an_135, ar_136, aw_136, an_136, ar_137, aw_137, ar_138, aw_138, an_138, ar_139, aw_139, an_139, ar_140, aw_140, an_140, ar_141, aw_141, an_141, ar_142, aw_142, an_142, ar_143, aw_143, an_143, ar_144, aw_144, an_144, ar_145, aw_145, in_q, hq, e_fails])
  | true =>
    cases hq2 : inQ p1 (nz 0) (nz 1) with
    | false => exact Ag_fail hI xA 1 (by unfold f_X7_set; simp (disch := omega) only [mth_w, kR_w, kR_if, sQ_v, sN_v, sTi_v, sTa_v, sTl_v, sR_v, sRv_v, sX_v, sPi_v, sPo_v, sPz_w, zP_b, sRz_w, zR_bw, zR_0w, zR_1w, sPa_v, sAi_v, sAl_v, sAo_v, sAa_v, sM_w, sMp_w, eM_w, sIf_w, eIf_w, cAnd_w, cOr_w, cB_v, cZ_v, cNot_v, eC_v, eI_v, eJ_v, eOp_v, eQ_v, eU_v, eIL_v, eLO_v, eLS_v, eLC_v, eGi_v, eGa_v, eZ_w, eAi_v, eAl_v, eAa_v, eAn_v, aN_v, aI_v, aA_v, sInc_v, sB_okw, sB_xw, eS_okw, eS_xw, eB_okw, eB_xw, oE_w, oS_w, kI_iw, kI_xw, kV_w, kV_xw, kP_iw, kP_xw, List.set_cons_zero, List.set_cons_succ, List.cons_append, List.nil_append, List.length_cons, List.length_nil, List.replicate_succ, List.replicate_zero, List.append_nil, bif_and, bif_or, zne_b01, zeq_b01, bif_d, cond_true, cond_false, nar_0, o_iadd, o_isub, o_imul, c_eq, c_ne, c_lt, c_ge, c_gt, c_le, Nat.reduceAdd, Nat.reduceSub, Nat.zero_add, if_true, if_false, eLl_2, eLi_0, eLi_1, eLi_2, eLi_3, eLi_4, eLi_5, eLi_6, eLi_7, eLi_8, eLi_9, eLi_10, eLi_11, eLi_12, eLi_13, eLa_0, eLa_1, eLa_2, eLa_3, eLa_4, eLa_5, eLa_6, eLa_7, nz_add, nz_mul, nz_sub, nz_lt, nz_le, nz_inj, zeq_nz, zne_nz, zge_nz, zgt_nz, zlt_nz, nlit0, nlit1, nlit2, nlit3, nlit4, nlit5, nlit6, nlit7, nlit8, nlit9, nlit10, nlit11, nlit12, nlit16, nlit18, nlit22, nlit31, nlit32, nlit33, nlit34, nlit40, nlit48, nlit60, nlit63, nlit64, nlit66, nlit80, nlit96, nlit114, nlit126, nlit128, nlit512, nlit756, nlit882, nlit1000, nlit1394, nlit1522, nlit1523, nlit10000, decide_true, decide_false, not_true_eq_false, not_false_eq_true, ne_eq, and_self, and_true, true_and, Bool.and_true, Bool.true_and, Bool.and_false, Bool.false_and, Bool.or_false, Bool.false_or, Bool.or_true, Bool.true_or, Bool.not_true, Bool.not_false, needRange_q, hq, hq2]) (by simp) (by simp) (fun w' => by unfold f_X8_set; simp (disch := omega) only [mth_w, kR_w, kR_if, sQ_v, sN_v, sTi_v, sTa_v, sTl_v, sR_v, sRv_v, sX_v, sPi_v, sPo_v, sPz_w, zP_b, sRz_w, zR_bw, zR_0w, zR_1w, sPa_v, sAi_v, sAl_v, sAo_v, sAa_v, sM_w, sMp_w, eM_w, sIf_w, eIf_w, cAnd_w, cOr_w, cB_v, cZ_v, cNot_v, eC_v, eI_v, eJ_v, eOp_v, eQ_v, eU_v, eIL_v, eLO_v, eLS_v, eLC_v, eGi_v, eGa_v, eZ_w, eAi_v, eAl_v, eAa_v, eAn_v, aN_v, aI_v, aA_v, sInc_v, sB_okw, sB_xw, eS_okw, eS_xw, eB_okw, eB_xw, oE_w, oS_w, kI_iw, kI_xw, kV_w, kV_xw, kP_iw, kP_xw, List.set_cons_zero, List.set_cons_succ, List.cons_append, List.nil_append, List.length_cons, List.length_nil, List.replicate_succ, List.replicate_zero, List.append_nil, bif_and, bif_or, zne_b01, zeq_b01, bif_d, cond_true, cond_false, nar_0, o_iadd, o_isub, o_imul, c_eq, c_ne, c_lt, c_ge, c_gt, c_le, Nat.reduceAdd, Nat.reduceSub, Nat.zero_add, if_true, if_false, eLl_2, eLi_0, eLi_1, eLi_2, eLi_3, eLi_4, eLi_5, eLi_6, eLi_7, eLi_8, eLi_9, eLi_10, eLi_11, eLi_12, eLi_13, eLa_0, eLa_1, eLa_2, eLa_3, eLa_4, eLa_5, eLa_6, eLa_7, nz_add, nz_mul, nz_sub, nz_lt, nz_le, nz_inj, zeq_nz, zne_nz, zge_nz, zgt_nz, zlt_nz, nlit0, nlit1, nlit2, nlit3, nlit4, nlit5, nlit6, nlit7, nlit8, nlit9, nlit10, nlit11, nlit12, nlit16, nlit18, nlit22, nlit31, nlit32, nlit33, nlit34, nlit40, nlit48, nlit60, nlit63, nlit64, nlit66, nlit80, nlit96, nlit114, nlit126, nlit128, nlit512, nlit756, nlit882, nlit1000, nlit1394, nlit1522, nlit1523, nlit10000, decide_true, decide_false, not_true_eq_false, not_false_eq_true, ne_eq, and_self, and_true, true_and, Bool.and_true, Bool.true_and, Bool.and_false, Bool.false_and, Bool.or_false, Bool.false_or, Bool.or_true, Bool.true_or, Bool.not_true, Bool.not_false, gd_133, rf_133_0, rf_133_1, rf_133_2, rf_133_3, rf_133_4, rf_133_5, rf_133_6, rf_133_7, rf_133_8, rd_133_9, wr_133_9, rd_133_10, wr_133_10, rf_133_11, rd_133_12, wr_133_12, rd_133_13, wr_133_13, rd_133_14, wr_133_14, rd_133_15, wr_133_15, rd_133_16, wr_133_16, rf_133_17, rf_133_18, ar_134, aw_134, an_134, ar_135, aw_135, an_135, ar_136, aw_136, an_136, ar_137, aw_137, ar_138, aw_138, an_138, ar_139, aw_139, an_139, ar_140, aw_140, an_140, ar_141, aw_141, an_141, ar_142, aw_142, an_142, ar_143, aw_143, an_143, ar_144, aw_144, an_144, ar_145, aw_145, in_q, hq, hq2, e_fails])
    | true =>
      obtain ⟨k, -, hk, rfl⟩ := inQ_y (by omega) (by omega) hq
      obtain ⟨x, -, hx, rfl⟩ := inQ_y (by omega) (by omega) hq2
      have off : ∀ j, j ≠ 3 + k → su (m 134) (3 + k) (nz x) j = m 134 j := fun j hj => su_ne hj
      have hcel : ∀ c r, c < 32 → r < 16 → vS (su (m 134) (3 + k) (nz x)) c r = vS (m 134) c r := fun c r hc hr => vS_su_off (by omega) hc hr
      refine Ag_change hI hb1 (Nat.le_refl _) (v := m 134 (3 + k)) (S' := su (m 134) (3 + k) (nz x)) ?_ ?_ ?_
      · refine hw.gen (fun j hj => off j (by omega)) (fun k' hk' => ?_) (hw.cel hcel) (hw.gus fun j hj => off j (by omega)) (hw.boo fun k' hk' => off _ (by omega))
        rw [su_v]
        by_cases q : 3 + k' = 3 + k
        · rw [if_pos q]
          rcases (show x = 0 ∨ x = 1 by omega) with rfl | rfl
          · exact Or.inl rfl
          · exact Or.inr rfl
        · rw [if_neg q]
          exact hw.2.2.2.1 k' hk'
      · intro m1 r1 r2 hT1
        have aw := hb.aw
        have hv : m1 (b + 11) k = m 134 (3 + k) := hT1.fit (by omega)
        refine ⟨ms m1 (b + 11) k (nz x), ?_, ?_, fun a ha ha2 => by rw [ms_ne (by omega)], by rw [ms_ne (by omega)]⟩
        · unfold f_X7_set
          simp (disch := omega) only [mth_w, kR_w, kR_if, sQ_v, sN_v, sTi_v, sTa_v, sTl_v, sR_v, sRv_v, sX_v, sPi_v, sPo_v, sPz_w, zP_b, sRz_w, zR_bw, zR_0w, zR_1w, sPa_v, sAi_v, sAl_v, sAo_v, sAa_v, sM_w, sMp_w, eM_w, sIf_w, eIf_w, cAnd_w, cOr_w, cB_v, cZ_v, cNot_v, eC_v, eI_v, eJ_v, eOp_v, eQ_v, eU_v, eIL_v, eLO_v, eLS_v, eLC_v, eGi_v, eGa_v, eZ_w, eAi_v, eAl_v, eAa_v, eAn_v, aN_v, aI_v, aA_v, sInc_v, sB_okw, sB_xw, eS_okw, eS_xw, eB_okw, eB_xw, oE_w, oS_w, kI_iw, kI_xw, kV_w, kV_xw, kP_iw, kP_xw, List.set_cons_zero, List.set_cons_succ, List.cons_append, List.nil_append, List.length_cons, List.length_nil, List.replicate_succ, List.replicate_zero, List.append_nil, bif_and, bif_or, zne_b01, zeq_b01, bif_d, cond_true, cond_false, nar_0, o_iadd, o_isub, o_imul, c_eq, c_ne, c_lt, c_ge, c_gt, c_le, Nat.reduceAdd, Nat.reduceSub, Nat.zero_add, if_true, if_false, eLl_2, eLi_0, eLi_1, eLi_2, eLi_3, eLi_4, eLi_5, eLi_6, eLi_7, eLi_8, eLi_9, eLi_10, eLi_11, eLi_12, eLi_13, eLa_0, eLa_1, eLa_2, eLa_3, eLa_4, eLa_5, eLa_6, eLa_7, nz_add, nz_mul, nz_sub, nz_lt, nz_le, nz_inj, zeq_nz, zne_nz, zge_nz, zgt_nz, zlt_nz, nlit0, nlit1, nlit2, nlit3, nlit4, nlit5, nlit6, nlit7, nlit8, nlit9, nlit10, nlit11, nlit12, nlit16, nlit18, nlit22, nlit31, nlit32, nlit33, nlit34, nlit40, nlit48, nlit60, nlit63, nlit64, nlit66, nlit80, nlit96, nlit114, nlit126, nlit128, nlit512, nlit756, nlit882, nlit1000, nlit1394, nlit1522, nlit1523, nlit10000, decide_true, decide_false, not_true_eq_false, not_false_eq_true, ne_eq, and_self, and_true, true_and, Bool.and_true, Bool.true_and, Bool.and_false, Bool.false_and, Bool.or_false, Bool.false_or, Bool.or_true, Bool.true_or, Bool.not_true, Bool.not_false, gd_0, rf_0_2, rf_0_3, rf_0_4, rd_0_5, wr_0_5, rd_0_6, wr_0_6, rf_0_7, rf_0_8, rf_0_9, gd_31, rf_31_0, rf_31_1, rf_31_2, ar_32, aw_32, an_32, ar_33, aw_33, an_33, ar_34, aw_34, an_34, gd_35, rf_35_0, rd_35_1, wr_35_1, rf_35_2, rd_35_3, wr_35_3, rd_35_4, wr_35_4, rd_35_5, wr_35_5, rf_35_6, rd_35_7, wr_35_7, rd_35_8, wr_35_8, rd_35_9, wr_35_9, rd_35_10, wr_35_10, rd_35_11, wr_35_11, rd_35_12, wr_35_12, rd_35_13, wr_35_13, ar_36, aw_36, ar_37, aw_37, an_37, ar_38, aw_38, ar_39, ar_40, ar_41, aw_41, ar_42, aw_42, ar_146, aw_146, h0, (gd_t0 hb), (rf_t0_0 hb), (rf_t0_1 hb), (rf_t0_2 hb), (rf_t0_3 hb), (rf_t0_4 hb), (rf_t0_5 hb), (rd_t0_6 hb), (wr_t0_6 hb), (rd_t0_7 hb), (wr_t0_7 hb), (rf_t0_8 hb), (rf_t0_9 hb), (gd_t1 hb), (rd_t1_0 hb), (wr_t1_0 hb), (rd_t1_1 hb), (wr_t1_1 hb), (rd_t1_2 hb), (wr_t1_2 hb), (rf_t1_3 hb), (rf_t1_4 hb), (ar_t2 hb), (aw_t2 hb), (an_t2 hb), (ar_t3 hb), (aw_t3 hb), (an_t3 hb), (gd_t4 hb), (rd_t4_0 hb), (wr_t4_0 hb), (rf_t4_1 hb), (ar_t5 hb), (aw_t5 hb), (an_t5 hb), (gd_t6 hb), (rd_t6_0 hb), (wr_t6_0 hb), (rd_t6_1 hb), (wr_t6_1 hb), (rf_t6_2 hb), (ar_t7 hb), (aw_t7 hb), (an_t7 hb), (gd_t8 hb), (rf_t8_0 hb), (rf_t8_1 hb), (ar_t9 hb), (aw_t9 hb), (an_t9 hb), (ar_t10 hb), (aw_t10 hb), (an_t10 hb), (ar_t11 hb), (aw_t11 hb), (an_t11 hb), (ar_t12 hb), (aw_t12 hb), (an_t12 hb), (ar_t13 hb), (aw_t13 hb), (an_t13 hb), (ar_t14 hb), (aw_t14 hb), (an_t14 hb), needRange_q, hq, hq2, r1, hv]
        · refine hT1.gen hw ?_ ?_ ?_ ?_ ?_ (fun j hj => off j (by omega)) (Or.inl ⟨?_, ?_, hcel⟩) (Or.inl ⟨?_, ?_, off _ (by omega), fun k' hk' => off _ (by omega)⟩) (Or.inl ⟨?_, fun k' hk' => off _ (by omega)⟩) (Or.inl ⟨?_, fun k' hk' hk2 => off _ (by omega)⟩) (Or.inr fun i hi => ?_) (Or.inl ⟨?_, ?_, off _ (by omega), fun k' hk' => off _ (by omega)⟩) (Or.inl ⟨?_, fun k' hk' => off _ (by omega)⟩)
          all_goals try (rw [ms_ne (by omega)])
          rw [ms_v, su_v, hT1.fit hi]
          exact ite_ic ⟨fun z => by omega, fun z => ⟨rfl, by omega⟩⟩
      · intro m2 w' hk2
        have h34 : m2 134 = m 134 := hk2 _ (by decide)
        refine ⟨?m3, ?ev, fun a a1 a2 a3 a4 => ?_, ?_, ?_⟩
        case ev =>
          unfold f_X8_set
          simp (disch := omega) only [mth_w, kR_w, kR_if, sQ_v, sN_v, sTi_v, sTa_v, sTl_v, sR_v, sRv_v, sX_v, sPi_v, sPo_v, sPz_w, zP_b, sRz_w, zR_bw, zR_0w, zR_1w, sPa_v, sAi_v, sAl_v, sAo_v, sAa_v, sM_w, sMp_w, eM_w, sIf_w, eIf_w, cAnd_w, cOr_w, cB_v, cZ_v, cNot_v, eC_v, eI_v, eJ_v, eOp_v, eQ_v, eU_v, eIL_v, eLO_v, eLS_v, eLC_v, eGi_v, eGa_v, eZ_w, eAi_v, eAl_v, eAa_v, eAn_v, aN_v, aI_v, aA_v, sInc_v, sB_okw, sB_xw, eS_okw, eS_xw, eB_okw, eB_xw, oE_w, oS_w, kI_iw, kI_xw, kV_w, kV_xw, kP_iw, kP_xw, List.set_cons_zero, List.set_cons_succ, List.cons_append, List.nil_append, List.length_cons, List.length_nil, List.replicate_succ, List.replicate_zero, List.append_nil, bif_and, bif_or, zne_b01, zeq_b01, bif_d, cond_true, cond_false, nar_0, o_iadd, o_isub, o_imul, c_eq, c_ne, c_lt, c_ge, c_gt, c_le, Nat.reduceAdd, Nat.reduceSub, Nat.zero_add, if_true, if_false, eLl_2, eLi_0, eLi_1, eLi_2, eLi_3, eLi_4, eLi_5, eLi_6, eLi_7, eLi_8, eLi_9, eLi_10, eLi_11, eLi_12, eLi_13, eLa_0, eLa_1, eLa_2, eLa_3, eLa_4, eLa_5, eLa_6, eLa_7, nz_add, nz_mul, nz_sub, nz_lt, nz_le, nz_inj, zeq_nz, zne_nz, zge_nz, zgt_nz, zlt_nz, nlit0, nlit1, nlit2, nlit3, nlit4, nlit5, nlit6, nlit7, nlit8, nlit9, nlit10, nlit11, nlit12, nlit16, nlit18, nlit22, nlit31, nlit32, nlit33, nlit34, nlit40, nlit48, nlit60, nlit63, nlit64, nlit66, nlit80, nlit96, nlit114, nlit126, nlit128, nlit512, nlit756, nlit882, nlit1000, nlit1394, nlit1522, nlit1523, nlit10000, decide_true, decide_false, not_true_eq_false, not_false_eq_true, ne_eq, and_self, and_true, true_and, Bool.and_true, Bool.true_and, Bool.and_false, Bool.false_and, Bool.or_false, Bool.false_or, Bool.or_true, Bool.true_or, Bool.not_true, Bool.not_false, gd_133, rf_133_0, rf_133_1, rf_133_2, rf_133_3, rf_133_4, rf_133_5, rf_133_6, rf_133_7, rf_133_8, rd_133_9, wr_133_9, rd_133_10, wr_133_10, rf_133_11, rd_133_12, wr_133_12, rd_133_13, wr_133_13, rd_133_14, wr_133_14, rd_133_15, wr_133_15, rd_133_16, wr_133_16, rf_133_17, rf_133_18, ar_134, aw_134, an_134, ar_135, aw_135, an_135, ar_136, aw_136, an_136, ar_137, aw_137, ar_138, aw_138, an_138, ar_139, aw_139, an_139, ar_140, aw_140, an_140, ar_141, aw_141, an_141, ar_142, aw_142, an_142, ar_143, aw_143, an_143, ar_144, aw_144, an_144, ar_145, aw_145, in_q, hq, hq2, e_holds, mw_ne, ms_mw, mw_mw, mw_at, h34]
          rfl
        · rw [mw_ne a1, mw_ne a2]
        · rw [mw_ne (by decide), mw_at]
          exact fun j hj => if_pos hj
        · rw [mw_at]
          exact Sq.rf
/-- a tunnel built anew -/
def bldE (S : St) (W H : Nat) : St := fun k => if 2 ≤ k ∧ k < 1394 ∧ ¬ (3 ≤ k ∧ k ≤ 5) then nz 0 else if k = 1 then nz H else if k = 0 then nz W else S k
theorem bldE_0 {W H k : Nat} (h : 2 ≤ k ∧ k < 1394 ∧ ¬ (3 ≤ k ∧ k ≤ 5)) : bldE S W H k = nz 0 := if_pos h
theorem bldE_k {W H k : Nat} (h : 3 ≤ k ∧ k ≤ 5 ∨ 1394 ≤ k) : bldE S W H k = S k := by
  unfold bldE
  rw [if_neg (by omega), if_neg (by omega), if_neg (by omega)]
theorem A_build (hI : INV T m) (p0 p1 : Int32) : AgI e m w f_X7_build f_X8_build [.ref 0, .int p0, .int p1] [.ref 133, .int p0, .int p1] [xA] (INV T) := by
  obtain ⟨b, hb1, hb, hT, h0⟩ := hI.tun (e := e)
  have hw := hI.1
  have hW := hw.1
  have hH := hw.2.1
  have w0 : m (b + 1) 0 = nz (wN (m 134)) := by rw [hT.wd]; exact hW.2.2
  have w1 : m (b + 1) 1 = nz (hN (m 134)) := by rw [hT.ht]; exact hH.2.2
  have nc := fun x y => needCell_q (e := e) (w := w) hb h0 hW.2.1 hH.2.1 w0 w1 (x := x) (y := y)
  have nd := fun x y x' y' => needCells_q (e := e) (w := w) hb h0 hW.2.1 hH.2.1 w0 w1 (x := x) (y := y) (x' := x') (y' := y')
  have ic := fun w' x y => isCell_q (e := e) (m := m) (w := w') hW.2.1 hH.2.1 hW.2.2 hH.2.2 (x := x) (y := y)
  cases hq : inQ p0 (nz 4) (nz 32) with
  | false => exact Ag_fail hI xA 1 (by unfold f_X7_build; simp (disch := omega) only [mth_w, kR_w, kR_if, sQ_v, sN_v, sTi_v, sTa_v, sTl_v, sR_v, sRv_v, sX_v, sPi_v, sPo_v, sPz_w, zP_b, sRz_w, zR_bw, zR_0w, zR_1w, sPa_v, sAi_v, sAl_v, sAo_v, sAa_v, sM_w, sMp_w, eM_w, sIf_w, eIf_w, cAnd_w, cOr_w, cB_v, cZ_v, cNot_v, eC_v, eI_v, eJ_v, eOp_v, eQ_v, eU_v, eIL_v, eLO_v, eLS_v, eLC_v, eGi_v, eGa_v, eZ_w, eAi_v, eAl_v, eAa_v, eAn_v, aN_v, aI_v, aA_v, sInc_v, sB_okw, sB_xw, eS_okw, eS_xw, eB_okw, eB_xw, oE_w, oS_w, kI_iw, kI_xw, kV_w, kV_xw, kP_iw, kP_xw, List.set_cons_zero, List.set_cons_succ, List.cons_append, List.nil_append, List.length_cons, List.length_nil, List.replicate_succ, List.replicate_zero, List.append_nil, bif_and, bif_or, zne_b01, zeq_b01, bif_d, cond_true, cond_false, nar_0, o_iadd, o_isub, o_imul, c_eq, c_ne, c_lt, c_ge, c_gt, c_le, Nat.reduceAdd, Nat.reduceSub, Nat.zero_add, if_true, if_false, eLl_2, eLi_0, eLi_1, eLi_2, eLi_3, eLi_4, eLi_5, eLi_6, eLi_7, eLi_8, eLi_9, eLi_10, eLi_11, eLi_12, eLi_13, eLa_0, eLa_1, eLa_2, eLa_3, eLa_4, eLa_5, eLa_6, eLa_7, nz_add, nz_mul, nz_sub, nz_lt, nz_le, nz_inj, zeq_nz, zne_nz, zge_nz, zgt_nz, zlt_nz, nlit0, nlit1, nlit2, nlit3, nlit4, nlit5, nlit6, nlit7, nlit8, nlit9, nlit10, nlit11, nlit12, nlit16, nlit18, nlit22, nlit31, nlit32, nlit33, nlit34, nlit40, nlit48, nlit60, nlit63, nlit64, nlit66, nlit80, nlit96, nlit114, nlit126, nlit128, nlit512, nlit756, nlit882, nlit1000, nlit1394, nlit1522, nlit1523, nlit10000, decide_true, decide_false, not_true_eq_false, not_false_eq_true, ne_eq, and_self, and_true, true_and, Bool.and_true, Bool.true_and, Bool.and_false, Bool.false_and, Bool.or_false, Bool.false_or, Bool.or_true, Bool.true_or, Bool.not_true, Bool.not_false, needRange_q, hq]) (by simp) (by simp) (fun w' => by unfold f_X8_build; simp (disch := omega) only [mth_w, kR_w, kR_if, sQ_v, sN_v, sTi_v, sTa_v, sTl_v, sR_v, sRv_v, sX_v, sPi_v, sPo_v, sPz_w, zP_b, sRz_w, zR_bw, zR_0w, zR_1w, sPa_v, sAi_v, sAl_v, sAo_v, sAa_v, sM_w, sMp_w, eM_w, sIf_w, eIf_w, cAnd_w, cOr_w, cB_v, cZ_v, cNot_v, eC_v, eI_v, eJ_v, eOp_v, eQ_v, eU_v, eIL_v, eLO_v, eLS_v, eLC_v, eGi_v, eGa_v, eZ_w, eAi_v, eAl_v, eAa_v, eAn_v, aN_v, aI_v, aA_v, sInc_v, sB_okw, sB_xw, eS_okw, eS_xw, eB_okw, eB_xw, oE_w, oS_w, kI_iw, kI_xw, kV_w, kV_xw, kP_iw, kP_xw, List.set_cons_zero, List.set_cons_succ, List.cons_append, List.nil_append, List.length_cons, List.length_nil, List.replicate_succ, List.replicate_zero, List.append_nil, bif_and, bif_or, zne_b01, zeq_b01, bif_d, cond_true, cond_false, nar_0, o_iadd, o_isub, o_imul, c_eq, c_ne, c_lt, c_ge, c_gt, c_le, Nat.reduceAdd, Nat.reduceSub, Nat.zero_add, if_true, if_false, eLl_2, eLi_0, eLi_1, eLi_2, eLi_3, eLi_4, eLi_5, eLi_6, eLi_7, eLi_8, eLi_9, eLi_10, eLi_11, eLi_12, eLi_13, eLa_0, eLa_1, eLa_2, eLa_3, eLa_4, eLa_5, eLa_6, eLa_7, nz_add, nz_mul, nz_sub, nz_lt, nz_le, nz_inj, zeq_nz, zne_nz, zge_nz, zgt_nz, zlt_nz, nlit0, nlit1, nlit2, nlit3, nlit4, nlit5, nlit6, nlit7, nlit8, nlit9, nlit10, nlit11, nlit12, nlit16, nlit18, nlit22, nlit31, nlit32, nlit33, nlit34, nlit40, nlit48, nlit60, nlit63, nlit64, nlit66, nlit80, nlit96, nlit114, nlit126, nlit128, nlit512, nlit756, nlit882, nlit1000, nlit1394, nlit1522, nlit1523, nlit10000, decide_true, decide_false, not_true_eq_false, not_false_eq_true, ne_eq, and_self, and_true, true_and, Bool.and_true, Bool.true_and, Bool.and_false, Bool.false_and, Bool.or_false, Bool.false_or, Bool.or_true, Bool.true_or, Bool.not_true, Bool.not_false, gd_133, rf_133_0, rf_133_1, rf_133_2, rf_133_3, rf_133_4, rf_133_5, rf_133_6, rf_133_7, rf_133_8, rd_133_9, wr_133_9, rd_133_10, wr_133_10, rf_133_11, rd_133_12, wr_133_12, rd_133_13, wr_133_13, rd_133_14, wr_133_14, rd_133_15, wr_133_15, rd_133_16, wr_133_16, rf_133_17, rf_133_18, ar_134, aw_134, an_134, ar_135, aw_135, an_135, ar_136, aw_136, an_136, ar_137, aw_137, ar_138, aw_138, an_138, ar_139, aw_139, an_139, ar_140, aw_140, an_140, ar_141, aw_141, an_141, ar_142, aw_142, an_142, ar_143, aw_143, an_143, ar_144, aw_144, an_144, ar_145, aw_145, in_q, hq, e_fails])
  | true =>
    cases hq2 : inQ p1 (nz 2) (nz 16) with
    | false => exact Ag_fail hI xA 1 (by unfold f_X7_build; simp (disch := omega) only [mth_w, kR_w, kR_if, sQ_v, sN_v, sTi_v, sTa_v, sTl_v, sR_v, sRv_v, sX_v, sPi_v, sPo_v, sPz_w, zP_b, sRz_w, zR_bw, zR_0w, zR_1w, sPa_v, sAi_v, sAl_v, sAo_v, sAa_v, sM_w, sMp_w, eM_w, sIf_w, eIf_w, cAnd_w, cOr_w, cB_v, cZ_v, cNot_v, eC_v, eI_v, eJ_v, eOp_v, eQ_v, eU_v, eIL_v, eLO_v, eLS_v, eLC_v, eGi_v, eGa_v, eZ_w, eAi_v, eAl_v, eAa_v, eAn_v, aN_v, aI_v, aA_v, sInc_v, sB_okw, sB_xw, eS_okw, eS_xw, eB_okw, eB_xw, oE_w, oS_w, kI_iw, kI_xw, kV_w, kV_xw, kP_iw, kP_xw, List.set_cons_zero, List.set_cons_succ, List.cons_append, List.nil_append, List.length_cons, List.length_nil, List.replicate_succ, List.replicate_zero, List.append_nil, bif_and, bif_or, zne_b01, zeq_b01, bif_d, cond_true, cond_false, nar_0, o_iadd, o_isub, o_imul, c_eq, c_ne, c_lt, c_ge, c_gt, c_le, Nat.reduceAdd, Nat.reduceSub, Nat.zero_add, if_true, if_false, eLl_2, eLi_0, eLi_1, eLi_2, eLi_3, eLi_4, eLi_5, eLi_6, eLi_7, eLi_8, eLi_9, eLi_10, eLi_11, eLi_12, eLi_13, eLa_0, eLa_1, eLa_2, eLa_3, eLa_4, eLa_5, eLa_6, eLa_7, nz_add, nz_mul, nz_sub, nz_lt, nz_le, nz_inj, zeq_nz, zne_nz, zge_nz, zgt_nz, zlt_nz, nlit0, nlit1, nlit2, nlit3, nlit4, nlit5, nlit6, nlit7, nlit8, nlit9, nlit10, nlit11, nlit12, nlit16, nlit18, nlit22, nlit31, nlit32, nlit33, nlit34, nlit40, nlit48, nlit60, nlit63, nlit64, nlit66, nlit80, nlit96, nlit114, nlit126, nlit128, nlit512, nlit756, nlit882, nlit1000, nlit1394, nlit1522, nlit1523, nlit10000, decide_true, decide_false, not_true_eq_false, not_false_eq_true, ne_eq, and_self, and_true, true_and, Bool.and_true, Bool.true_and, Bool.and_false, Bool.false_and, Bool.or_false, Bool.false_or, Bool.or_true, Bool.true_or, Bool.not_true, Bool.not_false, needRange_q, hq, hq2]) (by simp) (by simp) (fun w' => by unfold f_X8_build; simp (disch := omega) only [mth_w, kR_w, kR_if, sQ_v, sN_v, sTi_v, sTa_v, sTl_v, sR_v, sRv_v, sX_v, sPi_v, sPo_v, sPz_w, zP_b, sRz_w, zR_bw, zR_0w, zR_1w, sPa_v, sAi_v, sAl_v, sAo_v, sAa_v, sM_w, sMp_w, eM_w, sIf_w, eIf_w, cAnd_w, cOr_w, cB_v, cZ_v, cNot_v, eC_v, eI_v, eJ_v, eOp_v, eQ_v, eU_v, eIL_v, eLO_v, eLS_v, eLC_v, eGi_v, eGa_v, eZ_w, eAi_v, eAl_v, eAa_v, eAn_v, aN_v, aI_v, aA_v, sInc_v, sB_okw, sB_xw, eS_okw, eS_xw, eB_okw, eB_xw, oE_w, oS_w, kI_iw, kI_xw, kV_w, kV_xw, kP_iw, kP_xw, List.set_cons_zero, List.set_cons_succ, List.cons_append, List.nil_append, List.length_cons, List.length_nil, List.replicate_succ, List.replicate_zero, List.append_nil, bif_and, bif_or, zne_b01, zeq_b01, bif_d, cond_true, cond_false, nar_0, o_iadd, o_isub, o_imul, c_eq, c_ne, c_lt, c_ge, c_gt, c_le, Nat.reduceAdd, Nat.reduceSub, Nat.zero_add, if_true, if_false, eLl_2, eLi_0, eLi_1, eLi_2, eLi_3, eLi_4, eLi_5, eLi_6, eLi_7, eLi_8, eLi_9, eLi_10, eLi_11, eLi_12, eLi_13, eLa_0, eLa_1, eLa_2, eLa_3, eLa_4, eLa_5, eLa_6, eLa_7, nz_add, nz_mul, nz_sub, nz_lt, nz_le, nz_inj, zeq_nz, zne_nz, zge_nz, zgt_nz, zlt_nz, nlit0, nlit1, nlit2, nlit3, nlit4, nlit5, nlit6, nlit7, nlit8, nlit9, nlit10, nlit11, nlit12, nlit16, nlit18, nlit22, nlit31, nlit32, nlit33, nlit34, nlit40, nlit48, nlit60, nlit63, nlit64, nlit66, nlit80, nlit96, nlit114, nlit126, nlit128, nlit512, nlit756, nlit882, nlit1000, nlit1394, nlit1522, nlit1523, nlit10000, decide_true, decide_false, not_true_eq_false, not_false_eq_true, ne_eq, and_self, and_true, true_and, Bool.and_true, Bool.true_and, Bool.and_false, Bool.false_and, Bool.or_false, Bool.false_or, Bool.or_true, Bool.true_or, Bool.not_true, Bool.not_false, gd_133, rf_133_0, rf_133_1, rf_133_2, rf_133_3, rf_133_4, rf_133_5, rf_133_6, rf_133_7, rf_133_8, rd_133_9, wr_133_9, rd_133_10, wr_133_10, rf_133_11, rd_133_12, wr_133_12, rd_133_13, wr_133_13, rd_133_14, wr_133_14, rd_133_15, wr_133_15, rd_133_16, wr_133_16, rf_133_17, rf_133_18, ar_134, aw_134, an_134, ar_135, aw_135, an_135, ar_136, aw_136, an_136, ar_137, aw_137, ar_138, aw_138, an_138, ar_139, aw_139, an_139, ar_140, aw_140, an_140, ar_141, aw_141, an_141, ar_142, aw_142, an_142, ar_143, aw_143, an_143, ar_144, aw_144, an_144, ar_145, aw_145, in_q, hq, hq2, e_fails])
    | true =>
      obtain ⟨W, W4, W32, rfl⟩ := inQ_y (by omega) (by omega) hq
      obtain ⟨H, H2, H16, rfl⟩ := inQ_y (by omega) (by omega) hq2
      have s0 : bldE (m 134) W H 0 = nz W := by
        unfold bldE
        rw [if_neg (by omega), if_neg (by omega), if_pos rfl]
      have s1 : bldE (m 134) W H 1 = nz H := by
        unfold bldE
        rw [if_neg (by omega), if_pos rfl]
      have eW : wN (bldE (m 134) W H) = W := by unfold wN; rw [s0, nz_cl (by omega)]
      have eH : hN (bldE (m 134) W H) = H := by unfold hN; rw [s1, nz_cl (by omega)]
      have et : tN (bldE (m 134) W H) = 0 := by unfold tN; rw [bldE_0 (by omega)]; rfl
      have eg : gN (bldE (m 134) W H) = 0 := by unfold gN; rw [bldE_0 (by omega)]; rfl
      have er : rN (bldE (m 134) W H) = 0 := by unfold rN; rw [bldE_0 (by omega)]; rfl
      have ec : ∀ c r, c < 32 → r < 16 → vS (bldE (m 134) W H) c r = nz 0 := fun c r hc hr => bldE_0 (by omega)
      have hbq : ∀ k, k < 6 → bq (nz 0) k = false := by decide
      refine Ag_change hI hb1 (Nat.le_refl _) (v := nz (W * H)) (S' := bldE (m 134) W H) ?_ ?_ ?_
      · unfold WF
        rw [eW, eH, et, eg, er]
        refine ⟨⟨W4, W32, s0⟩, ⟨H2, H16, s1⟩, ⟨by omega, bldE_0 (by omega)⟩, fun k hk => ?_, ⟨by omega, bldE_0 (by omega)⟩, ⟨by omega, bldE_0 (by omega)⟩, fun r hr c hc => by rw [ec c r hc hr]; exact ⟨okV_z, fun _ => rfl⟩, fun g hg => absurd hg (Nat.not_lt_zero g), fun k hk => ?_, ⟨?_, ?_⟩, fun i hi => absurd hi (Nat.not_lt_zero i)⟩
        · rw [bldE_k (by omega)]; exact hw.2.2.2.1 k hk
        · rw [bldE_k (by omega)]; exact hw.2.2.2.2.2.2.2.2.1 k hk
        · rw [bldE_k (by omega)]; exact hw.2.2.2.2.2.2.2.2.2.1.1
        · rw [bldE_k (by omega)]; exact hw.2.2.2.2.2.2.2.2.2.1.2
      · intro m1 r1 r2 hT1
        have aw := hb.aw
        obtain ⟨m2, b1, b2, b3, b4, b5, b6, b7, b8, b9, b10, b11, b12, b13, b14, b15, b16, b17, b18⟩ := e_buildAnew (e := e) (w := w) (m := m1) (W := W - 1) (H := nz H) hb (by omega)
        rw [show W - 1 + 1 = W by omega] at b1 b3
        obtain ⟨q0, L, l1, l2, l3⟩ := hT1.rec
        refine ⟨m2, ?_, ?_, fun a ha ha2 => b2 a (by omega), by rw [b2 _ (by omega)]⟩
        · unfold f_X7_build
          simp (disch := omega) only [mth_w, kR_w, kR_if, sQ_v, sN_v, sTi_v, sTa_v, sTl_v, sR_v, sRv_v, sX_v, sPi_v, sPo_v, sPz_w, zP_b, sRz_w, zR_bw, zR_0w, zR_1w, sPa_v, sAi_v, sAl_v, sAo_v, sAa_v, sM_w, sMp_w, eM_w, sIf_w, eIf_w, cAnd_w, cOr_w, cB_v, cZ_v, cNot_v, eC_v, eI_v, eJ_v, eOp_v, eQ_v, eU_v, eIL_v, eLO_v, eLS_v, eLC_v, eGi_v, eGa_v, eZ_w, eAi_v, eAl_v, eAa_v, eAn_v, aN_v, aI_v, aA_v, sInc_v, sB_okw, sB_xw, eS_okw, eS_xw, eB_okw, eB_xw, oE_w, oS_w, kI_iw, kI_xw, kV_w, kV_xw, kP_iw, kP_xw, List.set_cons_zero, List.set_cons_succ, List.cons_append, List.nil_append, List.length_cons, List.length_nil, List.replicate_succ, List.replicate_zero, List.append_nil, bif_and, bif_or, zne_b01, zeq_b01, bif_d, cond_true, cond_false, nar_0, o_iadd, o_isub, o_imul, c_eq, c_ne, c_lt, c_ge, c_gt, c_le, Nat.reduceAdd, Nat.reduceSub, Nat.zero_add, if_true, if_false, eLl_2, eLi_0, eLi_1, eLi_2, eLi_3, eLi_4, eLi_5, eLi_6, eLi_7, eLi_8, eLi_9, eLi_10, eLi_11, eLi_12, eLi_13, eLa_0, eLa_1, eLa_2, eLa_3, eLa_4, eLa_5, eLa_6, eLa_7, nz_add, nz_mul, nz_sub, nz_lt, nz_le, nz_inj, zeq_nz, zne_nz, zge_nz, zgt_nz, zlt_nz, nlit0, nlit1, nlit2, nlit3, nlit4, nlit5, nlit6, nlit7, nlit8, nlit9, nlit10, nlit11, nlit12, nlit16, nlit18, nlit22, nlit31, nlit32, nlit33, nlit34, nlit40, nlit48, nlit60, nlit63, nlit64, nlit66, nlit80, nlit96, nlit114, nlit126, nlit128, nlit512, nlit756, nlit882, nlit1000, nlit1394, nlit1522, nlit1523, nlit10000, decide_true, decide_false, not_true_eq_false, not_false_eq_true, ne_eq, and_self, and_true, true_and, Bool.and_true, Bool.true_and, Bool.and_false, Bool.false_and, Bool.or_false, Bool.false_or, Bool.or_true, Bool.true_or, Bool.not_true, Bool.not_false, gd_0, rf_0_2, rf_0_3, rf_0_4, rd_0_5, wr_0_5, rd_0_6, wr_0_6, rf_0_7, rf_0_8, rf_0_9, gd_31, rf_31_0, rf_31_1, rf_31_2, ar_32, aw_32, an_32, ar_33, aw_33, an_33, ar_34, aw_34, an_34, gd_35, rf_35_0, rd_35_1, wr_35_1, rf_35_2, rd_35_3, wr_35_3, rd_35_4, wr_35_4, rd_35_5, wr_35_5, rf_35_6, rd_35_7, wr_35_7, rd_35_8, wr_35_8, rd_35_9, wr_35_9, rd_35_10, wr_35_10, rd_35_11, wr_35_11, rd_35_12, wr_35_12, rd_35_13, wr_35_13, ar_36, aw_36, ar_37, aw_37, an_37, ar_38, aw_38, ar_39, ar_40, ar_41, aw_41, ar_42, aw_42, ar_146, aw_146, h0, (gd_t0 hb), (rf_t0_0 hb), (rf_t0_1 hb), (rf_t0_2 hb), (rf_t0_3 hb), (rf_t0_4 hb), (rf_t0_5 hb), (rd_t0_6 hb), (wr_t0_6 hb), (rd_t0_7 hb), (wr_t0_7 hb), (rf_t0_8 hb), (rf_t0_9 hb), (gd_t1 hb), (rd_t1_0 hb), (wr_t1_0 hb), (rd_t1_1 hb), (wr_t1_1 hb), (rd_t1_2 hb), (wr_t1_2 hb), (rf_t1_3 hb), (rf_t1_4 hb), (ar_t2 hb), (aw_t2 hb), (an_t2 hb), (ar_t3 hb), (aw_t3 hb), (an_t3 hb), (gd_t4 hb), (rd_t4_0 hb), (wr_t4_0 hb), (rf_t4_1 hb), (ar_t5 hb), (aw_t5 hb), (an_t5 hb), (gd_t6 hb), (rd_t6_0 hb), (wr_t6_0 hb), (rd_t6_1 hb), (wr_t6_1 hb), (rf_t6_2 hb), (ar_t7 hb), (aw_t7 hb), (an_t7 hb), (gd_t8 hb), (rf_t8_0 hb), (rf_t8_1 hb), (ar_t9 hb), (aw_t9 hb), (an_t9 hb), (ar_t10 hb), (aw_t10 hb), (an_t10 hb), (ar_t11 hb), (aw_t11 hb), (an_t11 hb), (ar_t12 hb), (aw_t12 hb), (an_t12 hb), (ar_t13 hb), (aw_t13 hb), (an_t13 hb), (ar_t14 hb), (aw_t14 hb), (an_t14 hb), needRange_q, hq, hq2, r1, b1]
        · unfold TR TRv
          rw [eW, eH, eg, er]
          refine ⟨⟨?_, ?_, fun c hc => ?_⟩, fun r hr d hd c hc => ?_, fun r hr k hk c hc => ?_, ⟨?_, fun k hk => by omega⟩, ⟨?_, L, l1, ?_, fun i hi => absurd hi (Nat.not_lt_zero i)⟩, fun k hk => ?_, fun k hk x hx => ?_, fun k hk => ?_, fun k hk => ?_, ⟨?_, ?_⟩, fun k hk => ?_, fun c hc => ?_⟩
          · show m2 (b + 1) 0 = _
            rw [b3, s0]
          · show m2 (b + 1) 1 = _
            rw [b4, s1]
          · show bt (m2 (b + 1) 2) c = _
            rw [b5, bt_cb (by omega) (by omega) hc, decide_eq_true (Nat.zero_le _), Bool.true_and]
            exact decide_eq_decide.mpr (by omega)
          · show bt (m2 (b + 2) _) c = _
            rw [b6 _ (by omega), ec c r hc hr, pq_nz (by decide) hd]
            exact (bt_0 c).trans (by simp)
          · show bt (m2 (b + 3) _) c = _
            rw [b7 _ (by omega), ec c r hc hr, hbq k hk]
            exact bt_0 c
          · show m2 (b + 4) 0 = _
            rw [b8, bldE_0 (by omega)]
          · show m2 (b + 6) 0 = _
            rw [b9, bldE_0 (by omega)]
          · show m2 (b + 6) 1 = _
            rw [b10]; exact l2
          · show m2 (b + 9) k = _
            rw [b11 k hk, bldE_0 (by omega)]
          · show m2 (b + 10) _ = _
            rw [b12 _ (by omega), bldE_0 (by omega)]
          · show m2 (b + 11) k = _
            rw [b13, bldE_k (by omega)]; exact hT1.fit hk
          · show m2 (b + 12) k = _
            rw [b14, bldE_k (by omega)]; exact hT1.bk hk
          · show m2 b 6 = _
            rw [b15, bldE_k (by omega)]; exact hT1.2.2.2.2.2.2.2.2.2.1.1
          · show m2 b 7 = _
            rw [b16, bldE_0 (by omega)]
          · show m2 (b + 13) k = _
            rw [b17 k hk, bldE_0 (by omega)]
          · rw [bldE_0 (by omega)]
            refine sm_zero fun r hr => sm_zero fun d hd => ?_
            show sg d (b01 (bt (m2 (b + 14) _) c)) = _
            rw [b18 _ (by omega), show bt (nz 0) c = false from bt_0 c]
            exact sg_z
      · intro m2 w' hk2
        have h34 : m2 134 = m 134 := hk2 _ (by decide)
        refine ⟨?m3, ?ev, fun a a1 a2 a3 a4 => ?_, ?_, ?_⟩
        case ev =>
          unfold f_X8_build
          simp (disch := omega) only [mth_w, kR_w, kR_if, sQ_v, sN_v, sTi_v, sTa_v, sTl_v, sR_v, sRv_v, sX_v, sPi_v, sPo_v, sPz_w, zP_b, sRz_w, zR_bw, zR_0w, zR_1w, sPa_v, sAi_v, sAl_v, sAo_v, sAa_v, sM_w, sMp_w, eM_w, sIf_w, eIf_w, cAnd_w, cOr_w, cB_v, cZ_v, cNot_v, eC_v, eI_v, eJ_v, eOp_v, eQ_v, eU_v, eIL_v, eLO_v, eLS_v, eLC_v, eGi_v, eGa_v, eZ_w, eAi_v, eAl_v, eAa_v, eAn_v, aN_v, aI_v, aA_v, sInc_v, sB_okw, sB_xw, eS_okw, eS_xw, eB_okw, eB_xw, oE_w, oS_w, kI_iw, kI_xw, kV_w, kV_xw, kP_iw, kP_xw, List.set_cons_zero, List.set_cons_succ, List.cons_append, List.nil_append, List.length_cons, List.length_nil, List.replicate_succ, List.replicate_zero, List.append_nil, bif_and, bif_or, zne_b01, zeq_b01, bif_d, cond_true, cond_false, nar_0, o_iadd, o_isub, o_imul, c_eq, c_ne, c_lt, c_ge, c_gt, c_le, Nat.reduceAdd, Nat.reduceSub, Nat.zero_add, if_true, if_false, eLl_2, eLi_0, eLi_1, eLi_2, eLi_3, eLi_4, eLi_5, eLi_6, eLi_7, eLi_8, eLi_9, eLi_10, eLi_11, eLi_12, eLi_13, eLa_0, eLa_1, eLa_2, eLa_3, eLa_4, eLa_5, eLa_6, eLa_7, nz_add, nz_mul, nz_sub, nz_lt, nz_le, nz_inj, zeq_nz, zne_nz, zge_nz, zgt_nz, zlt_nz, nlit0, nlit1, nlit2, nlit3, nlit4, nlit5, nlit6, nlit7, nlit8, nlit9, nlit10, nlit11, nlit12, nlit16, nlit18, nlit22, nlit31, nlit32, nlit33, nlit34, nlit40, nlit48, nlit60, nlit63, nlit64, nlit66, nlit80, nlit96, nlit114, nlit126, nlit128, nlit512, nlit756, nlit882, nlit1000, nlit1394, nlit1522, nlit1523, nlit10000, decide_true, decide_false, not_true_eq_false, not_false_eq_true, ne_eq, and_self, and_true, true_and, Bool.and_true, Bool.true_and, Bool.and_false, Bool.false_and, Bool.or_false, Bool.false_or, Bool.or_true, Bool.true_or, Bool.not_true, Bool.not_false, gd_133, rf_133_0, rf_133_1, rf_133_2, rf_133_3, rf_133_4, rf_133_5, rf_133_6, rf_133_7, rf_133_8, rd_133_9, wr_133_9, rd_133_10, wr_133_10, rf_133_11, rd_133_12, wr_133_12, rd_133_13, wr_133_13, rd_133_14, wr_133_14, rd_133_15, wr_133_15, rd_133_16, wr_133_16, rf_133_17, rf_133_18, ar_134, aw_134, an_134, ar_135, aw_135, an_135, ar_136, aw_136, an_136, ar_137, aw_137, ar_138, aw_138, an_138, ar_139, aw_139, an_139, ar_140, aw_140, an_140, ar_141, aw_141, an_141, ar_142, aw_142, an_142, ar_143, aw_143, an_143, ar_144, aw_144, an_144, ar_145, aw_145, in_q, hq, hq2, e_holds, e_clears, mw_ne, ms_mw, mw_mw, mw_at, h34]
          rfl
        · rw [mw_ne a1, mw_ne a2]
        · rw [mw_ne (by decide), mw_at]
          exact fun j hj => if_pos hj
        · rw [mw_at]
          exact fun j hj => rfl
-- cells
/-- one cell set -/
def celS (S : St) (c r : Nat) (v : Int32) : St := su S (882 + (32 * r + c)) v
theorem celS_v {c r c' r' : Nat} {v : Int32} (hc : c < 32) (hc' : c' < 32) : vS (celS S c r v) c' r' = if c' = c ∧ r' = r then v else vS S c' r' := by
  unfold vS celS su
  exact ite_ic (by omega)
theorem celS_wf (hw : WF T S) {c r : Nat} {v : Int32} (hc : c < wN S) (hr : r < hN S) (hv : okV v) : WF T (celS S c r v) := by
  have hW := hw.1.2.1
  have hH := hw.2.1.2.1
  have off : ∀ j, (j < 882 ∨ 1394 ≤ j) → celS S c r v j = S j := fun j hj => su_ne (by omega)
  refine hw.gen (fun j hj => off j (by omega)) (hw.fit fun k' hk' => off _ (by omega)) (fun r' hr' c' hc' => ?_) (hw.gus fun j hj => off j (by omega)) (hw.boo fun k' hk' => off _ (by omega))
  rw [celS_v (by omega) hc']
  by_cases q : c' = c ∧ r' = r
  · rw [if_pos q]
    exact ⟨hv, fun z => absurd ⟨by omega, by omega⟩ z⟩
  · rw [if_neg q]
    exact hw.2.2.2.2.2.2.1 r' hr' c' hc'
theorem pq_b {v : Int32} (hv : okV v) : (∃ d, d < 6 ∧ pq v d = true) ↔ z_ge v = true ∧ v ≠ nz 0 := by
  rcases hv with ⟨n, hn, hq⟩ | ⟨k, hk, hq⟩
  · rw [hq]
    constructor
    · rintro ⟨d, hd, h⟩
      refine ⟨zge_nz (by omega), fun z => ?_⟩
      rw [nz_inj (by omega) (by decide)] at z
      rw [z, pq_nz (by decide) hd] at h
      simp at h
    · rintro ⟨-, h⟩
      have h0 : n ≠ 0 := fun z => h (by rw [z])
      have : ¬ ∀ d, d < 6 → n.testBit d = (0 : Nat).testBit d := fun z => h0 (tb_ext hn (by decide) z)
      have : ∃ d, d < 6 ∧ n.testBit d = true := by
        refine Classical.byContradiction fun z => this fun d hd => ?_
        have h9 : n.testBit d = false := by
          cases hb : n.testBit d with
          | false => rfl
          | true => exact absurd ⟨d, hd, hb⟩ z
        rw [h9]
        simp
      obtain ⟨d, hd, h⟩ := this
      exact ⟨d, hd, by rw [pq_nz hn hd]; exact h⟩
  · rw [hq]
    have hf : ∀ k, k < 6 → z_ge (-1 - nz k) = false := by decide
    constructor
    · rintro ⟨d, hd, h⟩
      rw [pq_neg hk] at h
      cases h
    · rintro ⟨h, -⟩
      rw [hf k hk] at h
      cases h
theorem hdn_bt (hb : TB b) (hw : WF T S) (hT : TR b m S) {c r : Nat} {x : Int32} (hc : c < 32) (hr : r < 16) : bt (hdn m b r x) c = (bt x c && decide (vS S c r = nz 0)) := by
  have hv := (hw.2.2.2.2.2.2.1 r hr c hc).1
  unfold hdn
  rw [bt_and, bt_and, bt_not _ hc, bt_not _ hc, sol_bt hT hr hc hv, Bool.and_assoc]
  congr 1
  rw [Bool.eq_iff_iff]
  simp only [Bool.and_eq_true, Bool.not_eq_true', decide_eq_true_eq, Bool.not_eq_false']
  have ho : bt (orr (fun k => m (b + 2) (r * 6 + k)) 6) c = true ↔ z_ge (vS S c r) = true ∧ vS S c r ≠ nz 0 := by
    rw [bt_orr, ← pq_b hv]
    constructor
    · rintro ⟨k, k1, k2⟩
      have h9 : bt (m (b + 2) (r * 6 + k)) c = pq (vS S c r) k := hT.bits hr k1 hc
      exact ⟨k, k1, by rw [← h9]; exact k2⟩
    · rintro ⟨k, k1, k2⟩
      have h9 : bt (m (b + 2) (r * 6 + k)) c = pq (vS S c r) k := hT.bits hr k1 hc
      exact ⟨k, k1, by rw [h9]; exact k2⟩
  constructor
  · rintro ⟨h1, h2⟩
    refine Classical.byContradiction fun z => ?_
    rw [ho.mpr ⟨h1, z⟩] at h2
    cases h2
  · intro h
    refine ⟨by rw [h]; rfl, ?_⟩
    cases q : bt (orr (fun k => m (b + 2) (r * 6 + k)) 6) c with
    | false => rfl
    | true => exact absurd h (ho.mp q).2
/-- cells and bodies change, nothing else -/
theorem TR.cells (hw : WF T S) (hT : TR b m S) (hm : ∀ a, a ≠ b + 3 → m' a = m a) (hb : TB b) (hS : ∀ j, (j < 882 ∨ 1394 ≤ j) → S' j = S j) (h2 : ∀ r, r < 16 → ∀ d, d < 6 → ∀ c, c < 32 → pq (vS S' c r) d = pq (vS S c r) d) (h3 : ∀ r, r < 16 → ∀ k, k < 6 → ∀ c, c < 32 → bt (m' (b + 3) (r * 6 + k)) c = bq (vS S' c r) k) : TR b m' S' := by
  have aw := hb.aw
  refine hT.gen hw (hm _ (by omega)) (hm _ (by omega)) (hm _ (by omega)) (hm _ (by omega)) (by rw [hm _ (by omega)]) (fun j hj => hS j (by omega)) (Or.inr ⟨fun r hr d hd c hc => ?_, h3⟩) (Or.inl ⟨hm _ (by omega), hm _ (by omega), hS _ (by omega), fun k hk => hS _ (by omega)⟩) (Or.inl ⟨hm _ (by omega), fun k hk => hS _ (by omega)⟩) (Or.inl ⟨hm _ (by omega), fun k hk hk2 => hS _ (by omega)⟩) (Or.inl ⟨hm _ (by omega), fun k hk => hS _ (by omega)⟩) (Or.inl ⟨hm _ (by omega), by rw [hm _ (by omega)], hS _ (by omega), fun k hk => hS _ (by omega)⟩) (Or.inl ⟨hm _ (by omega), fun k hk => hS _ (by omega)⟩)
  rw [hm _ (by omega), hT.bits hr hd hc, h2 r hr d hd c hc]
theorem bq_neg : ∀ j, j < 6 → ∀ i, i < 6 → bq (-1 - nz j) i = decide (i = j) := by decide
theorem bq_0 : ∀ k, k < 6 → bq (nz 0) k = false := by decide
theorem pq_0 {d : Nat} (hd : d < 6) : pq (nz 0) d = false := by
  rw [pq_nz (by decide) hd]
  simp
end
