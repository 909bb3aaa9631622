section
variable {tx : Nat → Nat} {t p j i : Nat} {F B N : St} {e : Nat → Nat × (Nat → Int32)} {m : Mm} {w : Ml}
theorem ke_le (ht : t ≤ 80) : keT tx t ≤ 81 := by
  have := (la_ok (tx := tx) ht).1
  unfold keT
  split <;> omega
theorem ke_i (hi : i < keT tx t) : 0 < t ∧ i ≤ laT tx t ∧ keT tx t = laT tx t + 1 := by
  unfold keT at hi ⊢
  by_cases h : t = 0
  · rw [if_pos h] at hi
    omega
  · rw [if_neg h] at hi ⊢
    omega
theorem ke_0 : decide (0 < keT tx t) = decide (0 < t) := by
  rw [decide_eq_decide]
  unfold keT
  by_cases h : t = 0
  · rw [if_pos h]
    omega
  · rw [if_neg h]
    omega
theorem wr_e (h : 0 < t) : wrT tx t = kdT tx t (NT tx t (laT tx t)) (posT tx t (laT tx t)) := if_neg (by omega)
theorem nr_e (h : 0 < t) : nrT tx t = if wrT tx t = 0 then laT tx t + 1 else laT tx t := if_neg (by omega)
/-- what holds of the pad ahead of the round i -/
abbrev RdI (tx : Nat → Nat) (t i : Nat) (B N : St) : Prop := (i < keT tx t → (∀ k, k < 64 → N k = NT tx t i k) ∧ ∀ k, k < 128 → B k = BT tx t i k) ∧ (i = keT tx t → ∀ k, k < 128 → B k = BT tx t (nrT tx t) k)
theorem e_readBook0 (he : EO e) (hx : TxC tx t (m 36)) (h1 : F 1 = nz t) : ∃ F' B' N', f_X3_readBook [.ref 35] (HM e (PM m F B N) w) = some (HM e (PM m F' B' N') w, .inl none) ∧ F' 1 = nz t ∧ F' 3 = nz (nrT tx t) ∧ F' 4 = nz (wrT tx t) ∧ (wrT tx t ≠ 0 → F' 5 = nz (waT tx t)) ∧ ∀ k, k < 128 → B' k = BT tx t (nrT tx t) k := by
  have ht := hx.1
  have hke := ke_le (tx := tx) ht
  have n2 : nar 2 (nz 0) = nz 0 := by decide
  unfold f_X3_readBook
  simp (disch := omega) only [mth_w, kR_w, kR_if, sQ_v, sN_v, sTi_v, sTa_v, sTl_v, sR_v, sRv_v, sX_v, sPi_v, sPo_v, sPz_w, zP_b, sRz_w, zR_bw, zR_0w, zR_1w, sPa_v, sAi_v, sAl_v, sAo_v, sAa_v, sM_w, sMp_w, eM_w, sIf_w, eIf_w, cAnd_w, cOr_w, cB_v, cZ_v, cNot_v, eC_v, eI_v, eJ_v, eOp_v, eQ_v, eU_v, eIL_v, eLO_v, eLS_v, eLC_v, eGi_v, eGa_v, eZ_w, eAi_v, eAl_v, eAa_v, eAn_v, aN_v, aI_v, aA_v, sInc_v, sB_okw, sB_xw, eS_okw, eS_xw, eB_okw, eB_xw, oE_w, oS_w, kI_iw, kI_xw, kV_w, kV_xw, kP_iw, kP_xw, List.set_cons_zero, List.set_cons_succ, List.cons_append, List.nil_append, List.length_cons, List.length_nil, List.replicate_succ, List.replicate_zero, List.append_nil, bif_and, bif_or, zne_b01, zeq_b01, bif_d, cond_true, cond_false, nar_0, o_iadd, o_isub, o_imul, c_eq, c_ne, c_lt, c_ge, c_gt, c_le, Nat.reduceAdd, Nat.reduceSub, Nat.zero_add, if_true, if_false, eLl_2, eLi_0, eLi_1, eLi_2, eLi_3, eLi_4, eLi_5, eLi_6, eLi_7, eLi_8, eLi_9, eLi_10, eLi_11, eLi_12, eLi_13, eLa_0, eLa_1, eLa_2, eLa_3, eLa_4, eLa_5, eLa_6, eLa_7, nz_add, nz_mul, nz_sub, nz_lt, nz_le, nz_inj, zeq_nz, zne_nz, zge_nz, zgt_nz, zlt_nz, nlit0, nlit1, nlit2, nlit3, nlit4, nlit5, nlit6, nlit7, nlit8, nlit9, nlit10, nlit11, nlit12, nlit16, nlit18, nlit22, nlit31, nlit32, nlit33, nlit34, nlit40, nlit48, nlit60, nlit63, nlit64, nlit66, nlit80, nlit96, nlit114, nlit126, nlit128, nlit512, nlit756, nlit882, nlit1000, nlit1394, nlit1522, nlit1523, nlit10000, decide_true, decide_false, not_true_eq_false, not_false_eq_true, ne_eq, and_self, and_true, true_and, Bool.and_true, Bool.true_and, Bool.and_false, Bool.false_and, Bool.or_false, Bool.false_or, Bool.or_true, Bool.true_or, Bool.not_true, Bool.not_false, gd_0, rf_0_0, rf_0_1, rf_0_2, rf_0_3, rf_0_4, rd_0_5, wr_0_5, rd_0_6, wr_0_6, rf_0_7, rf_0_8, rf_0_9, gd_31, rf_31_0, rf_31_1, rf_31_2, ar_32, aw_32, an_32, ar_33, aw_33, an_33, ar_34, aw_34, an_34, gd_35, rf_35_0, rd_35_1, wr_35_1, rf_35_2, rd_35_3, wr_35_3, rd_35_4, wr_35_4, rd_35_5, wr_35_5, rf_35_6, rd_35_7, wr_35_7, rd_35_8, wr_35_8, rd_35_9, wr_35_9, rd_35_10, wr_35_10, rd_35_11, wr_35_11, rd_35_12, wr_35_12, rd_35_13, wr_35_13, ar_36, aw_36, ar_37, aw_37, an_37, ar_38, aw_38, ar_39, ar_40, ar_41, aw_41, ar_42, aw_42, ar_146, aw_146, PM_35, PM_37, PM_38, PM_ne, PM_s5, PM_s7, PM_s8, su_at, su_ne]
  generalize hR : sLp _ _ NF _ _ = R
  obtain ⟨F0, hF0⟩ : ∃ F0, F0 = su (su (su F 3 (nz 0)) 4 (nz 0)) 7 (nz 0) := ⟨_, rfl⟩
  rw [← hF0] at hR
  have k0 := sLp_fnR hR (fun j => [.ref 35, .int (nz j), .null]) (fun j => HM e (PM m F0 (plB B j) (plN N j)) w) 64 (NF_lt (by omega)) (fun j hj => by
    refine ⟨by simp (disch := omega) only [mth_w, kR_w, kR_if, sQ_v, sN_v, sTi_v, sTa_v, sTl_v, sR_v, sRv_v, sX_v, sPi_v, sPo_v, sPz_w, zP_b, sRz_w, zR_bw, zR_0w, zR_1w, sPa_v, sAi_v, sAl_v, sAo_v, sAa_v, sM_w, sMp_w, eM_w, sIf_w, eIf_w, cAnd_w, cOr_w, cB_v, cZ_v, cNot_v, eC_v, eI_v, eJ_v, eOp_v, eQ_v, eU_v, eIL_v, eLO_v, eLS_v, eLC_v, eGi_v, eGa_v, eZ_w, eAi_v, eAl_v, eAa_v, eAn_v, aN_v, aI_v, aA_v, sInc_v, sB_okw, sB_xw, eS_okw, eS_xw, eB_okw, eB_xw, oE_w, oS_w, kI_iw, kI_xw, kV_w, kV_xw, kP_iw, kP_xw, List.set_cons_zero, List.set_cons_succ, List.cons_append, List.nil_append, List.length_cons, List.length_nil, List.replicate_succ, List.replicate_zero, List.append_nil, bif_and, bif_or, zne_b01, zeq_b01, bif_d, cond_true, cond_false, nar_0, o_iadd, o_isub, o_imul, c_eq, c_ne, c_lt, c_ge, c_gt, c_le, Nat.reduceAdd, Nat.reduceSub, Nat.zero_add, if_true, if_false, eLl_2, eLi_0, eLi_1, eLi_2, eLi_3, eLi_4, eLi_5, eLi_6, eLi_7, eLi_8, eLi_9, eLi_10, eLi_11, eLi_12, eLi_13, eLa_0, eLa_1, eLa_2, eLa_3, eLa_4, eLa_5, eLa_6, eLa_7, nz_add, nz_mul, nz_sub, nz_lt, nz_le, nz_inj, zeq_nz, zne_nz, zge_nz, zgt_nz, zlt_nz, nlit0, nlit1, nlit2, nlit3, nlit4, nlit5, nlit6, nlit7, nlit8, nlit9, nlit10, nlit11, nlit12, nlit16, nlit18, nlit22, nlit31, nlit32, nlit33, nlit34, nlit40, nlit48, nlit60, nlit63, nlit64, nlit66, nlit80, nlit96, nlit114, nlit126, nlit128, nlit512, nlit756, nlit882, nlit1000, nlit1394, nlit1522, nlit1523, nlit10000, decide_eq_true hj], ?_⟩
    show _ = some (HM e (PM m F0 (plB B (j + 1)) (plN N (j + 1))) w, _)
    rw [← plB_s hj, ← plN_s]
    simp (disch := omega) only [mth_w, kR_w, kR_if, sQ_v, sN_v, sTi_v, sTa_v, sTl_v, sR_v, sRv_v, sX_v, sPi_v, sPo_v, sPz_w, zP_b, sRz_w, zR_bw, zR_0w, zR_1w, sPa_v, sAi_v, sAl_v, sAo_v, sAa_v, sM_w, sMp_w, eM_w, sIf_w, eIf_w, cAnd_w, cOr_w, cB_v, cZ_v, cNot_v, eC_v, eI_v, eJ_v, eOp_v, eQ_v, eU_v, eIL_v, eLO_v, eLS_v, eLC_v, eGi_v, eGa_v, eZ_w, eAi_v, eAl_v, eAa_v, eAn_v, aN_v, aI_v, aA_v, sInc_v, sB_okw, sB_xw, eS_okw, eS_xw, eB_okw, eB_xw, oE_w, oS_w, kI_iw, kI_xw, kV_w, kV_xw, kP_iw, kP_xw, List.set_cons_zero, List.set_cons_succ, List.cons_append, List.nil_append, List.length_cons, List.length_nil, List.replicate_succ, List.replicate_zero, List.append_nil, bif_and, bif_or, zne_b01, zeq_b01, bif_d, cond_true, cond_false, nar_0, o_iadd, o_isub, o_imul, c_eq, c_ne, c_lt, c_ge, c_gt, c_le, Nat.reduceAdd, Nat.reduceSub, Nat.zero_add, if_true, if_false, eLl_2, eLi_0, eLi_1, eLi_2, eLi_3, eLi_4, eLi_5, eLi_6, eLi_7, eLi_8, eLi_9, eLi_10, eLi_11, eLi_12, eLi_13, eLa_0, eLa_1, eLa_2, eLa_3, eLa_4, eLa_5, eLa_6, eLa_7, nz_add, nz_mul, nz_sub, nz_lt, nz_le, nz_inj, zeq_nz, zne_nz, zge_nz, zgt_nz, zlt_nz, nlit0, nlit1, nlit2, nlit3, nlit4, nlit5, nlit6, nlit7, nlit8, nlit9, nlit10, nlit11, nlit12, nlit16, nlit18, nlit22, nlit31, nlit32, nlit33, nlit34, nlit40, nlit48, nlit60, nlit63, nlit64, nlit66, nlit80, nlit96, nlit114, nlit126, nlit128, nlit512, nlit756, nlit882, nlit1000, nlit1394, nlit1522, nlit1523, nlit10000, decide_true, decide_false, not_true_eq_false, not_false_eq_true, ne_eq, and_self, and_true, true_and, Bool.and_true, Bool.true_and, Bool.and_false, Bool.false_and, Bool.or_false, Bool.false_or, Bool.or_true, Bool.true_or, Bool.not_true, Bool.not_false, gd_0, rf_0_0, rf_0_1, rf_0_2, rf_0_3, rf_0_4, rd_0_5, wr_0_5, rd_0_6, wr_0_6, rf_0_7, rf_0_8, rf_0_9, gd_31, rf_31_0, rf_31_1, rf_31_2, ar_32, aw_32, an_32, ar_33, aw_33, an_33, ar_34, aw_34, an_34, gd_35, rf_35_0, rd_35_1, wr_35_1, rf_35_2, rd_35_3, wr_35_3, rd_35_4, wr_35_4, rd_35_5, wr_35_5, rf_35_6, rd_35_7, wr_35_7, rd_35_8, wr_35_8, rd_35_9, wr_35_9, rd_35_10, wr_35_10, rd_35_11, wr_35_11, rd_35_12, wr_35_12, rd_35_13, wr_35_13, ar_36, aw_36, ar_37, aw_37, an_37, ar_38, aw_38, ar_39, ar_40, ar_41, aw_41, ar_42, aw_42, ar_146, aw_146, PM_35, PM_37, PM_38, PM_ne, PM_s5, PM_s7, PM_s8, su_at, su_ne, n2]) (by
    simp (disch := omega) only [mth_w, kR_w, kR_if, sQ_v, sN_v, sTi_v, sTa_v, sTl_v, sR_v, sRv_v, sX_v, sPi_v, sPo_v, sPz_w, zP_b, sRz_w, zR_bw, zR_0w, zR_1w, sPa_v, sAi_v, sAl_v, sAo_v, sAa_v, sM_w, sMp_w, eM_w, sIf_w, eIf_w, cAnd_w, cOr_w, cB_v, cZ_v, cNot_v, eC_v, eI_v, eJ_v, eOp_v, eQ_v, eU_v, eIL_v, eLO_v, eLS_v, eLC_v, eGi_v, eGa_v, eZ_w, eAi_v, eAl_v, eAa_v, eAn_v, aN_v, aI_v, aA_v, sInc_v, sB_okw, sB_xw, eS_okw, eS_xw, eB_okw, eB_xw, oE_w, oS_w, kI_iw, kI_xw, kV_w, kV_xw, kP_iw, kP_xw, List.set_cons_zero, List.set_cons_succ, List.cons_append, List.nil_append, List.length_cons, List.length_nil, List.replicate_succ, List.replicate_zero, List.append_nil, bif_and, bif_or, zne_b01, zeq_b01, bif_d, cond_true, cond_false, nar_0, o_iadd, o_isub, o_imul, c_eq, c_ne, c_lt, c_ge, c_gt, c_le, Nat.reduceAdd, Nat.reduceSub, Nat.zero_add, if_true, if_false, eLl_2, eLi_0, eLi_1, eLi_2, eLi_3, eLi_4, eLi_5, eLi_6, eLi_7, eLi_8, eLi_9, eLi_10, eLi_11, eLi_12, eLi_13, eLa_0, eLa_1, eLa_2, eLa_3, eLa_4, eLa_5, eLa_6, eLa_7, nz_add, nz_mul, nz_sub, nz_lt, nz_le, nz_inj, zeq_nz, zne_nz, zge_nz, zgt_nz, zlt_nz, nlit0, nlit1, nlit2, nlit3, nlit4, nlit5, nlit6, nlit7, nlit8, nlit9, nlit10, nlit11, nlit12, nlit16, nlit18, nlit22, nlit31, nlit32, nlit33, nlit34, nlit40, nlit48, nlit60, nlit63, nlit64, nlit66, nlit80, nlit96, nlit114, nlit126, nlit128, nlit512, nlit756, nlit882, nlit1000, nlit1394, nlit1522, nlit1523, nlit10000]
    simp) rfl (by rw [plB_0, plN_0])
  rw [k0]
  have f01 : F0 1 = nz t := by rw [hF0, su_ne (by decide), su_ne (by decide), su_ne (by decide), h1]
  have f03 : F0 3 = nz 0 := by rw [hF0, su_ne (by decide), su_ne (by decide), su_at]
  have f04 : F0 4 = nz 0 := by rw [hF0, su_ne (by decide), su_at]
  have f07 : F0 7 = nz 0 := by rw [hF0, su_at]
  simp (disch := omega) only [mth_w, kR_w, kR_if, sQ_v, sN_v, sTi_v, sTa_v, sTl_v, sR_v, sRv_v, sX_v, sPi_v, sPo_v, sPz_w, zP_b, sRz_w, zR_bw, zR_0w, zR_1w, sPa_v, sAi_v, sAl_v, sAo_v, sAa_v, sM_w, sMp_w, eM_w, sIf_w, eIf_w, cAnd_w, cOr_w, cB_v, cZ_v, cNot_v, eC_v, eI_v, eJ_v, eOp_v, eQ_v, eU_v, eIL_v, eLO_v, eLS_v, eLC_v, eGi_v, eGa_v, eZ_w, eAi_v, eAl_v, eAa_v, eAn_v, aN_v, aI_v, aA_v, sInc_v, sB_okw, sB_xw, eS_okw, eS_xw, eB_okw, eB_xw, oE_w, oS_w, kI_iw, kI_xw, kV_w, kV_xw, kP_iw, kP_xw, List.set_cons_zero, List.set_cons_succ, List.cons_append, List.nil_append, List.length_cons, List.length_nil, List.replicate_succ, List.replicate_zero, List.append_nil, bif_and, bif_or, zne_b01, zeq_b01, bif_d, cond_true, cond_false, nar_0, o_iadd, o_isub, o_imul, c_eq, c_ne, c_lt, c_ge, c_gt, c_le, Nat.reduceAdd, Nat.reduceSub, Nat.zero_add, if_true, if_false, eLl_2, eLi_0, eLi_1, eLi_2, eLi_3, eLi_4, eLi_5, eLi_6, eLi_7, eLi_8, eLi_9, eLi_10, eLi_11, eLi_12, eLi_13, eLa_0, eLa_1, eLa_2, eLa_3, eLa_4, eLa_5, eLa_6, eLa_7, nz_add, nz_mul, nz_sub, nz_lt, nz_le, nz_inj, zeq_nz, zne_nz, zge_nz, zgt_nz, zlt_nz, nlit0, nlit1, nlit2, nlit3, nlit4, nlit5, nlit6, nlit7, nlit8, nlit9, nlit10, nlit11, nlit12, nlit16, nlit18, nlit22, nlit31, nlit32, nlit33, nlit34, nlit40, nlit48, nlit60, nlit63, nlit64, nlit66, nlit80, nlit96, nlit114, nlit126, nlit128, nlit512, nlit756, nlit882, nlit1000, nlit1394, nlit1522, nlit1523, nlit10000, decide_true, decide_false, not_true_eq_false, not_false_eq_true, ne_eq, and_self, and_true, true_and, Bool.and_true, Bool.true_and, Bool.and_false, Bool.false_and, Bool.or_false, Bool.false_or, Bool.or_true, Bool.true_or, Bool.not_true, Bool.not_false, gd_0, rf_0_0, rf_0_1, rf_0_2, rf_0_3, rf_0_4, rd_0_5, wr_0_5, rd_0_6, wr_0_6, rf_0_7, rf_0_8, rf_0_9, gd_31, rf_31_0, rf_31_1, rf_31_2, ar_32, aw_32, an_32, ar_33, aw_33, an_33, ar_34, aw_34, an_34, gd_35, rf_35_0, rd_35_1, wr_35_1, rf_35_2, rd_35_3, wr_35_3, rd_35_4, wr_35_4, rd_35_5, wr_35_5, rf_35_6, rd_35_7, wr_35_7, rd_35_8, wr_35_8, rd_35_9, wr_35_9, rd_35_10, wr_35_10, rd_35_11, wr_35_11, rd_35_12, wr_35_12, rd_35_13, wr_35_13, ar_36, aw_36, ar_37, aw_37, an_37, ar_38, aw_38, ar_39, ar_40, ar_41, aw_41, ar_42, aw_42, ar_146, aw_146, PM_35, PM_37, PM_38, PM_ne, PM_s5, PM_s7, PM_s8, su_at, su_ne, f01]
  generalize hR2 : sLp _ _ NF _ _ = R2
  obtain ⟨l', h', q1, F1, B1, N1, rfl, rfl, z1, z4, zi, ze, zr⟩ := sLp_invR hR2 (fun i l h => ∃ F B N, l = [.ref 35, .int (b01 (decide (i < keT tx t))), .int (nz i)] ∧ h = HM e (PM m F B N) w ∧ F 1 = nz t ∧ F 4 = nz (if i < keT tx t then 0 else wrT tx t) ∧ (i < keT tx t → F 3 = nz i ∧ F 7 = nz (posT tx t i)) ∧ (i = keT tx t → F 3 = nz (nrT tx t) ∧ (wrT tx t ≠ 0 → F 5 = nz (waT tx t))) ∧ RdI tx t i B N) (keT tx t) (NF_lt (by omega)) (fun i l h hi hQ => by
    obtain ⟨F, B, N, rfl, rfl, z1, z4, zi, ze, zr⟩ := hQ
    rw [decide_eq_true hi]
    rw [if_pos hi] at z4
    obtain ⟨i3, i7⟩ := zi hi
    obtain ⟨iN, iB⟩ := zr.1 hi
    obtain ⟨t0, iL, hK⟩ := ke_i hi
    obtain ⟨L1, L2, L3⟩ := la_ok (tx := tx) ht
    have hpl := posT_le ht t0 i iL
    obtain ⟨F1, r0, r1, r3, r4, r5, ry⟩ := e_readRule (e := e) (w := w) (B := B) he hx z1 z4 i7 hpl
    obtain ⟨hkd, hps⟩ := kdT_congr (tx := tx) (t := t) (p := posT tx t i) iN
    rw [hkd] at r4 r5 ry
    rw [hps] at r5
    have hk3 := kd_le (tx := tx) (t := t) (p := posT tx t i) (N := NT tx t i)
    refine ⟨by simp (disch := omega) only [mth_w, kR_w, kR_if, sQ_v, sN_v, sTi_v, sTa_v, sTl_v, sR_v, sRv_v, sX_v, sPi_v, sPo_v, sPz_w, zP_b, sRz_w, zR_bw, zR_0w, zR_1w, sPa_v, sAi_v, sAl_v, sAo_v, sAa_v, sM_w, sMp_w, eM_w, sIf_w, eIf_w, cAnd_w, cOr_w, cB_v, cZ_v, cNot_v, eC_v, eI_v, eJ_v, eOp_v, eQ_v, eU_v, eIL_v, eLO_v, eLS_v, eLC_v, eGi_v, eGa_v, eZ_w, eAi_v, eAl_v, eAa_v, eAn_v, aN_v, aI_v, aA_v, sInc_v, sB_okw, sB_xw, eS_okw, eS_xw, eB_okw, eB_xw, oE_w, oS_w, kI_iw, kI_xw, kV_w, kV_xw, kP_iw, kP_xw, List.set_cons_zero, List.set_cons_succ, List.cons_append, List.nil_append, List.length_cons, List.length_nil, List.replicate_succ, List.replicate_zero, List.append_nil, bif_and, bif_or, zne_b01, zeq_b01, bif_d, cond_true, cond_false, nar_0, o_iadd, o_isub, o_imul, c_eq, c_ne, c_lt, c_ge, c_gt, c_le, Nat.reduceAdd, Nat.reduceSub, Nat.zero_add, if_true, if_false, eLl_2, eLi_0, eLi_1, eLi_2, eLi_3, eLi_4, eLi_5, eLi_6, eLi_7, eLi_8, eLi_9, eLi_10, eLi_11, eLi_12, eLi_13, eLa_0, eLa_1, eLa_2, eLa_3, eLa_4, eLa_5, eLa_6, eLa_7, nz_add, nz_mul, nz_sub, nz_lt, nz_le, nz_inj, zeq_nz, zne_nz, zge_nz, zgt_nz, zlt_nz, nlit0, nlit1, nlit2, nlit3, nlit4, nlit5, nlit6, nlit7, nlit8, nlit9, nlit10, nlit11, nlit12, nlit16, nlit18, nlit22, nlit31, nlit32, nlit33, nlit34, nlit40, nlit48, nlit60, nlit63, nlit64, nlit66, nlit80, nlit96, nlit114, nlit126, nlit128, nlit512, nlit756, nlit882, nlit1000, nlit1394, nlit1522, nlit1523, nlit10000, decide_true, decide_false, not_true_eq_false, not_false_eq_true, ne_eq, and_self, and_true, true_and, Bool.and_true, Bool.true_and, Bool.and_false, Bool.false_and, Bool.or_false, Bool.false_or, Bool.or_true, Bool.true_or, Bool.not_true, Bool.not_false, decide_eq_true (show i ≤ 80 by omega)], ?_⟩
    by_cases q : kdT tx t (NT tx t i) (posT tx t i) = 0
    · obtain ⟨y7, y8, y9, y10, y12⟩ := ry q
      rw [q] at r4
      have hok := kd_ok q
      have hl6 := n6_le hpl (ok_y hok).2.1
      have hfr : frT tx t (posT tx t i) < 64 := st_lt
      have hev : evT tx t (posT tx t i) < 64 := st_lt
      have hod : odT tx t (posT tx t i) < 64 := by
        unfold odT
        split <;> exact st_lt
      have en := e_enterRule (e := e) (m := m) (B := B) (N := N) (w := w) (F := F1) (p := i) (s := tkT tx t 42 (posT tx t i)) (n := tnT tx t (posT tx t i)) rfl (by rw [r3, i3]) y8 y9 y10 y12 hfr hev hod
      have z00 : ((0 : Nat) = 0) = True := by decide
      have hBi : ∀ k, k < 128 → enB (frT tx t (posT tx t i)) (evT tx t (posT tx t i)) (odT tx t (posT tx t i)) B (tnT tx t (posT tx t i)) k = BT tx t (i + 1) k := fun k hk => enB_congr iB _ k hk
      have hNi : ∀ k, k < 64 → enN (frT tx t (posT tx t i)) N (tnT tx t (posT tx t i)) k = NT tx t (i + 1) k := fun k hk => enN_congr iN _ k hk
      by_cases q2 : i = laT tx t
      · have hn6 : t ≤ n6T tx t (posT tx t i) := by
          rw [q2] at q ⊢
          rcases L3 with z | z
          · exact absurd q z
          · exact z
        have hwr : wrT tx t = 0 := by rw [wr_e t0, ← q2, q]
        have hnr : nrT tx t = i + 1 := by rw [nr_e t0, if_pos hwr, q2]
        refine ⟨[.ref 35, .int (b01 (decide (i + 1 < keT tx t))), .int (nz (i + 1))], HM e (PM m (su (su F1 3 (nz (i + 1))) 7 (nz (n6T tx t (posT tx t i) + 1))) (enB (frT tx t (posT tx t i)) (evT tx t (posT tx t i)) (odT tx t (posT tx t i)) B (tnT tx t (posT tx t i))) (enN (frT tx t (posT tx t i)) N (tnT tx t (posT tx t i)))) w, ?_, _, _, _, rfl, rfl, ?_, ?_, fun z => absurd z (by omega), fun _ => ⟨?_, fun z => absurd hwr z⟩, fun z => absurd z (by omega), fun _ k hk => ?_⟩
        · rw [decide_eq_false (show ¬ i + 1 < keT tx t by omega)]
          have hd : decide (n6T tx t (posT tx t i) < t) = false := decide_eq_false (by omega)
          simp (disch := omega) only [mth_w, kR_w, kR_if, sQ_v, sN_v, sTi_v, sTa_v, sTl_v, sR_v, sRv_v, sX_v, sPi_v, sPo_v, sPz_w, zP_b, sRz_w, zR_bw, zR_0w, zR_1w, sPa_v, sAi_v, sAl_v, sAo_v, sAa_v, sM_w, sMp_w, eM_w, sIf_w, eIf_w, cAnd_w, cOr_w, cB_v, cZ_v, cNot_v, eC_v, eI_v, eJ_v, eOp_v, eQ_v, eU_v, eIL_v, eLO_v, eLS_v, eLC_v, eGi_v, eGa_v, eZ_w, eAi_v, eAl_v, eAa_v, eAn_v, aN_v, aI_v, aA_v, sInc_v, sB_okw, sB_xw, eS_okw, eS_xw, eB_okw, eB_xw, oE_w, oS_w, kI_iw, kI_xw, kV_w, kV_xw, kP_iw, kP_xw, List.set_cons_zero, List.set_cons_succ, List.cons_append, List.nil_append, List.length_cons, List.length_nil, List.replicate_succ, List.replicate_zero, List.append_nil, bif_and, bif_or, zne_b01, zeq_b01, bif_d, cond_true, cond_false, nar_0, o_iadd, o_isub, o_imul, c_eq, c_ne, c_lt, c_ge, c_gt, c_le, Nat.reduceAdd, Nat.reduceSub, Nat.zero_add, if_true, if_false, eLl_2, eLi_0, eLi_1, eLi_2, eLi_3, eLi_4, eLi_5, eLi_6, eLi_7, eLi_8, eLi_9, eLi_10, eLi_11, eLi_12, eLi_13, eLa_0, eLa_1, eLa_2, eLa_3, eLa_4, eLa_5, eLa_6, eLa_7, nz_add, nz_mul, nz_sub, nz_lt, nz_le, nz_inj, zeq_nz, zne_nz, zge_nz, zgt_nz, zlt_nz, nlit0, nlit1, nlit2, nlit3, nlit4, nlit5, nlit6, nlit7, nlit8, nlit9, nlit10, nlit11, nlit12, nlit16, nlit18, nlit22, nlit31, nlit32, nlit33, nlit34, nlit40, nlit48, nlit60, nlit63, nlit64, nlit66, nlit80, nlit96, nlit114, nlit126, nlit128, nlit512, nlit756, nlit882, nlit1000, nlit1394, nlit1522, nlit1523, nlit10000, decide_true, decide_false, not_true_eq_false, not_false_eq_true, ne_eq, and_self, and_true, true_and, Bool.and_true, Bool.true_and, Bool.and_false, Bool.false_and, Bool.or_false, Bool.false_or, Bool.or_true, Bool.true_or, Bool.not_true, Bool.not_false, gd_0, rf_0_0, rf_0_1, rf_0_2, rf_0_3, rf_0_4, rd_0_5, wr_0_5, rd_0_6, wr_0_6, rf_0_7, rf_0_8, rf_0_9, gd_31, rf_31_0, rf_31_1, rf_31_2, ar_32, aw_32, an_32, ar_33, aw_33, an_33, ar_34, aw_34, an_34, gd_35, rf_35_0, rd_35_1, wr_35_1, rf_35_2, rd_35_3, wr_35_3, rd_35_4, wr_35_4, rd_35_5, wr_35_5, rf_35_6, rd_35_7, wr_35_7, rd_35_8, wr_35_8, rd_35_9, wr_35_9, rd_35_10, wr_35_10, rd_35_11, wr_35_11, rd_35_12, wr_35_12, rd_35_13, wr_35_13, ar_36, aw_36, ar_37, aw_37, an_37, ar_38, aw_38, ar_39, ar_40, ar_41, aw_41, ar_42, aw_42, ar_146, aw_146, PM_35, PM_37, PM_38, PM_ne, PM_s5, PM_s7, PM_s8, su_at, su_ne, r0, r4, z00, en, y7, r1, hd]
        · rw [su_ne (by decide), su_ne (by decide), r1]
        · rw [su_ne (by decide), su_ne (by decide), r4, if_neg (by omega), hwr]
        · rw [su_ne (by decide), su_at, hnr]
        · rw [hnr]
          exact hBi k hk
      · have hn6 := (L2 i (by omega)).2
        refine ⟨[.ref 35, .int (b01 (decide (i + 1 < keT tx t))), .int (nz (i + 1))], HM e (PM m (su (su F1 3 (nz (i + 1))) 7 (nz (n6T tx t (posT tx t i) + 1))) (enB (frT tx t (posT tx t i)) (evT tx t (posT tx t i)) (odT tx t (posT tx t i)) B (tnT tx t (posT tx t i))) (enN (frT tx t (posT tx t i)) N (tnT tx t (posT tx t i)))) w, ?_, _, _, _, rfl, rfl, ?_, ?_, fun _ => ⟨?_, ?_⟩, fun z => absurd z (by omega), fun _ => ⟨hNi, hBi⟩, fun z => absurd z (by omega)⟩
        · rw [decide_eq_true (show i + 1 < keT tx t by omega)]
          simp (disch := omega) only [mth_w, kR_w, kR_if, sQ_v, sN_v, sTi_v, sTa_v, sTl_v, sR_v, sRv_v, sX_v, sPi_v, sPo_v, sPz_w, zP_b, sRz_w, zR_bw, zR_0w, zR_1w, sPa_v, sAi_v, sAl_v, sAo_v, sAa_v, sM_w, sMp_w, eM_w, sIf_w, eIf_w, cAnd_w, cOr_w, cB_v, cZ_v, cNot_v, eC_v, eI_v, eJ_v, eOp_v, eQ_v, eU_v, eIL_v, eLO_v, eLS_v, eLC_v, eGi_v, eGa_v, eZ_w, eAi_v, eAl_v, eAa_v, eAn_v, aN_v, aI_v, aA_v, sInc_v, sB_okw, sB_xw, eS_okw, eS_xw, eB_okw, eB_xw, oE_w, oS_w, kI_iw, kI_xw, kV_w, kV_xw, kP_iw, kP_xw, List.set_cons_zero, List.set_cons_succ, List.cons_append, List.nil_append, List.length_cons, List.length_nil, List.replicate_succ, List.replicate_zero, List.append_nil, bif_and, bif_or, zne_b01, zeq_b01, bif_d, cond_true, cond_false, nar_0, o_iadd, o_isub, o_imul, c_eq, c_ne, c_lt, c_ge, c_gt, c_le, Nat.reduceAdd, Nat.reduceSub, Nat.zero_add, if_true, if_false, eLl_2, eLi_0, eLi_1, eLi_2, eLi_3, eLi_4, eLi_5, eLi_6, eLi_7, eLi_8, eLi_9, eLi_10, eLi_11, eLi_12, eLi_13, eLa_0, eLa_1, eLa_2, eLa_3, eLa_4, eLa_5, eLa_6, eLa_7, nz_add, nz_mul, nz_sub, nz_lt, nz_le, nz_inj, zeq_nz, zne_nz, zge_nz, zgt_nz, zlt_nz, nlit0, nlit1, nlit2, nlit3, nlit4, nlit5, nlit6, nlit7, nlit8, nlit9, nlit10, nlit11, nlit12, nlit16, nlit18, nlit22, nlit31, nlit32, nlit33, nlit34, nlit40, nlit48, nlit60, nlit63, nlit64, nlit66, nlit80, nlit96, nlit114, nlit126, nlit128, nlit512, nlit756, nlit882, nlit1000, nlit1394, nlit1522, nlit1523, nlit10000, decide_true, decide_false, not_true_eq_false, not_false_eq_true, ne_eq, and_self, and_true, true_and, Bool.and_true, Bool.true_and, Bool.and_false, Bool.false_and, Bool.or_false, Bool.false_or, Bool.or_true, Bool.true_or, Bool.not_true, Bool.not_false, gd_0, rf_0_0, rf_0_1, rf_0_2, rf_0_3, rf_0_4, rd_0_5, wr_0_5, rd_0_6, wr_0_6, rf_0_7, rf_0_8, rf_0_9, gd_31, rf_31_0, rf_31_1, rf_31_2, ar_32, aw_32, an_32, ar_33, aw_33, an_33, ar_34, aw_34, an_34, gd_35, rf_35_0, rd_35_1, wr_35_1, rf_35_2, rd_35_3, wr_35_3, rd_35_4, wr_35_4, rd_35_5, wr_35_5, rf_35_6, rd_35_7, wr_35_7, rd_35_8, wr_35_8, rd_35_9, wr_35_9, rd_35_10, wr_35_10, rd_35_11, wr_35_11, rd_35_12, wr_35_12, rd_35_13, wr_35_13, ar_36, aw_36, ar_37, aw_37, an_37, ar_38, aw_38, ar_39, ar_40, ar_41, aw_41, ar_42, aw_42, ar_146, aw_146, PM_35, PM_37, PM_38, PM_ne, PM_s5, PM_s7, PM_s8, su_at, su_ne, r0, r4, z00, en, y7, r1, decide_eq_true hn6]
        · rw [su_ne (by decide), su_ne (by decide), r1]
        · rw [su_ne (by decide), su_ne (by decide), r4, if_pos (show i + 1 < keT tx t by omega)]
        · rw [su_ne (by decide), su_at]
        · rw [su_at]
          rfl
    · have q2 : i = laT tx t := Classical.byContradiction fun z => q (L2 i (by omega)).1
      have hwr : wrT tx t = kdT tx t (NT tx t i) (posT tx t i) := by rw [wr_e t0, ← q2]
      have hnr : nrT tx t = i := by rw [nr_e t0, if_neg (by rw [hwr]; exact q), q2]
      have hwa : waT tx t = psT tx t (NT tx t i) (posT tx t i) := by
        unfold waT
        rw [← q2]
      have qf : (kdT tx t (NT tx t i) (posT tx t i) = 0) = False := eq_false q
      refine ⟨[.ref 35, .int (b01 (decide (i + 1 < keT tx t))), .int (nz (i + 1))], HM e (PM m (su F1 7 (F1 7 + nz 1)) B N) w, ?_, _, _, _, rfl, rfl, ?_, ?_, fun z => absurd z (by omega), fun _ => ⟨?_, fun _ => ?_⟩, fun z => absurd z (by omega), fun _ k hk => ?_⟩
      · rw [decide_eq_false (show ¬ i + 1 < keT tx t by omega)]
        simp (disch := omega) only [mth_w, kR_w, kR_if, sQ_v, sN_v, sTi_v, sTa_v, sTl_v, sR_v, sRv_v, sX_v, sPi_v, sPo_v, sPz_w, zP_b, sRz_w, zR_bw, zR_0w, zR_1w, sPa_v, sAi_v, sAl_v, sAo_v, sAa_v, sM_w, sMp_w, eM_w, sIf_w, eIf_w, cAnd_w, cOr_w, cB_v, cZ_v, cNot_v, eC_v, eI_v, eJ_v, eOp_v, eQ_v, eU_v, eIL_v, eLO_v, eLS_v, eLC_v, eGi_v, eGa_v, eZ_w, eAi_v, eAl_v, eAa_v, eAn_v, aN_v, aI_v, aA_v, sInc_v, sB_okw, sB_xw, eS_okw, eS_xw, eB_okw, eB_xw, oE_w, oS_w, kI_iw, kI_xw, kV_w, kV_xw, kP_iw, kP_xw, List.set_cons_zero, List.set_cons_succ, List.cons_append, List.nil_append, List.length_cons, List.length_nil, List.replicate_succ, List.replicate_zero, List.append_nil, bif_and, bif_or, zne_b01, zeq_b01, bif_d, cond_true, cond_false, nar_0, o_iadd, o_isub, o_imul, c_eq, c_ne, c_lt, c_ge, c_gt, c_le, Nat.reduceAdd, Nat.reduceSub, Nat.zero_add, if_true, if_false, eLl_2, eLi_0, eLi_1, eLi_2, eLi_3, eLi_4, eLi_5, eLi_6, eLi_7, eLi_8, eLi_9, eLi_10, eLi_11, eLi_12, eLi_13, eLa_0, eLa_1, eLa_2, eLa_3, eLa_4, eLa_5, eLa_6, eLa_7, nz_add, nz_mul, nz_sub, nz_lt, nz_le, nz_inj, zeq_nz, zne_nz, zge_nz, zgt_nz, zlt_nz, nlit0, nlit1, nlit2, nlit3, nlit4, nlit5, nlit6, nlit7, nlit8, nlit9, nlit10, nlit11, nlit12, nlit16, nlit18, nlit22, nlit31, nlit32, nlit33, nlit34, nlit40, nlit48, nlit60, nlit63, nlit64, nlit66, nlit80, nlit96, nlit114, nlit126, nlit128, nlit512, nlit756, nlit882, nlit1000, nlit1394, nlit1522, nlit1523, nlit10000, decide_true, decide_false, not_true_eq_false, not_false_eq_true, ne_eq, and_self, and_true, true_and, Bool.and_true, Bool.true_and, Bool.and_false, Bool.false_and, Bool.or_false, Bool.false_or, Bool.or_true, Bool.true_or, Bool.not_true, Bool.not_false, gd_0, rf_0_0, rf_0_1, rf_0_2, rf_0_3, rf_0_4, rd_0_5, wr_0_5, rd_0_6, wr_0_6, rf_0_7, rf_0_8, rf_0_9, gd_31, rf_31_0, rf_31_1, rf_31_2, ar_32, aw_32, an_32, ar_33, aw_33, an_33, ar_34, aw_34, an_34, gd_35, rf_35_0, rd_35_1, wr_35_1, rf_35_2, rd_35_3, wr_35_3, rd_35_4, wr_35_4, rd_35_5, wr_35_5, rf_35_6, rd_35_7, wr_35_7, rd_35_8, wr_35_8, rd_35_9, wr_35_9, rd_35_10, wr_35_10, rd_35_11, wr_35_11, rd_35_12, wr_35_12, rd_35_13, wr_35_13, ar_36, aw_36, ar_37, aw_37, an_37, ar_38, aw_38, ar_39, ar_40, ar_41, aw_41, ar_42, aw_42, ar_146, aw_146, PM_35, PM_37, PM_38, PM_ne, PM_s5, PM_s7, PM_s8, su_at, su_ne, r0, r4, qf]
      · rw [su_ne (by decide), r1]
      · rw [su_ne (by decide), r4, if_neg (by omega), hwr]
      · rw [su_ne (by decide), r3, i3, hnr]
      · rw [su_ne (by decide), r5 q, hwa]
      · rw [hnr]
        exact iB k hk) (fun l h hQ => by
    obtain ⟨F, B, N, rfl, rfl, z1, z4, zi, ze, zr⟩ := hQ
    rw [decide_eq_false (Nat.lt_irrefl _)]
    by_cases q : keT tx t ≤ 80
    · simp (disch := omega) only [mth_w, kR_w, kR_if, sQ_v, sN_v, sTi_v, sTa_v, sTl_v, sR_v, sRv_v, sX_v, sPi_v, sPo_v, sPz_w, zP_b, sRz_w, zR_bw, zR_0w, zR_1w, sPa_v, sAi_v, sAl_v, sAo_v, sAa_v, sM_w, sMp_w, eM_w, sIf_w, eIf_w, cAnd_w, cOr_w, cB_v, cZ_v, cNot_v, eC_v, eI_v, eJ_v, eOp_v, eQ_v, eU_v, eIL_v, eLO_v, eLS_v, eLC_v, eGi_v, eGa_v, eZ_w, eAi_v, eAl_v, eAa_v, eAn_v, aN_v, aI_v, aA_v, sInc_v, sB_okw, sB_xw, eS_okw, eS_xw, eB_okw, eB_xw, oE_w, oS_w, kI_iw, kI_xw, kV_w, kV_xw, kP_iw, kP_xw, List.set_cons_zero, List.set_cons_succ, List.cons_append, List.nil_append, List.length_cons, List.length_nil, List.replicate_succ, List.replicate_zero, List.append_nil, bif_and, bif_or, zne_b01, zeq_b01, bif_d, cond_true, cond_false, nar_0, o_iadd, o_isub, o_imul, c_eq, c_ne, c_lt, c_ge, c_gt, c_le, Nat.reduceAdd, Nat.reduceSub, Nat.zero_add, if_true, if_false, eLl_2, eLi_0, eLi_1, eLi_2, eLi_3, eLi_4, eLi_5, eLi_6, eLi_7, eLi_8, eLi_9, eLi_10, eLi_11, eLi_12, eLi_13, eLa_0, eLa_1, eLa_2, eLa_3, eLa_4, eLa_5, eLa_6, eLa_7, nz_add, nz_mul, nz_sub, nz_lt, nz_le, nz_inj, zeq_nz, zne_nz, zge_nz, zgt_nz, zlt_nz, nlit0, nlit1, nlit2, nlit3, nlit4, nlit5, nlit6, nlit7, nlit8, nlit9, nlit10, nlit11, nlit12, nlit16, nlit18, nlit22, nlit31, nlit32, nlit33, nlit34, nlit40, nlit48, nlit60, nlit63, nlit64, nlit66, nlit80, nlit96, nlit114, nlit126, nlit128, nlit512, nlit756, nlit882, nlit1000, nlit1394, nlit1522, nlit1523, nlit10000, decide_true, decide_false, not_true_eq_false, not_false_eq_true, ne_eq, and_self, and_true, true_and, Bool.and_true, Bool.true_and, Bool.and_false, Bool.false_and, Bool.or_false, Bool.false_or, Bool.or_true, Bool.true_or, Bool.not_true, Bool.not_false, decide_eq_true q]
    · simp (disch := omega) only [mth_w, kR_w, kR_if, sQ_v, sN_v, sTi_v, sTa_v, sTl_v, sR_v, sRv_v, sX_v, sPi_v, sPo_v, sPz_w, zP_b, sRz_w, zR_bw, zR_0w, zR_1w, sPa_v, sAi_v, sAl_v, sAo_v, sAa_v, sM_w, sMp_w, eM_w, sIf_w, eIf_w, cAnd_w, cOr_w, cB_v, cZ_v, cNot_v, eC_v, eI_v, eJ_v, eOp_v, eQ_v, eU_v, eIL_v, eLO_v, eLS_v, eLC_v, eGi_v, eGa_v, eZ_w, eAi_v, eAl_v, eAa_v, eAn_v, aN_v, aI_v, aA_v, sInc_v, sB_okw, sB_xw, eS_okw, eS_xw, eB_okw, eB_xw, oE_w, oS_w, kI_iw, kI_xw, kV_w, kV_xw, kP_iw, kP_xw, List.set_cons_zero, List.set_cons_succ, List.cons_append, List.nil_append, List.length_cons, List.length_nil, List.replicate_succ, List.replicate_zero, List.append_nil, bif_and, bif_or, zne_b01, zeq_b01, bif_d, cond_true, cond_false, nar_0, o_iadd, o_isub, o_imul, c_eq, c_ne, c_lt, c_ge, c_gt, c_le, Nat.reduceAdd, Nat.reduceSub, Nat.zero_add, if_true, if_false, eLl_2, eLi_0, eLi_1, eLi_2, eLi_3, eLi_4, eLi_5, eLi_6, eLi_7, eLi_8, eLi_9, eLi_10, eLi_11, eLi_12, eLi_13, eLa_0, eLa_1, eLa_2, eLa_3, eLa_4, eLa_5, eLa_6, eLa_7, nz_add, nz_mul, nz_sub, nz_lt, nz_le, nz_inj, zeq_nz, zne_nz, zge_nz, zgt_nz, zlt_nz, nlit0, nlit1, nlit2, nlit3, nlit4, nlit5, nlit6, nlit7, nlit8, nlit9, nlit10, nlit11, nlit12, nlit16, nlit18, nlit22, nlit31, nlit32, nlit33, nlit34, nlit40, nlit48, nlit60, nlit63, nlit64, nlit66, nlit80, nlit96, nlit114, nlit126, nlit128, nlit512, nlit756, nlit882, nlit1000, nlit1394, nlit1522, nlit1523, nlit10000, decide_true, decide_false, not_true_eq_false, not_false_eq_true, ne_eq, and_self, and_true, true_and, Bool.and_true, Bool.true_and, Bool.and_false, Bool.false_and, Bool.or_false, Bool.false_or, Bool.or_true, Bool.true_or, Bool.not_true, Bool.not_false, decide_eq_false q]) ⟨F0, plB B 64, plN N 64, by rw [ke_0], rfl, f01, by
      rw [f04]
      split
      · rfl
      · rename_i q
        have : t = 0 := by
          unfold keT at q
          by_cases z : t = 0
          · exact z
          · rw [if_neg z] at q
            omega
        unfold wrT
        rw [if_pos this], fun _ => ⟨f03, f07⟩, fun z => by
      have : t = 0 := by
        unfold keT at z
        by_cases z0 : t = 0
        · exact z0
        · rw [if_neg z0] at z
          omega
      unfold nrT wrT
      rw [if_pos this, if_pos this]
      exact ⟨f03, fun z => absurd rfl z⟩, fun _ => ⟨plN_e, plB_e⟩, fun z => by
      have : t = 0 := by
        unfold keT at z
        by_cases z0 : t = 0
        · exact z0
        · rw [if_neg z0] at z
          omega
      unfold nrT
      rw [if_pos this]
      exact plB_e⟩
  obtain ⟨a3, a5⟩ := ze rfl
  rw [if_neg (Nat.lt_irrefl _)] at z4
  refine ⟨F1, B1, N1, ?_, z1, a3, z4, a5, zr.2 rfl⟩
  rw [q1]
  simp (disch := omega) only [mth_w, kR_w, kR_if, sQ_v, sN_v, sTi_v, sTa_v, sTl_v, sR_v, sRv_v, sX_v, sPi_v, sPo_v, sPz_w, zP_b, sRz_w, zR_bw, zR_0w, zR_1w, sPa_v, sAi_v, sAl_v, sAo_v, sAa_v, sM_w, sMp_w, eM_w, sIf_w, eIf_w, cAnd_w, cOr_w, cB_v, cZ_v, cNot_v, eC_v, eI_v, eJ_v, eOp_v, eQ_v, eU_v, eIL_v, eLO_v, eLS_v, eLC_v, eGi_v, eGa_v, eZ_w, eAi_v, eAl_v, eAa_v, eAn_v, aN_v, aI_v, aA_v, sInc_v, sB_okw, sB_xw, eS_okw, eS_xw, eB_okw, eB_xw, oE_w, oS_w, kI_iw, kI_xw, kV_w, kV_xw, kP_iw, kP_xw, List.set_cons_zero, List.set_cons_succ, List.cons_append, List.nil_append, List.length_cons, List.length_nil, List.replicate_succ, List.replicate_zero, List.append_nil, bif_and, bif_or, zne_b01, zeq_b01, bif_d, cond_true, cond_false, nar_0, o_iadd, o_isub, o_imul, c_eq, c_ne, c_lt, c_ge, c_gt, c_le, Nat.reduceAdd, Nat.reduceSub, Nat.zero_add, if_true, if_false, eLl_2, eLi_0, eLi_1, eLi_2, eLi_3, eLi_4, eLi_5, eLi_6, eLi_7, eLi_8, eLi_9, eLi_10, eLi_11, eLi_12, eLi_13, eLa_0, eLa_1, eLa_2, eLa_3, eLa_4, eLa_5, eLa_6, eLa_7, nz_add, nz_mul, nz_sub, nz_lt, nz_le, nz_inj, zeq_nz, zne_nz, zge_nz, zgt_nz, zlt_nz, nlit0, nlit1, nlit2, nlit3, nlit4, nlit5, nlit6, nlit7, nlit8, nlit9, nlit10, nlit11, nlit12, nlit16, nlit18, nlit22, nlit31, nlit32, nlit33, nlit34, nlit40, nlit48, nlit60, nlit63, nlit64, nlit66, nlit80, nlit96, nlit114, nlit126, nlit128, nlit512, nlit756, nlit882, nlit1000, nlit1394, nlit1522, nlit1523, nlit10000]
theorem e_readBook (he : EO e) (hx : TxC tx t (m 36)) (h1 : m 35 1 = nz t) : ∃ m1, f_X3_readBook [.ref 35] (HM e m w) = some (HM e m1 w, .inl none) ∧ (∀ a, a ≠ 35 → a ≠ 37 → a ≠ 38 → m1 a = m a) ∧ m1 35 1 = nz t ∧ m1 35 3 = nz (nrT tx t) ∧ m1 35 4 = nz (wrT tx t) ∧ (wrT tx t ≠ 0 → m1 35 5 = nz (waT tx t)) ∧ ∀ k, k < 128 → m1 37 k = BT tx t (nrT tx t) k := by
  obtain ⟨F', B', N', g1, g2, g3, g4, g5, g6⟩ := e_readBook0 (e := e) (w := w) (m := m) (B := m 37) (N := m 38) he hx h1
  rw [PM_self] at g1
  exact ⟨_, g1, fun a a1 a2 a3 => PM_ne a1 a2 a3, by rw [PM_35]; exact g2, by rw [PM_35]; exact g3, by rw [PM_35]; exact g4, fun z => by rw [PM_35]; exact g5 z, fun k hk => by rw [PM_37]; exact g6 k hk⟩
end
