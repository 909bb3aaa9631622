section
variable {e : Nat → Nat × (Nat → Int32)} {m : Mm} {w : Ml}
theorem e_append {i ch : Nat} (h1 : m 35 1 = nz i) (hi : i < 80) (hc : nar 3 (nz ch) = nz ch) : f_X3_append [.ref 35, .int (nz ch)] (HM e m w) = some (HM e (ms (ms m 36 i (nz ch)) 35 1 (nz (i + 1))) w, .inl none) := by
  unfold f_X3_append
  simp (disch := omega) only [mth_w, kR_w, kR_if, sQ_v, sN_v, sTi_v, sTa_v, sTl_v, sR_v, sRv_v, sX_v, sPi_v, sPo_v, sPz_w, zP_b, sRz_w, zR_bw, zR_0w, zR_1w, sPa_v, sAi_v, sAl_v, sAo_v, sAa_v, sM_w, sMp_w, eM_w, sIf_w, eIf_w, cAnd_w, cOr_w, cB_v, cZ_v, cNot_v, eC_v, eI_v, eJ_v, eOp_v, eQ_v, eU_v, eIL_v, eLO_v, eLS_v, eLC_v, eGi_v, eGa_v, eZ_w, eAi_v, eAl_v, eAa_v, eAn_v, aN_v, aI_v, aA_v, sInc_v, sB_okw, sB_xw, eS_okw, eS_xw, eB_okw, eB_xw, oE_w, oS_w, kI_iw, kI_xw, kV_w, kV_xw, kP_iw, kP_xw, List.set_cons_zero, List.set_cons_succ, List.cons_append, List.nil_append, List.length_cons, List.length_nil, List.replicate_succ, List.replicate_zero, List.append_nil, bif_and, bif_or, zne_b01, zeq_b01, bif_d, cond_true, cond_false, nar_0, o_iadd, o_isub, o_imul, c_eq, c_ne, c_lt, c_ge, c_gt, c_le, Nat.reduceAdd, Nat.reduceSub, Nat.zero_add, if_true, if_false, eLl_2, eLi_0, eLi_1, eLi_2, eLi_3, eLi_4, eLi_5, eLi_6, eLi_7, eLi_8, eLi_9, eLi_10, eLi_11, eLi_12, eLi_13, eLa_0, eLa_1, eLa_2, eLa_3, eLa_4, eLa_5, eLa_6, eLa_7, nz_add, nz_mul, nz_sub, nz_lt, nz_le, nz_inj, zeq_nz, zne_nz, zge_nz, zgt_nz, zlt_nz, nlit0, nlit1, nlit2, nlit3, nlit4, nlit5, nlit6, nlit7, nlit8, nlit9, nlit10, nlit11, nlit12, nlit16, nlit18, nlit22, nlit31, nlit32, nlit33, nlit34, nlit40, nlit48, nlit60, nlit63, nlit64, nlit66, nlit80, nlit96, nlit114, nlit126, nlit128, nlit512, nlit756, nlit882, nlit1000, nlit1394, nlit1522, nlit1523, nlit10000, decide_true, decide_false, not_true_eq_false, not_false_eq_true, ne_eq, and_self, and_true, true_and, Bool.and_true, Bool.true_and, Bool.and_false, Bool.false_and, Bool.or_false, Bool.false_or, Bool.or_true, Bool.true_or, Bool.not_true, Bool.not_false, gd_0, rf_0_0, rf_0_1, rf_0_2, rf_0_3, rf_0_4, rd_0_5, wr_0_5, rd_0_6, wr_0_6, rf_0_7, rf_0_8, rf_0_9, gd_31, rf_31_0, rf_31_1, rf_31_2, ar_32, aw_32, an_32, ar_33, aw_33, an_33, ar_34, aw_34, an_34, gd_35, rf_35_0, rd_35_1, wr_35_1, rf_35_2, rd_35_3, wr_35_3, rd_35_4, wr_35_4, rd_35_5, wr_35_5, rf_35_6, rd_35_7, wr_35_7, rd_35_8, wr_35_8, rd_35_9, wr_35_9, rd_35_10, wr_35_10, rd_35_11, wr_35_11, rd_35_12, wr_35_12, rd_35_13, wr_35_13, ar_36, aw_36, ar_37, aw_37, an_37, ar_38, aw_38, ar_39, ar_40, ar_41, aw_41, ar_42, aw_42, ar_146, aw_146, h1, decide_eq_true hi, hc, ms_ne]
theorem e_made (he : EO e) : ∃ m1, f_X7_init [.ref 0] (1, uo (FH e Zm Zl) 0 (.inr (7, [.null, .null, .null, .null, .null, .int 0, .int 0, .null, .null, .null]))) = some ((133, FH e m1 Zl), .inl none) ∧ (∀ a, 15 < a → a ≠ 35 → a ≠ 36 → a ≠ 37 → a ≠ 38 → m1 a = Zm a) ∧ m1 0 = Zm 0 ∧ m1 35 1 = nz 0 ∧ TR 1 m1 S0 := by
  have z0 : ∀ a j, Zm a j = nz 0 := fun _ _ => rfl
  have hgone : G3 (FH e Zm Zl) cls7 (qhO 4 43 4) (qhO 2 103 2) = FH e Zm Zl := G3_out ((FH_at (by decide) kd_0).trans rfl) ((FH_at (by decide) kd_39).trans qh_4.symm) ((FH_at (by decide) kd_40).trans qh_2.symm)
  obtain ⟨m2, b1, b2, b3, b4, b5, b6, b7, b8, b9, b10, b11, b12, b13, b14, b15, b16, b17, b18⟩ := e_buildAnew (e := eN e 133) (w := Zl) (m := Zm) (b := 1) (W := 15) (H := nz 8) TB.one (by omega)
  rw [show 15 + 1 = 16 from rfl] at b1 b3
  have he' : EO (eN e 133) := EO_n he
  obtain ⟨m3, hm3⟩ : ∃ m3 : Mm, m3 = fun a => if a = 36 then (fun j => if j < 18 then nz (tx0 j) else m2 36 j) else if a = 35 then su (m2 35) 1 (nz 18) else m2 a := ⟨_, rfl⟩
  have m3n : ∀ a, a ≠ 35 → a ≠ 36 → m3 a = m2 a := fun a a1 a2 => by rw [hm3]; show (if a = 36 then _ else if a = 35 then _ else _) = _; rw [if_neg a2, if_neg a1]
  have m336 : ∀ j, j < 18 → m3 36 j = nz (tx0 j) := fun j hj => by rw [hm3]; show (if 36 = 36 then (fun j => if j < 18 then nz (tx0 j) else m2 36 j) else _) j = _; rw [if_pos rfl, if_pos hj]
  have m3351 : m3 35 1 = nz 18 := by rw [hm3]; show (if 35 = 36 then _ else if 35 = 35 then su (m2 35) 1 (nz 18) else _) 1 = _; rw [if_neg (by decide), if_pos rfl, su_at]
  have hx : TxC tx0 18 (m3 36) := ⟨by decide, fun i hi => ⟨(tx0_c i hi).2.1, (tx0_c i hi).2.2.1, m336 i hi⟩⟩
  obtain ⟨m4, r0, r1, r2, r3, r4, -, r6⟩ := e_readBook (e := eN e 133) (w := Zl) (m := m3) (tx := tx0) (t := 18) he' hx m3351
  rw [nr0] at r3 r6
  rw [BT0] at r6
  obtain ⟨m5, k0, k1, k2, k3⟩ := e_takeBook (e := eN e 133) (m := m4) (w := Zl) TB.one
  obtain ⟨m6, hm6⟩ : ∃ m6, m6 = ms m5 35 1 (nz 0) := ⟨_, rfl⟩
  have m6n : ∀ a, a ≠ 1 → a ≠ 13 → a ≠ 35 → a ≠ 36 → a ≠ 37 → a ≠ 38 → m6 a = m2 a := fun a a1 a2 a3 a4 a5 a6 => by rw [hm6, ms_ne a3, k1 a a1 a2, r1 a a3 a5 a6, m3n a a3 a4]
  refine ⟨m6, ?_, fun a a1 a2 a3 a4 a5 => ?_, ?_, ?_, ?_⟩
  · have hend : (133, FH e m6 Zl) = HM (eN e 133) m6 Zl := HM_n.symm
    rw [hend]
    unfold f_X7_init
    have hl : ([.ref 0] ++ List.replicate (2 - ([.ref 0] : List Value).length) .null : List Value) = [.ref 0, .null] := rfl
    rw [mth_w, hl, new7_a]
    have hc7 : (.inr (7, [.ref 1, .ref 16, .ref 31, .ref 35, .ref 39, .int 0, .int 0, .ref 40, .ref 41, .ref 42]) : Ob) = cls7 := rfl
    rw [hc7, ← qh_0 (N := 4) (b := 43), sQ_v, new7_b, ← qh_0 (N := 2) (b := 103), new7_c, hgone, ← HM_n]
    simp (disch := omega) only [mth_w, kR_w, kR_if, sQ_v, sN_v, sTi_v, sTa_v, sTl_v, sR_v, sRv_v, sX_v, sPi_v, sPo_v, sPz_w, zP_b, sRz_w, zR_bw, zR_0w, zR_1w, sPa_v, sAi_v, sAl_v, sAo_v, sAa_v, sM_w, sMp_w, eM_w, sIf_w, eIf_w, cAnd_w, cOr_w, cB_v, cZ_v, cNot_v, eC_v, eI_v, eJ_v, eOp_v, eQ_v, eU_v, eIL_v, eLO_v, eLS_v, eLC_v, eGi_v, eGa_v, eZ_w, eAi_v, eAl_v, eAa_v, eAn_v, aN_v, aI_v, aA_v, sInc_v, sB_okw, sB_xw, eS_okw, eS_xw, eB_okw, eB_xw, oE_w, oS_w, kI_iw, kI_xw, kV_w, kV_xw, kP_iw, kP_xw, List.set_cons_zero, List.set_cons_succ, List.cons_append, List.nil_append, List.length_cons, List.length_nil, List.replicate_succ, List.replicate_zero, List.append_nil, bif_and, bif_or, zne_b01, zeq_b01, bif_d, cond_true, cond_false, nar_0, o_iadd, o_isub, o_imul, c_eq, c_ne, c_lt, c_ge, c_gt, c_le, Nat.reduceAdd, Nat.reduceSub, Nat.zero_add, if_true, if_false, eLl_2, eLi_0, eLi_1, eLi_2, eLi_3, eLi_4, eLi_5, eLi_6, eLi_7, eLi_8, eLi_9, eLi_10, eLi_11, eLi_12, eLi_13, eLa_0, eLa_1, eLa_2, eLa_3, eLa_4, eLa_5, eLa_6, eLa_7, nlit0, nlit1, nlit8, nlit16, gd_0, rf_0_0, rf_0_1, rf_0_2, rf_0_3, rf_0_4, rd_0_5, wr_0_5, rd_0_6, wr_0_6, rf_0_7, rf_0_8, rf_0_9, gd_31, rf_31_0, rf_31_1, rf_31_2, ar_32, aw_32, an_32, ar_33, aw_33, an_33, ar_34, aw_34, an_34, gd_35, rf_35_0, rd_35_1, wr_35_1, rf_35_2, rd_35_3, wr_35_3, rd_35_4, wr_35_4, rd_35_5, wr_35_5, rf_35_6, rd_35_7, wr_35_7, rd_35_8, wr_35_8, rd_35_9, wr_35_9, rd_35_10, wr_35_10, rd_35_11, wr_35_11, rd_35_12, wr_35_12, rd_35_13, wr_35_13, ar_36, aw_36, ar_37, aw_37, an_37, ar_38, aw_38, ar_39, ar_40, ar_41, aw_41, ar_42, aw_42, ar_146, aw_146, (gd_t0 TB.one), (rf_t0_0 TB.one), (rf_t0_1 TB.one), (rf_t0_2 TB.one), (rf_t0_3 TB.one), (rf_t0_4 TB.one), (rf_t0_5 TB.one), (rd_t0_6 TB.one), (wr_t0_6 TB.one), (rd_t0_7 TB.one), (wr_t0_7 TB.one), (rf_t0_8 TB.one), (rf_t0_9 TB.one), (gd_t1 TB.one), (rd_t1_0 TB.one), (wr_t1_0 TB.one), (rd_t1_1 TB.one), (wr_t1_1 TB.one), (rd_t1_2 TB.one), (wr_t1_2 TB.one), (rf_t1_3 TB.one), (rf_t1_4 TB.one), (ar_t2 TB.one), (aw_t2 TB.one), (an_t2 TB.one), (ar_t3 TB.one), (aw_t3 TB.one), (an_t3 TB.one), (gd_t4 TB.one), (rd_t4_0 TB.one), (wr_t4_0 TB.one), (rf_t4_1 TB.one), (ar_t5 TB.one), (aw_t5 TB.one), (an_t5 TB.one), (gd_t6 TB.one), (rd_t6_0 TB.one), (wr_t6_0 TB.one), (rd_t6_1 TB.one), (wr_t6_1 TB.one), (rf_t6_2 TB.one), (ar_t7 TB.one), (aw_t7 TB.one), (an_t7 TB.one), (gd_t8 TB.one), (rf_t8_0 TB.one), (rf_t8_1 TB.one), (ar_t9 TB.one), (aw_t9 TB.one), (an_t9 TB.one), (ar_t10 TB.one), (aw_t10 TB.one), (an_t10 TB.one), (ar_t11 TB.one), (aw_t11 TB.one), (an_t11 TB.one), (ar_t12 TB.one), (aw_t12 TB.one), (an_t12 TB.one), (ar_t13 TB.one), (aw_t13 TB.one), (an_t13 TB.one), (ar_t14 TB.one), (aw_t14 TB.one), (an_t14 TB.one), b1]
    generalize hR : sLp _ _ NF _ _ = R
    obtain ⟨l', h', q1, y, mm, rfl, rfl, rfl, i1, i2, i3⟩ := sLp_invR hR (fun i l h => ∃ y mm, l = [.ref 0, y] ∧ y = .int (nz i) ∧ h = HM (eN e 133) mm Zl ∧ (∀ a, a ≠ 35 → a ≠ 36 → mm a = m2 a) ∧ (mm 35 = su (m2 35) 1 (nz i)) ∧ mm 36 = fun j => if j < i then nz (tx0 j) else m2 36 j) 18 (NF_lt (by omega)) (fun i l h hi hQ => by
      obtain ⟨y, mm, rfl, rfl, rfl, i1, i2, i3⟩ := hQ
      obtain ⟨t1, t2, t3, t4⟩ := tx0_c i hi
      have h351 : mm 35 1 = nz i := by rw [i2, su_at]
      have ap := e_append (e := eN e 133) (w := Zl) (m := mm) (i := i) (ch := tx0 i) h351 (by omega) t4
      have hst : ∀ (l : Lc), eSt (eLi 1) [.ref 0, .int (nz i)] (HM (eN e 133) mm Zl) = some (HM (eN e 133) mm Zl, .inl (nz (tx0 i))) := fun _ => by
        unfold eSt
        rw [eLi_1, eB_okw, if_pos ⟨nz_nn (by omega), by rw [show (18 : Int32) = nz 18 from rfl, nz_lt (by omega) (by omega)]; exact hi⟩, t1]
      refine ⟨by simp (disch := omega) only [mth_w, kR_w, kR_if, sQ_v, sN_v, sTi_v, sTa_v, sTl_v, sR_v, sRv_v, sX_v, sPi_v, sPo_v, sPz_w, zP_b, sRz_w, zR_bw, zR_0w, zR_1w, sPa_v, sAi_v, sAl_v, sAo_v, sAa_v, sM_w, sMp_w, eM_w, sIf_w, eIf_w, cAnd_w, cOr_w, cB_v, cZ_v, cNot_v, eC_v, eI_v, eJ_v, eOp_v, eQ_v, eU_v, eIL_v, eLO_v, eLS_v, eLC_v, eGi_v, eGa_v, eZ_w, eAi_v, eAl_v, eAa_v, eAn_v, aN_v, aI_v, aA_v, sInc_v, sB_okw, sB_xw, eS_okw, eS_xw, eB_okw, eB_xw, oE_w, oS_w, kI_iw, kI_xw, kV_w, kV_xw, kP_iw, kP_xw, List.set_cons_zero, List.set_cons_succ, List.cons_append, List.nil_append, List.length_cons, List.length_nil, List.replicate_succ, List.replicate_zero, List.append_nil, bif_and, bif_or, zne_b01, zeq_b01, bif_d, cond_true, cond_false, nar_0, o_iadd, o_isub, o_imul, c_eq, c_ne, c_lt, c_ge, c_gt, c_le, Nat.reduceAdd, Nat.reduceSub, Nat.zero_add, if_true, if_false, eLl_2, eLi_0, eLi_1, eLi_2, eLi_3, eLi_4, eLi_5, eLi_6, eLi_7, eLi_8, eLi_9, eLi_10, eLi_11, eLi_12, eLi_13, eLa_0, eLa_1, eLa_2, eLa_3, eLa_4, eLa_5, eLa_6, eLa_7, nz_add, nz_mul, nz_sub, nz_lt, nz_le, nz_inj, zeq_nz, zne_nz, zge_nz, zgt_nz, zlt_nz, nlit0, nlit1, nlit2, nlit3, nlit4, nlit5, nlit6, nlit7, nlit8, nlit9, nlit10, nlit11, nlit12, nlit16, nlit18, nlit22, nlit31, nlit32, nlit33, nlit34, nlit40, nlit48, nlit60, nlit63, nlit64, nlit66, nlit80, nlit96, nlit114, nlit126, nlit128, nlit512, nlit756, nlit882, nlit1000, nlit1394, nlit1522, nlit1523, nlit10000, decide_eq_true hi], [.ref 0, .int (nz (i + 1))], HM (eN e 133) (ms (ms mm 36 i (nz (tx0 i))) 35 1 (nz (i + 1))) Zl, ?_, _, _, rfl, rfl, rfl, fun a a1 a2 => ?_, ?_, ?_⟩
      · simp (disch := omega) only [mth_w, kR_w, kR_if, sQ_v, sN_v, sTi_v, sTa_v, sTl_v, sR_v, sRv_v, sX_v, sPi_v, sPo_v, sPz_w, zP_b, sRz_w, zR_bw, zR_0w, zR_1w, sPa_v, sAi_v, sAl_v, sAo_v, sAa_v, sM_w, sMp_w, eM_w, sIf_w, eIf_w, cAnd_w, cOr_w, cB_v, cZ_v, cNot_v, eC_v, eI_v, eJ_v, eOp_v, eQ_v, eU_v, eIL_v, eLO_v, eLS_v, eLC_v, eGi_v, eGa_v, eZ_w, eAi_v, eAl_v, eAa_v, eAn_v, aN_v, aI_v, aA_v, sInc_v, sB_okw, sB_xw, eS_okw, eS_xw, eB_okw, eB_xw, oE_w, oS_w, kI_iw, kI_xw, kV_w, kV_xw, kP_iw, kP_xw, List.set_cons_zero, List.set_cons_succ, List.cons_append, List.nil_append, List.length_cons, List.length_nil, List.replicate_succ, List.replicate_zero, List.append_nil, bif_and, bif_or, zne_b01, zeq_b01, bif_d, cond_true, cond_false, nar_0, o_iadd, o_isub, o_imul, c_eq, c_ne, c_lt, c_ge, c_gt, c_le, Nat.reduceAdd, Nat.reduceSub, Nat.zero_add, if_true, if_false, eLl_2, eLi_0, eLi_1, eLi_2, eLi_3, eLi_4, eLi_5, eLi_6, eLi_7, eLi_8, eLi_9, eLi_10, eLi_11, eLi_12, eLi_13, eLa_0, eLa_1, eLa_2, eLa_3, eLa_4, eLa_5, eLa_6, eLa_7, nz_add, nz_mul, nz_sub, nz_lt, nz_le, nz_inj, zeq_nz, zne_nz, zge_nz, zgt_nz, zlt_nz, nlit0, nlit1, nlit2, nlit3, nlit4, nlit5, nlit6, nlit7, nlit8, nlit9, nlit10, nlit11, nlit12, nlit16, nlit18, nlit22, nlit31, nlit32, nlit33, nlit34, nlit40, nlit48, nlit60, nlit63, nlit64, nlit66, nlit80, nlit96, nlit114, nlit126, nlit128, nlit512, nlit756, nlit882, nlit1000, nlit1394, nlit1522, nlit1523, nlit10000, gd_0, rf_0_0, rf_0_1, rf_0_2, rf_0_3, rf_0_4, rd_0_5, wr_0_5, rd_0_6, wr_0_6, rf_0_7, rf_0_8, rf_0_9, gd_31, rf_31_0, rf_31_1, rf_31_2, ar_32, aw_32, an_32, ar_33, aw_33, an_33, ar_34, aw_34, an_34, gd_35, rf_35_0, rd_35_1, wr_35_1, rf_35_2, rd_35_3, wr_35_3, rd_35_4, wr_35_4, rd_35_5, wr_35_5, rf_35_6, rd_35_7, wr_35_7, rd_35_8, wr_35_8, rd_35_9, wr_35_9, rd_35_10, wr_35_10, rd_35_11, wr_35_11, rd_35_12, wr_35_12, rd_35_13, wr_35_13, ar_36, aw_36, ar_37, aw_37, an_37, ar_38, aw_38, ar_39, ar_40, ar_41, aw_41, ar_42, aw_42, ar_146, aw_146, hst [], ap]
      · rw [ms_ne a1, ms_ne a2, i1 a a1 a2]
      · rw [ms_mw, mw_at, ms_ne (by decide), i2, su_su]
      · rw [ms_ne (by decide), ms_at, i3]
        funext j
        by_cases q : j = i
        · rw [if_pos q, if_pos (by omega), q]
        · rw [if_neg q]
          show (if j < i then nz (tx0 j) else m2 36 j) = if j < i + 1 then nz (tx0 j) else m2 36 j
          by_cases q2 : j < i
          · rw [if_pos q2, if_pos (by omega)]
          · rw [if_neg q2, if_neg (by omega)]) (fun l h hQ => by
      obtain ⟨y, mm, rfl, rfl, rfl, -, -, -⟩ := hQ
      simp (disch := omega) only [mth_w, kR_w, kR_if, sQ_v, sN_v, sTi_v, sTa_v, sTl_v, sR_v, sRv_v, sX_v, sPi_v, sPo_v, sPz_w, zP_b, sRz_w, zR_bw, zR_0w, zR_1w, sPa_v, sAi_v, sAl_v, sAo_v, sAa_v, sM_w, sMp_w, eM_w, sIf_w, eIf_w, cAnd_w, cOr_w, cB_v, cZ_v, cNot_v, eC_v, eI_v, eJ_v, eOp_v, eQ_v, eU_v, eIL_v, eLO_v, eLS_v, eLC_v, eGi_v, eGa_v, eZ_w, eAi_v, eAl_v, eAa_v, eAn_v, aN_v, aI_v, aA_v, sInc_v, sB_okw, sB_xw, eS_okw, eS_xw, eB_okw, eB_xw, oE_w, oS_w, kI_iw, kI_xw, kV_w, kV_xw, kP_iw, kP_xw, List.set_cons_zero, List.set_cons_succ, List.cons_append, List.nil_append, List.length_cons, List.length_nil, List.replicate_succ, List.replicate_zero, List.append_nil, bif_and, bif_or, zne_b01, zeq_b01, bif_d, cond_true, cond_false, nar_0, o_iadd, o_isub, o_imul, c_eq, c_ne, c_lt, c_ge, c_gt, c_le, Nat.reduceAdd, Nat.reduceSub, Nat.zero_add, if_true, if_false, eLl_2, eLi_0, eLi_1, eLi_2, eLi_3, eLi_4, eLi_5, eLi_6, eLi_7, eLi_8, eLi_9, eLi_10, eLi_11, eLi_12, eLi_13, eLa_0, eLa_1, eLa_2, eLa_3, eLa_4, eLa_5, eLa_6, eLa_7, nz_add, nz_mul, nz_sub, nz_lt, nz_le, nz_inj, zeq_nz, zne_nz, zge_nz, zgt_nz, zlt_nz, nlit0, nlit1, nlit2, nlit3, nlit4, nlit5, nlit6, nlit7, nlit8, nlit9, nlit10, nlit11, nlit12, nlit16, nlit18, nlit22, nlit31, nlit32, nlit33, nlit34, nlit40, nlit48, nlit60, nlit63, nlit64, nlit66, nlit80, nlit96, nlit114, nlit126, nlit128, nlit512, nlit756, nlit882, nlit1000, nlit1394, nlit1522, nlit1523, nlit10000]
      simp) ⟨_, m2, rfl, rfl, rfl, fun _ _ _ => rfl, by
        have h351 : m2 35 1 = nz 0 := by
          rw [b2 35 (by omega)]
          rfl
        rw [← h351, su_self], by
        funext j
        rw [if_neg (Nat.not_lt_zero j)]⟩
    have hmm : mm = m3 := by
      rw [hm3]
      funext a
      by_cases q : a = 36
      · rw [if_pos q, q, i3]
      · rw [if_neg q]
        by_cases q2 : a = 35
        · rw [if_pos q2, q2, i2]
        · rw [if_neg q2, i1 a q2 q]
    rw [q1, hmm]
    simp (disch := omega) only [mth_w, kR_w, kR_if, sQ_v, sN_v, sTi_v, sTa_v, sTl_v, sR_v, sRv_v, sX_v, sPi_v, sPo_v, sPz_w, zP_b, sRz_w, zR_bw, zR_0w, zR_1w, sPa_v, sAi_v, sAl_v, sAo_v, sAa_v, sM_w, sMp_w, eM_w, sIf_w, eIf_w, cAnd_w, cOr_w, cB_v, cZ_v, cNot_v, eC_v, eI_v, eJ_v, eOp_v, eQ_v, eU_v, eIL_v, eLO_v, eLS_v, eLC_v, eGi_v, eGa_v, eZ_w, eAi_v, eAl_v, eAa_v, eAn_v, aN_v, aI_v, aA_v, sInc_v, sB_okw, sB_xw, eS_okw, eS_xw, eB_okw, eB_xw, oE_w, oS_w, kI_iw, kI_xw, kV_w, kV_xw, kP_iw, kP_xw, List.set_cons_zero, List.set_cons_succ, List.cons_append, List.nil_append, List.length_cons, List.length_nil, List.replicate_succ, List.replicate_zero, List.append_nil, bif_and, bif_or, zne_b01, zeq_b01, bif_d, cond_true, cond_false, nar_0, o_iadd, o_isub, o_imul, c_eq, c_ne, c_lt, c_ge, c_gt, c_le, Nat.reduceAdd, Nat.reduceSub, Nat.zero_add, if_true, if_false, eLl_2, eLi_0, eLi_1, eLi_2, eLi_3, eLi_4, eLi_5, eLi_6, eLi_7, eLi_8, eLi_9, eLi_10, eLi_11, eLi_12, eLi_13, eLa_0, eLa_1, eLa_2, eLa_3, eLa_4, eLa_5, eLa_6, eLa_7, nlit0, gd_0, rf_0_0, rf_0_1, rf_0_2, rf_0_3, rf_0_4, rd_0_5, wr_0_5, rd_0_6, wr_0_6, rf_0_7, rf_0_8, rf_0_9, gd_31, rf_31_0, rf_31_1, rf_31_2, ar_32, aw_32, an_32, ar_33, aw_33, an_33, ar_34, aw_34, an_34, gd_35, rf_35_0, rd_35_1, wr_35_1, rf_35_2, rd_35_3, wr_35_3, rd_35_4, wr_35_4, rd_35_5, wr_35_5, rf_35_6, rd_35_7, wr_35_7, rd_35_8, wr_35_8, rd_35_9, wr_35_9, rd_35_10, wr_35_10, rd_35_11, wr_35_11, rd_35_12, wr_35_12, rd_35_13, wr_35_13, ar_36, aw_36, ar_37, aw_37, an_37, ar_38, aw_38, ar_39, ar_40, ar_41, aw_41, ar_42, aw_42, ar_146, aw_146, (gd_t0 TB.one), (rf_t0_0 TB.one), (rf_t0_1 TB.one), (rf_t0_2 TB.one), (rf_t0_3 TB.one), (rf_t0_4 TB.one), (rf_t0_5 TB.one), (rd_t0_6 TB.one), (wr_t0_6 TB.one), (rd_t0_7 TB.one), (wr_t0_7 TB.one), (rf_t0_8 TB.one), (rf_t0_9 TB.one), (gd_t1 TB.one), (rd_t1_0 TB.one), (wr_t1_0 TB.one), (rd_t1_1 TB.one), (wr_t1_1 TB.one), (rd_t1_2 TB.one), (wr_t1_2 TB.one), (rf_t1_3 TB.one), (rf_t1_4 TB.one), (ar_t2 TB.one), (aw_t2 TB.one), (an_t2 TB.one), (ar_t3 TB.one), (aw_t3 TB.one), (an_t3 TB.one), (gd_t4 TB.one), (rd_t4_0 TB.one), (wr_t4_0 TB.one), (rf_t4_1 TB.one), (ar_t5 TB.one), (aw_t5 TB.one), (an_t5 TB.one), (gd_t6 TB.one), (rd_t6_0 TB.one), (wr_t6_0 TB.one), (rd_t6_1 TB.one), (wr_t6_1 TB.one), (rf_t6_2 TB.one), (ar_t7 TB.one), (aw_t7 TB.one), (an_t7 TB.one), (gd_t8 TB.one), (rf_t8_0 TB.one), (rf_t8_1 TB.one), (ar_t9 TB.one), (aw_t9 TB.one), (an_t9 TB.one), (ar_t10 TB.one), (aw_t10 TB.one), (an_t10 TB.one), (ar_t11 TB.one), (aw_t11 TB.one), (an_t11 TB.one), (ar_t12 TB.one), (aw_t12 TB.one), (an_t12 TB.one), (ar_t13 TB.one), (aw_t13 TB.one), (an_t13 TB.one), (ar_t14 TB.one), (aw_t14 TB.one), (an_t14 TB.one), r0, k0, ← hm6]
  · by_cases q : a = 13
    · omega
    · rw [m6n a (by omega) q a2 a3 a4 a5, b2 a (by omega)]
  · rw [m6n 0 (by decide) (by decide) (by decide) (by decide) (by decide) (by decide), b2 0 (by omega)]
  · rw [hm6, ms_eq]
  · have hT2 : TR 1 m2 S00 := by
      have hbq : ∀ k, k < 6 → bq (nz 0) k = false := by decide
      unfold TR TRv
      rw [S00_W, S00_H, S00_g, S00_r]
      refine ⟨⟨?_, ?_, fun c hc => ?_⟩, fun r hr d hd c hc => ?_, fun r hr k hk c hc => ?_, ⟨?_, fun k hk => by omega⟩, ⟨?_, 0, by omega, ?_, fun i hi => absurd hi (Nat.not_lt_zero i)⟩, fun k hk => ?_, fun k hk x hx => ?_, fun k hk => ?_, fun k hk => ?_, ⟨?_, ?_⟩, fun k hk => ?_, fun c hc => ?_⟩
      · show m2 (1 + 1) 0 = _
        rw [b3, S00_0]
      · show m2 (1 + 1) 1 = _
        rw [b4, S00_1]
      · show bt (m2 (1 + 1) 2) c = _
        rw [b5, bt_cb (by omega) (by omega) hc, decide_eq_true (Nat.zero_le _), Bool.true_and]
        exact decide_eq_decide.mpr (by omega)
      · show bt (m2 (1 + 2) _) c = _
        rw [b6 _ (by omega), S00_c, pq_nz (by decide) hd]
        exact (bt_0 c).trans (by simp)
      · show bt (m2 (1 + 3) _) c = _
        rw [b7 _ (by omega), S00_c, hbq k hk]
        exact bt_0 c
      · show m2 (1 + 4) 0 = _
        rw [b8, S00_z (by omega)]
      · show m2 (1 + 6) 0 = _
        rw [b9, S00_z (by omega)]
      · show m2 (1 + 6) 1 = _
        rw [b10]
        rfl
      · show m2 (1 + 9) k = _
        rw [b11 k hk, S00_z (by omega)]
      · show m2 (1 + 10) _ = _
        rw [b12 _ (by omega), S00_z (by omega)]
      · show m2 (1 + 11) k = _
        rw [b13, S00_z (by omega)]
        rfl
      · show m2 (1 + 12) k = _
        rw [b14, S00_z (by omega)]
        rfl
      · show m2 1 6 = _
        rw [b15, S00_z (by omega)]
        rfl
      · show m2 1 7 = _
        rw [b16, S00_z (by omega)]
      · show m2 (1 + 13) k = _
        rw [b17 k hk, S00_z (by omega)]
      · rw [S00_z (by omega)]
        refine sm_zero fun r hr => sm_zero fun d hd => ?_
        show sg d (b01 (bt (m2 (1 + 14) _) c)) = _
        rw [b18 _ (by omega), show bt (nz 0) c = false from bt_0 c]
        exact sg_z
    have m4n : ∀ a, a ≠ 35 → a ≠ 36 → a ≠ 37 → a ≠ 38 → m4 a = m2 a := fun a a1 a2 a3 a4 => by rw [r1 a a1 a3 a4, m3n a a1 a2]
    have h16 : m6 1 6 = nz 2 := by rw [hm6, ms_ne (by decide), k3, su_at, r3]
    have h17 : m6 1 7 = m2 1 7 := by rw [hm6, ms_ne (by decide), k3, su_ne (by decide), m4n 1 (by decide) (by decide) (by decide) (by decide)]
    have k2a : ∀ a, a ≠ 1 → a ≠ 13 → a < 35 → m6 a = m2 a := fun a a1 a2 a3 => m6n a a1 a2 (by omega) (by omega) (by omega) (by omega)
    unfold S0
    refine TR.gen (b := 1) S00_wf hT2 (k2a _ (by decide) (by decide) (by decide)) (k2a _ (by decide) (by decide) (by decide)) (k2a _ (by decide) (by decide) (by decide)) (k2a _ (by decide) (by decide) (by decide)) h17 (fun j hj => bkT1_lo (by omega)) (Or.inl ⟨k2a _ (by decide) (by decide) (by decide), k2a _ (by decide) (by decide) (by decide), fun c r hc hr => bkT1_lo (by omega)⟩) (Or.inl ⟨k2a _ (by decide) (by decide) (by decide), k2a _ (by decide) (by decide) (by decide), bkT1_lo (by omega), fun k hk => bkT1_lo (by omega)⟩) (Or.inl ⟨k2a _ (by decide) (by decide) (by decide), fun k hk => bkT1_lo (by omega)⟩) (Or.inl ⟨k2a _ (by decide) (by decide) (by decide), fun k _ hk => bkT1_lo (by omega)⟩) (Or.inl ⟨k2a _ (by decide) (by decide) (by decide), fun k hk => bkT1_lo (by omega)⟩) (Or.inr ⟨by rw [h16, bkT1_r], fun k hk => ?_⟩) (Or.inl ⟨k2a _ (by decide) (by decide) (by decide), fun k hk => bkT1_lo (by omega)⟩)
    rw [bkT1_b hk, hm6, ms_ne (by decide), k2 k hk, r6 k hk]
end
