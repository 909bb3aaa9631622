/-! A RULE, A BOOK: the class -/
section
variable {tx : Nat → Nat} {t p c fr ev od j i : Nat} {F B N : St} {s : Bool} {e : Nat → Nat × (Nat → Int32)} {m : Mm} {w : Ml} {h : Hp}
theorem e_readForm (hx : TxC tx t (m 36)) (h1 : F 1 = nz t) (h7 : F 7 = nz p) (hp : p ≤ t) : ∃ F', f_X3_readForm [.ref 35] (HM e (PM m F B N) w) = some (HM e (PM m F' B N) w, .inl (some (.int (b01 (okT tx t p))))) ∧ F' 1 = nz t ∧ F' 3 = F 3 ∧ F' 4 = F 4 ∧ F' 5 = F 5 ∧ (okT tx t p = false → F' 7 = nz (fpT tx t p)) ∧
    (okT tx t p = true → F' 7 = nz (n6T tx t p) ∧ F' 8 = b01 (tkT tx t 42 p) ∧ F' 9 = nz (frT tx t p) ∧ F' 10 = nz (evT tx t p) ∧ F' 11 = nz (n3T tx t p) ∧ F' 12 = nz (odT tx t p) ∧ F' 13 = nz (q6T tx t p)) := by
  have ht := hx.1
  have l1 := n1_le (tx := tx) hp
  have l2 := n2_le (tx := tx) hp
  have hfr : frT tx t p < 64 := st_lt
  have hev : evT tx t p < 64 := st_lt
  have r1 : f_X3_skip [.ref 35, .int (nz 42)] (HM e (PM m F B N) w) = some (HM e (PM m (su F 7 (nz (n1T tx t p))) B N) w, .inl (some (.int (b01 (tkT tx t 42 p))))) := e_skip hx h1 h7 hp (by decide)
  obtain ⟨F1, hF1⟩ : ∃ F1, F1 = su (su F 7 (nz (n1T tx t p))) 8 (b01 (tkT tx t 42 p)) := ⟨_, rfl⟩
  have f1 : F1 1 = nz t := by rw [hF1, su_ne (by decide), su_ne (by decide), h1]
  have f17 : F1 7 = nz (n1T tx t p) := by rw [hF1, su_ne (by decide), su_at]
  have r2 : f_X3_readState [.ref 35] (HM e (PM m F1 B N) w) = some (HM e (PM m (su F1 7 (nz (n2T tx t p))) B N) w, .inl (some (.int (nz (frT tx t p))))) := e_readState hx f1 f17 l1
  obtain ⟨F2, hF2⟩ : ∃ F2, F2 = su (su F1 7 (nz (n2T tx t p))) 9 (nz (frT tx t p)) := ⟨_, rfl⟩
  have f2 : F2 1 = nz t := by rw [hF2, su_ne (by decide), su_ne (by decide), f1]
  have f27 : F2 7 = nz (n2T tx t p) := by rw [hF2, su_ne (by decide), su_at]
  have f29 : F2 9 = nz (frT tx t p) := by rw [hF2, su_at]
  have f28 : F2 8 = b01 (tkT tx t 42 p) := by rw [hF2, su_ne (by decide), su_ne (by decide), hF1, su_at]
  have k2 : ∀ j, j ≠ 7 → j ≠ 8 → j ≠ 9 → F2 j = F j := fun j a1 a2 a3 => by rw [hF2, su_ne a3, su_ne a1, hF1, su_ne a2, su_ne a1]
  by_cases c1 : frT tx t p = 0
  · have c1t : (frT tx t p = 0) = True := eq_true c1
    have hok : okT tx t p = false := by
      unfold okT
      rw [decide_eq_false (fun z => z c1), Bool.false_and]
    have hfp : fpT tx t p = n2T tx t p := by
      have := (st_0 (tx := tx) (t := t) (p := n1T tx t p)).mp c1
      unfold fpT n2T
      rw [if_pos c1, this, Nat.add_zero]
    rw [hok, hfp]
    refine ⟨F2, ?_, f2, k2 3 (by decide) (by decide) (by decide), k2 4 (by decide) (by decide) (by decide), k2 5 (by decide) (by decide) (by decide), fun _ => f27, fun z => absurd z (by decide)⟩
    unfold f_X3_readForm
    simp (disch := omega) only [mth_w, kR_w, kR_if, sQ_v, sN_v, sTi_v, sTa_v, sTl_v, sR_v, sRv_v, sX_v, sPi_v, sPo_v, sPz_w, zP_b, sRz_w, zR_bw, zR_0w, zR_1w, sPa_v, sAi_v, sAl_v, sAo_v, sAa_v, sM_w, sMp_w, eM_w, sIf_w, eIf_w, cAnd_w, cOr_w, cB_v, cZ_v, cNot_v, eC_v, eI_v, eJ_v, eOp_v, eQ_v, eU_v, eIL_v, eLO_v, eLS_v, eLC_v, eGi_v, eGa_v, eZ_w, eAi_v, eAl_v, eAa_v, eAn_v, aN_v, aI_v, aA_v, sInc_v, sB_okw, sB_xw, eS_okw, eS_xw, eB_okw, eB_xw, oE_w, oS_w, kI_iw, kI_xw, kV_w, kV_xw, kP_iw, kP_xw, List.set_cons_zero, List.set_cons_succ, List.cons_append, List.nil_append, List.length_cons, List.length_nil, List.replicate_succ, List.replicate_zero, List.append_nil, bif_and, bif_or, zne_b01, zeq_b01, bif_d, cond_true, cond_false, nar_0, o_iadd, o_isub, o_imul, c_eq, c_ne, c_lt, c_ge, c_gt, c_le, Nat.reduceAdd, Nat.reduceSub, Nat.zero_add, if_true, if_false, eLl_2, eLi_0, eLi_1, eLi_2, eLi_3, eLi_4, eLi_5, eLi_6, eLi_7, eLi_8, eLi_9, eLi_10, eLi_11, eLi_12, eLi_13, eLa_0, eLa_1, eLa_2, eLa_3, eLa_4, eLa_5, eLa_6, eLa_7, nz_add, nz_mul, nz_sub, nz_lt, nz_le, nz_inj, zeq_nz, zne_nz, zge_nz, zgt_nz, zlt_nz, nlit0, nlit1, nlit2, nlit3, nlit4, nlit5, nlit6, nlit7, nlit8, nlit9, nlit10, nlit11, nlit12, nlit16, nlit18, nlit22, nlit31, nlit32, nlit33, nlit34, nlit40, nlit48, nlit60, nlit63, nlit64, nlit66, nlit80, nlit96, nlit114, nlit126, nlit128, nlit512, nlit756, nlit882, nlit1000, nlit1394, nlit1522, nlit1523, nlit10000, decide_true, decide_false, not_true_eq_false, not_false_eq_true, ne_eq, and_self, and_true, true_and, Bool.and_true, Bool.true_and, Bool.and_false, Bool.false_and, Bool.or_false, Bool.false_or, Bool.or_true, Bool.true_or, Bool.not_true, Bool.not_false, gd_0, rf_0_0, rf_0_1, rf_0_2, rf_0_3, rf_0_4, rd_0_5, wr_0_5, rd_0_6, wr_0_6, rf_0_7, rf_0_8, rf_0_9, gd_31, rf_31_0, rf_31_1, rf_31_2, ar_32, aw_32, an_32, ar_33, aw_33, an_33, ar_34, aw_34, an_34, gd_35, rf_35_0, rd_35_1, wr_35_1, rf_35_2, rd_35_3, wr_35_3, rd_35_4, wr_35_4, rd_35_5, wr_35_5, rf_35_6, rd_35_7, wr_35_7, rd_35_8, wr_35_8, rd_35_9, wr_35_9, rd_35_10, wr_35_10, rd_35_11, wr_35_11, rd_35_12, wr_35_12, rd_35_13, wr_35_13, ar_36, aw_36, ar_37, aw_37, an_37, ar_38, aw_38, ar_39, ar_40, ar_41, aw_41, ar_42, aw_42, ar_146, aw_146, PM_35, PM_37, PM_38, PM_ne, PM_s5, PM_s7, PM_s8, su_at, su_ne, nlit42, nlit62, r1, ← hF1, r2, ← hF2, f29, c1t]
  · have c1f : (frT tx t p = 0) = False := eq_false c1
    have r3 : f_X3_skip [.ref 35, .int (nz 62)] (HM e (PM m F2 B N) w) = some (HM e (PM m (su F2 7 (nz (nxT tx t 62 (n2T tx t p)))) B N) w, .inl (some (.int (b01 (tkT tx t 62 (n2T tx t p)))))) := e_skip hx f2 f27 l2 (by decide)
    cases c2 : tkT tx t 62 (n2T tx t p) with
    | false =>
      have hnx : nxT tx t 62 (n2T tx t p) = n2T tx t p := if_neg (by rw [c2]; decide)
      rw [c2, hnx, ← f27, su_self] at r3
      have hok : okT tx t p = false := by
        unfold okT
        rw [c2, Bool.false_and, Bool.and_false]
      have hfp : fpT tx t p = n2T tx t p := by
        unfold fpT
        rw [if_neg c1, if_pos c2]
      rw [hok, hfp]
      refine ⟨F2, ?_, f2, k2 3 (by decide) (by decide) (by decide), k2 4 (by decide) (by decide) (by decide), k2 5 (by decide) (by decide) (by decide), fun _ => f27, fun z => absurd z (by decide)⟩
      unfold f_X3_readForm
      simp (disch := omega) only [mth_w, kR_w, kR_if, sQ_v, sN_v, sTi_v, sTa_v, sTl_v, sR_v, sRv_v, sX_v, sPi_v, sPo_v, sPz_w, zP_b, sRz_w, zR_bw, zR_0w, zR_1w, sPa_v, sAi_v, sAl_v, sAo_v, sAa_v, sM_w, sMp_w, eM_w, sIf_w, eIf_w, cAnd_w, cOr_w, cB_v, cZ_v, cNot_v, eC_v, eI_v, eJ_v, eOp_v, eQ_v, eU_v, eIL_v, eLO_v, eLS_v, eLC_v, eGi_v, eGa_v, eZ_w, eAi_v, eAl_v, eAa_v, eAn_v, aN_v, aI_v, aA_v, sInc_v, sB_okw, sB_xw, eS_okw, eS_xw, eB_okw, eB_xw, oE_w, oS_w, kI_iw, kI_xw, kV_w, kV_xw, kP_iw, kP_xw, List.set_cons_zero, List.set_cons_succ, List.cons_append, List.nil_append, List.length_cons, List.length_nil, List.replicate_succ, List.replicate_zero, List.append_nil, bif_and, bif_or, zne_b01, zeq_b01, bif_d, cond_true, cond_false, nar_0, o_iadd, o_isub, o_imul, c_eq, c_ne, c_lt, c_ge, c_gt, c_le, Nat.reduceAdd, Nat.reduceSub, Nat.zero_add, if_true, if_false, eLl_2, eLi_0, eLi_1, eLi_2, eLi_3, eLi_4, eLi_5, eLi_6, eLi_7, eLi_8, eLi_9, eLi_10, eLi_11, eLi_12, eLi_13, eLa_0, eLa_1, eLa_2, eLa_3, eLa_4, eLa_5, eLa_6, eLa_7, nz_add, nz_mul, nz_sub, nz_lt, nz_le, nz_inj, zeq_nz, zne_nz, zge_nz, zgt_nz, zlt_nz, nlit0, nlit1, nlit2, nlit3, nlit4, nlit5, nlit6, nlit7, nlit8, nlit9, nlit10, nlit11, nlit12, nlit16, nlit18, nlit22, nlit31, nlit32, nlit33, nlit34, nlit40, nlit48, nlit60, nlit63, nlit64, nlit66, nlit80, nlit96, nlit114, nlit126, nlit128, nlit512, nlit756, nlit882, nlit1000, nlit1394, nlit1522, nlit1523, nlit10000, decide_true, decide_false, not_true_eq_false, not_false_eq_true, ne_eq, and_self, and_true, true_and, Bool.and_true, Bool.true_and, Bool.and_false, Bool.false_and, Bool.or_false, Bool.false_or, Bool.or_true, Bool.true_or, Bool.not_true, Bool.not_false, gd_0, rf_0_0, rf_0_1, rf_0_2, rf_0_3, rf_0_4, rd_0_5, wr_0_5, rd_0_6, wr_0_6, rf_0_7, rf_0_8, rf_0_9, gd_31, rf_31_0, rf_31_1, rf_31_2, ar_32, aw_32, an_32, ar_33, aw_33, an_33, ar_34, aw_34, an_34, gd_35, rf_35_0, rd_35_1, wr_35_1, rf_35_2, rd_35_3, wr_35_3, rd_35_4, wr_35_4, rd_35_5, wr_35_5, rf_35_6, rd_35_7, wr_35_7, rd_35_8, wr_35_8, rd_35_9, wr_35_9, rd_35_10, wr_35_10, rd_35_11, wr_35_11, rd_35_12, wr_35_12, rd_35_13, wr_35_13, ar_36, aw_36, ar_37, aw_37, an_37, ar_38, aw_38, ar_39, ar_40, ar_41, aw_41, ar_42, aw_42, ar_146, aw_146, PM_35, PM_37, PM_38, PM_ne, PM_s5, PM_s7, PM_s8, su_at, su_ne, nlit42, nlit62, r1, ← hF1, r2, ← hF2, f29, c1f, r3]
    | true =>
      have hnx : nxT tx t 62 (n2T tx t p) = n3T tx t p := if_pos c2
      rw [c2, hnx] at r3
      have c2' : ¬ tkT tx t 62 (n2T tx t p) = false := by
        rw [c2]
        decide
      have l3 := n3_le hp c2
      have l4 := n4_le hp c2
      obtain ⟨F3, hF3⟩ : ∃ F3, F3 = su (su F2 7 (nz (n3T tx t p))) 11 (nz (n3T tx t p)) := ⟨_, rfl⟩
      have f3 : F3 1 = nz t := by rw [hF3, su_ne (by decide), su_ne (by decide), f2]
      have f37 : F3 7 = nz (n3T tx t p) := by rw [hF3, su_ne (by decide), su_at]
      have r4 : f_X3_readState [.ref 35] (HM e (PM m F3 B N) w) = some (HM e (PM m (su F3 7 (nz (n4T tx t p))) B N) w, .inl (some (.int (nz (evT tx t p))))) := e_readState hx f3 f37 l3
      obtain ⟨F4, hF4⟩ : ∃ F4, F4 = su (su F3 7 (nz (n4T tx t p))) 10 (nz (evT tx t p)) := ⟨_, rfl⟩
      have f4 : F4 1 = nz t := by rw [hF4, su_ne (by decide), su_ne (by decide), f3]
      have f47 : F4 7 = nz (n4T tx t p) := by rw [hF4, su_ne (by decide), su_at]
      have f410 : F4 10 = nz (evT tx t p) := by rw [hF4, su_at]
      have f411 : F4 11 = nz (n3T tx t p) := by rw [hF4, su_ne (by decide), su_ne (by decide), hF3, su_at]
      have k4 : ∀ j, j ≠ 7 → j ≠ 10 → j ≠ 11 → F4 j = F2 j := fun j a1 a2 a3 => by rw [hF4, su_ne a2, su_ne a1, hF3, su_ne a3, su_ne a1]
      by_cases c3 : evT tx t p = 0
      · have c3t : (evT tx t p = 0) = True := eq_true c3
        have hok : okT tx t p = false := by
          unfold okT
          rw [decide_eq_false (show ¬ evT tx t p ≠ 0 from fun z => z c3), Bool.false_and, Bool.and_false, Bool.and_false]
        have hfp : fpT tx t p = n4T tx t p := by
          have := (st_0 (tx := tx) (t := t) (p := n3T tx t p)).mp c3
          unfold fpT n4T
          rw [if_neg c1, if_neg c2', if_pos c3, this, Nat.add_zero]
        rw [hok, hfp]
        refine ⟨F4, ?_, f4, by rw [k4 3 (by decide) (by decide) (by decide), k2 3 (by decide) (by decide) (by decide)], by rw [k4 4 (by decide) (by decide) (by decide), k2 4 (by decide) (by decide) (by decide)], by rw [k4 5 (by decide) (by decide) (by decide), k2 5 (by decide) (by decide) (by decide)], fun _ => f47, fun z => absurd z (by decide)⟩
        unfold f_X3_readForm
        simp (disch := omega) only [mth_w, kR_w, kR_if, sQ_v, sN_v, sTi_v, sTa_v, sTl_v, sR_v, sRv_v, sX_v, sPi_v, sPo_v, sPz_w, zP_b, sRz_w, zR_bw, zR_0w, zR_1w, sPa_v, sAi_v, sAl_v, sAo_v, sAa_v, sM_w, sMp_w, eM_w, sIf_w, eIf_w, cAnd_w, cOr_w, cB_v, cZ_v, cNot_v, eC_v, eI_v, eJ_v, eOp_v, eQ_v, eU_v, eIL_v, eLO_v, eLS_v, eLC_v, eGi_v, eGa_v, eZ_w, eAi_v, eAl_v, eAa_v, eAn_v, aN_v, aI_v, aA_v, sInc_v, sB_okw, sB_xw, eS_okw, eS_xw, eB_okw, eB_xw, oE_w, oS_w, kI_iw, kI_xw, kV_w, kV_xw, kP_iw, kP_xw, List.set_cons_zero, List.set_cons_succ, List.cons_append, List.nil_append, List.length_cons, List.length_nil, List.replicate_succ, List.replicate_zero, List.append_nil, bif_and, bif_or, zne_b01, zeq_b01, bif_d, cond_true, cond_false, nar_0, o_iadd, o_isub, o_imul, c_eq, c_ne, c_lt, c_ge, c_gt, c_le, Nat.reduceAdd, Nat.reduceSub, Nat.zero_add, if_true, if_false, eLl_2, eLi_0, eLi_1, eLi_2, eLi_3, eLi_4, eLi_5, eLi_6, eLi_7, eLi_8, eLi_9, eLi_10, eLi_11, eLi_12, eLi_13, eLa_0, eLa_1, eLa_2, eLa_3, eLa_4, eLa_5, eLa_6, eLa_7, nz_add, nz_mul, nz_sub, nz_lt, nz_le, nz_inj, zeq_nz, zne_nz, zge_nz, zgt_nz, zlt_nz, nlit0, nlit1, nlit2, nlit3, nlit4, nlit5, nlit6, nlit7, nlit8, nlit9, nlit10, nlit11, nlit12, nlit16, nlit18, nlit22, nlit31, nlit32, nlit33, nlit34, nlit40, nlit48, nlit60, nlit63, nlit64, nlit66, nlit80, nlit96, nlit114, nlit126, nlit128, nlit512, nlit756, nlit882, nlit1000, nlit1394, nlit1522, nlit1523, nlit10000, decide_true, decide_false, not_true_eq_false, not_false_eq_true, ne_eq, and_self, and_true, true_and, Bool.and_true, Bool.true_and, Bool.and_false, Bool.false_and, Bool.or_false, Bool.false_or, Bool.or_true, Bool.true_or, Bool.not_true, Bool.not_false, gd_0, rf_0_0, rf_0_1, rf_0_2, rf_0_3, rf_0_4, rd_0_5, wr_0_5, rd_0_6, wr_0_6, rf_0_7, rf_0_8, rf_0_9, gd_31, rf_31_0, rf_31_1, rf_31_2, ar_32, aw_32, an_32, ar_33, aw_33, an_33, ar_34, aw_34, an_34, gd_35, rf_35_0, rd_35_1, wr_35_1, rf_35_2, rd_35_3, wr_35_3, rd_35_4, wr_35_4, rd_35_5, wr_35_5, rf_35_6, rd_35_7, wr_35_7, rd_35_8, wr_35_8, rd_35_9, wr_35_9, rd_35_10, wr_35_10, rd_35_11, wr_35_11, rd_35_12, wr_35_12, rd_35_13, wr_35_13, ar_36, aw_36, ar_37, aw_37, an_37, ar_38, aw_38, ar_39, ar_40, ar_41, aw_41, ar_42, aw_42, ar_146, aw_146, PM_35, PM_37, PM_38, PM_ne, PM_s5, PM_s7, PM_s8, su_at, su_ne, nlit42, nlit62, r1, ← hF1, r2, ← hF2, f29, c1f, r3, ← hF3, r4, ← hF4, f410, c3t]
      · have c3f : (evT tx t p = 0) = False := eq_false c3
        obtain ⟨F5, hF5⟩ : ∃ F5, F5 = su (su F4 13 (nz (n3T tx t p))) 12 (nz (evT tx t p)) := ⟨_, rfl⟩
        have f5 : F5 1 = nz t := by rw [hF5, su_ne (by decide), su_ne (by decide), f4]
        have f57 : F5 7 = nz (n4T tx t p) := by rw [hF5, su_ne (by decide), su_ne (by decide), f47]
        have k5 : ∀ j, j ≠ 12 → j ≠ 13 → F5 j = F4 j := fun j a1 a2 => by rw [hF5, su_ne a1, su_ne a2]
        have r5 : f_X3_skip [.ref 35, .int (nz 124)] (HM e (PM m F5 B N) w) = some (HM e (PM m (su F5 7 (nz (nxT tx t 124 (n4T tx t p)))) B N) w, .inl (some (.int (b01 (barT tx t p))))) := e_skip hx f5 f57 l4 (by decide)
        -- the end
        have fin : ∀ F6, F6 1 = nz t → F6 7 = nz (n6T tx t p) → F6 12 = nz (odT tx t p) → n6T tx t p ≤ t → odT tx t p < 64 → (sRz (eC (cAnd (cZ z_ne (eGi (eLa 0) 3 12)) (cOr (cB c_ge (eGi (eLa 0) 3 7) (eGi (eLa 0) 3 1)) (cB c_eq (eAi 3 (eGa (eLa 0) 3 0) (eGi (eLa 0) 3 7)) (eI (59))))))) [.ref 35] (HM e (PM m F6 B N) w) = some (HM e (PM m F6 B N) w, .inr (.inl (some (.int (b01 (okT tx t p)))))) := fun F6 a1 a2 a3 a4 a5 => by
          have hok : okT tx t p = (decide (odT tx t p ≠ 0) && decide (t ≤ n6T tx t p ∨ tx (n6T tx t p) = 59)) := by
            unfold okT
            rw [decide_eq_true (show frT tx t p ≠ 0 from c1), c2, decide_eq_true (show evT tx t p ≠ 0 from c3), Bool.true_and, Bool.true_and, Bool.true_and]
          rw [hok]
          by_cases o1 : odT tx t p = 0
          · have o1t : (odT tx t p = 0) = True := eq_true o1
            simp (disch := omega) only [mth_w, kR_w, kR_if, sQ_v, sN_v, sTi_v, sTa_v, sTl_v, sR_v, sRv_v, sX_v, sPi_v, sPo_v, sPz_w, zP_b, sRz_w, zR_bw, zR_0w, zR_1w, sPa_v, sAi_v, sAl_v, sAo_v, sAa_v, sM_w, sMp_w, eM_w, sIf_w, eIf_w, cAnd_w, cOr_w, cB_v, cZ_v, cNot_v, eC_v, eI_v, eJ_v, eOp_v, eQ_v, eU_v, eIL_v, eLO_v, eLS_v, eLC_v, eGi_v, eGa_v, eZ_w, eAi_v, eAl_v, eAa_v, eAn_v, aN_v, aI_v, aA_v, sInc_v, sB_okw, sB_xw, eS_okw, eS_xw, eB_okw, eB_xw, oE_w, oS_w, kI_iw, kI_xw, kV_w, kV_xw, kP_iw, kP_xw, List.set_cons_zero, List.set_cons_succ, List.cons_append, List.nil_append, List.length_cons, List.length_nil, List.replicate_succ, List.replicate_zero, List.append_nil, bif_and, bif_or, zne_b01, zeq_b01, bif_d, cond_true, cond_false, nar_0, o_iadd, o_isub, o_imul, c_eq, c_ne, c_lt, c_ge, c_gt, c_le, Nat.reduceAdd, Nat.reduceSub, Nat.zero_add, if_true, if_false, eLl_2, eLi_0, eLi_1, eLi_2, eLi_3, eLi_4, eLi_5, eLi_6, eLi_7, eLi_8, eLi_9, eLi_10, eLi_11, eLi_12, eLi_13, eLa_0, eLa_1, eLa_2, eLa_3, eLa_4, eLa_5, eLa_6, eLa_7, nz_add, nz_mul, nz_sub, nz_lt, nz_le, nz_inj, zeq_nz, zne_nz, zge_nz, zgt_nz, zlt_nz, nlit0, nlit1, nlit2, nlit3, nlit4, nlit5, nlit6, nlit7, nlit8, nlit9, nlit10, nlit11, nlit12, nlit16, nlit18, nlit22, nlit31, nlit32, nlit33, nlit34, nlit40, nlit48, nlit60, nlit63, nlit64, nlit66, nlit80, nlit96, nlit114, nlit126, nlit128, nlit512, nlit756, nlit882, nlit1000, nlit1394, nlit1522, nlit1523, nlit10000, decide_true, decide_false, not_true_eq_false, not_false_eq_true, ne_eq, and_self, and_true, true_and, Bool.and_true, Bool.true_and, Bool.and_false, Bool.false_and, Bool.or_false, Bool.false_or, Bool.or_true, Bool.true_or, Bool.not_true, Bool.not_false, gd_0, rf_0_0, rf_0_1, rf_0_2, rf_0_3, rf_0_4, rd_0_5, wr_0_5, rd_0_6, wr_0_6, rf_0_7, rf_0_8, rf_0_9, gd_31, rf_31_0, rf_31_1, rf_31_2, ar_32, aw_32, an_32, ar_33, aw_33, an_33, ar_34, aw_34, an_34, gd_35, rf_35_0, rd_35_1, wr_35_1, rf_35_2, rd_35_3, wr_35_3, rd_35_4, wr_35_4, rd_35_5, wr_35_5, rf_35_6, rd_35_7, wr_35_7, rd_35_8, wr_35_8, rd_35_9, wr_35_9, rd_35_10, wr_35_10, rd_35_11, wr_35_11, rd_35_12, wr_35_12, rd_35_13, wr_35_13, ar_36, aw_36, ar_37, aw_37, an_37, ar_38, aw_38, ar_39, ar_40, ar_41, aw_41, ar_42, aw_42, ar_146, aw_146, PM_35, PM_37, PM_38, PM_ne, PM_s5, PM_s7, PM_s8, su_at, su_ne, nlit59, a3, o1t]
          · have o1t : (odT tx t p = 0) = False := eq_false o1
            by_cases o2 : t ≤ n6T tx t p
            · rw [decide_eq_true (show odT tx t p ≠ 0 from o1), decide_eq_true (Or.inl o2)]
              have o2t : (t ≤ n6T tx t p) = True := eq_true o2
              simp (disch := omega) only [mth_w, kR_w, kR_if, sQ_v, sN_v, sTi_v, sTa_v, sTl_v, sR_v, sRv_v, sX_v, sPi_v, sPo_v, sPz_w, zP_b, sRz_w, zR_bw, zR_0w, zR_1w, sPa_v, sAi_v, sAl_v, sAo_v, sAa_v, sM_w, sMp_w, eM_w, sIf_w, eIf_w, cAnd_w, cOr_w, cB_v, cZ_v, cNot_v, eC_v, eI_v, eJ_v, eOp_v, eQ_v, eU_v, eIL_v, eLO_v, eLS_v, eLC_v, eGi_v, eGa_v, eZ_w, eAi_v, eAl_v, eAa_v, eAn_v, aN_v, aI_v, aA_v, sInc_v, sB_okw, sB_xw, eS_okw, eS_xw, eB_okw, eB_xw, oE_w, oS_w, kI_iw, kI_xw, kV_w, kV_xw, kP_iw, kP_xw, List.set_cons_zero, List.set_cons_succ, List.cons_append, List.nil_append, List.length_cons, List.length_nil, List.replicate_succ, List.replicate_zero, List.append_nil, bif_and, bif_or, zne_b01, zeq_b01, bif_d, cond_true, cond_false, nar_0, o_iadd, o_isub, o_imul, c_eq, c_ne, c_lt, c_ge, c_gt, c_le, Nat.reduceAdd, Nat.reduceSub, Nat.zero_add, if_true, if_false, eLl_2, eLi_0, eLi_1, eLi_2, eLi_3, eLi_4, eLi_5, eLi_6, eLi_7, eLi_8, eLi_9, eLi_10, eLi_11, eLi_12, eLi_13, eLa_0, eLa_1, eLa_2, eLa_3, eLa_4, eLa_5, eLa_6, eLa_7, nz_add, nz_mul, nz_sub, nz_lt, nz_le, nz_inj, zeq_nz, zne_nz, zge_nz, zgt_nz, zlt_nz, nlit0, nlit1, nlit2, nlit3, nlit4, nlit5, nlit6, nlit7, nlit8, nlit9, nlit10, nlit11, nlit12, nlit16, nlit18, nlit22, nlit31, nlit32, nlit33, nlit34, nlit40, nlit48, nlit60, nlit63, nlit64, nlit66, nlit80, nlit96, nlit114, nlit126, nlit128, nlit512, nlit756, nlit882, nlit1000, nlit1394, nlit1522, nlit1523, nlit10000, decide_true, decide_false, not_true_eq_false, not_false_eq_true, ne_eq, and_self, and_true, true_and, Bool.and_true, Bool.true_and, Bool.and_false, Bool.false_and, Bool.or_false, Bool.false_or, Bool.or_true, Bool.true_or, Bool.not_true, Bool.not_false, gd_0, rf_0_0, rf_0_1, rf_0_2, rf_0_3, rf_0_4, rd_0_5, wr_0_5, rd_0_6, wr_0_6, rf_0_7, rf_0_8, rf_0_9, gd_31, rf_31_0, rf_31_1, rf_31_2, ar_32, aw_32, an_32, ar_33, aw_33, an_33, ar_34, aw_34, an_34, gd_35, rf_35_0, rd_35_1, wr_35_1, rf_35_2, rd_35_3, wr_35_3, rd_35_4, wr_35_4, rd_35_5, wr_35_5, rf_35_6, rd_35_7, wr_35_7, rd_35_8, wr_35_8, rd_35_9, wr_35_9, rd_35_10, wr_35_10, rd_35_11, wr_35_11, rd_35_12, wr_35_12, rd_35_13, wr_35_13, ar_36, aw_36, ar_37, aw_37, an_37, ar_38, aw_38, ar_39, ar_40, ar_41, aw_41, ar_42, aw_42, ar_146, aw_146, PM_35, PM_37, PM_38, PM_ne, PM_s5, PM_s7, PM_s8, su_at, su_ne, nlit59, a1, a2, a3, o1t, o2t]
            · have o2t : (t ≤ n6T tx t p) = False := eq_false o2
              obtain ⟨y1, y2, y3⟩ := hx.2 (n6T tx t p) (by omega)
              by_cases o3 : tx (n6T tx t p) = 59
              · rw [decide_eq_true (show odT tx t p ≠ 0 from o1), decide_eq_true (Or.inr o3)]
                have o3t : (tx (n6T tx t p) = 59) = True := eq_true o3
                simp (disch := omega) only [mth_w, kR_w, kR_if, sQ_v, sN_v, sTi_v, sTa_v, sTl_v, sR_v, sRv_v, sX_v, sPi_v, sPo_v, sPz_w, zP_b, sRz_w, zR_bw, zR_0w, zR_1w, sPa_v, sAi_v, sAl_v, sAo_v, sAa_v, sM_w, sMp_w, eM_w, sIf_w, eIf_w, cAnd_w, cOr_w, cB_v, cZ_v, cNot_v, eC_v, eI_v, eJ_v, eOp_v, eQ_v, eU_v, eIL_v, eLO_v, eLS_v, eLC_v, eGi_v, eGa_v, eZ_w, eAi_v, eAl_v, eAa_v, eAn_v, aN_v, aI_v, aA_v, sInc_v, sB_okw, sB_xw, eS_okw, eS_xw, eB_okw, eB_xw, oE_w, oS_w, kI_iw, kI_xw, kV_w, kV_xw, kP_iw, kP_xw, List.set_cons_zero, List.set_cons_succ, List.cons_append, List.nil_append, List.length_cons, List.length_nil, List.replicate_succ, List.replicate_zero, List.append_nil, bif_and, bif_or, zne_b01, zeq_b01, bif_d, cond_true, cond_false, nar_0, o_iadd, o_isub, o_imul, c_eq, c_ne, c_lt, c_ge, c_gt, c_le, Nat.reduceAdd, Nat.reduceSub, Nat.zero_add, if_true, if_false, eLl_2, eLi_0, eLi_1, eLi_2, eLi_3, eLi_4, eLi_5, eLi_6, eLi_7, eLi_8, eLi_9, eLi_10, eLi_11, eLi_12, eLi_13, eLa_0, eLa_1, eLa_2, eLa_3, eLa_4, eLa_5, eLa_6, eLa_7, nz_add, nz_mul, nz_sub, nz_lt, nz_le, nz_inj, zeq_nz, zne_nz, zge_nz, zgt_nz, zlt_nz, nlit0, nlit1, nlit2, nlit3, nlit4, nlit5, nlit6, nlit7, nlit8, nlit9, nlit10, nlit11, nlit12, nlit16, nlit18, nlit22, nlit31, nlit32, nlit33, nlit34, nlit40, nlit48, nlit60, nlit63, nlit64, nlit66, nlit80, nlit96, nlit114, nlit126, nlit128, nlit512, nlit756, nlit882, nlit1000, nlit1394, nlit1522, nlit1523, nlit10000, decide_true, decide_false, not_true_eq_false, not_false_eq_true, ne_eq, and_self, and_true, true_and, Bool.and_true, Bool.true_and, Bool.and_false, Bool.false_and, Bool.or_false, Bool.false_or, Bool.or_true, Bool.true_or, Bool.not_true, Bool.not_false, gd_0, rf_0_0, rf_0_1, rf_0_2, rf_0_3, rf_0_4, rd_0_5, wr_0_5, rd_0_6, wr_0_6, rf_0_7, rf_0_8, rf_0_9, gd_31, rf_31_0, rf_31_1, rf_31_2, ar_32, aw_32, an_32, ar_33, aw_33, an_33, ar_34, aw_34, an_34, gd_35, rf_35_0, rd_35_1, wr_35_1, rf_35_2, rd_35_3, wr_35_3, rd_35_4, wr_35_4, rd_35_5, wr_35_5, rf_35_6, rd_35_7, wr_35_7, rd_35_8, wr_35_8, rd_35_9, wr_35_9, rd_35_10, wr_35_10, rd_35_11, wr_35_11, rd_35_12, wr_35_12, rd_35_13, wr_35_13, ar_36, aw_36, ar_37, aw_37, an_37, ar_38, aw_38, ar_39, ar_40, ar_41, aw_41, ar_42, aw_42, ar_146, aw_146, PM_35, PM_37, PM_38, PM_ne, PM_s5, PM_s7, PM_s8, su_at, su_ne, nlit59, a1, a2, a3, o1t, o2t, y3, o3t]
              · rw [decide_eq_true (show odT tx t p ≠ 0 from o1), decide_eq_false (show ¬ (t ≤ n6T tx t p ∨ tx (n6T tx t p) = 59) from fun z => z.elim o2 o3)]
                have o3t : (tx (n6T tx t p) = 59) = False := eq_false o3
                simp (disch := omega) only [mth_w, kR_w, kR_if, sQ_v, sN_v, sTi_v, sTa_v, sTl_v, sR_v, sRv_v, sX_v, sPi_v, sPo_v, sPz_w, zP_b, sRz_w, zR_bw, zR_0w, zR_1w, sPa_v, sAi_v, sAl_v, sAo_v, sAa_v, sM_w, sMp_w, eM_w, sIf_w, eIf_w, cAnd_w, cOr_w, cB_v, cZ_v, cNot_v, eC_v, eI_v, eJ_v, eOp_v, eQ_v, eU_v, eIL_v, eLO_v, eLS_v, eLC_v, eGi_v, eGa_v, eZ_w, eAi_v, eAl_v, eAa_v, eAn_v, aN_v, aI_v, aA_v, sInc_v, sB_okw, sB_xw, eS_okw, eS_xw, eB_okw, eB_xw, oE_w, oS_w, kI_iw, kI_xw, kV_w, kV_xw, kP_iw, kP_xw, List.set_cons_zero, List.set_cons_succ, List.cons_append, List.nil_append, List.length_cons, List.length_nil, List.replicate_succ, List.replicate_zero, List.append_nil, bif_and, bif_or, zne_b01, zeq_b01, bif_d, cond_true, cond_false, nar_0, o_iadd, o_isub, o_imul, c_eq, c_ne, c_lt, c_ge, c_gt, c_le, Nat.reduceAdd, Nat.reduceSub, Nat.zero_add, if_true, if_false, eLl_2, eLi_0, eLi_1, eLi_2, eLi_3, eLi_4, eLi_5, eLi_6, eLi_7, eLi_8, eLi_9, eLi_10, eLi_11, eLi_12, eLi_13, eLa_0, eLa_1, eLa_2, eLa_3, eLa_4, eLa_5, eLa_6, eLa_7, nz_add, nz_mul, nz_sub, nz_lt, nz_le, nz_inj, zeq_nz, zne_nz, zge_nz, zgt_nz, zlt_nz, nlit0, nlit1, nlit2, nlit3, nlit4, nlit5, nlit6, nlit7, nlit8, nlit9, nlit10, nlit11, nlit12, nlit16, nlit18, nlit22, nlit31, nlit32, nlit33, nlit34, nlit40, nlit48, nlit60, nlit63, nlit64, nlit66, nlit80, nlit96, nlit114, nlit126, nlit128, nlit512, nlit756, nlit882, nlit1000, nlit1394, nlit1522, nlit1523, nlit10000, decide_true, decide_false, not_true_eq_false, not_false_eq_true, ne_eq, and_self, and_true, true_and, Bool.and_true, Bool.true_and, Bool.and_false, Bool.false_and, Bool.or_false, Bool.false_or, Bool.or_true, Bool.true_or, Bool.not_true, Bool.not_false, gd_0, rf_0_0, rf_0_1, rf_0_2, rf_0_3, rf_0_4, rd_0_5, wr_0_5, rd_0_6, wr_0_6, rf_0_7, rf_0_8, rf_0_9, gd_31, rf_31_0, rf_31_1, rf_31_2, ar_32, aw_32, an_32, ar_33, aw_33, an_33, ar_34, aw_34, an_34, gd_35, rf_35_0, rd_35_1, wr_35_1, rf_35_2, rd_35_3, wr_35_3, rd_35_4, wr_35_4, rd_35_5, wr_35_5, rf_35_6, rd_35_7, wr_35_7, rd_35_8, wr_35_8, rd_35_9, wr_35_9, rd_35_10, wr_35_10, rd_35_11, wr_35_11, rd_35_12, wr_35_12, rd_35_13, wr_35_13, ar_36, aw_36, ar_37, aw_37, an_37, ar_38, aw_38, ar_39, ar_40, ar_41, aw_41, ar_42, aw_42, ar_146, aw_146, PM_35, PM_37, PM_38, PM_ne, PM_s5, PM_s7, PM_s8, su_at, su_ne, nlit59, a1, a2, a3, o1t, o2t, y3, o3t]
        have ffp : okT tx t p = false → fpT tx t p = n6T tx t p := fun z => by
          unfold fpT
          rw [if_neg c1, if_neg c2', if_neg c3]
          by_cases o1 : odT tx t p = 0
          · rw [if_pos o1]
            unfold odT at o1
            unfold n6T
            cases hb : barT tx t p with
            | true =>
              rw [hb, if_pos (show true = true from rfl)] at o1
              have := (st_0 (tx := tx) (t := t) (p := n5T tx t p)).mp o1
              rw [if_pos (show true = true from rfl), this, Nat.add_zero]
            | false =>
              rw [hb, if_neg (show ¬ false = true by decide)] at o1
              exact absurd o1 c3
          · rw [if_neg o1]
        have l6 := n6_le hp c2
        cases c4 : barT tx t p with
        | false =>
          have hnx2 : nxT tx t 124 (n4T tx t p) = n4T tx t p := if_neg (by rw [show tkT tx t 124 (n4T tx t p) = barT tx t p from rfl, c4]; decide)
          rw [c4, hnx2, ← f57, su_self] at r5
          have e6 : n6T tx t p = n4T tx t p := if_neg (by rw [c4]; decide)
          have e7 : odT tx t p = evT tx t p := if_neg (by rw [c4]; decide)
          have e8 : q6T tx t p = n3T tx t p := if_neg (by rw [c4]; decide)
          have g12 : F5 12 = nz (odT tx t p) := by rw [hF5, su_at, e7]
          have fi := fin F5 f5 (by rw [f57, e6]) g12 l6 (by rw [e7]; exact hev)
          refine ⟨F5, ?_, f5, by rw [k5 3 (by decide) (by decide), k4 3 (by decide) (by decide) (by decide), k2 3 (by decide) (by decide) (by decide)], by rw [k5 4 (by decide) (by decide), k4 4 (by decide) (by decide) (by decide), k2 4 (by decide) (by decide) (by decide)], by rw [k5 5 (by decide) (by decide), k4 5 (by decide) (by decide) (by decide), k2 5 (by decide) (by decide) (by decide)], fun z => by rw [ffp z, f57, e6], fun _ => ⟨by rw [f57, e6], by rw [k5 8 (by decide) (by decide), k4 8 (by decide) (by decide) (by decide), f28], by rw [k5 9 (by decide) (by decide), k4 9 (by decide) (by decide) (by decide), f29], by rw [k5 10 (by decide) (by decide), f410], by rw [k5 11 (by decide) (by decide), f411], g12, by rw [hF5, su_ne (by decide), su_at, e8]⟩⟩
          unfold f_X3_readForm
          generalize hG : (sRz (eC (cAnd (cZ z_ne (eGi (eLa 0) 3 12)) (cOr (cB c_ge (eGi (eLa 0) 3 7) (eGi (eLa 0) 3 1)) (cB c_eq (eAi 3 (eGa (eLa 0) 3 0) (eGi (eLa 0) 3 7)) (eI (59))))))) = G
          simp (disch := omega) only [mth_w, kR_w, kR_if, sQ_v, sN_v, sTi_v, sTa_v, sTl_v, sR_v, sRv_v, sX_v, sPi_v, sPo_v, sPz_w, zP_b, sRz_w, zR_bw, zR_0w, zR_1w, sPa_v, sAi_v, sAl_v, sAo_v, sAa_v, sM_w, sMp_w, eM_w, sIf_w, eIf_w, cAnd_w, cOr_w, cB_v, cZ_v, cNot_v, eC_v, eI_v, eJ_v, eOp_v, eQ_v, eU_v, eIL_v, eLO_v, eLS_v, eLC_v, eGi_v, eGa_v, eZ_w, eAi_v, eAl_v, eAa_v, eAn_v, aN_v, aI_v, aA_v, sInc_v, sB_okw, sB_xw, eS_okw, eS_xw, eB_okw, eB_xw, oE_w, oS_w, kI_iw, kI_xw, kV_w, kV_xw, kP_iw, kP_xw, List.set_cons_zero, List.set_cons_succ, List.cons_append, List.nil_append, List.length_cons, List.length_nil, List.replicate_succ, List.replicate_zero, List.append_nil, bif_and, bif_or, zne_b01, zeq_b01, bif_d, cond_true, cond_false, nar_0, o_iadd, o_isub, o_imul, c_eq, c_ne, c_lt, c_ge, c_gt, c_le, Nat.reduceAdd, Nat.reduceSub, Nat.zero_add, if_true, if_false, eLl_2, eLi_0, eLi_1, eLi_2, eLi_3, eLi_4, eLi_5, eLi_6, eLi_7, eLi_8, eLi_9, eLi_10, eLi_11, eLi_12, eLi_13, eLa_0, eLa_1, eLa_2, eLa_3, eLa_4, eLa_5, eLa_6, eLa_7, nz_add, nz_mul, nz_sub, nz_lt, nz_le, nz_inj, zeq_nz, zne_nz, zge_nz, zgt_nz, zlt_nz, nlit0, nlit1, nlit2, nlit3, nlit4, nlit5, nlit6, nlit7, nlit8, nlit9, nlit10, nlit11, nlit12, nlit16, nlit18, nlit22, nlit31, nlit32, nlit33, nlit34, nlit40, nlit48, nlit60, nlit63, nlit64, nlit66, nlit80, nlit96, nlit114, nlit126, nlit128, nlit512, nlit756, nlit882, nlit1000, nlit1394, nlit1522, nlit1523, nlit10000, decide_true, decide_false, not_true_eq_false, not_false_eq_true, ne_eq, and_self, and_true, true_and, Bool.and_true, Bool.true_and, Bool.and_false, Bool.false_and, Bool.or_false, Bool.false_or, Bool.or_true, Bool.true_or, Bool.not_true, Bool.not_false, gd_0, rf_0_0, rf_0_1, rf_0_2, rf_0_3, rf_0_4, rd_0_5, wr_0_5, rd_0_6, wr_0_6, rf_0_7, rf_0_8, rf_0_9, gd_31, rf_31_0, rf_31_1, rf_31_2, ar_32, aw_32, an_32, ar_33, aw_33, an_33, ar_34, aw_34, an_34, gd_35, rf_35_0, rd_35_1, wr_35_1, rf_35_2, rd_35_3, wr_35_3, rd_35_4, wr_35_4, rd_35_5, wr_35_5, rf_35_6, rd_35_7, wr_35_7, rd_35_8, wr_35_8, rd_35_9, wr_35_9, rd_35_10, wr_35_10, rd_35_11, wr_35_11, rd_35_12, wr_35_12, rd_35_13, wr_35_13, ar_36, aw_36, ar_37, aw_37, an_37, ar_38, aw_38, ar_39, ar_40, ar_41, aw_41, ar_42, aw_42, ar_146, aw_146, PM_35, PM_37, PM_38, PM_ne, PM_s5, PM_s7, PM_s8, su_at, su_ne, nlit42, nlit62, nlit124, r1, ← hF1, r2, ← hF2, f29, c1f, r3, ← hF3, r4, ← hF4, f410, f411, c3f, ← hF5, r5]
          rw [← hG, fi, kR_w]
        | true =>
          have hnx2 : nxT tx t 124 (n4T tx t p) = n5T tx t p := if_pos (show tkT tx t 124 (n4T tx t p) = true from c4)
          rw [c4, hnx2] at r5
          have e6 : n6T tx t p = n5T tx t p + jjT tx t (n5T tx t p) := if_pos c4
          have e7 : odT tx t p = stT tx t (n5T tx t p) := if_pos c4
          have e8 : q6T tx t p = n5T tx t p := if_pos c4
          have l5 : n5T tx t p ≤ t := by
            have := (tk_y (show tkT tx t 124 (n4T tx t p) = true from c4)).1
            unfold n5T
            omega
          obtain ⟨F6, hF6⟩ : ∃ F6, F6 = su (su F5 7 (nz (n5T tx t p))) 13 (nz (n5T tx t p)) := ⟨_, rfl⟩
          have f6 : F6 1 = nz t := by rw [hF6, su_ne (by decide), su_ne (by decide), f5]
          have f67 : F6 7 = nz (n5T tx t p) := by rw [hF6, su_ne (by decide), su_at]
          have r6 : f_X3_readState [.ref 35] (HM e (PM m F6 B N) w) = some (HM e (PM m (su F6 7 (nz (n6T tx t p))) B N) w, .inl (some (.int (nz (odT tx t p))))) := by
            rw [e6, e7]
            exact e_readState hx f6 f67 l5
          obtain ⟨F7, hF7⟩ : ∃ F7, F7 = su (su F6 7 (nz (n6T tx t p))) 12 (nz (odT tx t p)) := ⟨_, rfl⟩
          have f7 : F7 1 = nz t := by rw [hF7, su_ne (by decide), su_ne (by decide), f6]
          have f77 : F7 7 = nz (n6T tx t p) := by rw [hF7, su_ne (by decide), su_at]
          have k7 : ∀ j, j ≠ 7 → j ≠ 12 → j ≠ 13 → F7 j = F5 j := fun j a1 a2 a3 => by rw [hF7, su_ne a2, su_ne a1, hF6, su_ne a3, su_ne a1]
          have g12 : F7 12 = nz (odT tx t p) := by rw [hF7, su_at]
          have fi := fin F7 f7 f77 g12 l6 (by rw [e7]; exact st_lt)
          refine ⟨F7, ?_, f7, by rw [k7 3 (by decide) (by decide) (by decide), k5 3 (by decide) (by decide), k4 3 (by decide) (by decide) (by decide), k2 3 (by decide) (by decide) (by decide)], by rw [k7 4 (by decide) (by decide) (by decide), k5 4 (by decide) (by decide), k4 4 (by decide) (by decide) (by decide), k2 4 (by decide) (by decide) (by decide)], by rw [k7 5 (by decide) (by decide) (by decide), k5 5 (by decide) (by decide), k4 5 (by decide) (by decide) (by decide), k2 5 (by decide) (by decide) (by decide)], fun z => by rw [ffp z, f77], fun _ => ⟨f77, by rw [k7 8 (by decide) (by decide) (by decide), k5 8 (by decide) (by decide), k4 8 (by decide) (by decide) (by decide), f28], by rw [k7 9 (by decide) (by decide) (by decide), k5 9 (by decide) (by decide), k4 9 (by decide) (by decide) (by decide), f29], by rw [k7 10 (by decide) (by decide) (by decide), k5 10 (by decide) (by decide), f410], by rw [k7 11 (by decide) (by decide) (by decide), k5 11 (by decide) (by decide), f411], g12, by rw [hF7, su_ne (by decide), su_ne (by decide), hF6, su_at, e8]⟩⟩
          unfold f_X3_readForm
          generalize hG : (sRz (eC (cAnd (cZ z_ne (eGi (eLa 0) 3 12)) (cOr (cB c_ge (eGi (eLa 0) 3 7) (eGi (eLa 0) 3 1)) (cB c_eq (eAi 3 (eGa (eLa 0) 3 0) (eGi (eLa 0) 3 7)) (eI (59))))))) = G
          simp (disch := omega) only [mth_w, kR_w, kR_if, sQ_v, sN_v, sTi_v, sTa_v, sTl_v, sR_v, sRv_v, sX_v, sPi_v, sPo_v, sPz_w, zP_b, sRz_w, zR_bw, zR_0w, zR_1w, sPa_v, sAi_v, sAl_v, sAo_v, sAa_v, sM_w, sMp_w, eM_w, sIf_w, eIf_w, cAnd_w, cOr_w, cB_v, cZ_v, cNot_v, eC_v, eI_v, eJ_v, eOp_v, eQ_v, eU_v, eIL_v, eLO_v, eLS_v, eLC_v, eGi_v, eGa_v, eZ_w, eAi_v, eAl_v, eAa_v, eAn_v, aN_v, aI_v, aA_v, sInc_v, sB_okw, sB_xw, eS_okw, eS_xw, eB_okw, eB_xw, oE_w, oS_w, kI_iw, kI_xw, kV_w, kV_xw, kP_iw, kP_xw, List.set_cons_zero, List.set_cons_succ, List.cons_append, List.nil_append, List.length_cons, List.length_nil, List.replicate_succ, List.replicate_zero, List.append_nil, bif_and, bif_or, zne_b01, zeq_b01, bif_d, cond_true, cond_false, nar_0, o_iadd, o_isub, o_imul, c_eq, c_ne, c_lt, c_ge, c_gt, c_le, Nat.reduceAdd, Nat.reduceSub, Nat.zero_add, if_true, if_false, eLl_2, eLi_0, eLi_1, eLi_2, eLi_3, eLi_4, eLi_5, eLi_6, eLi_7, eLi_8, eLi_9, eLi_10, eLi_11, eLi_12, eLi_13, eLa_0, eLa_1, eLa_2, eLa_3, eLa_4, eLa_5, eLa_6, eLa_7, nz_add, nz_mul, nz_sub, nz_lt, nz_le, nz_inj, zeq_nz, zne_nz, zge_nz, zgt_nz, zlt_nz, nlit0, nlit1, nlit2, nlit3, nlit4, nlit5, nlit6, nlit7, nlit8, nlit9, nlit10, nlit11, nlit12, nlit16, nlit18, nlit22, nlit31, nlit32, nlit33, nlit34, nlit40, nlit48, nlit60, nlit63, nlit64, nlit66, nlit80, nlit96, nlit114, nlit126, nlit128, nlit512, nlit756, nlit882, nlit1000, nlit1394, nlit1522, nlit1523, nlit10000, decide_true, decide_false, not_true_eq_false, not_false_eq_true, ne_eq, and_self, and_true, true_and, Bool.and_true, Bool.true_and, Bool.and_false, Bool.false_and, Bool.or_false, Bool.false_or, Bool.or_true, Bool.true_or, Bool.not_true, Bool.not_false, gd_0, rf_0_0, rf_0_1, rf_0_2, rf_0_3, rf_0_4, rd_0_5, wr_0_5, rd_0_6, wr_0_6, rf_0_7, rf_0_8, rf_0_9, gd_31, rf_31_0, rf_31_1, rf_31_2, ar_32, aw_32, an_32, ar_33, aw_33, an_33, ar_34, aw_34, an_34, gd_35, rf_35_0, rd_35_1, wr_35_1, rf_35_2, rd_35_3, wr_35_3, rd_35_4, wr_35_4, rd_35_5, wr_35_5, rf_35_6, rd_35_7, wr_35_7, rd_35_8, wr_35_8, rd_35_9, wr_35_9, rd_35_10, wr_35_10, rd_35_11, wr_35_11, rd_35_12, wr_35_12, rd_35_13, wr_35_13, ar_36, aw_36, ar_37, aw_37, an_37, ar_38, aw_38, ar_39, ar_40, ar_41, aw_41, ar_42, aw_42, ar_146, aw_146, PM_35, PM_37, PM_38, PM_ne, PM_s5, PM_s7, PM_s8, su_at, su_ne, nlit42, nlit62, nlit124, r1, ← hF1, r2, ← hF2, f29, c1f, r3, ← hF3, r4, ← hF4, f410, f411, c3f, ← hF5, r5, ← hF6, r6, ← hF7]
          rw [← hG, fi, kR_w]
theorem e_tell {x y : Int32} : f_X3_tell [.ref 35, .int x, .int y] (HM e (PM m F B N) w) = some (HM e (PM m (su (su F 4 x) 5 y) B N) w, .inl none) := by
  unfold f_X3_tell
  simp (disch := omega) only [mth_w, kR_w, kR_if, sQ_v, sN_v, sTi_v, sTa_v, sTl_v, sR_v, sRv_v, sX_v, sPi_v, sPo_v, sPz_w, zP_b, sRz_w, zR_bw, zR_0w, zR_1w, sPa_v, sAi_v, sAl_v, sAo_v, sAa_v, sM_w, sMp_w, eM_w, sIf_w, eIf_w, cAnd_w, cOr_w, cB_v, cZ_v, cNot_v, eC_v, eI_v, eJ_v, eOp_v, eQ_v, eU_v, eIL_v, eLO_v, eLS_v, eLC_v, eGi_v, eGa_v, eZ_w, eAi_v, eAl_v, eAa_v, eAn_v, aN_v, aI_v, aA_v, sInc_v, sB_okw, sB_xw, eS_okw, eS_xw, eB_okw, eB_xw, oE_w, oS_w, kI_iw, kI_xw, kV_w, kV_xw, kP_iw, kP_xw, List.set_cons_zero, List.set_cons_succ, List.cons_append, List.nil_append, List.length_cons, List.length_nil, List.replicate_succ, List.replicate_zero, List.append_nil, bif_and, bif_or, zne_b01, zeq_b01, bif_d, cond_true, cond_false, nar_0, o_iadd, o_isub, o_imul, c_eq, c_ne, c_lt, c_ge, c_gt, c_le, Nat.reduceAdd, Nat.reduceSub, Nat.zero_add, if_true, if_false, eLl_2, eLi_0, eLi_1, eLi_2, eLi_3, eLi_4, eLi_5, eLi_6, eLi_7, eLi_8, eLi_9, eLi_10, eLi_11, eLi_12, eLi_13, eLa_0, eLa_1, eLa_2, eLa_3, eLa_4, eLa_5, eLa_6, eLa_7, gd_0, rf_0_0, rf_0_1, rf_0_2, rf_0_3, rf_0_4, rd_0_5, wr_0_5, rd_0_6, wr_0_6, rf_0_7, rf_0_8, rf_0_9, gd_31, rf_31_0, rf_31_1, rf_31_2, ar_32, aw_32, an_32, ar_33, aw_33, an_33, ar_34, aw_34, an_34, gd_35, rf_35_0, rd_35_1, wr_35_1, rf_35_2, rd_35_3, wr_35_3, rd_35_4, wr_35_4, rd_35_5, wr_35_5, rf_35_6, rd_35_7, wr_35_7, rd_35_8, wr_35_8, rd_35_9, wr_35_9, rd_35_10, wr_35_10, rd_35_11, wr_35_11, rd_35_12, wr_35_12, rd_35_13, wr_35_13, ar_36, aw_36, ar_37, aw_37, an_37, ar_38, aw_38, ar_39, ar_40, ar_41, aw_41, ar_42, aw_42, ar_146, aw_146, PM_35, PM_37, PM_38, PM_ne, PM_s5, PM_s7, PM_s8, su_at, su_ne]
theorem tn_le : tnT tx t p ≤ 6 := by
  unfold tnT
  split <;> omega
theorem kd_le : kdT tx t N p ≤ 3 := by
  unfold kdT
  split
  · omega
  · split
    · omega
    · split
      · omega
      · split <;> omega
theorem e_readRule (he : EO e) (hx : TxC tx t (m 36)) (h1 : F 1 = nz t) (h4 : F 4 = nz 0) (h7 : F 7 = nz p) (hp : p ≤ t) : ∃ F', f_X3_readRule [.ref 35] (HM e (PM m F B N) w) = some (HM e (PM m F' B N) w, .inl none) ∧ F' 1 = nz t ∧ F' 3 = F 3 ∧ F' 4 = nz (kdT tx t N p) ∧ (kdT tx t N p ≠ 0 → F' 5 = nz (psT tx t N p)) ∧
    (kdT tx t N p = 0 → F' 7 = nz (n6T tx t p) ∧ F' 8 = b01 (tkT tx t 42 p) ∧ F' 9 = nz (frT tx t p) ∧ F' 10 = nz (evT tx t p) ∧ F' 12 = nz (odT tx t p)) := by
  obtain ⟨F1, g0, g1, g3, g4, g5, gn, gy⟩ := e_readForm (e := e) (w := w) (B := B) (N := N) hx h1 h7 hp
  have hfr : frT tx t p < 64 := st_lt
  have hev : evT tx t p < 64 := st_lt
  have hod : odT tx t p < 64 := by
    unfold odT
    split <;> exact st_lt
  cases q1 : okT tx t p with
  | false =>
    have hkd : kdT tx t N p = 1 := if_pos q1
    have hps : psT tx t N p = fpT tx t p := if_pos q1
    rw [q1] at g0
    rw [hkd, hps]
    have g7 := gn q1
    refine ⟨su (su F1 4 (nz 1)) 5 (nz (fpT tx t p)), ?_, by rw [su_ne (by decide), su_ne (by decide), g1], by rw [su_ne (by decide), su_ne (by decide), g3], by rw [su_ne (by decide), su_at], fun _ => su_at, fun z => absurd z (by decide)⟩
    unfold f_X3_readRule
    simp (disch := omega) only [mth_w, kR_w, kR_if, sQ_v, sN_v, sTi_v, sTa_v, sTl_v, sR_v, sRv_v, sX_v, sPi_v, sPo_v, sPz_w, zP_b, sRz_w, zR_bw, zR_0w, zR_1w, sPa_v, sAi_v, sAl_v, sAo_v, sAa_v, sM_w, sMp_w, eM_w, sIf_w, eIf_w, cAnd_w, cOr_w, cB_v, cZ_v, cNot_v, eC_v, eI_v, eJ_v, eOp_v, eQ_v, eU_v, eIL_v, eLO_v, eLS_v, eLC_v, eGi_v, eGa_v, eZ_w, eAi_v, eAl_v, eAa_v, eAn_v, aN_v, aI_v, aA_v, sInc_v, sB_okw, sB_xw, eS_okw, eS_xw, eB_okw, eB_xw, oE_w, oS_w, kI_iw, kI_xw, kV_w, kV_xw, kP_iw, kP_xw, List.set_cons_zero, List.set_cons_succ, List.cons_append, List.nil_append, List.length_cons, List.length_nil, List.replicate_succ, List.replicate_zero, List.append_nil, bif_and, bif_or, zne_b01, zeq_b01, bif_d, cond_true, cond_false, nar_0, o_iadd, o_isub, o_imul, c_eq, c_ne, c_lt, c_ge, c_gt, c_le, Nat.reduceAdd, Nat.reduceSub, Nat.zero_add, if_true, if_false, eLl_2, eLi_0, eLi_1, eLi_2, eLi_3, eLi_4, eLi_5, eLi_6, eLi_7, eLi_8, eLi_9, eLi_10, eLi_11, eLi_12, eLi_13, eLa_0, eLa_1, eLa_2, eLa_3, eLa_4, eLa_5, eLa_6, eLa_7, nz_add, nz_mul, nz_sub, nz_lt, nz_le, nz_inj, zeq_nz, zne_nz, zge_nz, zgt_nz, zlt_nz, nlit0, nlit1, nlit2, nlit3, nlit4, nlit5, nlit6, nlit7, nlit8, nlit9, nlit10, nlit11, nlit12, nlit16, nlit18, nlit22, nlit31, nlit32, nlit33, nlit34, nlit40, nlit48, nlit60, nlit63, nlit64, nlit66, nlit80, nlit96, nlit114, nlit126, nlit128, nlit512, nlit756, nlit882, nlit1000, nlit1394, nlit1522, nlit1523, nlit10000, decide_true, decide_false, not_true_eq_false, not_false_eq_true, ne_eq, and_self, and_true, true_and, Bool.and_true, Bool.true_and, Bool.and_false, Bool.false_and, Bool.or_false, Bool.false_or, Bool.or_true, Bool.true_or, Bool.not_true, Bool.not_false, gd_0, rf_0_0, rf_0_1, rf_0_2, rf_0_3, rf_0_4, rd_0_5, wr_0_5, rd_0_6, wr_0_6, rf_0_7, rf_0_8, rf_0_9, gd_31, rf_31_0, rf_31_1, rf_31_2, ar_32, aw_32, an_32, ar_33, aw_33, an_33, ar_34, aw_34, an_34, gd_35, rf_35_0, rd_35_1, wr_35_1, rf_35_2, rd_35_3, wr_35_3, rd_35_4, wr_35_4, rd_35_5, wr_35_5, rf_35_6, rd_35_7, wr_35_7, rd_35_8, wr_35_8, rd_35_9, wr_35_9, rd_35_10, wr_35_10, rd_35_11, wr_35_11, rd_35_12, wr_35_12, rd_35_13, wr_35_13, ar_36, aw_36, ar_37, aw_37, an_37, ar_38, aw_38, ar_39, ar_40, ar_41, aw_41, ar_42, aw_42, ar_146, aw_146, PM_35, PM_37, PM_38, PM_ne, PM_s5, PM_s7, PM_s8, su_at, su_ne, h7, g0, g7, e_tell]
  | true =>
    have q1' : ¬ okT tx t p = false := by
      rw [q1]
      decide
    obtain ⟨y7, y8, y9, y10, y11, y12, y13⟩ := gy q1
    rw [q1] at g0
    have nb := e_isNamedBefore (e := e) (m := m) (B := B) (N := N) (w := w) (F := F1) (fr := frT tx t p) (s := tkT tx t 42 p) (n := tnT tx t p) rfl y8 y9 hfr
    cases q2 : twT N (frT tx t p) (tnT tx t p) with
    | true =>
      rw [q2] at nb
      have hkd : kdT tx t N p = 2 := by
        unfold kdT
        rw [if_neg q1', if_pos q2]
      have hps : psT tx t N p = p := by
        unfold psT
        rw [if_neg q1', if_pos q2]
      rw [hkd, hps]
      refine ⟨su (su F1 4 (nz 2)) 5 (nz p), ?_, by rw [su_ne (by decide), su_ne (by decide), g1], by rw [su_ne (by decide), su_ne (by decide), g3], by rw [su_ne (by decide), su_at], fun _ => su_at, fun z => absurd z (by decide)⟩
      unfold f_X3_readRule
      simp (disch := omega) only [mth_w, kR_w, kR_if, sQ_v, sN_v, sTi_v, sTa_v, sTl_v, sR_v, sRv_v, sX_v, sPi_v, sPo_v, sPz_w, zP_b, sRz_w, zR_bw, zR_0w, zR_1w, sPa_v, sAi_v, sAl_v, sAo_v, sAa_v, sM_w, sMp_w, eM_w, sIf_w, eIf_w, cAnd_w, cOr_w, cB_v, cZ_v, cNot_v, eC_v, eI_v, eJ_v, eOp_v, eQ_v, eU_v, eIL_v, eLO_v, eLS_v, eLC_v, eGi_v, eGa_v, eZ_w, eAi_v, eAl_v, eAa_v, eAn_v, aN_v, aI_v, aA_v, sInc_v, sB_okw, sB_xw, eS_okw, eS_xw, eB_okw, eB_xw, oE_w, oS_w, kI_iw, kI_xw, kV_w, kV_xw, kP_iw, kP_xw, List.set_cons_zero, List.set_cons_succ, List.cons_append, List.nil_append, List.length_cons, List.length_nil, List.replicate_succ, List.replicate_zero, List.append_nil, bif_and, bif_or, zne_b01, zeq_b01, bif_d, cond_true, cond_false, nar_0, o_iadd, o_isub, o_imul, c_eq, c_ne, c_lt, c_ge, c_gt, c_le, Nat.reduceAdd, Nat.reduceSub, Nat.zero_add, if_true, if_false, eLl_2, eLi_0, eLi_1, eLi_2, eLi_3, eLi_4, eLi_5, eLi_6, eLi_7, eLi_8, eLi_9, eLi_10, eLi_11, eLi_12, eLi_13, eLa_0, eLa_1, eLa_2, eLa_3, eLa_4, eLa_5, eLa_6, eLa_7, nz_add, nz_mul, nz_sub, nz_lt, nz_le, nz_inj, zeq_nz, zne_nz, zge_nz, zgt_nz, zlt_nz, nlit0, nlit1, nlit2, nlit3, nlit4, nlit5, nlit6, nlit7, nlit8, nlit9, nlit10, nlit11, nlit12, nlit16, nlit18, nlit22, nlit31, nlit32, nlit33, nlit34, nlit40, nlit48, nlit60, nlit63, nlit64, nlit66, nlit80, nlit96, nlit114, nlit126, nlit128, nlit512, nlit756, nlit882, nlit1000, nlit1394, nlit1522, nlit1523, nlit10000, decide_true, decide_false, not_true_eq_false, not_false_eq_true, ne_eq, and_self, and_true, true_and, Bool.and_true, Bool.true_and, Bool.and_false, Bool.false_and, Bool.or_false, Bool.false_or, Bool.or_true, Bool.true_or, Bool.not_true, Bool.not_false, gd_0, rf_0_0, rf_0_1, rf_0_2, rf_0_3, rf_0_4, rd_0_5, wr_0_5, rd_0_6, wr_0_6, rf_0_7, rf_0_8, rf_0_9, gd_31, rf_31_0, rf_31_1, rf_31_2, ar_32, aw_32, an_32, ar_33, aw_33, an_33, ar_34, aw_34, an_34, gd_35, rf_35_0, rd_35_1, wr_35_1, rf_35_2, rd_35_3, wr_35_3, rd_35_4, wr_35_4, rd_35_5, wr_35_5, rf_35_6, rd_35_7, wr_35_7, rd_35_8, wr_35_8, rd_35_9, wr_35_9, rd_35_10, wr_35_10, rd_35_11, wr_35_11, rd_35_12, wr_35_12, rd_35_13, wr_35_13, ar_36, aw_36, ar_37, aw_37, an_37, ar_38, aw_38, ar_39, ar_40, ar_41, aw_41, ar_42, aw_42, ar_146, aw_146, PM_35, PM_37, PM_38, PM_ne, PM_s5, PM_s7, PM_s8, su_at, su_ne, h7, g0, nb, e_tell]
    | false =>
      have q2' : ¬ twT N (frT tx t p) (tnT tx t p) = true := by
        rw [q2]
        decide
      rw [q2] at nb
      have b1 := e_isBalanced (e := e) (m := PM m F1 B N) (w := w) he hfr hev
      have b2 := e_isBalanced (e := e) (m := PM m F1 B N) (w := w) he hfr hod
      cases q3 : balT (frT tx t p) (evT tx t p) with
      | false =>
        rw [q3] at b1
        have hkd : kdT tx t N p = 3 := by
          unfold kdT
          rw [if_neg q1', if_neg q2', if_pos q3]
        have hps : psT tx t N p = n3T tx t p := by
          unfold psT
          rw [if_neg q1', if_neg q2', if_pos q3]
        rw [hkd, hps]
        refine ⟨su (su F1 4 (nz 3)) 5 (nz (n3T tx t p)), ?_, by rw [su_ne (by decide), su_ne (by decide), g1], by rw [su_ne (by decide), su_ne (by decide), g3], by rw [su_ne (by decide), su_at], fun _ => su_at, fun z => absurd z (by decide)⟩
        unfold f_X3_readRule
        simp (disch := omega) only [mth_w, kR_w, kR_if, sQ_v, sN_v, sTi_v, sTa_v, sTl_v, sR_v, sRv_v, sX_v, sPi_v, sPo_v, sPz_w, zP_b, sRz_w, zR_bw, zR_0w, zR_1w, sPa_v, sAi_v, sAl_v, sAo_v, sAa_v, sM_w, sMp_w, eM_w, sIf_w, eIf_w, cAnd_w, cOr_w, cB_v, cZ_v, cNot_v, eC_v, eI_v, eJ_v, eOp_v, eQ_v, eU_v, eIL_v, eLO_v, eLS_v, eLC_v, eGi_v, eGa_v, eZ_w, eAi_v, eAl_v, eAa_v, eAn_v, aN_v, aI_v, aA_v, sInc_v, sB_okw, sB_xw, eS_okw, eS_xw, eB_okw, eB_xw, oE_w, oS_w, kI_iw, kI_xw, kV_w, kV_xw, kP_iw, kP_xw, List.set_cons_zero, List.set_cons_succ, List.cons_append, List.nil_append, List.length_cons, List.length_nil, List.replicate_succ, List.replicate_zero, List.append_nil, bif_and, bif_or, zne_b01, zeq_b01, bif_d, cond_true, cond_false, nar_0, o_iadd, o_isub, o_imul, c_eq, c_ne, c_lt, c_ge, c_gt, c_le, Nat.reduceAdd, Nat.reduceSub, Nat.zero_add, if_true, if_false, eLl_2, eLi_0, eLi_1, eLi_2, eLi_3, eLi_4, eLi_5, eLi_6, eLi_7, eLi_8, eLi_9, eLi_10, eLi_11, eLi_12, eLi_13, eLa_0, eLa_1, eLa_2, eLa_3, eLa_4, eLa_5, eLa_6, eLa_7, nz_add, nz_mul, nz_sub, nz_lt, nz_le, nz_inj, zeq_nz, zne_nz, zge_nz, zgt_nz, zlt_nz, nlit0, nlit1, nlit2, nlit3, nlit4, nlit5, nlit6, nlit7, nlit8, nlit9, nlit10, nlit11, nlit12, nlit16, nlit18, nlit22, nlit31, nlit32, nlit33, nlit34, nlit40, nlit48, nlit60, nlit63, nlit64, nlit66, nlit80, nlit96, nlit114, nlit126, nlit128, nlit512, nlit756, nlit882, nlit1000, nlit1394, nlit1522, nlit1523, nlit10000, decide_true, decide_false, not_true_eq_false, not_false_eq_true, ne_eq, and_self, and_true, true_and, Bool.and_true, Bool.true_and, Bool.and_false, Bool.false_and, Bool.or_false, Bool.false_or, Bool.or_true, Bool.true_or, Bool.not_true, Bool.not_false, gd_0, rf_0_0, rf_0_1, rf_0_2, rf_0_3, rf_0_4, rd_0_5, wr_0_5, rd_0_6, wr_0_6, rf_0_7, rf_0_8, rf_0_9, gd_31, rf_31_0, rf_31_1, rf_31_2, ar_32, aw_32, an_32, ar_33, aw_33, an_33, ar_34, aw_34, an_34, gd_35, rf_35_0, rd_35_1, wr_35_1, rf_35_2, rd_35_3, wr_35_3, rd_35_4, wr_35_4, rd_35_5, wr_35_5, rf_35_6, rd_35_7, wr_35_7, rd_35_8, wr_35_8, rd_35_9, wr_35_9, rd_35_10, wr_35_10, rd_35_11, wr_35_11, rd_35_12, wr_35_12, rd_35_13, wr_35_13, ar_36, aw_36, ar_37, aw_37, an_37, ar_38, aw_38, ar_39, ar_40, ar_41, aw_41, ar_42, aw_42, ar_146, aw_146, PM_35, PM_37, PM_38, PM_ne, PM_s5, PM_s7, PM_s8, su_at, su_ne, h7, g0, nb, y9, y10, y11, b1, e_tell]
      | true =>
        have q3' : ¬ balT (frT tx t p) (evT tx t p) = false := by
          rw [q3]
          decide
        rw [q3] at b1
        cases q4 : balT (frT tx t p) (odT tx t p) with
        | false =>
          rw [q4] at b2
          have hkd : kdT tx t N p = 3 := by
            unfold kdT
            rw [if_neg q1', if_neg q2', if_neg q3', if_pos q4]
          have hps : psT tx t N p = q6T tx t p := by
            unfold psT
            rw [if_neg q1', if_neg q2', if_neg q3']
          rw [hkd, hps]
          refine ⟨su (su F1 4 (nz 3)) 5 (nz (q6T tx t p)), ?_, by rw [su_ne (by decide), su_ne (by decide), g1], by rw [su_ne (by decide), su_ne (by decide), g3], by rw [su_ne (by decide), su_at], fun _ => su_at, fun z => absurd z (by decide)⟩
          unfold f_X3_readRule
          simp (disch := omega) only [mth_w, kR_w, kR_if, sQ_v, sN_v, sTi_v, sTa_v, sTl_v, sR_v, sRv_v, sX_v, sPi_v, sPo_v, sPz_w, zP_b, sRz_w, zR_bw, zR_0w, zR_1w, sPa_v, sAi_v, sAl_v, sAo_v, sAa_v, sM_w, sMp_w, eM_w, sIf_w, eIf_w, cAnd_w, cOr_w, cB_v, cZ_v, cNot_v, eC_v, eI_v, eJ_v, eOp_v, eQ_v, eU_v, eIL_v, eLO_v, eLS_v, eLC_v, eGi_v, eGa_v, eZ_w, eAi_v, eAl_v, eAa_v, eAn_v, aN_v, aI_v, aA_v, sInc_v, sB_okw, sB_xw, eS_okw, eS_xw, eB_okw, eB_xw, oE_w, oS_w, kI_iw, kI_xw, kV_w, kV_xw, kP_iw, kP_xw, List.set_cons_zero, List.set_cons_succ, List.cons_append, List.nil_append, List.length_cons, List.length_nil, List.replicate_succ, List.replicate_zero, List.append_nil, bif_and, bif_or, zne_b01, zeq_b01, bif_d, cond_true, cond_false, nar_0, o_iadd, o_isub, o_imul, c_eq, c_ne, c_lt, c_ge, c_gt, c_le, Nat.reduceAdd, Nat.reduceSub, Nat.zero_add, if_true, if_false, eLl_2, eLi_0, eLi_1, eLi_2, eLi_3, eLi_4, eLi_5, eLi_6, eLi_7, eLi_8, eLi_9, eLi_10, eLi_11, eLi_12, eLi_13, eLa_0, eLa_1, eLa_2, eLa_3, eLa_4, eLa_5, eLa_6, eLa_7, nz_add, nz_mul, nz_sub, nz_lt, nz_le, nz_inj, zeq_nz, zne_nz, zge_nz, zgt_nz, zlt_nz, nlit0, nlit1, nlit2, nlit3, nlit4, nlit5, nlit6, nlit7, nlit8, nlit9, nlit10, nlit11, nlit12, nlit16, nlit18, nlit22, nlit31, nlit32, nlit33, nlit34, nlit40, nlit48, nlit60, nlit63, nlit64, nlit66, nlit80, nlit96, nlit114, nlit126, nlit128, nlit512, nlit756, nlit882, nlit1000, nlit1394, nlit1522, nlit1523, nlit10000, decide_true, decide_false, not_true_eq_false, not_false_eq_true, ne_eq, and_self, and_true, true_and, Bool.and_true, Bool.true_and, Bool.and_false, Bool.false_and, Bool.or_false, Bool.false_or, Bool.or_true, Bool.true_or, Bool.not_true, Bool.not_false, gd_0, rf_0_0, rf_0_1, rf_0_2, rf_0_3, rf_0_4, rd_0_5, wr_0_5, rd_0_6, wr_0_6, rf_0_7, rf_0_8, rf_0_9, gd_31, rf_31_0, rf_31_1, rf_31_2, ar_32, aw_32, an_32, ar_33, aw_33, an_33, ar_34, aw_34, an_34, gd_35, rf_35_0, rd_35_1, wr_35_1, rf_35_2, rd_35_3, wr_35_3, rd_35_4, wr_35_4, rd_35_5, wr_35_5, rf_35_6, rd_35_7, wr_35_7, rd_35_8, wr_35_8, rd_35_9, wr_35_9, rd_35_10, wr_35_10, rd_35_11, wr_35_11, rd_35_12, wr_35_12, rd_35_13, wr_35_13, ar_36, aw_36, ar_37, aw_37, an_37, ar_38, aw_38, ar_39, ar_40, ar_41, aw_41, ar_42, aw_42, ar_146, aw_146, PM_35, PM_37, PM_38, PM_ne, PM_s5, PM_s7, PM_s8, su_at, su_ne, h7, g0, nb, y9, y10, y11, y12, y13, b1, b2, e_tell]
        | true =>
          have q4' : ¬ balT (frT tx t p) (odT tx t p) = false := by
            rw [q4]
            decide
          rw [q4] at b2
          have hkd : kdT tx t N p = 0 := by
            unfold kdT
            rw [if_neg q1', if_neg q2', if_neg q3', if_neg q4']
          rw [hkd]
          refine ⟨F1, ?_, g1, g3, by rw [g4, h4], fun z => absurd rfl z, fun _ => ⟨y7, y8, y9, y10, y12⟩⟩
          unfold f_X3_readRule
          simp (disch := omega) only [mth_w, kR_w, kR_if, sQ_v, sN_v, sTi_v, sTa_v, sTl_v, sR_v, sRv_v, sX_v, sPi_v, sPo_v, sPz_w, zP_b, sRz_w, zR_bw, zR_0w, zR_1w, sPa_v, sAi_v, sAl_v, sAo_v, sAa_v, sM_w, sMp_w, eM_w, sIf_w, eIf_w, cAnd_w, cOr_w, cB_v, cZ_v, cNot_v, eC_v, eI_v, eJ_v, eOp_v, eQ_v, eU_v, eIL_v, eLO_v, eLS_v, eLC_v, eGi_v, eGa_v, eZ_w, eAi_v, eAl_v, eAa_v, eAn_v, aN_v, aI_v, aA_v, sInc_v, sB_okw, sB_xw, eS_okw, eS_xw, eB_okw, eB_xw, oE_w, oS_w, kI_iw, kI_xw, kV_w, kV_xw, kP_iw, kP_xw, List.set_cons_zero, List.set_cons_succ, List.cons_append, List.nil_append, List.length_cons, List.length_nil, List.replicate_succ, List.replicate_zero, List.append_nil, bif_and, bif_or, zne_b01, zeq_b01, bif_d, cond_true, cond_false, nar_0, o_iadd, o_isub, o_imul, c_eq, c_ne, c_lt, c_ge, c_gt, c_le, Nat.reduceAdd, Nat.reduceSub, Nat.zero_add, if_true, if_false, eLl_2, eLi_0, eLi_1, eLi_2, eLi_3, eLi_4, eLi_5, eLi_6, eLi_7, eLi_8, eLi_9, eLi_10, eLi_11, eLi_12, eLi_13, eLa_0, eLa_1, eLa_2, eLa_3, eLa_4, eLa_5, eLa_6, eLa_7, nz_add, nz_mul, nz_sub, nz_lt, nz_le, nz_inj, zeq_nz, zne_nz, zge_nz, zgt_nz, zlt_nz, nlit0, nlit1, nlit2, nlit3, nlit4, nlit5, nlit6, nlit7, nlit8, nlit9, nlit10, nlit11, nlit12, nlit16, nlit18, nlit22, nlit31, nlit32, nlit33, nlit34, nlit40, nlit48, nlit60, nlit63, nlit64, nlit66, nlit80, nlit96, nlit114, nlit126, nlit128, nlit512, nlit756, nlit882, nlit1000, nlit1394, nlit1522, nlit1523, nlit10000, decide_true, decide_false, not_true_eq_false, not_false_eq_true, ne_eq, and_self, and_true, true_and, Bool.and_true, Bool.true_and, Bool.and_false, Bool.false_and, Bool.or_false, Bool.false_or, Bool.or_true, Bool.true_or, Bool.not_true, Bool.not_false, gd_0, rf_0_0, rf_0_1, rf_0_2, rf_0_3, rf_0_4, rd_0_5, wr_0_5, rd_0_6, wr_0_6, rf_0_7, rf_0_8, rf_0_9, gd_31, rf_31_0, rf_31_1, rf_31_2, ar_32, aw_32, an_32, ar_33, aw_33, an_33, ar_34, aw_34, an_34, gd_35, rf_35_0, rd_35_1, wr_35_1, rf_35_2, rd_35_3, wr_35_3, rd_35_4, wr_35_4, rd_35_5, wr_35_5, rf_35_6, rd_35_7, wr_35_7, rd_35_8, wr_35_8, rd_35_9, wr_35_9, rd_35_10, wr_35_10, rd_35_11, wr_35_11, rd_35_12, wr_35_12, rd_35_13, wr_35_13, ar_36, aw_36, ar_37, aw_37, an_37, ar_38, aw_38, ar_39, ar_40, ar_41, aw_41, ar_42, aw_42, ar_146, aw_146, PM_35, PM_37, PM_38, PM_ne, PM_s5, PM_s7, PM_s8, su_at, su_ne, h7, g0, nb, y9, y10, y11, y12, y13, b1, b2]
def plB (B : St) (j : Nat) : St := fun k => if k < j then nz k else if 64 ≤ k ∧ k < 64 + j then nz (k - 64) else B k
def plN (N : St) (j : Nat) : St := fun k => if k < j then nz 0 else N k
theorem plB_0 : plB B 0 = B := by
  funext k
  unfold plB
  rw [if_neg (by omega), if_neg (by omega)]
theorem plN_0 : plN N 0 = N := by
  funext k
  unfold plN
  rw [if_neg (by omega)]
theorem plB_s (hj : j < 64) : su (su (plB B j) j (nz j)) (64 + j) (nz j) = plB B (j + 1) := by
  funext k
  rw [su_v, su_v]
  unfold plB
  by_cases h1 : k = 64 + j
  · rw [if_pos h1, if_neg (by omega), if_pos (by omega), show k - 64 = j by omega]
  · rw [if_neg h1]
    by_cases h2 : k = j
    · rw [if_pos h2, if_pos (by omega), h2]
    · rw [if_neg h2]
      by_cases h3 : k < j
      · rw [if_pos h3, if_pos (by omega)]
      · rw [if_neg h3, if_neg (show ¬ k < j + 1 by omega)]
        by_cases h4 : 64 ≤ k ∧ k < 64 + j
        · rw [if_pos h4, if_pos (by omega)]
        · rw [if_neg h4, if_neg (by omega)]
theorem plN_s : su (plN N j) j (nz 0) = plN N (j + 1) := by
  funext k
  rw [su_v]
  unfold plN
  by_cases h2 : k = j
  · rw [if_pos h2, if_pos (by omega)]
  · rw [if_neg h2]
    by_cases h3 : k < j
    · rw [if_pos h3, if_pos (by omega)]
    · rw [if_neg h3, if_neg (by omega)]
theorem plB_e : ∀ k, k < 128 → plB B 64 k = BT tx t 0 k := fun k hk => by
  rw [show BT tx t 0 k = if k < 64 then nz k else nz (k - 64) from rfl]
  unfold plB
  by_cases h : k < 64
  · rw [if_pos h, if_pos h]
  · rw [if_neg h, if_pos (by omega), if_neg h]
theorem plN_e : ∀ k, k < 64 → plN N 64 k = NT tx t 0 k := fun k hk => if_pos hk
def keT (tx : Nat → Nat) (t : Nat) : Nat := if t = 0 then 0 else laT tx t + 1
end
