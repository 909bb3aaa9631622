section
variable {b r : Nat} {e : Nat → Nat × (Nat → Int32)} {m : Mm} {w : Ml} {h : Hp}
theorem bt_1c {c k : Nat} (hc : c < 32) (hk : k < 32) : bt (o_ishl (nz 1) (nz c)) k = decide (k = c) := by
  rw [bt_shl _ hc]
  by_cases h : c ≤ k
  · rw [bt_nz 1 (by omega), tb1 (by omega)]
    simp [hk, h]
    omega
  · simp [h]
    omega
/-- one column out of a row of bits, if q says so -/
theorem one_and {c : Nat} (hc : c < 32) (x : Int32) : o_iand (o_ishl (nz 1) (nz c)) x = if bt x c then o_ishl (nz 1) (nz c) else nz 0 := by
  apply bt_ext
  intro k hk
  rw [bt_and, bt_1c hc hk]
  by_cases h : k = c
  · subst h
    cases hb : bt x k
    · simp [show bt (nz 0) k = false from bt_0 k]
    · simp [bt_1c hc hk]
  · cases hb : bt x c
    · simp [h, show bt (nz 0) k = false from bt_0 k]
    · simp [h, bt_1c hc hk]
theorem one_ne {c : Nat} (hc : c < 32) : z_eq (o_ishl (nz 1) (nz c)) = false := by
  have : ∀ c, c < 32 → z_eq (o_ishl (nz 1) (nz c)) = false := by decide
  exact this c hc
theorem e_blowIn (he : EO e) (hb : TB b) {c : Nat} (hc : c < 32) (hr : r < 16) :
    ∃ m', f_X4_blowIn [.ref b, .int (nz c), .int (nz r)] (HM e m w) = some (HM e m' w, .inl (some (.int (b01 (!bt (orr (fun k => m (b + 3) (r * 6 + k)) 6) c && !bt (m (b + 2) (r * 6)) c))))) ∧ (∀ a, a ≠ b + 2 → a ≠ b + 9 → a ≠ b + 10 → m' a = m a) ∧
      (∀ i k, k < 32 → bt (m' (b + 2) i) k = (bt (m (b + 2) i) k || (decide (i = r * 6 ∧ k = c) && (!bt (orr (fun k => m (b + 3) (r * 6 + k)) 6) c && !bt (m (b + 2) (r * 6)) c)))) ∧
      m' (b + 9) = su (m (b + 9)) 1 (m (b + 9) 1 + b01 (!bt (orr (fun k => m (b + 3) (r * 6 + k)) 6) c && !bt (m (b + 2) (r * 6)) c)) ∧
      m' (b + 10) = su (su (m (b + 10)) 2 (m (b + 10) 2 + q_al 0 * b01 (!bt (orr (fun k => m (b + 3) (r * 6 + k)) 6) c && !bt (m (b + 2) (r * 6)) c))) 3 (m (b + 10) 3 + q_ac 0 * b01 (!bt (orr (fun k => m (b + 3) (r * 6 + k)) 6) c && !bt (m (b + 2) (r * 6)) c)) := by
  have hadd : o_iand (o_iand (o_ishl (nz 1) (nz c)) (o_ixor (orr (fun k => m (b + 3) (r * 6 + k)) 6) (-nz 1))) (o_ixor (m (b + 2) (r * 6)) (-nz 1)) = if (!bt (orr (fun k => m (b + 3) (r * 6 + k)) 6) c && !bt (m (b + 2) (r * 6)) c) then o_ishl (nz 1) (nz c) else nz 0 := by
    have z : (-nz 1 : Int32) = -1 := by decide
    rw [z, one_and hc, bt_not _ hc]
    cases h1 : bt (orr (fun k => m (b + 3) (r * 6 + k)) 6) c
    · rw [Bool.not_false, if_pos rfl, one_and hc, bt_not _ hc]
      cases h2 : bt (m (b + 2) (r * 6)) c <;> rfl
    · rw [Bool.not_true, if_neg (by decide), nz0_and]
      rfl
  generalize hp : (!bt (orr (fun k => m (b + 3) (r * 6 + k)) 6) c && !bt (m (b + 2) (r * 6)) c) = p at *
  cases p with
  | false =>
    refine ⟨m, ?_, fun _ _ _ _ => rfl, fun i k hk => by simp, ?_, ?_⟩
    · unfold f_X4_blowIn
      have z0 : z_eq (nz 0) = true := by decide
      have hadd : o_iand (o_iand (o_ishl (nz 1) (nz c)) (o_ixor (orr (fun k => m (b + 3) (r * 6 + k)) 6) (-nz 1))) (o_ixor (m (b + 2) (r * 6)) (-nz 1)) = nz 0 := hadd
      simp (disch := omega) only [mth_w, kR_w, kR_if, sQ_v, sN_v, sTi_v, sTa_v, sTl_v, sR_v, sRv_v, sX_v, sPi_v, sPo_v, sPz_w, zP_b, sRz_w, zR_bw, zR_0w, zR_1w, sPa_v, sAi_v, sAl_v, sAo_v, sAa_v, sM_w, sMp_w, eM_w, sIf_w, eIf_w, cAnd_w, cOr_w, cB_v, cZ_v, cNot_v, eC_v, eI_v, eJ_v, eOp_v, eQ_v, eU_v, eIL_v, eLO_v, eLS_v, eLC_v, eGi_v, eGa_v, eZ_w, eAi_v, eAl_v, eAa_v, eAn_v, aN_v, aI_v, aA_v, sInc_v, sB_okw, sB_xw, eS_okw, eS_xw, eB_okw, eB_xw, oE_w, oS_w, kI_iw, kI_xw, kV_w, kV_xw, kP_iw, kP_xw, List.set_cons_zero, List.set_cons_succ, List.cons_append, List.nil_append, List.length_cons, List.length_nil, List.replicate_succ, List.replicate_zero, List.append_nil, bif_and, bif_or, zne_b01, zeq_b01, bif_d, cond_true, cond_false, nar_0, o_iadd, o_isub, o_imul, c_eq, c_ne, c_lt, c_ge, c_gt, c_le, Nat.reduceAdd, Nat.reduceSub, Nat.zero_add, if_true, if_false, eLl_2, eLi_0, eLi_1, eLi_2, eLi_3, eLi_4, eLi_5, eLi_6, eLi_7, eLi_8, eLi_9, eLi_10, eLi_11, eLi_12, eLi_13, eLa_0, eLa_1, eLa_2, eLa_3, eLa_4, eLa_5, eLa_6, eLa_7, nz_add, nz_mul, nz_sub, nz_lt, nz_le, nz_inj, zeq_nz, zne_nz, zge_nz, zgt_nz, zlt_nz, nlit0, nlit1, nlit2, nlit3, nlit4, nlit5, nlit6, nlit7, nlit8, nlit9, nlit10, nlit11, nlit12, nlit16, nlit18, nlit22, nlit31, nlit32, nlit33, nlit34, nlit40, nlit48, nlit60, nlit63, nlit64, nlit66, nlit80, nlit96, nlit114, nlit126, nlit128, nlit512, nlit756, nlit882, nlit1000, nlit1394, nlit1522, nlit1523, nlit10000, decide_true, decide_false, not_true_eq_false, not_false_eq_true, ne_eq, and_self, and_true, true_and, Bool.and_true, Bool.true_and, Bool.and_false, Bool.false_and, Bool.or_false, Bool.false_or, Bool.or_true, Bool.true_or, Bool.not_true, Bool.not_false, (gd_t0 hb), (rf_t0_0 hb), (rf_t0_1 hb), (rf_t0_2 hb), (rf_t0_3 hb), (rf_t0_4 hb), (rf_t0_5 hb), (rd_t0_6 hb), (wr_t0_6 hb), (rd_t0_7 hb), (wr_t0_7 hb), (rf_t0_8 hb), (rf_t0_9 hb), (gd_t1 hb), (rd_t1_0 hb), (wr_t1_0 hb), (rd_t1_1 hb), (wr_t1_1 hb), (rd_t1_2 hb), (wr_t1_2 hb), (rf_t1_3 hb), (rf_t1_4 hb), (ar_t2 hb), (aw_t2 hb), (an_t2 hb), (ar_t3 hb), (aw_t3 hb), (an_t3 hb), (gd_t4 hb), (rd_t4_0 hb), (wr_t4_0 hb), (rf_t4_1 hb), (ar_t5 hb), (aw_t5 hb), (an_t5 hb), (gd_t6 hb), (rd_t6_0 hb), (wr_t6_0 hb), (rd_t6_1 hb), (wr_t6_1 hb), (rf_t6_2 hb), (ar_t7 hb), (aw_t7 hb), (an_t7 hb), (gd_t8 hb), (rf_t8_0 hb), (rf_t8_1 hb), (ar_t9 hb), (aw_t9 hb), (an_t9 hb), (ar_t10 hb), (aw_t10 hb), (an_t10 hb), (ar_t11 hb), (aw_t11 hb), (an_t11 hb), (ar_t12 hb), (aw_t12 hb), (an_t12 hb), (ar_t13 hb), (aw_t13 hb), (an_t13 hb), (ar_t14 hb), (aw_t14 hb), (an_t14 hb), Nat.add_zero, e_solidColumns hb hr, hadd, z0]
      rfl
    · show m (b + 9) = su (m (b + 9)) 1 (m (b + 9) 1 + nz 0)
      rw [add_nz0, su_self]
    · show m (b + 10) = su (su (m (b + 10)) 2 (m (b + 10) 2 + q_al 0 * nz 0)) 3 (m (b + 10) 3 + q_ac 0 * nz 0)
      rw [show ∀ y : Int32, y * nz 0 = nz 0 from fun y => Int32.mul_zero, show ∀ y : Int32, y * nz 0 = nz 0 from fun y => Int32.mul_zero, su_two0]
  | true =>
    have hadd : o_iand (o_iand (o_ishl (nz 1) (nz c)) (o_ixor (orr (fun k => m (b + 3) (r * 6 + k)) 6) (-nz 1))) (o_ixor (m (b + 2) (r * 6)) (-nz 1)) = o_ishl (nz 1) (nz c) := hadd
    refine ⟨?m', ?ev, ?po⟩
    case ev =>
      unfold f_X4_blowIn
      simp (disch := omega) only [mth_w, kR_w, kR_if, sQ_v, sN_v, sTi_v, sTa_v, sTl_v, sR_v, sRv_v, sX_v, sPi_v, sPo_v, sPz_w, zP_b, sRz_w, zR_bw, zR_0w, zR_1w, sPa_v, sAi_v, sAl_v, sAo_v, sAa_v, sM_w, sMp_w, eM_w, sIf_w, eIf_w, cAnd_w, cOr_w, cB_v, cZ_v, cNot_v, eC_v, eI_v, eJ_v, eOp_v, eQ_v, eU_v, eIL_v, eLO_v, eLS_v, eLC_v, eGi_v, eGa_v, eZ_w, eAi_v, eAl_v, eAa_v, eAn_v, aN_v, aI_v, aA_v, sInc_v, sB_okw, sB_xw, eS_okw, eS_xw, eB_okw, eB_xw, oE_w, oS_w, kI_iw, kI_xw, kV_w, kV_xw, kP_iw, kP_xw, List.set_cons_zero, List.set_cons_succ, List.cons_append, List.nil_append, List.length_cons, List.length_nil, List.replicate_succ, List.replicate_zero, List.append_nil, bif_and, bif_or, zne_b01, zeq_b01, bif_d, cond_true, cond_false, nar_0, o_iadd, o_isub, o_imul, c_eq, c_ne, c_lt, c_ge, c_gt, c_le, Nat.reduceAdd, Nat.reduceSub, Nat.zero_add, if_true, if_false, eLl_2, eLi_0, eLi_1, eLi_2, eLi_3, eLi_4, eLi_5, eLi_6, eLi_7, eLi_8, eLi_9, eLi_10, eLi_11, eLi_12, eLi_13, eLa_0, eLa_1, eLa_2, eLa_3, eLa_4, eLa_5, eLa_6, eLa_7, nz_add, nz_mul, nz_sub, nz_lt, nz_le, nz_inj, zeq_nz, zne_nz, zge_nz, zgt_nz, zlt_nz, nlit0, nlit1, nlit2, nlit3, nlit4, nlit5, nlit6, nlit7, nlit8, nlit9, nlit10, nlit11, nlit12, nlit16, nlit18, nlit22, nlit31, nlit32, nlit33, nlit34, nlit40, nlit48, nlit60, nlit63, nlit64, nlit66, nlit80, nlit96, nlit114, nlit126, nlit128, nlit512, nlit756, nlit882, nlit1000, nlit1394, nlit1522, nlit1523, nlit10000, decide_true, decide_false, not_true_eq_false, not_false_eq_true, ne_eq, and_self, and_true, true_and, Bool.and_true, Bool.true_and, Bool.and_false, Bool.false_and, Bool.or_false, Bool.false_or, Bool.or_true, Bool.true_or, Bool.not_true, Bool.not_false, (gd_t0 hb), (rf_t0_0 hb), (rf_t0_1 hb), (rf_t0_2 hb), (rf_t0_3 hb), (rf_t0_4 hb), (rf_t0_5 hb), (rd_t0_6 hb), (wr_t0_6 hb), (rd_t0_7 hb), (wr_t0_7 hb), (rf_t0_8 hb), (rf_t0_9 hb), (gd_t1 hb), (rd_t1_0 hb), (wr_t1_0 hb), (rd_t1_1 hb), (wr_t1_1 hb), (rd_t1_2 hb), (wr_t1_2 hb), (rf_t1_3 hb), (rf_t1_4 hb), (ar_t2 hb), (aw_t2 hb), (an_t2 hb), (ar_t3 hb), (aw_t3 hb), (an_t3 hb), (gd_t4 hb), (rd_t4_0 hb), (wr_t4_0 hb), (rf_t4_1 hb), (ar_t5 hb), (aw_t5 hb), (an_t5 hb), (gd_t6 hb), (rd_t6_0 hb), (wr_t6_0 hb), (rd_t6_1 hb), (wr_t6_1 hb), (rf_t6_2 hb), (ar_t7 hb), (aw_t7 hb), (an_t7 hb), (gd_t8 hb), (rf_t8_0 hb), (rf_t8_1 hb), (ar_t9 hb), (aw_t9 hb), (an_t9 hb), (ar_t10 hb), (aw_t10 hb), (an_t10 hb), (ar_t11 hb), (aw_t11 hb), (an_t11 hb), (ar_t12 hb), (aw_t12 hb), (an_t12 hb), (ar_t13 hb), (aw_t13 hb), (an_t13 hb), (ar_t14 hb), (aw_t14 hb), (an_t14 hb), Nat.add_zero, e_solidColumns hb hr, hadd, one_ne hc, e_credit he hb (show 1 < 5 by decide) (show 0 < 6 by decide), ms_ne]
      rfl
    case po =>
      refine ⟨fun a a1 a2 a3 => ?_, fun i k hk => ?_, ?_, ?_⟩
      · simp (disch := omega) only [mw_ne, ms_ne]
      · simp (disch := omega) only [mw_ne, ms_ne]
        rw [ms_v]
        by_cases h : i = r * 6
        · rw [if_pos ⟨rfl, h⟩, bt_or, bt_1c hc hk, h]
          simp
        · rw [if_neg (fun z => h z.2)]
          simp [h]
      · simp (disch := omega) only [mw_ne]
        rw [ms_mw, mw_at, ms_ne (by omega)]
        rfl
      · simp (disch := omega) only [mw_at]
        rfl
theorem e_turnEast (he : EO e) (hb : TB b) {c : Nat} (hc : c < 32) (hr : r < 16) :
    ∃ m', f_X4_turnEast [.ref b, .int (nz c), .int (nz r)] (HM e m w) = some (HM e m' w, .inl (some (.int (b01 (bt (m (b + 2) (r * 6 + 3)) c && !bt (m (b + 2) (r * 6)) c))))) ∧ (∀ a, a ≠ b + 2 → a ≠ b + 10 → m' a = m a) ∧
      (∀ i k, k < 32 → bt (m' (b + 2) i) k = if decide (k = c) && (bt (m (b + 2) (r * 6 + 3)) c && !bt (m (b + 2) (r * 6)) c) then (if i = r * 6 then true else if i = r * 6 + 3 then false else bt (m (b + 2) i) k) else bt (m (b + 2) i) k) ∧
      m' (b + 10) = su (su (m (b + 10)) 2 (m (b + 10) 2 + (q_al 3 * -nz 1 + q_al 0 * nz 1) * b01 (bt (m (b + 2) (r * 6 + 3)) c && !bt (m (b + 2) (r * 6)) c))) 3 (m (b + 10) 3 + (q_ac 3 * -nz 1 + q_ac 0 * nz 1) * b01 (bt (m (b + 2) (r * 6 + 3)) c && !bt (m (b + 2) (r * 6)) c)) := by
  have z : (-nz 1 : Int32) = -1 := by decide
  have hadd : o_iand (o_iand (o_ishl (nz 1) (nz c)) (m (b + 2) (r * 6 + 3))) (o_ixor (m (b + 2) (r * 6)) (-nz 1)) = if (bt (m (b + 2) (r * 6 + 3)) c && !bt (m (b + 2) (r * 6)) c) then o_ishl (nz 1) (nz c) else nz 0 := by
    rw [z, one_and hc]
    cases h1 : bt (m (b + 2) (r * 6 + 3)) c
    · rw [if_neg (by decide), nz0_and]
      rfl
    · rw [if_pos rfl, one_and hc, bt_not _ hc]
      cases h2 : bt (m (b + 2) (r * 6)) c <;> rfl
  have hm0 : ∀ y : Int32, y * nz 0 = nz 0 := fun y => Int32.mul_zero
  have hm1 : ∀ y : Int32, y * nz 1 = y := fun y => Int32.mul_one y
  generalize hp : (bt (m (b + 2) (r * 6 + 3)) c && !bt (m (b + 2) (r * 6)) c) = p at *
  cases p with
  | false =>
    refine ⟨m, ?_, fun _ _ _ => rfl, fun i k hk => by simp, ?_⟩
    · unfold f_X4_turnEast
      have z0 : z_eq (nz 0) = true := by decide
      have hadd : o_iand (o_iand (o_ishl (nz 1) (nz c)) (m (b + 2) (r * 6 + 3))) (o_ixor (m (b + 2) (r * 6)) (-nz 1)) = nz 0 := hadd
      simp (disch := omega) only [mth_w, kR_w, kR_if, sQ_v, sN_v, sTi_v, sTa_v, sTl_v, sR_v, sRv_v, sX_v, sPi_v, sPo_v, sPz_w, zP_b, sRz_w, zR_bw, zR_0w, zR_1w, sPa_v, sAi_v, sAl_v, sAo_v, sAa_v, sM_w, sMp_w, eM_w, sIf_w, eIf_w, cAnd_w, cOr_w, cB_v, cZ_v, cNot_v, eC_v, eI_v, eJ_v, eOp_v, eQ_v, eU_v, eIL_v, eLO_v, eLS_v, eLC_v, eGi_v, eGa_v, eZ_w, eAi_v, eAl_v, eAa_v, eAn_v, aN_v, aI_v, aA_v, sInc_v, sB_okw, sB_xw, eS_okw, eS_xw, eB_okw, eB_xw, oE_w, oS_w, kI_iw, kI_xw, kV_w, kV_xw, kP_iw, kP_xw, List.set_cons_zero, List.set_cons_succ, List.cons_append, List.nil_append, List.length_cons, List.length_nil, List.replicate_succ, List.replicate_zero, List.append_nil, bif_and, bif_or, zne_b01, zeq_b01, bif_d, cond_true, cond_false, nar_0, o_iadd, o_isub, o_imul, c_eq, c_ne, c_lt, c_ge, c_gt, c_le, Nat.reduceAdd, Nat.reduceSub, Nat.zero_add, if_true, if_false, eLl_2, eLi_0, eLi_1, eLi_2, eLi_3, eLi_4, eLi_5, eLi_6, eLi_7, eLi_8, eLi_9, eLi_10, eLi_11, eLi_12, eLi_13, eLa_0, eLa_1, eLa_2, eLa_3, eLa_4, eLa_5, eLa_6, eLa_7, nz_add, nz_mul, nz_sub, nz_lt, nz_le, nz_inj, zeq_nz, zne_nz, zge_nz, zgt_nz, zlt_nz, nlit0, nlit1, nlit2, nlit3, nlit4, nlit5, nlit6, nlit7, nlit8, nlit9, nlit10, nlit11, nlit12, nlit16, nlit18, nlit22, nlit31, nlit32, nlit33, nlit34, nlit40, nlit48, nlit60, nlit63, nlit64, nlit66, nlit80, nlit96, nlit114, nlit126, nlit128, nlit512, nlit756, nlit882, nlit1000, nlit1394, nlit1522, nlit1523, nlit10000, decide_true, decide_false, not_true_eq_false, not_false_eq_true, ne_eq, and_self, and_true, true_and, Bool.and_true, Bool.true_and, Bool.and_false, Bool.false_and, Bool.or_false, Bool.false_or, Bool.or_true, Bool.true_or, Bool.not_true, Bool.not_false, (gd_t0 hb), (rf_t0_0 hb), (rf_t0_1 hb), (rf_t0_2 hb), (rf_t0_3 hb), (rf_t0_4 hb), (rf_t0_5 hb), (rd_t0_6 hb), (wr_t0_6 hb), (rd_t0_7 hb), (wr_t0_7 hb), (rf_t0_8 hb), (rf_t0_9 hb), (gd_t1 hb), (rd_t1_0 hb), (wr_t1_0 hb), (rd_t1_1 hb), (wr_t1_1 hb), (rd_t1_2 hb), (wr_t1_2 hb), (rf_t1_3 hb), (rf_t1_4 hb), (ar_t2 hb), (aw_t2 hb), (an_t2 hb), (ar_t3 hb), (aw_t3 hb), (an_t3 hb), (gd_t4 hb), (rd_t4_0 hb), (wr_t4_0 hb), (rf_t4_1 hb), (ar_t5 hb), (aw_t5 hb), (an_t5 hb), (gd_t6 hb), (rd_t6_0 hb), (wr_t6_0 hb), (rd_t6_1 hb), (wr_t6_1 hb), (rf_t6_2 hb), (ar_t7 hb), (aw_t7 hb), (an_t7 hb), (gd_t8 hb), (rf_t8_0 hb), (rf_t8_1 hb), (ar_t9 hb), (aw_t9 hb), (an_t9 hb), (ar_t10 hb), (aw_t10 hb), (an_t10 hb), (ar_t11 hb), (aw_t11 hb), (an_t11 hb), (ar_t12 hb), (aw_t12 hb), (an_t12 hb), (ar_t13 hb), (aw_t13 hb), (an_t13 hb), (ar_t14 hb), (aw_t14 hb), (an_t14 hb), Nat.add_zero, hadd, z0]
      rfl
    · show m (b + 10) = su (su (m (b + 10)) 2 (m (b + 10) 2 + (q_al 3 * -nz 1 + q_al 0 * nz 1) * nz 0)) 3 (m (b + 10) 3 + (q_ac 3 * -nz 1 + q_ac 0 * nz 1) * nz 0)
      rw [hm0, hm0, su_two0]
  | true =>
    have hadd : o_iand (o_iand (o_ishl (nz 1) (nz c)) (m (b + 2) (r * 6 + 3))) (o_ixor (m (b + 2) (r * 6)) (-nz 1)) = o_ishl (nz 1) (nz c) := hadd
    refine ⟨?m', ?ev, ?po⟩
    case ev =>
      unfold f_X4_turnEast
      simp (disch := omega) only [mth_w, kR_w, kR_if, sQ_v, sN_v, sTi_v, sTa_v, sTl_v, sR_v, sRv_v, sX_v, sPi_v, sPo_v, sPz_w, zP_b, sRz_w, zR_bw, zR_0w, zR_1w, sPa_v, sAi_v, sAl_v, sAo_v, sAa_v, sM_w, sMp_w, eM_w, sIf_w, eIf_w, cAnd_w, cOr_w, cB_v, cZ_v, cNot_v, eC_v, eI_v, eJ_v, eOp_v, eQ_v, eU_v, eIL_v, eLO_v, eLS_v, eLC_v, eGi_v, eGa_v, eZ_w, eAi_v, eAl_v, eAa_v, eAn_v, aN_v, aI_v, aA_v, sInc_v, sB_okw, sB_xw, eS_okw, eS_xw, eB_okw, eB_xw, oE_w, oS_w, kI_iw, kI_xw, kV_w, kV_xw, kP_iw, kP_xw, List.set_cons_zero, List.set_cons_succ, List.cons_append, List.nil_append, List.length_cons, List.length_nil, List.replicate_succ, List.replicate_zero, List.append_nil, bif_and, bif_or, zne_b01, zeq_b01, bif_d, cond_true, cond_false, nar_0, o_iadd, o_isub, o_imul, c_eq, c_ne, c_lt, c_ge, c_gt, c_le, Nat.reduceAdd, Nat.reduceSub, Nat.zero_add, if_true, if_false, eLl_2, eLi_0, eLi_1, eLi_2, eLi_3, eLi_4, eLi_5, eLi_6, eLi_7, eLi_8, eLi_9, eLi_10, eLi_11, eLi_12, eLi_13, eLa_0, eLa_1, eLa_2, eLa_3, eLa_4, eLa_5, eLa_6, eLa_7, nz_add, nz_mul, nz_sub, nz_lt, nz_le, nz_inj, zeq_nz, zne_nz, zge_nz, zgt_nz, zlt_nz, nlit0, nlit1, nlit2, nlit3, nlit4, nlit5, nlit6, nlit7, nlit8, nlit9, nlit10, nlit11, nlit12, nlit16, nlit18, nlit22, nlit31, nlit32, nlit33, nlit34, nlit40, nlit48, nlit60, nlit63, nlit64, nlit66, nlit80, nlit96, nlit114, nlit126, nlit128, nlit512, nlit756, nlit882, nlit1000, nlit1394, nlit1522, nlit1523, nlit10000, decide_true, decide_false, not_true_eq_false, not_false_eq_true, ne_eq, and_self, and_true, true_and, Bool.and_true, Bool.true_and, Bool.and_false, Bool.false_and, Bool.or_false, Bool.false_or, Bool.or_true, Bool.true_or, Bool.not_true, Bool.not_false, (gd_t0 hb), (rf_t0_0 hb), (rf_t0_1 hb), (rf_t0_2 hb), (rf_t0_3 hb), (rf_t0_4 hb), (rf_t0_5 hb), (rd_t0_6 hb), (wr_t0_6 hb), (rd_t0_7 hb), (wr_t0_7 hb), (rf_t0_8 hb), (rf_t0_9 hb), (gd_t1 hb), (rd_t1_0 hb), (wr_t1_0 hb), (rd_t1_1 hb), (wr_t1_1 hb), (rd_t1_2 hb), (wr_t1_2 hb), (rf_t1_3 hb), (rf_t1_4 hb), (ar_t2 hb), (aw_t2 hb), (an_t2 hb), (ar_t3 hb), (aw_t3 hb), (an_t3 hb), (gd_t4 hb), (rd_t4_0 hb), (wr_t4_0 hb), (rf_t4_1 hb), (ar_t5 hb), (aw_t5 hb), (an_t5 hb), (gd_t6 hb), (rd_t6_0 hb), (wr_t6_0 hb), (rd_t6_1 hb), (wr_t6_1 hb), (rf_t6_2 hb), (ar_t7 hb), (aw_t7 hb), (an_t7 hb), (gd_t8 hb), (rf_t8_0 hb), (rf_t8_1 hb), (ar_t9 hb), (aw_t9 hb), (an_t9 hb), (ar_t10 hb), (aw_t10 hb), (an_t10 hb), (ar_t11 hb), (aw_t11 hb), (an_t11 hb), (ar_t12 hb), (aw_t12 hb), (an_t12 hb), (ar_t13 hb), (aw_t13 hb), (an_t13 hb), (ar_t14 hb), (aw_t14 hb), (an_t14 hb), Nat.add_zero, hadd, one_ne hc, e_credit he hb (show 1 < 5 by decide) (show 0 < 6 by decide), e_credit he hb (show 1 < 5 by decide) (show 3 < 6 by decide), ms_ne, ms_nn, mw_at, mw_mw]
      rfl
    case po =>
      refine ⟨fun a a1 a2 => ?_, fun i k hk => ?_, ?_⟩
      · simp (disch := omega) only [mw_ne, ms_ne]
      · simp (disch := omega) only [mw_ne, ms_v, true_and]
        by_cases h : i = r * 6
        · rw [if_pos h, bt_or, bt_1c hc hk, h]
          by_cases hk2 : k = c <;> simp [hk2]
        · rw [if_neg h]
          by_cases h3 : i = r * 6 + 3
          · rw [if_pos h3, bt_and, z, bt_not _ hk, bt_1c hc hk, h3]
            by_cases hk2 : k = c <;> simp [hk2]
          · rw [if_neg h3]
            simp [h, h3]
      · simp (disch := omega) only [mw_at]
        show su (su (su (su (m (b + 10)) 2 (m (b + 10) 2 + q_al 3 * -nz 1)) 3 (m (b + 10) 3 + q_ac 3 * -nz 1)) 2 (su (su (m (b + 10)) 2 (m (b + 10) 2 + q_al 3 * -nz 1)) 3 (m (b + 10) 3 + q_ac 3 * -nz 1) 2 + q_al 0 * nz 1)) 3 (su (su (m (b + 10)) 2 (m (b + 10) 2 + q_al 3 * -nz 1)) 3 (m (b + 10) 3 + q_ac 3 * -nz 1) 3 + q_ac 0 * nz 1) = su (su (m (b + 10)) 2 (m (b + 10) 2 + (q_al 3 * -nz 1 + q_al 0 * nz 1) * nz 1)) 3 (m (b + 10) 3 + (q_ac 3 * -nz 1 + q_ac 0 * nz 1) * nz 1)
        rw [su_two (by decide)]
        simp only [hm1, Int32.add_assoc]
end
