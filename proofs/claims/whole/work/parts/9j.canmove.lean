/-! .. the class's -/
section
variable {S S' : St} {T b c n k : Nat} {dc dr : Int} {e : Nat → Nat × (Nat → Int32)} {m m' m1 : Mm} {w : Ml}
def badW (m : Mm) (b k : Nat) (dc : Int) (F r : Nat) : Int32 := o_iand (psh (m (b + 3) (F * 6 + k)) dc) (o_ior (o_iand (orr (fun k => m (b + 3) (r * 6 + k)) 6) (o_ixor (m (b + 3) (r * 6 + k)) (-nz 1))) (orr (fun k => m (b + 2) (r * 6 + k)) 6))
theorem occ_bt (hT : TR b m S) {r c : Nat} (hr : r < 16) (hc : c < 32) (hv : okV (vS S c r)) : bt (orr (fun k => m (b + 2) (r * 6 + k)) 6) c = true ↔ z_ge (vS S c r) = true ∧ vS S c r ≠ nz 0 := by
  rw [bt_orr, ← pq_b hv]
  constructor
  · rintro ⟨k, k1, k2⟩
    have h9 : bt (m (b + 2) (r * 6 + k)) c = pq (vS S c r) k := hT.bits hr k1 hc
    exact ⟨k, k1, by rw [← h9]; exact k2⟩
  · rintro ⟨k, k1, k2⟩
    have h9 : bt (m (b + 2) (r * 6 + k)) c = pq (vS S c r) k := hT.bits hr k1 hc
    exact ⟨k, k1, by rw [h9]; exact k2⟩
theorem bad_iff (hw : WF T S) (hT : TR b m S) (hk : k < 6) (c1 : -8 ≤ dc) (c2 : dc ≤ 8) {F r : Nat} (hF : F < 16) (hr : r < 16) : z_ne (badW m b k dc F r) = true ↔ ∃ c : Nat, c < 32 ∧ 0 ≤ (c : Int) - dc ∧ ((c : Int) - dc).toNat < 32 ∧ bq (vS S ((c : Int) - dc).toNat F) k = true ∧ ¬ (vS S c r = nz 0 ∨ bq (vS S c r) k = true) := by
  have m1 : (-nz 1 : Int32) = -1 := rfl
  have bit : ∀ c : Nat, c < 32 → (bt (badW m b k dc F r) c = true ↔ (0 ≤ (c : Int) - dc ∧ bt (m (b + 3) (F * 6 + k)) ((c : Int) - dc).toNat = true) ∧ ¬ (vS S c r = nz 0 ∨ bq (vS S c r) k = true)) := fun c hc => by
    have hv := (hw.2.2.2.2.2.2.1 r hr c hc).1
    unfold badW
    rw [m1, bt_and, bt_or, bt_and, bt_not _ hc, sol_bt hT hr hc hv, hT.bod hr hk hc, Bool.and_eq_true, bt_psh (by omega) (by omega) hc]
    refine and_congr_right fun _ => ?_
    rw [Bool.or_eq_true, occ_bt hT hr hc hv, Bool.and_eq_true]
    cases hz : z_ge (vS S c r) with
    | true =>
      have hnb : bq (vS S c r) k = false := by
        cases q : bq (vS S c r) k with
        | false => rfl
        | true =>
          rw [bq_sol hk q] at hz
          exact absurd hz (by decide)
      rw [hnb]
      simp
    | false =>
      have hn0 : vS S c r ≠ nz 0 := fun z => by
        rw [z] at hz
        exact absurd hz (by decide)
      simp [hn0]
  constructor
  · intro h
    rcases Classical.em (∃ c, c < 32 ∧ bt (badW m b k dc F r) c = true) with ⟨c, hc, q⟩ | q
    · have := (bit c hc).mp q
      have hlt : ((c : Int) - dc).toNat < 32 := by
        refine Classical.byContradiction fun z => ?_
        have hbig : bt (m (b + 3) (F * 6 + k)) ((c : Int) - dc).toNat = false := by
          unfold bt
          exact BitVec.getLsbD_of_ge _ _ (by omega)
        rw [hbig] at this
        exact absurd this.1.2 (by decide)
      refine ⟨c, hc, this.1.1, hlt, ?_, this.2⟩
      rw [← hT.bod hF hk hlt]
      exact this.1.2
    · exfalso
      have : badW m b k dc F r = 0 := bt_ext fun c hc => by
        rw [bt_0]
        cases z : bt (badW m b k dc F r) c with
        | false => rfl
        | true => exact absurd ⟨c, hc, z⟩ q
      rw [this] at h
      exact absurd h (by decide)
  · rintro ⟨c, hc, h1, hlt, h2, h3⟩
    have hb := (bit c hc).mpr ⟨⟨h1, by rw [hT.bod hF hk hlt]; exact h2⟩, h3⟩
    cases z : z_ne (badW m b k dc F r) with
    | true => rfl
    | false =>
      exfalso
      have : badW m b k dc F r = 0 := by
        unfold z_ne at z
        simpa using z
      rw [this, bt_0] at hb
      exact absurd hb (by decide)
theorem x_canMove (hb : TB b) (hw : WF T S) (hT : TR b m S) (hk : k < 6) (c1 : -8 ≤ dc) (c2 : dc ≤ 8) (r1 : -8 ≤ dr) (r2 : dr ≤ 8) : f_X1_canMoveBody [.ref (b + 1), .int (nz k), .int (zz dc), .int (zz dr)] (HM e m w) = some (HM e m w, .inl (some (.int (b01 (csB S k dc dr))))) := by
  have hW := hw.1
  have hH := hw.2.1
  have w0 : m (b + 1) 0 = nz (wN S) := by rw [hT.wd]; exact hW.2.2
  have w1 : m (b + 1) 1 = nz (hN S) := by rw [hT.ht]; exact hH.2.2
  have xs := x_sizeOf (e := e) (w := w) hb hw hT hk
  obtain ⟨n, n1, n2, n3⟩ := sz_cnt (S := S) (k := k)
  have hsz : z_gt (szS S k) = decide (0 < n) := by rw [n2, zgt_nz (by omega)]
  rw [n2] at xs
  rcases Nat.eq_zero_or_pos n with hn0 | hn0
  · have hcs : csB S k dc dr = false := by
      unfold csB
      rw [hsz, decide_eq_false (by omega), Bool.false_and]
    rw [hcs]
    subst hn0
    have z00 : ((0 : Nat) = 0) = True := by decide
    unfold f_X1_canMoveBody
    simp (disch := omega) only [mth_w, kR_w, kR_if, sQ_v, sN_v, sTi_v, sTa_v, sTl_v, sR_v, sRv_v, sX_v, sPi_v, sPo_v, sPz_w, zP_b, sRz_w, zR_bw, zR_0w, zR_1w, sPa_v, sAi_v, sAl_v, sAo_v, sAa_v, sM_w, sMp_w, eM_w, sIf_w, eIf_w, cAnd_w, cOr_w, cB_v, cZ_v, cNot_v, eC_v, eI_v, eJ_v, eOp_v, eQ_v, eU_v, eIL_v, eLO_v, eLS_v, eLC_v, eGi_v, eGa_v, eZ_w, eAi_v, eAl_v, eAa_v, eAn_v, aN_v, aI_v, aA_v, sInc_v, sB_okw, sB_xw, eS_okw, eS_xw, eB_okw, eB_xw, oE_w, oS_w, kI_iw, kI_xw, kV_w, kV_xw, kP_iw, kP_xw, List.set_cons_zero, List.set_cons_succ, List.cons_append, List.nil_append, List.length_cons, List.length_nil, List.replicate_succ, List.replicate_zero, List.append_nil, bif_and, bif_or, zne_b01, zeq_b01, bif_d, cond_true, cond_false, nar_0, o_iadd, o_isub, o_imul, c_eq, c_ne, c_lt, c_ge, c_gt, c_le, Nat.reduceAdd, Nat.reduceSub, Nat.zero_add, if_true, if_false, eLl_2, eLi_0, eLi_1, eLi_2, eLi_3, eLi_4, eLi_5, eLi_6, eLi_7, eLi_8, eLi_9, eLi_10, eLi_11, eLi_12, eLi_13, eLa_0, eLa_1, eLa_2, eLa_3, eLa_4, eLa_5, eLa_6, eLa_7, nz_add, nz_mul, nz_sub, nz_lt, nz_le, nz_inj, zeq_nz, zne_nz, zge_nz, zgt_nz, zlt_nz, nlit0, nlit1, nlit2, nlit3, nlit4, nlit5, nlit6, nlit7, nlit8, nlit9, nlit10, nlit11, nlit12, nlit16, nlit18, nlit22, nlit31, nlit32, nlit33, nlit34, nlit40, nlit48, nlit60, nlit63, nlit64, nlit66, nlit80, nlit96, nlit114, nlit126, nlit128, nlit512, nlit756, nlit882, nlit1000, nlit1394, nlit1522, nlit1523, nlit10000, decide_true, decide_false, not_true_eq_false, not_false_eq_true, ne_eq, and_self, and_true, true_and, Bool.and_true, Bool.true_and, Bool.and_false, Bool.false_and, Bool.or_false, Bool.false_or, Bool.or_true, Bool.true_or, Bool.not_true, Bool.not_false, (gd_t0 hb), (rf_t0_0 hb), (rf_t0_1 hb), (rf_t0_2 hb), (rf_t0_3 hb), (rf_t0_4 hb), (rf_t0_5 hb), (rd_t0_6 hb), (wr_t0_6 hb), (rd_t0_7 hb), (wr_t0_7 hb), (rf_t0_8 hb), (rf_t0_9 hb), (gd_t1 hb), (rd_t1_0 hb), (wr_t1_0 hb), (rd_t1_1 hb), (wr_t1_1 hb), (rd_t1_2 hb), (wr_t1_2 hb), (rf_t1_3 hb), (rf_t1_4 hb), (ar_t2 hb), (aw_t2 hb), (an_t2 hb), (ar_t3 hb), (aw_t3 hb), (an_t3 hb), (gd_t4 hb), (rd_t4_0 hb), (wr_t4_0 hb), (rf_t4_1 hb), (ar_t5 hb), (aw_t5 hb), (an_t5 hb), (gd_t6 hb), (rd_t6_0 hb), (wr_t6_0 hb), (rd_t6_1 hb), (wr_t6_1 hb), (rf_t6_2 hb), (ar_t7 hb), (aw_t7 hb), (an_t7 hb), (gd_t8 hb), (rf_t8_0 hb), (rf_t8_1 hb), (ar_t9 hb), (aw_t9 hb), (an_t9 hb), (ar_t10 hb), (aw_t10 hb), (an_t10 hb), (ar_t11 hb), (aw_t11 hb), (an_t11 hb), (ar_t12 hb), (aw_t12 hb), (an_t12 hb), (ar_t13 hb), (aw_t13 hb), (an_t13 hb), (ar_t14 hb), (aw_t14 hb), (an_t14 hb), xs, z00]
  · have zn : (n = 0) = False := eq_false (by omega)
    obtain ⟨c0, r0, hc0, hr0, hb0⟩ := (sz_some hw hk).mp (by rw [hsz]; exact decide_eq_true hn0)
    have hex : ∃ c r, c < wN S ∧ r < hN S ∧ bq (vS S c r) k = true := ⟨c0, r0, hc0, hr0, hb0⟩
    obtain ⟨v1, x1, s1⟩ := x_firstColumn (e := e) (w := w) hb hw hT hk
    obtain ⟨v2, x2, s2⟩ := x_lastColumn (e := e) (w := w) hb hw hT hk
    obtain ⟨v3, x3, s3⟩ := x_firstRow (e := e) (w := w) hb hw hT hk
    obtain ⟨v4, x4, s4⟩ := x_lastRow (e := e) (w := w) hb hw hT hk
    obtain ⟨f, f32, rfl, ⟨fc, fr, f1, f2, f3, f4⟩, f5⟩ : ∃ j, j < 32 ∧ v1 = nz j ∧ spP S k 3 j ∧ ∀ i, spP S k 3 i → j ≤ i := by
      rcases s1 with ⟨_, h⟩ | h
      · exact absurd ⟨c0, r0, hc0, hr0, hb0, rfl⟩ (h c0)
      · exact h
    obtain ⟨l, l32, rfl, ⟨lc, lr, l1, l2, l3, l4⟩, l5⟩ : ∃ j, j < 32 ∧ v2 = nz j ∧ spP S k 4 j ∧ ∀ i, spP S k 4 i → i ≤ j := by
      rcases s2 with ⟨_, h⟩ | h
      · exact absurd ⟨c0, r0, hc0, hr0, hb0, rfl⟩ (h c0)
      · exact h
    obtain ⟨g, g32, rfl, ⟨gc, gr, g1, g2, g3, g4⟩, g5⟩ : ∃ j, j < 32 ∧ v3 = nz j ∧ spP S k 5 j ∧ ∀ i, spP S k 5 i → j ≤ i := by
      rcases s3 with ⟨_, h⟩ | h
      · exact absurd ⟨c0, r0, hc0, hr0, hb0, rfl⟩ (h r0)
      · exact h
    obtain ⟨q, q32, rfl, ⟨qc, qr, q1, q2, q3, q4⟩, q5⟩ : ∃ j, j < 32 ∧ v4 = nz j ∧ spP S k 6 j ∧ ∀ i, spP S k 6 i → i ≤ j := by
      rcases s4 with ⟨_, h⟩ | h
      · exact absurd ⟨c0, r0, hc0, hr0, hb0, rfl⟩ (h r0)
      · exact h
    rw [if_pos (by decide)] at f4 l4
    rw [if_neg (by decide)] at g4 q4
    subst f4 l4 g4 q4
    have b1 : z_lt (nz fc + zz dc) = decide ((fc : Int) + dc < 0) := by rw [nz_zz, zz_add, zlt_zz (by omega) (by omega)]
    have b2 : decide (nz lc + zz dc ≥ nz (wN S)) = decide ((wN S : Int) ≤ (lc : Int) + dc) := by
      rw [nz_zz (n := lc), zz_add, nz_zz]
      exact decide_eq_decide.mpr (by rw [ge_iff_le, zz_le (by omega) (by omega) (by omega) (by omega)])
    have b3 : z_lt (nz gr + zz dr) = decide ((gr : Int) + dr < 0) := by rw [nz_zz, zz_add, zlt_zz (by omega) (by omega)]
    have b4 : decide (nz qr + zz dr ≥ nz (hN S)) = decide ((hN S : Int) ≤ (qr : Int) + dr) := by
      rw [nz_zz (n := qr), zz_add, nz_zz]
      exact decide_eq_decide.mpr (by rw [ge_iff_le, zz_le (by omega) (by omega) (by omega) (by omega)])
    cases d1 : decide ((fc : Int) + dc < 0) with
    | true =>
      have hcs : csB S k dc dr = false := by
        cases z : csB S k dc dr with
        | false => rfl
        | true =>
          have := ((cs_iff hw hk).mp z).2 fc fr f1 f2 f3
          have d1 := of_decide_eq_true d1
          omega
      rw [hcs]
      unfold f_X1_canMoveBody
      simp (disch := omega) only [mth_w, kR_w, kR_if, sQ_v, sN_v, sTi_v, sTa_v, sTl_v, sR_v, sRv_v, sX_v, sPi_v, sPo_v, sPz_w, zP_b, sRz_w, zR_bw, zR_0w, zR_1w, sPa_v, sAi_v, sAl_v, sAo_v, sAa_v, sM_w, sMp_w, eM_w, sIf_w, eIf_w, cAnd_w, cOr_w, cB_v, cZ_v, cNot_v, eC_v, eI_v, eJ_v, eOp_v, eQ_v, eU_v, eIL_v, eLO_v, eLS_v, eLC_v, eGi_v, eGa_v, eZ_w, eAi_v, eAl_v, eAa_v, eAn_v, aN_v, aI_v, aA_v, sInc_v, sB_okw, sB_xw, eS_okw, eS_xw, eB_okw, eB_xw, oE_w, oS_w, kI_iw, kI_xw, kV_w, kV_xw, kP_iw, kP_xw, List.set_cons_zero, List.set_cons_succ, List.cons_append, List.nil_append, List.length_cons, List.length_nil, List.replicate_succ, List.replicate_zero, List.append_nil, bif_and, bif_or, zne_b01, zeq_b01, bif_d, cond_true, cond_false, nar_0, o_iadd, o_isub, o_imul, c_eq, c_ne, c_lt, c_ge, c_gt, c_le, Nat.reduceAdd, Nat.reduceSub, Nat.zero_add, if_true, if_false, eLl_2, eLi_0, eLi_1, eLi_2, eLi_3, eLi_4, eLi_5, eLi_6, eLi_7, eLi_8, eLi_9, eLi_10, eLi_11, eLi_12, eLi_13, eLa_0, eLa_1, eLa_2, eLa_3, eLa_4, eLa_5, eLa_6, eLa_7, nz_add, nz_mul, nz_sub, nz_lt, nz_le, nz_inj, zeq_nz, zne_nz, zge_nz, zgt_nz, zlt_nz, nlit0, nlit1, nlit2, nlit3, nlit4, nlit5, nlit6, nlit7, nlit8, nlit9, nlit10, nlit11, nlit12, nlit16, nlit18, nlit22, nlit31, nlit32, nlit33, nlit34, nlit40, nlit48, nlit60, nlit63, nlit64, nlit66, nlit80, nlit96, nlit114, nlit126, nlit128, nlit512, nlit756, nlit882, nlit1000, nlit1394, nlit1522, nlit1523, nlit10000, decide_true, decide_false, not_true_eq_false, not_false_eq_true, ne_eq, and_self, and_true, true_and, Bool.and_true, Bool.true_and, Bool.and_false, Bool.false_and, Bool.or_false, Bool.false_or, Bool.or_true, Bool.true_or, Bool.not_true, Bool.not_false, (gd_t0 hb), (rf_t0_0 hb), (rf_t0_1 hb), (rf_t0_2 hb), (rf_t0_3 hb), (rf_t0_4 hb), (rf_t0_5 hb), (rd_t0_6 hb), (wr_t0_6 hb), (rd_t0_7 hb), (wr_t0_7 hb), (rf_t0_8 hb), (rf_t0_9 hb), (gd_t1 hb), (rd_t1_0 hb), (wr_t1_0 hb), (rd_t1_1 hb), (wr_t1_1 hb), (rd_t1_2 hb), (wr_t1_2 hb), (rf_t1_3 hb), (rf_t1_4 hb), (ar_t2 hb), (aw_t2 hb), (an_t2 hb), (ar_t3 hb), (aw_t3 hb), (an_t3 hb), (gd_t4 hb), (rd_t4_0 hb), (wr_t4_0 hb), (rf_t4_1 hb), (ar_t5 hb), (aw_t5 hb), (an_t5 hb), (gd_t6 hb), (rd_t6_0 hb), (wr_t6_0 hb), (rd_t6_1 hb), (wr_t6_1 hb), (rf_t6_2 hb), (ar_t7 hb), (aw_t7 hb), (an_t7 hb), (gd_t8 hb), (rf_t8_0 hb), (rf_t8_1 hb), (ar_t9 hb), (aw_t9 hb), (an_t9 hb), (ar_t10 hb), (aw_t10 hb), (an_t10 hb), (ar_t11 hb), (aw_t11 hb), (an_t11 hb), (ar_t12 hb), (aw_t12 hb), (an_t12 hb), (ar_t13 hb), (aw_t13 hb), (an_t13 hb), (ar_t14 hb), (aw_t14 hb), (an_t14 hb), xs, zn, x1, b1, d1]
    | false =>
    cases d2 : decide ((wN S : Int) ≤ (lc : Int) + dc) with
    | true =>
      have hcs : csB S k dc dr = false := by
        cases z : csB S k dc dr with
        | false => rfl
        | true =>
          have := ((cs_iff hw hk).mp z).2 lc lr l1 l2 l3
          have d1 := of_decide_eq_true d2
          omega
      rw [hcs]
      unfold f_X1_canMoveBody
      simp (disch := omega) only [mth_w, kR_w, kR_if, sQ_v, sN_v, sTi_v, sTa_v, sTl_v, sR_v, sRv_v, sX_v, sPi_v, sPo_v, sPz_w, zP_b, sRz_w, zR_bw, zR_0w, zR_1w, sPa_v, sAi_v, sAl_v, sAo_v, sAa_v, sM_w, sMp_w, eM_w, sIf_w, eIf_w, cAnd_w, cOr_w, cB_v, cZ_v, cNot_v, eC_v, eI_v, eJ_v, eOp_v, eQ_v, eU_v, eIL_v, eLO_v, eLS_v, eLC_v, eGi_v, eGa_v, eZ_w, eAi_v, eAl_v, eAa_v, eAn_v, aN_v, aI_v, aA_v, sInc_v, sB_okw, sB_xw, eS_okw, eS_xw, eB_okw, eB_xw, oE_w, oS_w, kI_iw, kI_xw, kV_w, kV_xw, kP_iw, kP_xw, List.set_cons_zero, List.set_cons_succ, List.cons_append, List.nil_append, List.length_cons, List.length_nil, List.replicate_succ, List.replicate_zero, List.append_nil, bif_and, bif_or, zne_b01, zeq_b01, bif_d, cond_true, cond_false, nar_0, o_iadd, o_isub, o_imul, c_eq, c_ne, c_lt, c_ge, c_gt, c_le, Nat.reduceAdd, Nat.reduceSub, Nat.zero_add, if_true, if_false, eLl_2, eLi_0, eLi_1, eLi_2, eLi_3, eLi_4, eLi_5, eLi_6, eLi_7, eLi_8, eLi_9, eLi_10, eLi_11, eLi_12, eLi_13, eLa_0, eLa_1, eLa_2, eLa_3, eLa_4, eLa_5, eLa_6, eLa_7, nz_add, nz_mul, nz_sub, nz_lt, nz_le, nz_inj, zeq_nz, zne_nz, zge_nz, zgt_nz, zlt_nz, nlit0, nlit1, nlit2, nlit3, nlit4, nlit5, nlit6, nlit7, nlit8, nlit9, nlit10, nlit11, nlit12, nlit16, nlit18, nlit22, nlit31, nlit32, nlit33, nlit34, nlit40, nlit48, nlit60, nlit63, nlit64, nlit66, nlit80, nlit96, nlit114, nlit126, nlit128, nlit512, nlit756, nlit882, nlit1000, nlit1394, nlit1522, nlit1523, nlit10000, decide_true, decide_false, not_true_eq_false, not_false_eq_true, ne_eq, and_self, and_true, true_and, Bool.and_true, Bool.true_and, Bool.and_false, Bool.false_and, Bool.or_false, Bool.false_or, Bool.or_true, Bool.true_or, Bool.not_true, Bool.not_false, (gd_t0 hb), (rf_t0_0 hb), (rf_t0_1 hb), (rf_t0_2 hb), (rf_t0_3 hb), (rf_t0_4 hb), (rf_t0_5 hb), (rd_t0_6 hb), (wr_t0_6 hb), (rd_t0_7 hb), (wr_t0_7 hb), (rf_t0_8 hb), (rf_t0_9 hb), (gd_t1 hb), (rd_t1_0 hb), (wr_t1_0 hb), (rd_t1_1 hb), (wr_t1_1 hb), (rd_t1_2 hb), (wr_t1_2 hb), (rf_t1_3 hb), (rf_t1_4 hb), (ar_t2 hb), (aw_t2 hb), (an_t2 hb), (ar_t3 hb), (aw_t3 hb), (an_t3 hb), (gd_t4 hb), (rd_t4_0 hb), (wr_t4_0 hb), (rf_t4_1 hb), (ar_t5 hb), (aw_t5 hb), (an_t5 hb), (gd_t6 hb), (rd_t6_0 hb), (wr_t6_0 hb), (rd_t6_1 hb), (wr_t6_1 hb), (rf_t6_2 hb), (ar_t7 hb), (aw_t7 hb), (an_t7 hb), (gd_t8 hb), (rf_t8_0 hb), (rf_t8_1 hb), (ar_t9 hb), (aw_t9 hb), (an_t9 hb), (ar_t10 hb), (aw_t10 hb), (an_t10 hb), (ar_t11 hb), (aw_t11 hb), (an_t11 hb), (ar_t12 hb), (aw_t12 hb), (an_t12 hb), (ar_t13 hb), (aw_t13 hb), (an_t13 hb), (ar_t14 hb), (aw_t14 hb), (an_t14 hb), xs, zn, x1, b1, d1, x2, w0, b2, d2]
    | false =>
    cases d3 : decide ((gr : Int) + dr < 0) with
    | true =>
      have hcs : csB S k dc dr = false := by
        cases z : csB S k dc dr with
        | false => rfl
        | true =>
          have := ((cs_iff hw hk).mp z).2 gc gr g1 g2 g3
          have d1 := of_decide_eq_true d3
          omega
      rw [hcs]
      unfold f_X1_canMoveBody
      simp (disch := omega) only [mth_w, kR_w, kR_if, sQ_v, sN_v, sTi_v, sTa_v, sTl_v, sR_v, sRv_v, sX_v, sPi_v, sPo_v, sPz_w, zP_b, sRz_w, zR_bw, zR_0w, zR_1w, sPa_v, sAi_v, sAl_v, sAo_v, sAa_v, sM_w, sMp_w, eM_w, sIf_w, eIf_w, cAnd_w, cOr_w, cB_v, cZ_v, cNot_v, eC_v, eI_v, eJ_v, eOp_v, eQ_v, eU_v, eIL_v, eLO_v, eLS_v, eLC_v, eGi_v, eGa_v, eZ_w, eAi_v, eAl_v, eAa_v, eAn_v, aN_v, aI_v, aA_v, sInc_v, sB_okw, sB_xw, eS_okw, eS_xw, eB_okw, eB_xw, oE_w, oS_w, kI_iw, kI_xw, kV_w, kV_xw, kP_iw, kP_xw, List.set_cons_zero, List.set_cons_succ, List.cons_append, List.nil_append, List.length_cons, List.length_nil, List.replicate_succ, List.replicate_zero, List.append_nil, bif_and, bif_or, zne_b01, zeq_b01, bif_d, cond_true, cond_false, nar_0, o_iadd, o_isub, o_imul, c_eq, c_ne, c_lt, c_ge, c_gt, c_le, Nat.reduceAdd, Nat.reduceSub, Nat.zero_add, if_true, if_false, eLl_2, eLi_0, eLi_1, eLi_2, eLi_3, eLi_4, eLi_5, eLi_6, eLi_7, eLi_8, eLi_9, eLi_10, eLi_11, eLi_12, eLi_13, eLa_0, eLa_1, eLa_2, eLa_3, eLa_4, eLa_5, eLa_6, eLa_7, nz_add, nz_mul, nz_sub, nz_lt, nz_le, nz_inj, zeq_nz, zne_nz, zge_nz, zgt_nz, zlt_nz, nlit0, nlit1, nlit2, nlit3, nlit4, nlit5, nlit6, nlit7, nlit8, nlit9, nlit10, nlit11, nlit12, nlit16, nlit18, nlit22, nlit31, nlit32, nlit33, nlit34, nlit40, nlit48, nlit60, nlit63, nlit64, nlit66, nlit80, nlit96, nlit114, nlit126, nlit128, nlit512, nlit756, nlit882, nlit1000, nlit1394, nlit1522, nlit1523, nlit10000, decide_true, decide_false, not_true_eq_false, not_false_eq_true, ne_eq, and_self, and_true, true_and, Bool.and_true, Bool.true_and, Bool.and_false, Bool.false_and, Bool.or_false, Bool.false_or, Bool.or_true, Bool.true_or, Bool.not_true, Bool.not_false, (gd_t0 hb), (rf_t0_0 hb), (rf_t0_1 hb), (rf_t0_2 hb), (rf_t0_3 hb), (rf_t0_4 hb), (rf_t0_5 hb), (rd_t0_6 hb), (wr_t0_6 hb), (rd_t0_7 hb), (wr_t0_7 hb), (rf_t0_8 hb), (rf_t0_9 hb), (gd_t1 hb), (rd_t1_0 hb), (wr_t1_0 hb), (rd_t1_1 hb), (wr_t1_1 hb), (rd_t1_2 hb), (wr_t1_2 hb), (rf_t1_3 hb), (rf_t1_4 hb), (ar_t2 hb), (aw_t2 hb), (an_t2 hb), (ar_t3 hb), (aw_t3 hb), (an_t3 hb), (gd_t4 hb), (rd_t4_0 hb), (wr_t4_0 hb), (rf_t4_1 hb), (ar_t5 hb), (aw_t5 hb), (an_t5 hb), (gd_t6 hb), (rd_t6_0 hb), (wr_t6_0 hb), (rd_t6_1 hb), (wr_t6_1 hb), (rf_t6_2 hb), (ar_t7 hb), (aw_t7 hb), (an_t7 hb), (gd_t8 hb), (rf_t8_0 hb), (rf_t8_1 hb), (ar_t9 hb), (aw_t9 hb), (an_t9 hb), (ar_t10 hb), (aw_t10 hb), (an_t10 hb), (ar_t11 hb), (aw_t11 hb), (an_t11 hb), (ar_t12 hb), (aw_t12 hb), (an_t12 hb), (ar_t13 hb), (aw_t13 hb), (an_t13 hb), (ar_t14 hb), (aw_t14 hb), (an_t14 hb), xs, zn, x1, b1, d1, x2, w0, b2, d2, x3, b3, d3]
    | false =>
    cases d4 : decide ((hN S : Int) ≤ (qr : Int) + dr) with
    | true =>
      have hcs : csB S k dc dr = false := by
        cases z : csB S k dc dr with
        | false => rfl
        | true =>
          have := ((cs_iff hw hk).mp z).2 qc qr q1 q2 q3
          have d1 := of_decide_eq_true d4
          omega
      rw [hcs]
      unfold f_X1_canMoveBody
      simp (disch := omega) only [mth_w, kR_w, kR_if, sQ_v, sN_v, sTi_v, sTa_v, sTl_v, sR_v, sRv_v, sX_v, sPi_v, sPo_v, sPz_w, zP_b, sRz_w, zR_bw, zR_0w, zR_1w, sPa_v, sAi_v, sAl_v, sAo_v, sAa_v, sM_w, sMp_w, eM_w, sIf_w, eIf_w, cAnd_w, cOr_w, cB_v, cZ_v, cNot_v, eC_v, eI_v, eJ_v, eOp_v, eQ_v, eU_v, eIL_v, eLO_v, eLS_v, eLC_v, eGi_v, eGa_v, eZ_w, eAi_v, eAl_v, eAa_v, eAn_v, aN_v, aI_v, aA_v, sInc_v, sB_okw, sB_xw, eS_okw, eS_xw, eB_okw, eB_xw, oE_w, oS_w, kI_iw, kI_xw, kV_w, kV_xw, kP_iw, kP_xw, List.set_cons_zero, List.set_cons_succ, List.cons_append, List.nil_append, List.length_cons, List.length_nil, List.replicate_succ, List.replicate_zero, List.append_nil, bif_and, bif_or, zne_b01, zeq_b01, bif_d, cond_true, cond_false, nar_0, o_iadd, o_isub, o_imul, c_eq, c_ne, c_lt, c_ge, c_gt, c_le, Nat.reduceAdd, Nat.reduceSub, Nat.zero_add, if_true, if_false, eLl_2, eLi_0, eLi_1, eLi_2, eLi_3, eLi_4, eLi_5, eLi_6, eLi_7, eLi_8, eLi_9, eLi_10, eLi_11, eLi_12, eLi_13, eLa_0, eLa_1, eLa_2, eLa_3, eLa_4, eLa_5, eLa_6, eLa_7, nz_add, nz_mul, nz_sub, nz_lt, nz_le, nz_inj, zeq_nz, zne_nz, zge_nz, zgt_nz, zlt_nz, nlit0, nlit1, nlit2, nlit3, nlit4, nlit5, nlit6, nlit7, nlit8, nlit9, nlit10, nlit11, nlit12, nlit16, nlit18, nlit22, nlit31, nlit32, nlit33, nlit34, nlit40, nlit48, nlit60, nlit63, nlit64, nlit66, nlit80, nlit96, nlit114, nlit126, nlit128, nlit512, nlit756, nlit882, nlit1000, nlit1394, nlit1522, nlit1523, nlit10000, decide_true, decide_false, not_true_eq_false, not_false_eq_true, ne_eq, and_self, and_true, true_and, Bool.and_true, Bool.true_and, Bool.and_false, Bool.false_and, Bool.or_false, Bool.false_or, Bool.or_true, Bool.true_or, Bool.not_true, Bool.not_false, (gd_t0 hb), (rf_t0_0 hb), (rf_t0_1 hb), (rf_t0_2 hb), (rf_t0_3 hb), (rf_t0_4 hb), (rf_t0_5 hb), (rd_t0_6 hb), (wr_t0_6 hb), (rd_t0_7 hb), (wr_t0_7 hb), (rf_t0_8 hb), (rf_t0_9 hb), (gd_t1 hb), (rd_t1_0 hb), (wr_t1_0 hb), (rd_t1_1 hb), (wr_t1_1 hb), (rd_t1_2 hb), (wr_t1_2 hb), (rf_t1_3 hb), (rf_t1_4 hb), (ar_t2 hb), (aw_t2 hb), (an_t2 hb), (ar_t3 hb), (aw_t3 hb), (an_t3 hb), (gd_t4 hb), (rd_t4_0 hb), (wr_t4_0 hb), (rf_t4_1 hb), (ar_t5 hb), (aw_t5 hb), (an_t5 hb), (gd_t6 hb), (rd_t6_0 hb), (wr_t6_0 hb), (rd_t6_1 hb), (wr_t6_1 hb), (rf_t6_2 hb), (ar_t7 hb), (aw_t7 hb), (an_t7 hb), (gd_t8 hb), (rf_t8_0 hb), (rf_t8_1 hb), (ar_t9 hb), (aw_t9 hb), (an_t9 hb), (ar_t10 hb), (aw_t10 hb), (an_t10 hb), (ar_t11 hb), (aw_t11 hb), (an_t11 hb), (ar_t12 hb), (aw_t12 hb), (an_t12 hb), (ar_t13 hb), (aw_t13 hb), (an_t13 hb), (ar_t14 hb), (aw_t14 hb), (an_t14 hb), xs, zn, x1, b1, d1, x2, w0, b2, d2, x3, b3, d3, x4, w1, b4, d4]
    | false =>
    unfold f_X1_canMoveBody
    simp (disch := omega) only [mth_w, kR_w, kR_if, sQ_v, sN_v, sTi_v, sTa_v, sTl_v, sR_v, sRv_v, sX_v, sPi_v, sPo_v, sPz_w, zP_b, sRz_w, zR_bw, zR_0w, zR_1w, sPa_v, sAi_v, sAl_v, sAo_v, sAa_v, sM_w, sMp_w, eM_w, sIf_w, eIf_w, cAnd_w, cOr_w, cB_v, cZ_v, cNot_v, eC_v, eI_v, eJ_v, eOp_v, eQ_v, eU_v, eIL_v, eLO_v, eLS_v, eLC_v, eGi_v, eGa_v, eZ_w, eAi_v, eAl_v, eAa_v, eAn_v, aN_v, aI_v, aA_v, sInc_v, sB_okw, sB_xw, eS_okw, eS_xw, eB_okw, eB_xw, oE_w, oS_w, kI_iw, kI_xw, kV_w, kV_xw, kP_iw, kP_xw, List.set_cons_zero, List.set_cons_succ, List.cons_append, List.nil_append, List.length_cons, List.length_nil, List.replicate_succ, List.replicate_zero, List.append_nil, bif_and, bif_or, zne_b01, zeq_b01, bif_d, cond_true, cond_false, nar_0, o_iadd, o_isub, o_imul, c_eq, c_ne, c_lt, c_ge, c_gt, c_le, Nat.reduceAdd, Nat.reduceSub, Nat.zero_add, if_true, if_false, eLl_2, eLi_0, eLi_1, eLi_2, eLi_3, eLi_4, eLi_5, eLi_6, eLi_7, eLi_8, eLi_9, eLi_10, eLi_11, eLi_12, eLi_13, eLa_0, eLa_1, eLa_2, eLa_3, eLa_4, eLa_5, eLa_6, eLa_7, nz_add, nz_mul, nz_sub, nz_lt, nz_le, nz_inj, zeq_nz, zne_nz, zge_nz, zgt_nz, zlt_nz, nlit0, nlit1, nlit2, nlit3, nlit4, nlit5, nlit6, nlit7, nlit8, nlit9, nlit10, nlit11, nlit12, nlit16, nlit18, nlit22, nlit31, nlit32, nlit33, nlit34, nlit40, nlit48, nlit60, nlit63, nlit64, nlit66, nlit80, nlit96, nlit114, nlit126, nlit128, nlit512, nlit756, nlit882, nlit1000, nlit1394, nlit1522, nlit1523, nlit10000, decide_true, decide_false, not_true_eq_false, not_false_eq_true, ne_eq, and_self, and_true, true_and, Bool.and_true, Bool.true_and, Bool.and_false, Bool.false_and, Bool.or_false, Bool.false_or, Bool.or_true, Bool.true_or, Bool.not_true, Bool.not_false, (gd_t0 hb), (rf_t0_0 hb), (rf_t0_1 hb), (rf_t0_2 hb), (rf_t0_3 hb), (rf_t0_4 hb), (rf_t0_5 hb), (rd_t0_6 hb), (wr_t0_6 hb), (rd_t0_7 hb), (wr_t0_7 hb), (rf_t0_8 hb), (rf_t0_9 hb), (gd_t1 hb), (rd_t1_0 hb), (wr_t1_0 hb), (rd_t1_1 hb), (wr_t1_1 hb), (rd_t1_2 hb), (wr_t1_2 hb), (rf_t1_3 hb), (rf_t1_4 hb), (ar_t2 hb), (aw_t2 hb), (an_t2 hb), (ar_t3 hb), (aw_t3 hb), (an_t3 hb), (gd_t4 hb), (rd_t4_0 hb), (wr_t4_0 hb), (rf_t4_1 hb), (ar_t5 hb), (aw_t5 hb), (an_t5 hb), (gd_t6 hb), (rd_t6_0 hb), (wr_t6_0 hb), (rd_t6_1 hb), (wr_t6_1 hb), (rf_t6_2 hb), (ar_t7 hb), (aw_t7 hb), (an_t7 hb), (gd_t8 hb), (rf_t8_0 hb), (rf_t8_1 hb), (ar_t9 hb), (aw_t9 hb), (an_t9 hb), (ar_t10 hb), (aw_t10 hb), (an_t10 hb), (ar_t11 hb), (aw_t11 hb), (an_t11 hb), (ar_t12 hb), (aw_t12 hb), (an_t12 hb), (ar_t13 hb), (aw_t13 hb), (an_t13 hb), (ar_t14 hb), (aw_t14 hb), (an_t14 hb), xs, zn, x1, b1, d1, x2, w0, b2, d2, x3, b3, d3, x4, w1, b4, d4]
    have k1 := of_decide_eq_false d1
    have k2 := of_decide_eq_false d2
    have k3 := of_decide_eq_false d3
    have k4 := of_decide_eq_false d4
    generalize hR : sLp _ _ NF _ _ = R
    have sol : ∀ r, r < hN S → f_X1_solidColumns [.ref (b + 1), .int (nz r)] (HM e m w) = some (HM e m w, .inl (some (.int (orr (fun k => m (b + 3) (r * 6 + k)) 6)))) := fun r hr => e_solidColumns hb (by omega)
    have occ : ∀ r, r < hN S → f_X1_occupiedColumns [.ref (b + 1), .int (nz r)] (HM e m w) = some (HM e m w, .inl (some (.int (orr (fun k => m (b + 2) (r * 6 + k)) 6)))) := fun r hr => e_occupiedColumns hb (by omega)
    have res := sLp_wpR hR (fun r l h => ∃ y5 y6 y7, l = [.ref (b + 1), .int (nz k), .int (zz dc), .int (zz dr), .int (nz r), y5, y6, y7] ∧ h = HM e m w ∧ ∀ i, i < r → 0 ≤ (i : Int) - dr → (i : Int) - dr < hN S → z_ne (badW m b k dc ((i : Int) - dr).toNat i) = false) (fun h' x => h' = HM e m w ∧ x = .inl (some (.int (nz 0))) ∧ ∃ i : Nat, i < hN S ∧ 0 ≤ (i : Int) - dr ∧ (i : Int) - dr < hN S ∧ z_ne (badW m b k dc ((i : Int) - dr).toNat i) = true) (hN S) (NF_lt (by omega)) (fun r l h hr hQ => by
      obtain ⟨y5, y6, y7, rfl, rfl, hall⟩ := hQ
      refine ⟨by simp (disch := omega) only [mth_w, kR_w, kR_if, sQ_v, sN_v, sTi_v, sTa_v, sTl_v, sR_v, sRv_v, sX_v, sPi_v, sPo_v, sPz_w, zP_b, sRz_w, zR_bw, zR_0w, zR_1w, sPa_v, sAi_v, sAl_v, sAo_v, sAa_v, sM_w, sMp_w, eM_w, sIf_w, eIf_w, cAnd_w, cOr_w, cB_v, cZ_v, cNot_v, eC_v, eI_v, eJ_v, eOp_v, eQ_v, eU_v, eIL_v, eLO_v, eLS_v, eLC_v, eGi_v, eGa_v, eZ_w, eAi_v, eAl_v, eAa_v, eAn_v, aN_v, aI_v, aA_v, sInc_v, sB_okw, sB_xw, eS_okw, eS_xw, eB_okw, eB_xw, oE_w, oS_w, kI_iw, kI_xw, kV_w, kV_xw, kP_iw, kP_xw, List.set_cons_zero, List.set_cons_succ, List.cons_append, List.nil_append, List.length_cons, List.length_nil, List.replicate_succ, List.replicate_zero, List.append_nil, bif_and, bif_or, zne_b01, zeq_b01, bif_d, cond_true, cond_false, nar_0, o_iadd, o_isub, o_imul, c_eq, c_ne, c_lt, c_ge, c_gt, c_le, Nat.reduceAdd, Nat.reduceSub, Nat.zero_add, if_true, if_false, eLl_2, eLi_0, eLi_1, eLi_2, eLi_3, eLi_4, eLi_5, eLi_6, eLi_7, eLi_8, eLi_9, eLi_10, eLi_11, eLi_12, eLi_13, eLa_0, eLa_1, eLa_2, eLa_3, eLa_4, eLa_5, eLa_6, eLa_7, nz_add, nz_mul, nz_sub, nz_lt, nz_le, nz_inj, zeq_nz, zne_nz, zge_nz, zgt_nz, zlt_nz, nlit0, nlit1, nlit2, nlit3, nlit4, nlit5, nlit6, nlit7, nlit8, nlit9, nlit10, nlit11, nlit12, nlit16, nlit18, nlit22, nlit31, nlit32, nlit33, nlit34, nlit40, nlit48, nlit60, nlit63, nlit64, nlit66, nlit80, nlit96, nlit114, nlit126, nlit128, nlit512, nlit756, nlit882, nlit1000, nlit1394, nlit1522, nlit1523, nlit10000, (gd_t0 hb), (rf_t0_0 hb), (rf_t0_1 hb), (rf_t0_2 hb), (rf_t0_3 hb), (rf_t0_4 hb), (rf_t0_5 hb), (rd_t0_6 hb), (wr_t0_6 hb), (rd_t0_7 hb), (wr_t0_7 hb), (rf_t0_8 hb), (rf_t0_9 hb), (gd_t1 hb), (rd_t1_0 hb), (wr_t1_0 hb), (rd_t1_1 hb), (wr_t1_1 hb), (rd_t1_2 hb), (wr_t1_2 hb), (rf_t1_3 hb), (rf_t1_4 hb), (ar_t2 hb), (aw_t2 hb), (an_t2 hb), (ar_t3 hb), (aw_t3 hb), (an_t3 hb), (gd_t4 hb), (rd_t4_0 hb), (wr_t4_0 hb), (rf_t4_1 hb), (ar_t5 hb), (aw_t5 hb), (an_t5 hb), (gd_t6 hb), (rd_t6_0 hb), (wr_t6_0 hb), (rd_t6_1 hb), (wr_t6_1 hb), (rf_t6_2 hb), (ar_t7 hb), (aw_t7 hb), (an_t7 hb), (gd_t8 hb), (rf_t8_0 hb), (rf_t8_1 hb), (ar_t9 hb), (aw_t9 hb), (an_t9 hb), (ar_t10 hb), (aw_t10 hb), (an_t10 hb), (ar_t11 hb), (aw_t11 hb), (an_t11 hb), (ar_t12 hb), (aw_t12 hb), (an_t12 hb), (ar_t13 hb), (aw_t13 hb), (an_t13 hb), (ar_t14 hb), (aw_t14 hb), (an_t14 hb), w1, decide_eq_true hr], ?_⟩
      have hsol := sol r hr
      have hocc := occ r hr
      by_cases hin : 0 ≤ (r : Int) - dr ∧ (r : Int) - dr < hN S
      · have hF : nz r - zz dr = nz ((r : Int) - dr).toNat := by rw [nz_zz, zz_sub, zz_nz hin.1]
        generalize hFd : ((r : Int) - dr).toNat = F at hF
        have hFH : F < hN S := by omega
        cases hbad : z_ne (badW m b k dc F r) with
        | true =>
          refine Or.inr ⟨HM e m w, .inl (some (.int (nz 0))), ?_, rfl, rfl, r, hr, hin.1, hin.2, by rw [hFd]; exact hbad⟩
          unfold badW at hbad
          simp (disch := omega) only [mth_w, kR_w, kR_if, sQ_v, sN_v, sTi_v, sTa_v, sTl_v, sR_v, sRv_v, sX_v, sPi_v, sPo_v, sPz_w, zP_b, sRz_w, zR_bw, zR_0w, zR_1w, sPa_v, sAi_v, sAl_v, sAo_v, sAa_v, sM_w, sMp_w, eM_w, sIf_w, eIf_w, cAnd_w, cOr_w, cB_v, cZ_v, cNot_v, eC_v, eI_v, eJ_v, eOp_v, eQ_v, eU_v, eIL_v, eLO_v, eLS_v, eLC_v, eGi_v, eGa_v, eZ_w, eAi_v, eAl_v, eAa_v, eAn_v, aN_v, aI_v, aA_v, sInc_v, sB_okw, sB_xw, eS_okw, eS_xw, eB_okw, eB_xw, oE_w, oS_w, kI_iw, kI_xw, kV_w, kV_xw, kP_iw, kP_xw, List.set_cons_zero, List.set_cons_succ, List.cons_append, List.nil_append, List.length_cons, List.length_nil, List.replicate_succ, List.replicate_zero, List.append_nil, bif_and, bif_or, zne_b01, zeq_b01, bif_d, cond_true, cond_false, nar_0, o_iadd, o_isub, o_imul, c_eq, c_ne, c_lt, c_ge, c_gt, c_le, Nat.reduceAdd, Nat.reduceSub, Nat.zero_add, if_true, if_false, eLl_2, eLi_0, eLi_1, eLi_2, eLi_3, eLi_4, eLi_5, eLi_6, eLi_7, eLi_8, eLi_9, eLi_10, eLi_11, eLi_12, eLi_13, eLa_0, eLa_1, eLa_2, eLa_3, eLa_4, eLa_5, eLa_6, eLa_7, nz_add, nz_mul, nz_sub, nz_lt, nz_le, nz_inj, zeq_nz, zne_nz, zge_nz, zgt_nz, zlt_nz, nlit0, nlit1, nlit2, nlit3, nlit4, nlit5, nlit6, nlit7, nlit8, nlit9, nlit10, nlit11, nlit12, nlit16, nlit18, nlit22, nlit31, nlit32, nlit33, nlit34, nlit40, nlit48, nlit60, nlit63, nlit64, nlit66, nlit80, nlit96, nlit114, nlit126, nlit128, nlit512, nlit756, nlit882, nlit1000, nlit1394, nlit1522, nlit1523, nlit10000, decide_true, decide_false, not_true_eq_false, not_false_eq_true, ne_eq, and_self, and_true, true_and, Bool.and_true, Bool.true_and, Bool.and_false, Bool.false_and, Bool.or_false, Bool.false_or, Bool.or_true, Bool.true_or, Bool.not_true, Bool.not_false, (gd_t0 hb), (rf_t0_0 hb), (rf_t0_1 hb), (rf_t0_2 hb), (rf_t0_3 hb), (rf_t0_4 hb), (rf_t0_5 hb), (rd_t0_6 hb), (wr_t0_6 hb), (rd_t0_7 hb), (wr_t0_7 hb), (rf_t0_8 hb), (rf_t0_9 hb), (gd_t1 hb), (rd_t1_0 hb), (wr_t1_0 hb), (rd_t1_1 hb), (wr_t1_1 hb), (rd_t1_2 hb), (wr_t1_2 hb), (rf_t1_3 hb), (rf_t1_4 hb), (ar_t2 hb), (aw_t2 hb), (an_t2 hb), (ar_t3 hb), (aw_t3 hb), (an_t3 hb), (gd_t4 hb), (rd_t4_0 hb), (wr_t4_0 hb), (rf_t4_1 hb), (ar_t5 hb), (aw_t5 hb), (an_t5 hb), (gd_t6 hb), (rd_t6_0 hb), (wr_t6_0 hb), (rd_t6_1 hb), (wr_t6_1 hb), (rf_t6_2 hb), (ar_t7 hb), (aw_t7 hb), (an_t7 hb), (gd_t8 hb), (rf_t8_0 hb), (rf_t8_1 hb), (ar_t9 hb), (aw_t9 hb), (an_t9 hb), (ar_t10 hb), (aw_t10 hb), (an_t10 hb), (ar_t11 hb), (aw_t11 hb), (an_t11 hb), (ar_t12 hb), (aw_t12 hb), (an_t12 hb), (ar_t13 hb), (aw_t13 hb), (an_t13 hb), (ar_t14 hb), (aw_t14 hb), (an_t14 hb), w1, hF, decide_eq_true hFH, e_pushed (show -31 ≤ dc by omega) (show dc ≤ 31 by omega), hsol, hocc, hbad]
          rfl
        | false =>
          refine Or.inl ⟨[.ref (b + 1), .int (nz k), .int (zz dc), .int (zz dr), .int (nz (r + 1)), .int (nz F), .int (psh (m (b + 3) (F * 6 + k)) dc), .int (o_iand (orr (fun k => m (b + 3) (r * 6 + k)) 6) (o_ixor (m (b + 3) (r * 6 + k)) (-nz 1)))], HM e m w, ?_, _, _, _, rfl, rfl, fun i hi h1 h2 => ?_⟩
          · unfold badW at hbad
            simp (disch := omega) only [mth_w, kR_w, kR_if, sQ_v, sN_v, sTi_v, sTa_v, sTl_v, sR_v, sRv_v, sX_v, sPi_v, sPo_v, sPz_w, zP_b, sRz_w, zR_bw, zR_0w, zR_1w, sPa_v, sAi_v, sAl_v, sAo_v, sAa_v, sM_w, sMp_w, eM_w, sIf_w, eIf_w, cAnd_w, cOr_w, cB_v, cZ_v, cNot_v, eC_v, eI_v, eJ_v, eOp_v, eQ_v, eU_v, eIL_v, eLO_v, eLS_v, eLC_v, eGi_v, eGa_v, eZ_w, eAi_v, eAl_v, eAa_v, eAn_v, aN_v, aI_v, aA_v, sInc_v, sB_okw, sB_xw, eS_okw, eS_xw, eB_okw, eB_xw, oE_w, oS_w, kI_iw, kI_xw, kV_w, kV_xw, kP_iw, kP_xw, List.set_cons_zero, List.set_cons_succ, List.cons_append, List.nil_append, List.length_cons, List.length_nil, List.replicate_succ, List.replicate_zero, List.append_nil, bif_and, bif_or, zne_b01, zeq_b01, bif_d, cond_true, cond_false, nar_0, o_iadd, o_isub, o_imul, c_eq, c_ne, c_lt, c_ge, c_gt, c_le, Nat.reduceAdd, Nat.reduceSub, Nat.zero_add, if_true, if_false, eLl_2, eLi_0, eLi_1, eLi_2, eLi_3, eLi_4, eLi_5, eLi_6, eLi_7, eLi_8, eLi_9, eLi_10, eLi_11, eLi_12, eLi_13, eLa_0, eLa_1, eLa_2, eLa_3, eLa_4, eLa_5, eLa_6, eLa_7, nz_add, nz_mul, nz_sub, nz_lt, nz_le, nz_inj, zeq_nz, zne_nz, zge_nz, zgt_nz, zlt_nz, nlit0, nlit1, nlit2, nlit3, nlit4, nlit5, nlit6, nlit7, nlit8, nlit9, nlit10, nlit11, nlit12, nlit16, nlit18, nlit22, nlit31, nlit32, nlit33, nlit34, nlit40, nlit48, nlit60, nlit63, nlit64, nlit66, nlit80, nlit96, nlit114, nlit126, nlit128, nlit512, nlit756, nlit882, nlit1000, nlit1394, nlit1522, nlit1523, nlit10000, decide_true, decide_false, not_true_eq_false, not_false_eq_true, ne_eq, and_self, and_true, true_and, Bool.and_true, Bool.true_and, Bool.and_false, Bool.false_and, Bool.or_false, Bool.false_or, Bool.or_true, Bool.true_or, Bool.not_true, Bool.not_false, (gd_t0 hb), (rf_t0_0 hb), (rf_t0_1 hb), (rf_t0_2 hb), (rf_t0_3 hb), (rf_t0_4 hb), (rf_t0_5 hb), (rd_t0_6 hb), (wr_t0_6 hb), (rd_t0_7 hb), (wr_t0_7 hb), (rf_t0_8 hb), (rf_t0_9 hb), (gd_t1 hb), (rd_t1_0 hb), (wr_t1_0 hb), (rd_t1_1 hb), (wr_t1_1 hb), (rd_t1_2 hb), (wr_t1_2 hb), (rf_t1_3 hb), (rf_t1_4 hb), (ar_t2 hb), (aw_t2 hb), (an_t2 hb), (ar_t3 hb), (aw_t3 hb), (an_t3 hb), (gd_t4 hb), (rd_t4_0 hb), (wr_t4_0 hb), (rf_t4_1 hb), (ar_t5 hb), (aw_t5 hb), (an_t5 hb), (gd_t6 hb), (rd_t6_0 hb), (wr_t6_0 hb), (rd_t6_1 hb), (wr_t6_1 hb), (rf_t6_2 hb), (ar_t7 hb), (aw_t7 hb), (an_t7 hb), (gd_t8 hb), (rf_t8_0 hb), (rf_t8_1 hb), (ar_t9 hb), (aw_t9 hb), (an_t9 hb), (ar_t10 hb), (aw_t10 hb), (an_t10 hb), (ar_t11 hb), (aw_t11 hb), (an_t11 hb), (ar_t12 hb), (aw_t12 hb), (an_t12 hb), (ar_t13 hb), (aw_t13 hb), (an_t13 hb), (ar_t14 hb), (aw_t14 hb), (an_t14 hb), w1, hF, decide_eq_true hFH, e_pushed (show -31 ≤ dc by omega) (show dc ≤ 31 by omega), hsol, hocc, hbad]
          · by_cases z : i = r
            · subst z
              rw [hFd]
              exact hbad
            · exact hall i (by omega) h1 h2
      · have hF : nz r - zz dr = zz ((r : Int) - dr) := by rw [nz_zz, zz_sub]
        have hout : (z_ge (zz ((r : Int) - dr)) && decide (zz ((r : Int) - dr) < nz (hN S))) = false := by
          rw [zge_zz (by omega) (by omega), nz_zz, show decide (zz ((r : Int) - dr) < zz (hN S : Int)) = decide ((r : Int) - dr < hN S) from decide_eq_decide.mpr (by rw [zz_lt (by omega) (by omega) (by omega) (by omega)])]
          cases hd1 : decide (0 ≤ (r : Int) - dr) with
          | false => rfl
          | true =>
            rw [Bool.true_and, decide_eq_false_iff_not]
            exact fun z => hin ⟨of_decide_eq_true hd1, z⟩
        refine Or.inl ⟨[.ref (b + 1), .int (nz k), .int (zz dc), .int (zz dr), .int (nz (r + 1)), .int (zz ((r : Int) - dr)), y6, y7], HM e m w, ?_, _, _, _, rfl, rfl, fun i hi h1 h2 => ?_⟩
        · simp (disch := omega) only [mth_w, kR_w, kR_if, sQ_v, sN_v, sTi_v, sTa_v, sTl_v, sR_v, sRv_v, sX_v, sPi_v, sPo_v, sPz_w, zP_b, sRz_w, zR_bw, zR_0w, zR_1w, sPa_v, sAi_v, sAl_v, sAo_v, sAa_v, sM_w, sMp_w, eM_w, sIf_w, eIf_w, cAnd_w, cOr_w, cB_v, cZ_v, cNot_v, eC_v, eI_v, eJ_v, eOp_v, eQ_v, eU_v, eIL_v, eLO_v, eLS_v, eLC_v, eGi_v, eGa_v, eZ_w, eAi_v, eAl_v, eAa_v, eAn_v, aN_v, aI_v, aA_v, sInc_v, sB_okw, sB_xw, eS_okw, eS_xw, eB_okw, eB_xw, oE_w, oS_w, kI_iw, kI_xw, kV_w, kV_xw, kP_iw, kP_xw, List.set_cons_zero, List.set_cons_succ, List.cons_append, List.nil_append, List.length_cons, List.length_nil, List.replicate_succ, List.replicate_zero, List.append_nil, bif_and, bif_or, zne_b01, zeq_b01, bif_d, cond_true, cond_false, nar_0, o_iadd, o_isub, o_imul, c_eq, c_ne, c_lt, c_ge, c_gt, c_le, Nat.reduceAdd, Nat.reduceSub, Nat.zero_add, if_true, if_false, eLl_2, eLi_0, eLi_1, eLi_2, eLi_3, eLi_4, eLi_5, eLi_6, eLi_7, eLi_8, eLi_9, eLi_10, eLi_11, eLi_12, eLi_13, eLa_0, eLa_1, eLa_2, eLa_3, eLa_4, eLa_5, eLa_6, eLa_7, nz_add, nz_mul, nz_sub, nz_lt, nz_le, nz_inj, zeq_nz, zne_nz, zge_nz, zgt_nz, zlt_nz, nlit0, nlit1, nlit2, nlit3, nlit4, nlit5, nlit6, nlit7, nlit8, nlit9, nlit10, nlit11, nlit12, nlit16, nlit18, nlit22, nlit31, nlit32, nlit33, nlit34, nlit40, nlit48, nlit60, nlit63, nlit64, nlit66, nlit80, nlit96, nlit114, nlit126, nlit128, nlit512, nlit756, nlit882, nlit1000, nlit1394, nlit1522, nlit1523, nlit10000, decide_true, decide_false, not_true_eq_false, not_false_eq_true, ne_eq, and_self, and_true, true_and, Bool.and_true, Bool.true_and, Bool.and_false, Bool.false_and, Bool.or_false, Bool.false_or, Bool.or_true, Bool.true_or, Bool.not_true, Bool.not_false, (gd_t0 hb), (rf_t0_0 hb), (rf_t0_1 hb), (rf_t0_2 hb), (rf_t0_3 hb), (rf_t0_4 hb), (rf_t0_5 hb), (rd_t0_6 hb), (wr_t0_6 hb), (rd_t0_7 hb), (wr_t0_7 hb), (rf_t0_8 hb), (rf_t0_9 hb), (gd_t1 hb), (rd_t1_0 hb), (wr_t1_0 hb), (rd_t1_1 hb), (wr_t1_1 hb), (rd_t1_2 hb), (wr_t1_2 hb), (rf_t1_3 hb), (rf_t1_4 hb), (ar_t2 hb), (aw_t2 hb), (an_t2 hb), (ar_t3 hb), (aw_t3 hb), (an_t3 hb), (gd_t4 hb), (rd_t4_0 hb), (wr_t4_0 hb), (rf_t4_1 hb), (ar_t5 hb), (aw_t5 hb), (an_t5 hb), (gd_t6 hb), (rd_t6_0 hb), (wr_t6_0 hb), (rd_t6_1 hb), (wr_t6_1 hb), (rf_t6_2 hb), (ar_t7 hb), (aw_t7 hb), (an_t7 hb), (gd_t8 hb), (rf_t8_0 hb), (rf_t8_1 hb), (ar_t9 hb), (aw_t9 hb), (an_t9 hb), (ar_t10 hb), (aw_t10 hb), (an_t10 hb), (ar_t11 hb), (aw_t11 hb), (an_t11 hb), (ar_t12 hb), (aw_t12 hb), (an_t12 hb), (ar_t13 hb), (aw_t13 hb), (an_t13 hb), (ar_t14 hb), (aw_t14 hb), (an_t14 hb), w1, hF, hout]
        · by_cases z : i = r
          · subst z
            exact absurd ⟨h1, h2⟩ hin
          · exact hall i (by omega) h1 h2) (fun l h hQ => by
      obtain ⟨y5, y6, y7, rfl, rfl, hall⟩ := hQ
      simp (disch := omega) only [mth_w, kR_w, kR_if, sQ_v, sN_v, sTi_v, sTa_v, sTl_v, sR_v, sRv_v, sX_v, sPi_v, sPo_v, sPz_w, zP_b, sRz_w, zR_bw, zR_0w, zR_1w, sPa_v, sAi_v, sAl_v, sAo_v, sAa_v, sM_w, sMp_w, eM_w, sIf_w, eIf_w, cAnd_w, cOr_w, cB_v, cZ_v, cNot_v, eC_v, eI_v, eJ_v, eOp_v, eQ_v, eU_v, eIL_v, eLO_v, eLS_v, eLC_v, eGi_v, eGa_v, eZ_w, eAi_v, eAl_v, eAa_v, eAn_v, aN_v, aI_v, aA_v, sInc_v, sB_okw, sB_xw, eS_okw, eS_xw, eB_okw, eB_xw, oE_w, oS_w, kI_iw, kI_xw, kV_w, kV_xw, kP_iw, kP_xw, List.set_cons_zero, List.set_cons_succ, List.cons_append, List.nil_append, List.length_cons, List.length_nil, List.replicate_succ, List.replicate_zero, List.append_nil, bif_and, bif_or, zne_b01, zeq_b01, bif_d, cond_true, cond_false, nar_0, o_iadd, o_isub, o_imul, c_eq, c_ne, c_lt, c_ge, c_gt, c_le, Nat.reduceAdd, Nat.reduceSub, Nat.zero_add, if_true, if_false, eLl_2, eLi_0, eLi_1, eLi_2, eLi_3, eLi_4, eLi_5, eLi_6, eLi_7, eLi_8, eLi_9, eLi_10, eLi_11, eLi_12, eLi_13, eLa_0, eLa_1, eLa_2, eLa_3, eLa_4, eLa_5, eLa_6, eLa_7, nz_add, nz_mul, nz_sub, nz_lt, nz_le, nz_inj, zeq_nz, zne_nz, zge_nz, zgt_nz, zlt_nz, nlit0, nlit1, nlit2, nlit3, nlit4, nlit5, nlit6, nlit7, nlit8, nlit9, nlit10, nlit11, nlit12, nlit16, nlit18, nlit22, nlit31, nlit32, nlit33, nlit34, nlit40, nlit48, nlit60, nlit63, nlit64, nlit66, nlit80, nlit96, nlit114, nlit126, nlit128, nlit512, nlit756, nlit882, nlit1000, nlit1394, nlit1522, nlit1523, nlit10000, (gd_t0 hb), (rf_t0_0 hb), (rf_t0_1 hb), (rf_t0_2 hb), (rf_t0_3 hb), (rf_t0_4 hb), (rf_t0_5 hb), (rd_t0_6 hb), (wr_t0_6 hb), (rd_t0_7 hb), (wr_t0_7 hb), (rf_t0_8 hb), (rf_t0_9 hb), (gd_t1 hb), (rd_t1_0 hb), (wr_t1_0 hb), (rd_t1_1 hb), (wr_t1_1 hb), (rd_t1_2 hb), (wr_t1_2 hb), (rf_t1_3 hb), (rf_t1_4 hb), (ar_t2 hb), (aw_t2 hb), (an_t2 hb), (ar_t3 hb), (aw_t3 hb), (an_t3 hb), (gd_t4 hb), (rd_t4_0 hb), (wr_t4_0 hb), (rf_t4_1 hb), (ar_t5 hb), (aw_t5 hb), (an_t5 hb), (gd_t6 hb), (rd_t6_0 hb), (wr_t6_0 hb), (rd_t6_1 hb), (wr_t6_1 hb), (rf_t6_2 hb), (ar_t7 hb), (aw_t7 hb), (an_t7 hb), (gd_t8 hb), (rf_t8_0 hb), (rf_t8_1 hb), (ar_t9 hb), (aw_t9 hb), (an_t9 hb), (ar_t10 hb), (aw_t10 hb), (an_t10 hb), (ar_t11 hb), (aw_t11 hb), (an_t11 hb), (ar_t12 hb), (aw_t12 hb), (an_t12 hb), (ar_t13 hb), (aw_t13 hb), (an_t13 hb), (ar_t14 hb), (aw_t14 hb), (an_t14 hb), w1]
      simp) ⟨_, _, _, rfl, rfl, fun i hi => absurd hi (Nat.not_lt_zero i)⟩
    rcases res with ⟨l', h', hq, y5, y6, y7, rfl, rfl, hall⟩ | ⟨h', x, hq, rfl, rfl, i, hi, h1, h2, h3⟩
    · have hcs : csB S k dc dr = true := (cs_iff hw hk).mpr ⟨hex, fun c r hc hr hb1 => by
        have a1 := f5 c ⟨c, r, hc, hr, hb1, rfl⟩
        have a2 := l5 c ⟨c, r, hc, hr, hb1, rfl⟩
        have a3 := g5 r ⟨c, r, hc, hr, hb1, rfl⟩
        have a4 := q5 r ⟨c, r, hc, hr, hb1, rfl⟩
        refine ⟨by omega, by omega, ?_⟩
        refine Classical.byContradiction fun z => ?_
        have hgood := hall ((r : Int) + dr).toNat (by omega) (by omega) (by omega)
        have hF : ((((r : Int) + dr).toNat : Nat) : Int) - dr = r := by omega
        rw [hF, Int.toNat_natCast] at hgood
        have hC : ((((c : Int) + dc).toNat : Nat) : Int) - dc = c := by omega
        have hbad := (bad_iff hw hT hk c1 c2 (F := r) (r := ((r : Int) + dr).toNat) (by omega) (by omega)).mpr ⟨((c : Int) + dc).toNat, by omega, by omega, by omega, by rw [hC, Int.toNat_natCast]; exact hb1, z⟩
        rw [hbad] at hgood
        exact absurd hgood (by decide)⟩
      rw [hq, hcs]
      simp (disch := omega) only [mth_w, kR_w, kR_if, sQ_v, sN_v, sTi_v, sTa_v, sTl_v, sR_v, sRv_v, sX_v, sPi_v, sPo_v, sPz_w, zP_b, sRz_w, zR_bw, zR_0w, zR_1w, sPa_v, sAi_v, sAl_v, sAo_v, sAa_v, sM_w, sMp_w, eM_w, sIf_w, eIf_w, cAnd_w, cOr_w, cB_v, cZ_v, cNot_v, eC_v, eI_v, eJ_v, eOp_v, eQ_v, eU_v, eIL_v, eLO_v, eLS_v, eLC_v, eGi_v, eGa_v, eZ_w, eAi_v, eAl_v, eAa_v, eAn_v, aN_v, aI_v, aA_v, sInc_v, sB_okw, sB_xw, eS_okw, eS_xw, eB_okw, eB_xw, oE_w, oS_w, kI_iw, kI_xw, kV_w, kV_xw, kP_iw, kP_xw, List.set_cons_zero, List.set_cons_succ, List.cons_append, List.nil_append, List.length_cons, List.length_nil, List.replicate_succ, List.replicate_zero, List.append_nil, bif_and, bif_or, zne_b01, zeq_b01, bif_d, cond_true, cond_false, nar_0, o_iadd, o_isub, o_imul, c_eq, c_ne, c_lt, c_ge, c_gt, c_le, Nat.reduceAdd, Nat.reduceSub, Nat.zero_add, if_true, if_false, eLl_2, eLi_0, eLi_1, eLi_2, eLi_3, eLi_4, eLi_5, eLi_6, eLi_7, eLi_8, eLi_9, eLi_10, eLi_11, eLi_12, eLi_13, eLa_0, eLa_1, eLa_2, eLa_3, eLa_4, eLa_5, eLa_6, eLa_7, nz_add, nz_mul, nz_sub, nz_lt, nz_le, nz_inj, zeq_nz, zne_nz, zge_nz, zgt_nz, zlt_nz, nlit0, nlit1, nlit2, nlit3, nlit4, nlit5, nlit6, nlit7, nlit8, nlit9, nlit10, nlit11, nlit12, nlit16, nlit18, nlit22, nlit31, nlit32, nlit33, nlit34, nlit40, nlit48, nlit60, nlit63, nlit64, nlit66, nlit80, nlit96, nlit114, nlit126, nlit128, nlit512, nlit756, nlit882, nlit1000, nlit1394, nlit1522, nlit1523, nlit10000]
    · have hcs : csB S k dc dr = false := by
        cases z : csB S k dc dr with
        | false => rfl
        | true =>
          obtain ⟨c, hc, hc0, hc3, hbq, hn⟩ := (bad_iff hw hT hk c1 c2 (F := ((i : Int) - dr).toNat) (r := i) (by omega) (by omega)).mp h3
          have hcl : ((c : Int) - dc).toNat < wN S ∧ ((i : Int) - dr).toNat < hN S := Classical.byContradiction fun y => by
            rw [(hw.2.2.2.2.2.2.1 _ (by omega) _ hc3).2 y, bq_0 k hk] at hbq
            exact absurd hbq (by decide)
          obtain ⟨z1, z2, z3⟩ := ((cs_iff hw hk).mp z).2 _ _ hcl.1 hcl.2 hbq
          have hC : ((((c : Int) - dc).toNat : Nat) : Int) + dc = c := by omega
          have hF : ((((i : Int) - dr).toNat : Nat) : Int) + dr = i := by omega
          rw [hC, hF, Int.toNat_natCast, Int.toNat_natCast] at z3
          exact absurd z3 hn
      rw [hq, hcs]
      simp (disch := omega) only [mth_w, kR_w, kR_if, sQ_v, sN_v, sTi_v, sTa_v, sTl_v, sR_v, sRv_v, sX_v, sPi_v, sPo_v, sPz_w, zP_b, sRz_w, zR_bw, zR_0w, zR_1w, sPa_v, sAi_v, sAl_v, sAo_v, sAa_v, sM_w, sMp_w, eM_w, sIf_w, eIf_w, cAnd_w, cOr_w, cB_v, cZ_v, cNot_v, eC_v, eI_v, eJ_v, eOp_v, eQ_v, eU_v, eIL_v, eLO_v, eLS_v, eLC_v, eGi_v, eGa_v, eZ_w, eAi_v, eAl_v, eAa_v, eAn_v, aN_v, aI_v, aA_v, sInc_v, sB_okw, sB_xw, eS_okw, eS_xw, eB_okw, eB_xw, oE_w, oS_w, kI_iw, kI_xw, kV_w, kV_xw, kP_iw, kP_xw, List.set_cons_zero, List.set_cons_succ, List.cons_append, List.nil_append, List.length_cons, List.length_nil, List.replicate_succ, List.replicate_zero, List.append_nil, bif_and, bif_or, zne_b01, zeq_b01, bif_d, cond_true, cond_false, nar_0, o_iadd, o_isub, o_imul, c_eq, c_ne, c_lt, c_ge, c_gt, c_le, Nat.reduceAdd, Nat.reduceSub, Nat.zero_add, if_true, if_false, eLl_2, eLi_0, eLi_1, eLi_2, eLi_3, eLi_4, eLi_5, eLi_6, eLi_7, eLi_8, eLi_9, eLi_10, eLi_11, eLi_12, eLi_13, eLa_0, eLa_1, eLa_2, eLa_3, eLa_4, eLa_5, eLa_6, eLa_7, nz_add, nz_mul, nz_sub, nz_lt, nz_le, nz_inj, zeq_nz, zne_nz, zge_nz, zgt_nz, zlt_nz, nlit0, nlit1, nlit2, nlit3, nlit4, nlit5, nlit6, nlit7, nlit8, nlit9, nlit10, nlit11, nlit12, nlit16, nlit18, nlit22, nlit31, nlit32, nlit33, nlit34, nlit40, nlit48, nlit60, nlit63, nlit64, nlit66, nlit80, nlit96, nlit114, nlit126, nlit128, nlit512, nlit756, nlit882, nlit1000, nlit1394, nlit1522, nlit1523, nlit10000]
      rfl
end
