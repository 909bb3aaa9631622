/-! CALLS THAT CHANGE -/
section
variable {S S' : St} {T b : Nat} {e : Nat → Nat × (Nat → Int32)} {m m' : Mm} {w : Ml}
/-- a tunnel that has been changed here and there -/
theorem TR.gen (hw : WF T S) (hT : TR b m S) (hm1 : m' (b + 1) = m (b + 1)) (hm6 : m' (b + 6) = m (b + 6)) (hm7 : m' (b + 7) = m (b + 7)) (hm14 : m' (b + 14) = m (b + 14)) (ht : m' b 7 = m b 7) (hS : ∀ j, (j < 3 ∨ j = 7 ∨ 34 ≤ j ∧ j < 66 ∨ 114 ≤ j ∧ j < 882) → S' j = S j)
    (h2 : (m' (b + 2) = m (b + 2) ∧ m' (b + 3) = m (b + 3) ∧ ∀ c r, c < 32 → r < 16 → vS S' c r = vS S c r) ∨ ((∀ r, r < 16 → ∀ d, d < 6 → ∀ c, c < 32 → bt (m' (b + 2) (r * 6 + d)) c = pq (vS S' c r) d) ∧ ∀ r, r < 16 → ∀ k, k < 6 → ∀ c, c < 32 → bt (m' (b + 3) (r * 6 + k)) c = bq (vS S' c r) k))
    (h4 : (m' (b + 4) = m (b + 4) ∧ m' (b + 5) = m (b + 5) ∧ S' 6 = S 6 ∧ ∀ k, k < 48 → S' (66 + k) = S (66 + k)) ∨ (m' (b + 4) 0 = S' 6 ∧ ∀ k, k < 8 * gN S' → m' (b + 5) k = S' (66 + k)))
    (h9 : (m' (b + 9) = m (b + 9) ∧ ∀ k, k < 4 → S' (8 + k) = S (8 + k)) ∨ ∀ k, k < 4 → m' (b + 9) k = S' (8 + k))
    (h10 : (m' (b + 10) = m (b + 10) ∧ ∀ k, 12 ≤ k → k < 22 → S' k = S k) ∨ ∀ k, k < 5 → ∀ x, x < 2 → m' (b + 10) (k * 2 + x) = S' (12 + 5 * x + k))
    (h11 : (m' (b + 11) = m (b + 11) ∧ ∀ k, k < 3 → S' (3 + k) = S (3 + k)) ∨ ∀ k, k < 3 → m' (b + 11) k = S' (3 + k))
    (h12 : (m' (b + 12) = m (b + 12) ∧ m' b 6 = m b 6 ∧ S' 1522 = S 1522 ∧ ∀ k, k < 128 → S' (1394 + k) = S (1394 + k)) ∨ (m' b 6 = S' 1522 ∧ ∀ k, k < 128 → m' (b + 12) k = S' (1394 + k)))
    (h13 : (m' (b + 13) = m (b + 13) ∧ ∀ k, k < 12 → S' (22 + k) = S (22 + k)) ∨ ∀ k, k < 12 → m' (b + 13) k = S' (22 + k)) : TR b m' S' := by
  obtain ⟨t1, t2, t3, t4, t5, t6, t7, t8, t9, t10, t11, t12⟩ := hT
  obtain ⟨L, l1, l2, l3⟩ := t5.2
  have ew : wN S' = wN S := by unfold wN; rw [hS 0 (by omega)]
  have eh : hN S' = hN S := by unfold hN; rw [hS 1 (by omega)]
  have er : rN S' = rN S := by unfold rN; rw [hS 7 (by omega)]
  have hg := hw.2.2.2.2.1.1
  have hW := hw.1.2.1
  have hr := hw.2.2.2.2.2.1.1
  have g48 : S' 6 = S 6 → gN S' = gN S := fun q => by unfold gN; rw [q]
  unfold TR TRv
  refine ⟨⟨?_, ?_, fun c hc => ?_⟩, fun r hr d hd c hc => ?_, fun r hr k hk c hc => ?_, ⟨?_, fun k hk => ?_⟩, ⟨?_, L, l1, ?_, fun i hi j hj => ?_⟩, fun k hk => ?_, fun k hk x hx => ?_, fun k hk => ?_, fun k hk => ?_, ⟨?_, ?_⟩, fun k hk => ?_, fun c hc => ?_⟩
  · show m' (b + 1) 0 = _
    rw [hm1, hS 0 (by omega)]; exact t1.1
  · show m' (b + 1) 1 = _
    rw [hm1, hS 1 (by omega)]; exact t1.2.1
  · show bt (m' (b + 1) 2) c = _
    rw [hm1, ew]; exact t1.2.2 c hc
  · show bt (m' (b + 2) (r * 6 + d)) c = _
    rcases h2 with ⟨a1, -, a3⟩ | ⟨a1, -⟩
    · rw [a1, a3 c r hc hr]; exact t2 r hr d hd c hc
    · exact a1 r hr d hd c hc
  · show bt (m' (b + 3) (r * 6 + k)) c = _
    rcases h2 with ⟨-, a1, a3⟩ | ⟨-, a1⟩
    · rw [a1, a3 c r hc hr]; exact t3 r hr k hk c hc
    · exact a1 r hr k hk c hc
  · show m' (b + 4) 0 = _
    rcases h4 with ⟨a1, a2, a3, a4⟩ | ⟨a1, -⟩
    · rw [a1, a3]; exact t4.1
    · exact a1
  · show m' (b + 5) k = _
    rcases h4 with ⟨a1, a2, a3, a4⟩ | ⟨-, a1⟩
    · rw [g48 a3] at hk
      rw [a2, a4 k (by omega)]; exact t4.2 k hk
    · exact a1 k hk
  · show m' (b + 6) 0 = _
    rw [hm6, hS 7 (by omega)]; exact t5.1
  · show m' (b + 6) 1 = _
    rw [hm6]; exact l2
  · show m' (b + 7) _ = _
    rw [er] at hi ⊢
    rw [hm7, hS _ (by omega)]; exact l3 i hi j hj
  · show m' (b + 9) k = _
    rcases h9 with ⟨a1, a2⟩ | a1
    · rw [a1, a2 k hk]; exact t6 k hk
    · exact a1 k hk
  · show m' (b + 10) _ = _
    rcases h10 with ⟨a1, a2⟩ | a1
    · rw [a1, a2 _ (by omega) (by omega)]; exact t7 k hk x hx
    · exact a1 k hk x hx
  · show m' (b + 11) k = _
    rcases h11 with ⟨a1, a2⟩ | a1
    · rw [a1, a2 k hk]; exact t8 k hk
    · exact a1 k hk
  · show m' (b + 12) k = _
    rcases h12 with ⟨a1, a2, a3, a4⟩ | ⟨-, a1⟩
    · rw [a1, a4 k hk]; exact t9 k hk
    · exact a1 k hk
  · show m' b 6 = _
    rcases h12 with ⟨a1, a2, a3, a4⟩ | ⟨a1, -⟩
    · rw [a2, a3]; exact t10.1
    · exact a1
  · show m' b 7 = _
    rw [ht, hS 2 (by omega)]; exact t10.2
  · show m' (b + 13) k = _
    rcases h13 with ⟨a1, a2⟩ | a1
    · rw [a1, a2 k hk]; exact t11 k hk
    · exact a1 k hk
  · rw [ew] at hc
    rw [eh, hS _ (by omega), ← t12 c hc]
    refine sm_congr fun r hr => sm_congr fun d hd => ?_
    show sg d (b01 (bt (m' (b + 14) _) c)) = _
    rw [hm14]
theorem WF.gen (hw : WF T S) (hS : ∀ j, (j < 3 ∨ j = 7 ∨ 114 ≤ j ∧ j < 882) → S' j = S j) (hf : ∀ k, k < 3 → S' (3 + k) = nz 0 ∨ S' (3 + k) = nz 1)
    (hc : ∀ r, r < 16 → ∀ c, c < 32 → okV (vS S' c r) ∧ (¬ (c < wN S ∧ r < hN S) → vS S' c r = nz 0))
    (hg : gN S' ≤ 6 ∧ S' 6 = nz (gN S') ∧ ∀ g, g < gN S' → gustOK S' g) (hb : (∀ k, k < 128 → ∃ b, b < 64 ∧ S' (1394 + k) = nz b) ∧ S' 1394 = nz 0 ∧ S' 1458 = nz 0) : WF T S' := by
  obtain ⟨t1, t2, t3, t4, t5, t6, t7, t8, t9, t10, t11⟩ := hw
  have ew : wN S' = wN S := by unfold wN; rw [hS 0 (by omega)]
  have eh : hN S' = hN S := by unfold hN; rw [hS 1 (by omega)]
  have et : tN S' = tN S := by unfold tN; rw [hS 2 (by omega)]
  have er : rN S' = rN S := by unfold rN; rw [hS 7 (by omega)]
  unfold WF
  rw [ew, eh, et, er, hS 0 (by omega), hS 1 (by omega), hS 2 (by omega), hS 7 (by omega)]
  exact ⟨t1, t2, t3, hf, ⟨hg.1, hg.2.1⟩, t6, hc, hg.2.2, hb.1, hb.2, fun i hi j hj => by rw [hS _ (by omega)]; exact t11 i hi j hj⟩
theorem WF.fit (hw : WF T S) (h : ∀ k, k < 3 → S' (3 + k) = S (3 + k)) : ∀ k, k < 3 → S' (3 + k) = nz 0 ∨ S' (3 + k) = nz 1 := fun k hk => by
  rw [h k hk]
  exact hw.2.2.2.1 k hk
theorem WF.cel (hw : WF T S) (h : ∀ c r, c < 32 → r < 16 → vS S' c r = vS S c r) : ∀ r, r < 16 → ∀ c, c < 32 → okV (vS S' c r) ∧ (¬ (c < wN S ∧ r < hN S) → vS S' c r = nz 0) := fun r hr c hc => by
  rw [h c r hc hr]
  exact hw.2.2.2.2.2.2.1 r hr c hc
theorem WF.gus (hw : WF T S) (h : ∀ j, (j < 3 ∨ j = 6 ∨ 66 ≤ j ∧ j < 114) → S' j = S j) : gN S' ≤ 6 ∧ S' 6 = nz (gN S') ∧ ∀ g, g < gN S' → gustOK S' g := by
  have ew : wN S' = wN S := by unfold wN; rw [h 0 (by omega)]
  have eh : hN S' = hN S := by unfold hN; rw [h 1 (by omega)]
  have eg : gN S' = gN S := by unfold gN; rw [h 6 (by omega)]
  have hg := hw.2.2.2.2.1
  rw [eg, h 6 (by omega)]
  refine ⟨hg.1, hg.2, fun g hg' => ?_⟩
  have := hw.2.2.2.2.2.2.2.1 g hg'
  unfold gustOK at this ⊢
  rw [ew, eh, h (66 + 8 * g) (by omega), h (66 + 8 * g + 1) (by omega), h (66 + 8 * g + 2) (by omega), h (66 + 8 * g + 3) (by omega), h (66 + 8 * g + 5) (by omega)]
  exact this
theorem WF.boo (hw : WF T S) (h : ∀ k, k < 128 → S' (1394 + k) = S (1394 + k)) : (∀ k, k < 128 → ∃ b, b < 64 ∧ S' (1394 + k) = nz b) ∧ S' 1394 = nz 0 ∧ S' 1458 = nz 0 := by
  refine ⟨fun k hk => ?_, ?_, ?_⟩
  · rw [h k hk]; exact hw.2.2.2.2.2.2.2.2.1 k hk
  · have := h 0 (by decide)
    rw [this]; exact hw.2.2.2.2.2.2.2.2.2.1.1
  · have := h 64 (by decide)
    rw [this]; exact hw.2.2.2.2.2.2.2.2.2.1.2
/-- the model holds what there was -/
theorem held_eq : mw m 138 (fun j => if j < 1523 then m 134 j else m 138 j) = mw m 138 (heldS m) := rfl
theorem A_zero (hI : INV T m) (p0 : Int32) : AgI e m w f_X7_zero f_X8_zero [.ref 0, .int p0] [.ref 133, .int p0] [xI] (INV T) := by
  obtain ⟨b, hb1, hb, hT, h0⟩ := hI.tun (e := e)
  have hw := hI.1
  have hW := hw.1
  have hH := hw.2.1
  have w0 : m (b + 1) 0 = nz (wN (m 134)) := by rw [hT.wd]; exact hW.2.2
  have w1 : m (b + 1) 1 = nz (hN (m 134)) := by rw [hT.ht]; exact hH.2.2
  have nc := fun x y => needCell_q (e := e) (w := w) hb h0 hW.2.1 hH.2.1 w0 w1 (x := x) (y := y)
  have nd := fun x y x' y' => needCells_q (e := e) (w := w) hb h0 hW.2.1 hH.2.1 w0 w1 (x := x) (y := y) (x' := x') (y' := y')
  have ic := fun w' x y => isCell_q (e := e) (m := m) (w := w') hW.2.1 hH.2.1 hW.2.2 hH.2.2 (x := x) (y := y)
  cases hq : ixQ p0 (nz 6) with
  | false => exact Ag_fail hI xI 1 (by unfold f_X7_zero; simp (disch := omega) only [mth_w, kR_w, kR_if, sQ_v, sN_v, sTi_v, sTa_v, sTl_v, sR_v, sRv_v, sX_v, sPi_v, sPo_v, sPz_w, zP_b, sRz_w, zR_bw, zR_0w, zR_1w, sPa_v, sAi_v, sAl_v, sAo_v, sAa_v, sM_w, sMp_w, eM_w, sIf_w, eIf_w, cAnd_w, cOr_w, cB_v, cZ_v, cNot_v, eC_v, eI_v, eJ_v, eOp_v, eQ_v, eU_v, eIL_v, eLO_v, eLS_v, eLC_v, eGi_v, eGa_v, eZ_w, eAi_v, eAl_v, eAa_v, eAn_v, aN_v, aI_v, aA_v, sInc_v, sB_okw, sB_xw, eS_okw, eS_xw, eB_okw, eB_xw, oE_w, oS_w, kI_iw, kI_xw, kV_w, kV_xw, kP_iw, kP_xw, List.set_cons_zero, List.set_cons_succ, List.cons_append, List.nil_append, List.length_cons, List.length_nil, List.replicate_succ, List.replicate_zero, List.append_nil, bif_and, bif_or, zne_b01, zeq_b01, bif_d, cond_true, cond_false, nar_0, o_iadd, o_isub, o_imul, c_eq, c_ne, c_lt, c_ge, c_gt, c_le, Nat.reduceAdd, Nat.reduceSub, Nat.zero_add, if_true, if_false, eLl_2, eLi_0, eLi_1, eLi_2, eLi_3, eLi_4, eLi_5, eLi_6, eLi_7, eLi_8, eLi_9, eLi_10, eLi_11, eLi_12, eLi_13, eLa_0, eLa_1, eLa_2, eLa_3, eLa_4, eLa_5, eLa_6, eLa_7, nz_add, nz_mul, nz_sub, nz_lt, nz_le, nz_inj, zeq_nz, zne_nz, zge_nz, zgt_nz, zlt_nz, nlit0, nlit1, nlit2, nlit3, nlit4, nlit5, nlit6, nlit7, nlit8, nlit9, nlit10, nlit11, nlit12, nlit16, nlit18, nlit22, nlit31, nlit32, nlit33, nlit34, nlit40, nlit48, nlit60, nlit63, nlit64, nlit66, nlit80, nlit96, nlit114, nlit126, nlit128, nlit512, nlit756, nlit882, nlit1000, nlit1394, nlit1522, nlit1523, nlit10000, decide_true, decide_false, not_true_eq_false, not_false_eq_true, ne_eq, and_self, and_true, true_and, Bool.and_true, Bool.true_and, Bool.and_false, Bool.false_and, Bool.or_false, Bool.false_or, Bool.or_true, Bool.true_or, Bool.not_true, Bool.not_false, needBody_q, hq]) (by simp) (by simp) (fun w' => by unfold f_X8_zero; simp (disch := omega) only [mth_w, kR_w, kR_if, sQ_v, sN_v, sTi_v, sTa_v, sTl_v, sR_v, sRv_v, sX_v, sPi_v, sPo_v, sPz_w, zP_b, sRz_w, zR_bw, zR_0w, zR_1w, sPa_v, sAi_v, sAl_v, sAo_v, sAa_v, sM_w, sMp_w, eM_w, sIf_w, eIf_w, cAnd_w, cOr_w, cB_v, cZ_v, cNot_v, eC_v, eI_v, eJ_v, eOp_v, eQ_v, eU_v, eIL_v, eLO_v, eLS_v, eLC_v, eGi_v, eGa_v, eZ_w, eAi_v, eAl_v, eAa_v, eAn_v, aN_v, aI_v, aA_v, sInc_v, sB_okw, sB_xw, eS_okw, eS_xw, eB_okw, eB_xw, oE_w, oS_w, kI_iw, kI_xw, kV_w, kV_xw, kP_iw, kP_xw, List.set_cons_zero, List.set_cons_succ, List.cons_append, List.nil_append, List.length_cons, List.length_nil, List.replicate_succ, List.replicate_zero, List.append_nil, bif_and, bif_or, zne_b01, zeq_b01, bif_d, cond_true, cond_false, nar_0, o_iadd, o_isub, o_imul, c_eq, c_ne, c_lt, c_ge, c_gt, c_le, Nat.reduceAdd, Nat.reduceSub, Nat.zero_add, if_true, if_false, eLl_2, eLi_0, eLi_1, eLi_2, eLi_3, eLi_4, eLi_5, eLi_6, eLi_7, eLi_8, eLi_9, eLi_10, eLi_11, eLi_12, eLi_13, eLa_0, eLa_1, eLa_2, eLa_3, eLa_4, eLa_5, eLa_6, eLa_7, nz_add, nz_mul, nz_sub, nz_lt, nz_le, nz_inj, zeq_nz, zne_nz, zge_nz, zgt_nz, zlt_nz, nlit0, nlit1, nlit2, nlit3, nlit4, nlit5, nlit6, nlit7, nlit8, nlit9, nlit10, nlit11, nlit12, nlit16, nlit18, nlit22, nlit31, nlit32, nlit33, nlit34, nlit40, nlit48, nlit60, nlit63, nlit64, nlit66, nlit80, nlit96, nlit114, nlit126, nlit128, nlit512, nlit756, nlit882, nlit1000, nlit1394, nlit1522, nlit1523, nlit10000, decide_true, decide_false, not_true_eq_false, not_false_eq_true, ne_eq, and_self, and_true, true_and, Bool.and_true, Bool.true_and, Bool.and_false, Bool.false_and, Bool.or_false, Bool.false_or, Bool.or_true, Bool.true_or, Bool.not_true, Bool.not_false, gd_133, rf_133_0, rf_133_1, rf_133_2, rf_133_3, rf_133_4, rf_133_5, rf_133_6, rf_133_7, rf_133_8, rd_133_9, wr_133_9, rd_133_10, wr_133_10, rf_133_11, rd_133_12, wr_133_12, rd_133_13, wr_133_13, rd_133_14, wr_133_14, rd_133_15, wr_133_15, rd_133_16, wr_133_16, rf_133_17, rf_133_18, ar_134, aw_134, an_134, ar_135, aw_135, an_135, ar_136, aw_136, an_136, ar_137, aw_137, ar_138, aw_138, an_138, ar_139, aw_139, an_139, ar_140, aw_140, an_140, ar_141, aw_141, an_141, ar_142, aw_142, an_142, ar_143, aw_143, an_143, ar_144, aw_144, an_144, ar_145, aw_145, isBody_q, hq, e_fails])
  | true =>
    obtain ⟨k, hk, rfl⟩ := ixQ_y (by omega) hq
    refine Ag_change hI hb1 (Nat.le_refl _) (v := m 134 (22 + 2 * k + 1)) (S' := su (su (m 134) (22 + 2 * k) (nz 0)) (22 + 2 * k + 1) (nz 0)) ?_ ?_ ?_
    · exact hw.gen (fun j hj => by rw [su_ne (by omega), su_ne (by omega)]) (hw.fit fun k' hk' => by rw [su_ne (by omega), su_ne (by omega)]) (hw.cel fun c r hc hr => by unfold vS; rw [su_ne (by omega), su_ne (by omega)]) (hw.gus fun j hj => by rw [su_ne (by omega), su_ne (by omega)]) (hw.boo fun k' hk' => by rw [su_ne (by omega), su_ne (by omega)])
    · intro m1 r1 r2 hT1
      have aw := hb.aw
      have h13 : ∀ i, i < 12 → m1 (b + 13) i = m 134 (22 + i) := hT1.2.2.2.2.2.2.2.2.2.2.1
      have hv : m1 (b + 13) (k * 2 + 1) = m 134 (22 + 2 * k + 1) := by rw [h13 _ (by omega), show 22 + (k * 2 + 1) = 22 + 2 * k + 1 by omega]
      refine ⟨ms (ms m1 (b + 13) (k * 2) (nz 0)) (b + 13) (k * 2 + 1) (nz 0), ?_, ?_, fun a ha ha2 => ?_, ?_⟩
      · unfold f_X7_zero
        simp (disch := omega) only [mth_w, kR_w, kR_if, sQ_v, sN_v, sTi_v, sTa_v, sTl_v, sR_v, sRv_v, sX_v, sPi_v, sPo_v, sPz_w, zP_b, sRz_w, zR_bw, zR_0w, zR_1w, sPa_v, sAi_v, sAl_v, sAo_v, sAa_v, sM_w, sMp_w, eM_w, sIf_w, eIf_w, cAnd_w, cOr_w, cB_v, cZ_v, cNot_v, eC_v, eI_v, eJ_v, eOp_v, eQ_v, eU_v, eIL_v, eLO_v, eLS_v, eLC_v, eGi_v, eGa_v, eZ_w, eAi_v, eAl_v, eAa_v, eAn_v, aN_v, aI_v, aA_v, sInc_v, sB_okw, sB_xw, eS_okw, eS_xw, eB_okw, eB_xw, oE_w, oS_w, kI_iw, kI_xw, kV_w, kV_xw, kP_iw, kP_xw, List.set_cons_zero, List.set_cons_succ, List.cons_append, List.nil_append, List.length_cons, List.length_nil, List.replicate_succ, List.replicate_zero, List.append_nil, bif_and, bif_or, zne_b01, zeq_b01, bif_d, cond_true, cond_false, nar_0, o_iadd, o_isub, o_imul, c_eq, c_ne, c_lt, c_ge, c_gt, c_le, Nat.reduceAdd, Nat.reduceSub, Nat.zero_add, if_true, if_false, eLl_2, eLi_0, eLi_1, eLi_2, eLi_3, eLi_4, eLi_5, eLi_6, eLi_7, eLi_8, eLi_9, eLi_10, eLi_11, eLi_12, eLi_13, eLa_0, eLa_1, eLa_2, eLa_3, eLa_4, eLa_5, eLa_6, eLa_7, nz_add, nz_mul, nz_sub, nz_lt, nz_le, nz_inj, zeq_nz, zne_nz, zge_nz, zgt_nz, zlt_nz, nlit0, nlit1, nlit2, nlit3, nlit4, nlit5, nlit6, nlit7, nlit8, nlit9, nlit10, nlit11, nlit12, nlit16, nlit18, nlit22, nlit31, nlit32, nlit33, nlit34, nlit40, nlit48, nlit60, nlit63, nlit64, nlit66, nlit80, nlit96, nlit114, nlit126, nlit128, nlit512, nlit756, nlit882, nlit1000, nlit1394, nlit1522, nlit1523, nlit10000, decide_true, decide_false, not_true_eq_false, not_false_eq_true, ne_eq, and_self, and_true, true_and, Bool.and_true, Bool.true_and, Bool.and_false, Bool.false_and, Bool.or_false, Bool.false_or, Bool.or_true, Bool.true_or, Bool.not_true, Bool.not_false, gd_0, rf_0_2, rf_0_3, rf_0_4, rd_0_5, wr_0_5, rd_0_6, wr_0_6, rf_0_7, rf_0_8, rf_0_9, gd_31, rf_31_0, rf_31_1, rf_31_2, ar_32, aw_32, an_32, ar_33, aw_33, an_33, ar_34, aw_34, an_34, gd_35, rf_35_0, rd_35_1, wr_35_1, rf_35_2, rd_35_3, wr_35_3, rd_35_4, wr_35_4, rd_35_5, wr_35_5, rf_35_6, rd_35_7, wr_35_7, rd_35_8, wr_35_8, rd_35_9, wr_35_9, rd_35_10, wr_35_10, rd_35_11, wr_35_11, rd_35_12, wr_35_12, rd_35_13, wr_35_13, ar_36, aw_36, ar_37, aw_37, an_37, ar_38, aw_38, ar_39, ar_40, ar_41, aw_41, ar_42, aw_42, ar_146, aw_146, h0, (gd_t0 hb), (rf_t0_0 hb), (rf_t0_1 hb), (rf_t0_2 hb), (rf_t0_3 hb), (rf_t0_4 hb), (rf_t0_5 hb), (rd_t0_6 hb), (wr_t0_6 hb), (rd_t0_7 hb), (wr_t0_7 hb), (rf_t0_8 hb), (rf_t0_9 hb), (gd_t1 hb), (rd_t1_0 hb), (wr_t1_0 hb), (rd_t1_1 hb), (wr_t1_1 hb), (rd_t1_2 hb), (wr_t1_2 hb), (rf_t1_3 hb), (rf_t1_4 hb), (ar_t2 hb), (aw_t2 hb), (an_t2 hb), (ar_t3 hb), (aw_t3 hb), (an_t3 hb), (gd_t4 hb), (rd_t4_0 hb), (wr_t4_0 hb), (rf_t4_1 hb), (ar_t5 hb), (aw_t5 hb), (an_t5 hb), (gd_t6 hb), (rd_t6_0 hb), (wr_t6_0 hb), (rd_t6_1 hb), (wr_t6_1 hb), (rf_t6_2 hb), (ar_t7 hb), (aw_t7 hb), (an_t7 hb), (gd_t8 hb), (rf_t8_0 hb), (rf_t8_1 hb), (ar_t9 hb), (aw_t9 hb), (an_t9 hb), (ar_t10 hb), (aw_t10 hb), (an_t10 hb), (ar_t11 hb), (aw_t11 hb), (an_t11 hb), (ar_t12 hb), (aw_t12 hb), (an_t12 hb), (ar_t13 hb), (aw_t13 hb), (an_t13 hb), (ar_t14 hb), (aw_t14 hb), (an_t14 hb), needBody_q, hq, r1, hv]
      · refine hT1.gen hw ?_ ?_ ?_ ?_ ?_ (fun j hj => by rw [su_ne (by omega), su_ne (by omega)]) (Or.inl ⟨?_, ?_, fun c r hc hr => by unfold vS; rw [su_ne (by omega), su_ne (by omega)]⟩) (Or.inl ⟨?_, ?_, by rw [su_ne (by omega), su_ne (by omega)], fun k' hk' => by rw [su_ne (by omega), su_ne (by omega)]⟩) (Or.inl ⟨?_, fun k' hk' => by rw [su_ne (by omega), su_ne (by omega)]⟩) (Or.inl ⟨?_, fun k' hk' hk2 => by rw [su_ne (by omega), su_ne (by omega)]⟩) (Or.inl ⟨?_, fun k' hk' => by rw [su_ne (by omega), su_ne (by omega)]⟩) (Or.inl ⟨?_, ?_, by rw [su_ne (by omega), su_ne (by omega)], fun k' hk' => by rw [su_ne (by omega), su_ne (by omega)]⟩) (Or.inr fun i hi => ?_)
        all_goals try (rw [ms_ne (by omega), ms_ne (by omega)])
        rw [ms_v, ms_v, su_v, su_v, h13 i hi]
        by_cases q1 : i = k * 2 + 1
        · rw [if_pos ⟨rfl, q1⟩, if_pos (by omega)]
        · rw [if_neg (show ¬ (b + 13 = b + 13 ∧ i = k * 2 + 1) from fun z => q1 z.2), if_neg (show ¬ 22 + i = 22 + 2 * k + 1 by omega)]
          exact ite_ic ⟨fun z => by omega, fun z => ⟨rfl, by omega⟩⟩
      · rw [ms_ne (by omega), ms_ne (by omega)]
      · rw [ms_ne (by omega), ms_ne (by omega)]
    · intro m2 w' hk2
      have h34 : m2 134 = m 134 := hk2 _ (by decide)
      refine ⟨?m3, ?ev, fun a a1 a2 a3 a4 => ?_, ?_, ?_⟩
      case ev =>
        unfold f_X8_zero
        simp (disch := omega) only [mth_w, kR_w, kR_if, sQ_v, sN_v, sTi_v, sTa_v, sTl_v, sR_v, sRv_v, sX_v, sPi_v, sPo_v, sPz_w, zP_b, sRz_w, zR_bw, zR_0w, zR_1w, sPa_v, sAi_v, sAl_v, sAo_v, sAa_v, sM_w, sMp_w, eM_w, sIf_w, eIf_w, cAnd_w, cOr_w, cB_v, cZ_v, cNot_v, eC_v, eI_v, eJ_v, eOp_v, eQ_v, eU_v, eIL_v, eLO_v, eLS_v, eLC_v, eGi_v, eGa_v, eZ_w, eAi_v, eAl_v, eAa_v, eAn_v, aN_v, aI_v, aA_v, sInc_v, sB_okw, sB_xw, eS_okw, eS_xw, eB_okw, eB_xw, oE_w, oS_w, kI_iw, kI_xw, kV_w, kV_xw, kP_iw, kP_xw, List.set_cons_zero, List.set_cons_succ, List.cons_append, List.nil_append, List.length_cons, List.length_nil, List.replicate_succ, List.replicate_zero, List.append_nil, bif_and, bif_or, zne_b01, zeq_b01, bif_d, cond_true, cond_false, nar_0, o_iadd, o_isub, o_imul, c_eq, c_ne, c_lt, c_ge, c_gt, c_le, Nat.reduceAdd, Nat.reduceSub, Nat.zero_add, if_true, if_false, eLl_2, eLi_0, eLi_1, eLi_2, eLi_3, eLi_4, eLi_5, eLi_6, eLi_7, eLi_8, eLi_9, eLi_10, eLi_11, eLi_12, eLi_13, eLa_0, eLa_1, eLa_2, eLa_3, eLa_4, eLa_5, eLa_6, eLa_7, nz_add, nz_mul, nz_sub, nz_lt, nz_le, nz_inj, zeq_nz, zne_nz, zge_nz, zgt_nz, zlt_nz, nlit0, nlit1, nlit2, nlit3, nlit4, nlit5, nlit6, nlit7, nlit8, nlit9, nlit10, nlit11, nlit12, nlit16, nlit18, nlit22, nlit31, nlit32, nlit33, nlit34, nlit40, nlit48, nlit60, nlit63, nlit64, nlit66, nlit80, nlit96, nlit114, nlit126, nlit128, nlit512, nlit756, nlit882, nlit1000, nlit1394, nlit1522, nlit1523, nlit10000, decide_true, decide_false, not_true_eq_false, not_false_eq_true, ne_eq, and_self, and_true, true_and, Bool.and_true, Bool.true_and, Bool.and_false, Bool.false_and, Bool.or_false, Bool.false_or, Bool.or_true, Bool.true_or, Bool.not_true, Bool.not_false, gd_133, rf_133_0, rf_133_1, rf_133_2, rf_133_3, rf_133_4, rf_133_5, rf_133_6, rf_133_7, rf_133_8, rd_133_9, wr_133_9, rd_133_10, wr_133_10, rf_133_11, rd_133_12, wr_133_12, rd_133_13, wr_133_13, rd_133_14, wr_133_14, rd_133_15, wr_133_15, rd_133_16, wr_133_16, rf_133_17, rf_133_18, ar_134, aw_134, an_134, ar_135, aw_135, an_135, ar_136, aw_136, an_136, ar_137, aw_137, ar_138, aw_138, an_138, ar_139, aw_139, an_139, ar_140, aw_140, an_140, ar_141, aw_141, an_141, ar_142, aw_142, an_142, ar_143, aw_143, an_143, ar_144, aw_144, an_144, ar_145, aw_145, isBody_q, hq, e_holds, mw_ne, ms_mw, mw_mw, mw_at, h34]
        rfl
      · rw [mw_ne a1, mw_ne a2]
      · rw [mw_ne (by decide), mw_at]
        exact fun j hj => if_pos hj
      · rw [mw_at]
        exact Sq.rf
end
