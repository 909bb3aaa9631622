/-! A CASE OF THE LAW -/
section
variable {e : Nat → Nat × (Nat → Int32)} {m : Mm} {w : Ml} {T : Nat}
theorem lg_same {x : Int64} : lg_cmp x x = 0 := (lg_cmp_eq x x).mpr rfl
theorem fWr_g {nL : Nat} {o : EXa} {fX fM : MX} {as : AX} {cv : Int32 → Int64} {hs : List String} {vs' vr ws : List Value} {I : Mm → Prop} (hA : AgJ e m w fX fM (.ref 0 :: vr) ws hs I) (hh : hs.length < 100) (ho : ∀ h, o (vs' ++ List.replicate (nL - vs'.length) .null) h = some (h, .inl 146)) (ha : ∀ h, as (vs' ++ List.replicate (nL - vs'.length) .null) h = some (h, .inl (.ref 0 :: vr))) :
    (∃ m1 w1 v, fWr nL o (gd 7 fX) as cv hs vs' (HM e m w) = some (HM e m1 (ml w1 146 0 (cv v)), .inl (some (.int (nz 0)))) ∧ ∀ w', ∃ m2, fM ws (HM e m1 w') = some (HM e m2 w', .inl (some (.int v))) ∧ m2 133 10 = nz 0 ∧ I m2) ∨
    ∃ m1 k, 0 < k ∧ k < 200 ∧ fWr nL o (gd 7 fX) as cv hs vs' (HM e m w) = some (HM e m1 w, .inl (some (.int (nz k)))) ∧ ∀ w', ∃ m2 y, fM ws (HM e m1 w') = some (HM e m2 w', .inl (some (.int y))) ∧ m2 133 10 = nz k ∧ I m2 := by
  rcases hA with ⟨m1, w1, v, h1, h2⟩ | ⟨E, k, m1, h1, h2, h3, h4⟩
  · refine Or.inl ⟨m1, w1, v, ?_, h2⟩
    have hp : apl (HM e m1 w1) 146 0 (cv v) = some (HM e m1 (ml w1 146 0 (cv v))) := aw_146 (n := 0) (by decide)
    unfold fWr
    simp only [ho, ha, gd_0, h1, hp]
    all_goals rfl
  · have hlt : hs.idxOf E < hs.length := List.idxOf_lt_length_iff.mpr h2
    refine Or.inr ⟨m1, k, by omega, by omega, ?_, h4⟩
    unfold fWr
    simp only [ho, ha, gd_0, h1, if_pos h2, h3]
    all_goals rfl
theorem case_g {fL fX fM : MX} {asX asM : AX} {E6 : EXl} {nL s : Nat} {i : Int32} {a b : Value} {o : EXa} {as : AX} {cv : Int32 → Int64} {hs : List String} {vs' vr wr : List Value} {I : Mm → Prop} (hL : fL = fWr nL o (gd 7 fX) as cv hs) (hh : hs.length < 100) (ho : ∀ h, o (vs' ++ List.replicate (nL - vs'.length) .null) h = some (h, .inl 146)) (ha : ∀ h, as (vs' ++ List.replicate (nL - vs'.length) .null) h = some (h, .inl (.ref 0 :: vr)))
    (hX : asX [.ref s, .ref 0, .ref 133, .ref 146, .int i, a, b] (HM e m w) = some (HM e m w, .inl vs')) (hM : ∀ a' m w, asM [.ref s, .ref 0, .ref 133, .ref 146, .int i, .int a', b] (HM e m w) = some (HM e m w, .inl (.ref 133 :: wr)))
    (hE : ∀ a' v h, E6 [.ref s, .ref 0, .ref 133, .ref 146, .int i, .int a', .int v] h = some (h, .inl (cv v))) (hA : AgJ e m w fX fM (.ref 0 :: vr) (.ref 133 :: wr) hs I) :
    ∃ a' b' m2 w2, sQ (sTi 5 (eM fL asX)) (sQ (sTi 6 (eM (gd 8 fM) asM)) (sQ (sIf (cB c_ne (eM (gd 8 f_X8_thrown) (aA (aN) (eLa 2))) (eLi 5)) (sRz (eI (0))) sN) (sIf (cAnd (cZ z_eq (eLi 5)) (cZ z_ne (eLC (eAl (eLa 3) (eI (0))) E6))) (sRz (eI (0))) sN))) [.ref s, .ref 0, .ref 133, .ref 146, .int i, a, b] (HM e m w) =
      some (HM e m2 w2, .inl [.ref s, .ref 0, .ref 133, .ref 146, .int i, .int a', .int b']) ∧ I m2 := by
  subst hL
  rcases fWr_g (cv := cv) hA hh ho ha with ⟨m1, w1, v, h1, h2⟩ | ⟨m1, k, k1, k2, h1, h2⟩
  · obtain ⟨m2, g1, g2, g3⟩ := h2 (ml w1 146 0 (cv v))
    have hr : agl (HM e m2 (ml w1 146 0 (cv v))) 146 (nz 0) = some (cv v) := by
      rw [ar_146 (by decide), ml_at]
      rfl
    refine ⟨nz 0, v, m2, ml w1 146 0 (cv v), ?_, g3⟩
    simp (disch := omega) only [mth_w, kR_w, kR_if, sQ_v, sN_v, sTi_v, sTa_v, sTl_v, sR_v, sRv_v, sX_v, sPi_v, sPo_v, sPz_w, zP_b, sRz_w, zR_bw, zR_0w, zR_1w, sPa_v, sAi_v, sAl_v, sAo_v, sAa_v, sM_w, sMp_w, eM_w, sIf_w, eIf_w, cAnd_w, cOr_w, cB_v, cZ_v, cNot_v, eC_v, eI_v, eJ_v, eOp_v, eQ_v, eU_v, eIL_v, eLO_v, eLS_v, eLC_v, eGi_v, eGa_v, eZ_w, eAi_v, eAl_v, eAa_v, eAn_v, aN_v, aI_v, aA_v, sInc_v, sB_okw, sB_xw, eS_okw, eS_xw, eB_okw, eB_xw, oE_w, oS_w, kI_iw, kI_xw, kV_w, kV_xw, kP_iw, kP_xw, List.set_cons_zero, List.set_cons_succ, List.cons_append, List.nil_append, List.length_cons, List.length_nil, List.replicate_succ, List.replicate_zero, List.append_nil, bif_and, bif_or, zne_b01, zeq_b01, bif_d, cond_true, cond_false, nar_0, o_iadd, o_isub, o_imul, c_eq, c_ne, c_lt, c_ge, c_gt, c_le, Nat.reduceAdd, Nat.reduceSub, Nat.zero_add, if_true, if_false, eLl_2, eLi_0, eLi_1, eLi_2, eLi_3, eLi_4, eLi_5, eLi_6, eLi_7, eLi_8, eLi_9, eLi_10, eLi_11, eLi_12, eLi_13, eLa_0, eLa_1, eLa_2, eLa_3, eLa_4, eLa_5, eLa_6, eLa_7, nz_add, nz_mul, nz_sub, nz_lt, nz_le, nz_inj, zeq_nz, zne_nz, zge_nz, zgt_nz, zlt_nz, nlit0, nlit1, nlit2, nlit3, nlit4, nlit5, nlit6, nlit7, nlit8, nlit9, nlit10, nlit11, nlit12, nlit16, nlit18, nlit22, nlit31, nlit32, nlit33, nlit34, nlit40, nlit48, nlit60, nlit63, nlit64, nlit66, nlit80, nlit96, nlit114, nlit126, nlit128, nlit512, nlit756, nlit882, nlit1000, nlit1394, nlit1522, nlit1523, nlit10000, z_eq, z_ne, z_lt, z_ge, z_gt, z_le, decide_true, decide_false, not_true_eq_false, not_false_eq_true, ne_eq, and_self, and_true, true_and, Bool.and_true, Bool.true_and, Bool.and_false, Bool.false_and, Bool.or_false, Bool.false_or, Bool.or_true, Bool.true_or, Bool.not_true, Bool.not_false, hX, h1, hM, gd_133, g1, e_thrown, g2, hr, hE, lg_same]
    all_goals simp
  · obtain ⟨m2, y, g1, g2, g3⟩ := h2 w
    have hk : (k = 0) = False := eq_false (by omega)
    refine ⟨nz k, y, m2, w, ?_, g3⟩
    simp (disch := omega) only [mth_w, kR_w, kR_if, sQ_v, sN_v, sTi_v, sTa_v, sTl_v, sR_v, sRv_v, sX_v, sPi_v, sPo_v, sPz_w, zP_b, sRz_w, zR_bw, zR_0w, zR_1w, sPa_v, sAi_v, sAl_v, sAo_v, sAa_v, sM_w, sMp_w, eM_w, sIf_w, eIf_w, cAnd_w, cOr_w, cB_v, cZ_v, cNot_v, eC_v, eI_v, eJ_v, eOp_v, eQ_v, eU_v, eIL_v, eLO_v, eLS_v, eLC_v, eGi_v, eGa_v, eZ_w, eAi_v, eAl_v, eAa_v, eAn_v, aN_v, aI_v, aA_v, sInc_v, sB_okw, sB_xw, eS_okw, eS_xw, eB_okw, eB_xw, oE_w, oS_w, kI_iw, kI_xw, kV_w, kV_xw, kP_iw, kP_xw, List.set_cons_zero, List.set_cons_succ, List.cons_append, List.nil_append, List.length_cons, List.length_nil, List.replicate_succ, List.replicate_zero, List.append_nil, bif_and, bif_or, zne_b01, zeq_b01, bif_d, cond_true, cond_false, nar_0, o_iadd, o_isub, o_imul, c_eq, c_ne, c_lt, c_ge, c_gt, c_le, Nat.reduceAdd, Nat.reduceSub, Nat.zero_add, if_true, if_false, eLl_2, eLi_0, eLi_1, eLi_2, eLi_3, eLi_4, eLi_5, eLi_6, eLi_7, eLi_8, eLi_9, eLi_10, eLi_11, eLi_12, eLi_13, eLa_0, eLa_1, eLa_2, eLa_3, eLa_4, eLa_5, eLa_6, eLa_7, nz_add, nz_mul, nz_sub, nz_lt, nz_le, nz_inj, zeq_nz, zne_nz, zge_nz, zgt_nz, zlt_nz, nlit0, nlit1, nlit2, nlit3, nlit4, nlit5, nlit6, nlit7, nlit8, nlit9, nlit10, nlit11, nlit12, nlit16, nlit18, nlit22, nlit31, nlit32, nlit33, nlit34, nlit40, nlit48, nlit60, nlit63, nlit64, nlit66, nlit80, nlit96, nlit114, nlit126, nlit128, nlit512, nlit756, nlit882, nlit1000, nlit1394, nlit1522, nlit1523, nlit10000, z_eq, z_ne, z_lt, z_ge, z_gt, z_le, decide_true, decide_false, not_true_eq_false, not_false_eq_true, ne_eq, and_self, and_true, true_and, Bool.and_true, Bool.true_and, Bool.and_false, Bool.false_and, Bool.or_false, Bool.false_or, Bool.or_true, Bool.true_or, Bool.not_true, Bool.not_false, hX, h1, hM, gd_133, g1, e_thrown, g2, hk]
    all_goals simp
end
