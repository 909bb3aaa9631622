/-! WHAT HOLDS BETWEEN CALLS -/
def rowP (P : St) (i : Nat) : St := fun k => P (1523 * i + k)
def hb4 (f i : Nat) : Nat := 43 + 15 * ((f + i) % 4)
def HISc (m : Mm) (n f : Nat) (P : Nat → St) : Prop := n ≤ 4 ∧ f < 4 ∧ m 0 6 = nz n ∧ m 0 5 = nz f ∧ ∀ i, i < n → TR (hb4 f i) m (P i)
def PAST (T : Nat) (m : Mm) (n : Nat) : Prop := m 133 9 = nz n ∧ ∀ i, i < n → WF T (rowP (m 135) i)
def SLO (T : Nat) (m : Mm) : Prop := ∀ j, j < 2 → ∃ y, y < 2 ∧ m 41 j = nz y ∧ m 137 j = nz y ∧ (y = 1 → WF T (rowP (m 136) j) ∧ TR (103 + 15 * j) m (rowP (m 136) j))
def PADI (m : Mm) : Prop := ∃ t, t ≤ 80 ∧ m 35 1 = nz t ∧ m 133 12 = nz t ∧ ∀ i, i < t → ∃ ch, 33 ≤ ch ∧ ch ≤ 126 ∧ m 36 i = nz ch ∧ m 143 i = nz ch
def INV (T : Nat) (m : Mm) : Prop := WF T (m 134) ∧ TR 1 m (m 134) ∧ (∃ n f, HISc m n f (rowP (m 135)) ∧ PAST T m n) ∧ SLO T m ∧ PADI m
theorem usK_lt {k j : Nat} (h : usK k j) : k < 15 := by
  by_cases q : k < 15
  · exact q
  · obtain ⟨i, rfl⟩ : ∃ i, k = i + 15 := ⟨k - 15, by omega⟩
    exact False.elim h
theorem TB.h4 (f i : Nat) : TB (hb4 f i) := by
  unfold hb4
  have : (f + i) % 4 < 4 := Nat.mod_lt _ (by decide)
  generalize (f + i) % 4 = q at *
  unfold TB
  omega
theorem TB.one : TB 1 := Or.inl rfl
theorem TB.two : TB 16 := Or.inr (Or.inl rfl)
theorem TB.sl {j : Nat} (h : j < 2) : TB (103 + 15 * j) := by
  unfold TB
  omega
section
variable {S S' : St} {T T' b n f : Nat} {P : Nat → St} {e : Nat → Nat × (Nat → Int32)} {m m' m1 m2 m3 : Mm} {w : Ml}
theorem TR.keep (hw : WF T S) (h : TR b m S) (hm : ∀ a, b ≤ a → a ≤ b + 14 → m' a = m a) : TR b m' S :=
  TRv.congr (V := fun k j => m (b + k) j) (V' := fun k j => m' (b + k) j) hw.2.2.2.2.1.1 hw.2.1.2.1 (fun k j hk => by
    have := usK_lt hk
    show m' (b + k) j = m (b + k) j
    rw [hm _ (by omega) (by omega)]) h
theorem TR.copy {c : Nat} (hw : WF T S) (h : TR b m S) (hm : ∀ k j, usK k j → m' (c + k) j = m (b + k) j) : TR c m' S :=
  TRv.congr (V := fun k j => m (b + k) j) (V' := fun k j => m' (c + k) j) hw.2.2.2.2.1.1 hw.2.1.2.1 hm h
theorem TR.of_sq (hw : WF T S) (h : TR b m S) (q : Sq S S') : TR b m S' := TRv.sq hw.1.2.1 hw.2.2.2.2.1.1 hw.2.2.2.2.2.1.1 q h
theorem hs_at : ∀ i, i < 4 → ([43, 58, 73, 88] : List Nat).getD i 0 = 43 + 15 * i := by decide
theorem sl_at : ∀ i, i < 2 → ([103, 118] : List Nat).getD i 0 = 103 + 15 * i := by decide
/-- the change is recorded -/
theorem e_recordChange (hw : WF T S) (hT : TR 1 m S) (hH : HISc m n f P) (hP : ∀ i, i < n → WF T (P i)) : ∃ m1, f_X7_recordChange [.ref 0] (HM e m w) = some (HM e m1 w, .inl none) ∧ (∀ a, a ≠ 0 → (a < 43 ∨ 102 < a) → m1 a = m a) ∧ (∀ j, j ≠ 5 → j ≠ 6 → m1 0 j = m 0 j) ∧
    HISc m1 (if n = 4 then 4 else n + 1) (if n = 4 then (f + 1) % 4 else f) (fun i => if n = 4 then (if i < 3 then P (i + 1) else S) else if i < n then P i else S) := by
  obtain ⟨hn, hf, h6, h5, ht⟩ := hH
  have q4 : ((4 : Nat) = 0) = False := by simp
  rcases (show n = 4 ∨ n < 4 by omega) with h4 | h4
  · subst h4
    have hi : ((f + 1) % 4 + 3) % 4 < 4 := Nat.mod_lt _ (by decide)
    have hb := TB.h4 ((f + 1) % 4) 3
    have hbe : hb4 ((f + 1) % 4) 3 = 43 + 15 * (((f + 1) % 4 + 3) % 4) := rfl
    have hbl : 43 ≤ hb4 ((f + 1) % 4) 3 ∧ hb4 ((f + 1) % 4) 3 ≤ 88 := by rw [hbe]; omega
    obtain ⟨m2, e2, f2, u2⟩ := e_copy (e := e) (w := w) (m := ms (ms m 0 5 (nz ((f + 1) % 4))) 0 6 (nz 3)) hb TB.one (by omega)
    have z6 : m2 0 6 = nz 3 := by rw [f2 _ (by omega), ms_eq]
    refine ⟨ms m2 0 6 (nz 4), ?_, fun a a0 a1 => ?_, fun j j5 j6 => ?_, by rw [if_pos rfl]; decide, by rw [if_pos rfl]; omega, by rw [if_pos rfl, ms_eq], ?_, fun i hi4 => ?_⟩
    · unfold f_X7_recordChange
      simp (disch := omega) only [mth_w, kR_w, kR_if, sQ_v, sN_v, sTi_v, sTa_v, sTl_v, sR_v, sRv_v, sX_v, sPi_v, sPo_v, sPz_w, zP_b, sRz_w, zR_bw, zR_0w, zR_1w, sPa_v, sAi_v, sAl_v, sAo_v, sAa_v, sM_w, sMp_w, eM_w, sIf_w, eIf_w, cAnd_w, cOr_w, cB_v, cZ_v, cNot_v, eC_v, eI_v, eJ_v, eOp_v, eQ_v, eU_v, eIL_v, eLO_v, eLS_v, eLC_v, eGi_v, eGa_v, eZ_w, eAi_v, eAl_v, eAa_v, eAn_v, aN_v, aI_v, aA_v, sInc_v, sB_okw, sB_xw, eS_okw, eS_xw, eB_okw, eB_xw, oE_w, oS_w, kI_iw, kI_xw, kV_w, kV_xw, kP_iw, kP_xw, List.set_cons_zero, List.set_cons_succ, List.cons_append, List.nil_append, List.length_cons, List.length_nil, List.replicate_succ, List.replicate_zero, List.append_nil, bif_and, bif_or, zne_b01, zeq_b01, bif_d, cond_true, cond_false, nar_0, o_iadd, o_isub, o_imul, c_eq, c_ne, c_lt, c_ge, c_gt, c_le, Nat.reduceAdd, Nat.reduceSub, Nat.zero_add, if_true, if_false, eLl_2, eLi_0, eLi_1, eLi_2, eLi_3, eLi_4, eLi_5, eLi_6, eLi_7, eLi_8, eLi_9, eLi_10, eLi_11, eLi_12, eLi_13, eLa_0, eLa_1, eLa_2, eLa_3, eLa_4, eLa_5, eLa_6, eLa_7, nz_add, nz_mul, nz_sub, nz_lt, nz_le, nz_inj, zeq_nz, zne_nz, zge_nz, zgt_nz, zlt_nz, nlit0, nlit1, nlit2, nlit3, nlit4, nlit5, nlit6, nlit7, nlit8, nlit9, nlit10, nlit11, nlit12, nlit16, nlit18, nlit22, nlit31, nlit32, nlit33, nlit34, nlit40, nlit48, nlit60, nlit63, nlit64, nlit66, nlit80, nlit96, nlit114, nlit126, nlit128, nlit512, nlit756, nlit882, nlit1000, nlit1394, nlit1522, nlit1523, nlit10000, decide_true, decide_false, not_true_eq_false, not_false_eq_true, ne_eq, and_self, and_true, true_and, Bool.and_true, Bool.true_and, Bool.and_false, Bool.false_and, Bool.or_false, Bool.false_or, Bool.or_true, Bool.true_or, Bool.not_true, Bool.not_false, gd_0, rf_0_0, rf_0_1, rf_0_2, rf_0_3, rf_0_4, rd_0_5, wr_0_5, rd_0_6, wr_0_6, rf_0_7, rf_0_8, rf_0_9, gd_31, rf_31_0, rf_31_1, rf_31_2, ar_32, aw_32, an_32, ar_33, aw_33, an_33, ar_34, aw_34, an_34, gd_35, rf_35_0, rd_35_1, wr_35_1, rf_35_2, rd_35_3, wr_35_3, rd_35_4, wr_35_4, rd_35_5, wr_35_5, rf_35_6, rd_35_7, wr_35_7, rd_35_8, wr_35_8, rd_35_9, wr_35_9, rd_35_10, wr_35_10, rd_35_11, wr_35_11, rd_35_12, wr_35_12, rd_35_13, wr_35_13, ar_36, aw_36, ar_37, aw_37, an_37, ar_38, aw_38, ar_39, ar_40, ar_41, aw_41, ar_42, aw_42, ar_146, aw_146, h6, h5, q4, nz_rem, ms_eq, ms_nn, hs_at, ← hbe, (gd_t0 hb), (rf_t0_0 hb), (rf_t0_1 hb), (rf_t0_2 hb), (rf_t0_3 hb), (rf_t0_4 hb), (rf_t0_5 hb), (rd_t0_6 hb), (wr_t0_6 hb), (rd_t0_7 hb), (wr_t0_7 hb), (rf_t0_8 hb), (rf_t0_9 hb), (gd_t1 hb), (rd_t1_0 hb), (wr_t1_0 hb), (rd_t1_1 hb), (wr_t1_1 hb), (rd_t1_2 hb), (wr_t1_2 hb), (rf_t1_3 hb), (rf_t1_4 hb), (ar_t2 hb), (aw_t2 hb), (an_t2 hb), (ar_t3 hb), (aw_t3 hb), (an_t3 hb), (gd_t4 hb), (rd_t4_0 hb), (wr_t4_0 hb), (rf_t4_1 hb), (ar_t5 hb), (aw_t5 hb), (an_t5 hb), (gd_t6 hb), (rd_t6_0 hb), (wr_t6_0 hb), (rd_t6_1 hb), (wr_t6_1 hb), (rf_t6_2 hb), (ar_t7 hb), (aw_t7 hb), (an_t7 hb), (gd_t8 hb), (rf_t8_0 hb), (rf_t8_1 hb), (ar_t9 hb), (aw_t9 hb), (an_t9 hb), (ar_t10 hb), (aw_t10 hb), (an_t10 hb), (ar_t11 hb), (aw_t11 hb), (an_t11 hb), (ar_t12 hb), (aw_t12 hb), (an_t12 hb), (ar_t13 hb), (aw_t13 hb), (an_t13 hb), (ar_t14 hb), (aw_t14 hb), (an_t14 hb), e2, z6]
    · rw [ms_ne a0, f2 _ (by omega), ms_ne a0, ms_ne a0]
    · rw [ms_nn j6, f2 _ (by omega), ms_nn j6, ms_nn j5]
    · rw [if_pos rfl, ms_nn (by decide), f2 _ (by omega), ms_nn (by decide), ms_eq]
    · rw [if_pos rfl] at hi4 ⊢
      dsimp only
      rw [if_pos rfl]
      have hli := TB.h4 ((f + 1) % 4) i
      have hle : hb4 ((f + 1) % 4) i = 43 + 15 * (((f + 1) % 4 + i) % 4) := rfl
      by_cases h3 : i < 3
      · rw [if_pos h3]
        have hs := ht (i + 1) (by omega)
        have he : hb4 f (i + 1) = hb4 ((f + 1) % 4) i := by
          unfold hb4
          omega
        rw [he] at hs
        refine TR.keep (hP _ (by omega)) hs (fun a a1 a2 => ?_)
        rw [ms_ne (by omega), f2 _ (by omega), ms_ne (by omega), ms_ne (by omega)]
      · obtain rfl : i = 3 := by omega
        rw [if_neg h3]
        refine TR.copy (b := 1) (m := m) hw hT (fun k j hk => ?_)
        have hk15 := usK_lt hk
        rw [ms_ne (by omega), u2 k j hk, ms_ne (by omega), ms_ne (by omega)]
  · have hn4 : (n = 4) = False := eq_false (by omega)
    have hi : (f + n) % 4 < 4 := Nat.mod_lt _ (by decide)
    have hb := TB.h4 f n
    have hbe : hb4 f n = 43 + 15 * ((f + n) % 4) := rfl
    have hbl : 43 ≤ hb4 f n ∧ hb4 f n ≤ 88 := by rw [hbe]; omega
    obtain ⟨m2, e2, f2, u2⟩ := e_copy (e := e) (w := w) (m := m) hb TB.one (by omega)
    have z6 : m2 0 6 = nz n := by rw [f2 _ (by omega)]; exact h6
    refine ⟨ms m2 0 6 (nz (n + 1)), ?_, fun a a0 a1 => ?_, fun j j5 j6 => ?_, by rw [if_neg (by omega)]; omega, by rw [if_neg (by omega)]; exact hf, by rw [if_neg (by omega), ms_eq], ?_, fun i hi4 => ?_⟩
    · unfold f_X7_recordChange
      simp (disch := omega) only [mth_w, kR_w, kR_if, sQ_v, sN_v, sTi_v, sTa_v, sTl_v, sR_v, sRv_v, sX_v, sPi_v, sPo_v, sPz_w, zP_b, sRz_w, zR_bw, zR_0w, zR_1w, sPa_v, sAi_v, sAl_v, sAo_v, sAa_v, sM_w, sMp_w, eM_w, sIf_w, eIf_w, cAnd_w, cOr_w, cB_v, cZ_v, cNot_v, eC_v, eI_v, eJ_v, eOp_v, eQ_v, eU_v, eIL_v, eLO_v, eLS_v, eLC_v, eGi_v, eGa_v, eZ_w, eAi_v, eAl_v, eAa_v, eAn_v, aN_v, aI_v, aA_v, sInc_v, sB_okw, sB_xw, eS_okw, eS_xw, eB_okw, eB_xw, oE_w, oS_w, kI_iw, kI_xw, kV_w, kV_xw, kP_iw, kP_xw, List.set_cons_zero, List.set_cons_succ, List.cons_append, List.nil_append, List.length_cons, List.length_nil, List.replicate_succ, List.replicate_zero, List.append_nil, bif_and, bif_or, zne_b01, zeq_b01, bif_d, cond_true, cond_false, nar_0, o_iadd, o_isub, o_imul, c_eq, c_ne, c_lt, c_ge, c_gt, c_le, Nat.reduceAdd, Nat.reduceSub, Nat.zero_add, if_true, if_false, eLl_2, eLi_0, eLi_1, eLi_2, eLi_3, eLi_4, eLi_5, eLi_6, eLi_7, eLi_8, eLi_9, eLi_10, eLi_11, eLi_12, eLi_13, eLa_0, eLa_1, eLa_2, eLa_3, eLa_4, eLa_5, eLa_6, eLa_7, nz_add, nz_mul, nz_sub, nz_lt, nz_le, nz_inj, zeq_nz, zne_nz, zge_nz, zgt_nz, zlt_nz, nlit0, nlit1, nlit2, nlit3, nlit4, nlit5, nlit6, nlit7, nlit8, nlit9, nlit10, nlit11, nlit12, nlit16, nlit18, nlit22, nlit31, nlit32, nlit33, nlit34, nlit40, nlit48, nlit60, nlit63, nlit64, nlit66, nlit80, nlit96, nlit114, nlit126, nlit128, nlit512, nlit756, nlit882, nlit1000, nlit1394, nlit1522, nlit1523, nlit10000, decide_true, decide_false, not_true_eq_false, not_false_eq_true, ne_eq, and_self, and_true, true_and, Bool.and_true, Bool.true_and, Bool.and_false, Bool.false_and, Bool.or_false, Bool.false_or, Bool.or_true, Bool.true_or, Bool.not_true, Bool.not_false, gd_0, rf_0_0, rf_0_1, rf_0_2, rf_0_3, rf_0_4, rd_0_5, wr_0_5, rd_0_6, wr_0_6, rf_0_7, rf_0_8, rf_0_9, gd_31, rf_31_0, rf_31_1, rf_31_2, ar_32, aw_32, an_32, ar_33, aw_33, an_33, ar_34, aw_34, an_34, gd_35, rf_35_0, rd_35_1, wr_35_1, rf_35_2, rd_35_3, wr_35_3, rd_35_4, wr_35_4, rd_35_5, wr_35_5, rf_35_6, rd_35_7, wr_35_7, rd_35_8, wr_35_8, rd_35_9, wr_35_9, rd_35_10, wr_35_10, rd_35_11, wr_35_11, rd_35_12, wr_35_12, rd_35_13, wr_35_13, ar_36, aw_36, ar_37, aw_37, an_37, ar_38, aw_38, ar_39, ar_40, ar_41, aw_41, ar_42, aw_42, ar_146, aw_146, h6, h5, q4, hn4, nz_rem, hs_at, ← hbe, (gd_t0 hb), (rf_t0_0 hb), (rf_t0_1 hb), (rf_t0_2 hb), (rf_t0_3 hb), (rf_t0_4 hb), (rf_t0_5 hb), (rd_t0_6 hb), (wr_t0_6 hb), (rd_t0_7 hb), (wr_t0_7 hb), (rf_t0_8 hb), (rf_t0_9 hb), (gd_t1 hb), (rd_t1_0 hb), (wr_t1_0 hb), (rd_t1_1 hb), (wr_t1_1 hb), (rd_t1_2 hb), (wr_t1_2 hb), (rf_t1_3 hb), (rf_t1_4 hb), (ar_t2 hb), (aw_t2 hb), (an_t2 hb), (ar_t3 hb), (aw_t3 hb), (an_t3 hb), (gd_t4 hb), (rd_t4_0 hb), (wr_t4_0 hb), (rf_t4_1 hb), (ar_t5 hb), (aw_t5 hb), (an_t5 hb), (gd_t6 hb), (rd_t6_0 hb), (wr_t6_0 hb), (rd_t6_1 hb), (wr_t6_1 hb), (rf_t6_2 hb), (ar_t7 hb), (aw_t7 hb), (an_t7 hb), (gd_t8 hb), (rf_t8_0 hb), (rf_t8_1 hb), (ar_t9 hb), (aw_t9 hb), (an_t9 hb), (ar_t10 hb), (aw_t10 hb), (an_t10 hb), (ar_t11 hb), (aw_t11 hb), (an_t11 hb), (ar_t12 hb), (aw_t12 hb), (an_t12 hb), (ar_t13 hb), (aw_t13 hb), (an_t13 hb), (ar_t14 hb), (aw_t14 hb), (an_t14 hb), e2, z6]
    · rw [ms_ne a0, f2 _ (by omega)]
    · rw [ms_nn j6, f2 _ (by omega)]
    · rw [if_neg (by omega), ms_nn (by decide), f2 _ (by omega)]
      exact h5
    · rw [if_neg (by omega)] at hi4 ⊢
      dsimp only
      rw [if_neg (by omega)]
      have hle : hb4 f i = 43 + 15 * ((f + i) % 4) := rfl
      by_cases h3 : i < n
      · rw [if_pos h3]
        refine TR.keep (hP _ h3) (ht i h3) (fun a a1 a2 => ?_)
        rw [ms_ne (by omega), f2 _ (by omega)]
      · obtain rfl : i = n := by omega
        rw [if_neg h3]
        refine TR.copy (b := 1) (m := m) hw hT (fun k j hk => ?_)
        have hk15 := usK_lt hk
        rw [ms_ne (by omega), u2 k j hk]
/-- what nobody touches who asks -/
def Keep (m m' : Mm) : Prop := (∀ a, (1 ≤ a ∧ a ≤ 15 ∨ 43 ≤ a ∧ a ≤ 132 ∨ a = 36 ∨ a = 41 ∨ 134 ≤ a ∧ a ≤ 137 ∨ a = 143) → m' a = m a) ∧ m' 0 = m 0 ∧ m' 35 1 = m 35 1 ∧ m' 133 9 = m 133 9 ∧ m' 133 12 = m 133 12
theorem Keep.rf : Keep m m := ⟨fun _ _ => rfl, rfl, rfl, rfl, rfl⟩
theorem Keep.tr (h : Keep m m1) (k : Keep m1 m2) : Keep m m2 := ⟨fun a ha => (k.1 a ha).trans (h.1 a ha), k.2.1.trans h.2.1, k.2.2.1.trans h.2.2.1, k.2.2.2.1.trans h.2.2.2.1, k.2.2.2.2.trans h.2.2.2.2⟩
theorem hb4_in (f i : Nat) : 43 ≤ hb4 f i ∧ hb4 f i + 14 ≤ 102 := by
  unfold hb4
  omega
theorem INV.mono (h : INV T m) (ht : T ≤ T') : INV T' m := by
  obtain ⟨h1, h2, ⟨n, f, h3, h4⟩, h5, h6⟩ := h
  refine ⟨h1.mono ht, h2, ⟨n, f, h3, h4.1, fun i hi => (h4.2 i hi).mono ht⟩, fun j hj => ?_, h6⟩
  obtain ⟨y, y1, y2, y3, y4⟩ := h5 j hj
  exact ⟨y, y1, y2, y3, fun z => ⟨(y4 z).1.mono ht, (y4 z).2⟩⟩
theorem SLO.keep (h : SLO T m) (h1 : ∀ a, (103 ≤ a ∧ a ≤ 132 ∨ a = 41 ∨ a = 136 ∨ a = 137) → m' a = m a) : SLO T m' := fun j hj => by
  obtain ⟨y, y1, y2, y3, y4⟩ := h j hj
  refine ⟨y, y1, by rw [h1 _ (by omega)]; exact y2, by rw [h1 _ (by omega)]; exact y3, fun z => ?_⟩
  rw [h1 136 (by omega)]
  exact ⟨(y4 z).1, TR.keep (y4 z).1 (y4 z).2 (fun a a1 a2 => h1 a (by omega))⟩
theorem PADI.keep (h : PADI m) (h1 : m' 35 1 = m 35 1) (h2 : m' 133 12 = m 133 12) (h3 : m' 36 = m 36) (h4 : m' 143 = m 143) : PADI m' := by
  obtain ⟨t, t1, t2, t3, t4⟩ := h
  refine ⟨t, t1, h1.trans t2, h2.trans t3, fun i hi => ?_⟩
  rw [h3, h4]
  exact t4 i hi
theorem INV.keep (h : INV T m) (k : Keep m m') : INV T m' := by
  obtain ⟨k1, k2, k3, k4, k5⟩ := k
  obtain ⟨h1, h2, ⟨n, f, ⟨a1, a2, a3, a4, a5⟩, h4⟩, h5, h6⟩ := h
  have e4 : m' 134 = m 134 := k1 _ (by omega)
  have e5 : m' 135 = m 135 := k1 _ (by omega)
  unfold INV
  rw [e4, e5]
  refine ⟨h1, TR.keep h1 h2 (fun a x1 x2 => k1 a (by omega)), ⟨n, f, ⟨a1, a2, by rw [k2]; exact a3, by rw [k2]; exact a4, fun i hi => ?_⟩, by rw [k4]; exact h4.1, fun i hi => by rw [e5]; exact h4.2 i hi⟩, h5.keep (fun a ha => k1 a (by omega)), h6.keep k3 k5 (k1 _ (by omega)) (k1 _ (by omega))⟩
  have := hb4_in f i
  exact TR.keep (h4.2 i hi) (a5 i hi) (fun a x1 x2 => k1 a (by omega))
end
