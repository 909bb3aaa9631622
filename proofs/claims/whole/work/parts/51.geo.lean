/-- the column beside, by a step; none beyond an open end -/
def ncol (W : Nat) (ring : Bool) (s : Int) (c : Nat) : Option Nat := if s = 0 then some c else if s = 1 then (if c + 1 < W then some (c + 1) else if ring then some 0 else none) else (if 0 < c then some (c - 1) else if ring then some (W - 1) else none)
def stp (A : Int32) (W : Nat) (ring : Bool) (s : Int) (x : Int32) : Int32 := if s = 1 then o_ior (o_iand (o_ishl x (nz 1)) A) (if ring then o_iushr x (nz (W - 1)) else nz 0) else if s = -1 then o_ior (o_iushr x (nz 1)) (if ring then o_ishl (o_iand x (nz 1)) (nz (W - 1)) else nz 0) else x
def endC (W : Nat) (s : Int) : Int32 := if s = 1 then o_ishl (nz 1) (nz (W - 1)) else if s = -1 then nz 1 else nz 0
theorem bt_stp {A x : Int32} {W c : Nat} {ring : Bool} {s : Int} (hs : s = -1 ∨ s = 0 ∨ s = 1) (hW : 4 ≤ W) (hW2 : W ≤ 32) (hA : ∀ c, c < 32 → bt A c = decide (c < W)) (hx : ∀ c, bt x c = true → c < W) (hc : c < 32) : bt (stp A W ring s x) c = true ↔ ∃ c', c' < W ∧ bt x c' = true ∧ ncol W ring s c' = some c := by
  have hx' : ∀ c, W ≤ c → bt x c = false := fun c h => by
    cases hb : bt x c with
    | false => rfl
    | true => have := hx c hb; omega
  rcases hs with rfl | rfl | rfl
  · unfold stp ncol
    rw [if_neg (by decide), if_pos rfl, bt_or, bt_ushr _ (by decide), Bool.or_eq_true]
    simp only [show (-1 : Int) ≠ 0 by decide, show (-1 : Int) ≠ 1 by decide, if_false]
    constructor
    · rintro (h | h)
      · have := hx _ h
        exact ⟨c + 1, this, h, by rw [if_pos (by omega)]; simp⟩
      · cases ring with
        | false => simp [bt_nz _ hc] at h
        | true =>
          rw [if_pos rfl, bt_shl _ (by omega), bt_and] at h
          simp only [Bool.and_eq_true, decide_eq_true_eq] at h
          obtain ⟨-, h1, h2, h3⟩ := h
          have h4 : c - (W - 1) = 0 := by
            rw [bt_nz 1 (by omega)] at h3
            rw [tb1 (by omega)] at h3
            exact of_decide_eq_true h3
          rw [h4] at h2
          have : c = W - 1 := by omega
          exact ⟨0, by omega, h2, by rw [if_neg (by omega), this]; rfl⟩
    · rintro ⟨c', h1, h2, h3⟩
      by_cases h0 : 0 < c'
      · rw [if_pos h0] at h3
        have : c' = c + 1 := by simp at h3; omega
        subst this
        exact Or.inl h2
      · rw [if_neg h0] at h3
        cases ring with
        | false => simp at h3
        | true =>
          have : W - 1 = c := by simpa using h3
          subst this
          obtain rfl : c' = 0 := by omega
          right
          rw [if_pos rfl, bt_shl _ (by omega), bt_and, Nat.sub_self, h2]
          simp [bt_nz, hc]
  · unfold stp ncol
    rw [if_neg (by decide), if_neg (by decide)]
    simp only [if_true]
    constructor
    · intro h
      exact ⟨c, hx c h, h, rfl⟩
    · rintro ⟨c', h1, h2, h3⟩
      cases h3
      exact h2
  · unfold stp ncol
    rw [if_pos rfl, bt_or, bt_and, bt_shl _ (by decide), hA c hc, Bool.or_eq_true]
    simp only [show (1 : Int) ≠ 0 by decide, if_false, if_true]
    constructor
    · rintro (h | h)
      · simp only [Bool.and_eq_true, decide_eq_true_eq] at h
        obtain ⟨⟨-, h1, h2⟩, h3⟩ := h
        exact ⟨c - 1, by omega, h2, by rw [if_pos (by omega), show c - 1 + 1 = c by omega]⟩
      · cases ring with
        | false => simp [bt_nz _ hc] at h
        | true =>
          rw [if_pos rfl, bt_ushr _ (by omega)] at h
          have := hx _ h
          obtain rfl : c = 0 := by omega
          exact ⟨W - 1, by omega, by rwa [Nat.zero_add] at h, by rw [if_neg (by omega)]; rfl⟩
    · rintro ⟨c', h1, h2, h3⟩
      by_cases h0 : c' + 1 < W
      · rw [if_pos h0] at h3
        cases h3
        left
        simp [h0, hc, h2]
      · rw [if_neg h0] at h3
        cases ring with
        | false => simp at h3
        | true =>
          have : 0 = c := by simpa using h3
          subst this
          obtain rfl : c' = W - 1 := by omega
          right
          rw [if_pos rfl, bt_ushr _ (by omega), Nat.zero_add]
          exact h2
theorem bt_endC {W c : Nat} {s : Int} (hs : s = -1 ∨ s = 0 ∨ s = 1) (hW : 4 ≤ W) (hW2 : W ≤ 32) (hc : c < W) : bt (endC W s) c = true ↔ ncol W false s c = none := by
  have hc2 : c < 32 := by omega
  rcases hs with rfl | rfl | rfl
  · unfold endC ncol
    simp only [show (-1 : Int) ≠ 0 by decide, show (-1 : Int) ≠ 1 by decide, if_false, if_true, bt_nz 1 hc2, tb1 hc2, decide_eq_true_eq]
    by_cases h : c = 0
    · simp [h]
    · simp [h, Nat.pos_of_ne_zero h]
  · unfold endC ncol
    simp [bt_nz 0 hc2]
  · unfold endC ncol
    rw [if_pos rfl, bt_shl _ (by omega)]
    simp only [show (1 : Int) ≠ 0 by decide, if_false, if_true]
    by_cases h : c + 1 < W
    · simp only [h, if_true]
      have : ¬ W - 1 ≤ c := by omega
      simp [this]
    · simp only [h, if_false]
      have : c - (W - 1) = 0 := by omega
      rw [this, bt_nz 1 (by decide)]
      simp [hc2]
      omega
theorem ncol_lt {W c c' : Nat} {ring : Bool} {s : Int} (hW : 0 < W) (hc : c < W) (h : ncol W ring s c = some c') : c' < W := by
  unfold ncol at h
  split at h
  · cases h; exact hc
  · split at h
    · split at h
      · cases h; assumption
      · cases ring with
        | false => simp at h
        | true => simp at h; omega
    · split at h
      · cases h; omega
      · cases ring with
        | false => simp at h
        | true => simp at h; omega
/-- the step there and the step back -/
theorem ncol_back {W c c' : Nat} {ring : Bool} {s : Int} (hs : s = -1 ∨ s = 0 ∨ s = 1) (hW : 4 ≤ W) (hc : c < W) (hc' : c' < W) : ncol W ring (-s) c' = some c ↔ ncol W ring s c = some c' := by
  rcases hs with rfl | rfl | rfl
  · unfold ncol
    simp only [show -(-1 : Int) ≠ 0 by decide, show -(-1 : Int) = 1 by decide, show (-1 : Int) ≠ 0 by decide, show (-1 : Int) ≠ 1 by decide, show (1 : Int) ≠ 0 by decide, if_false, if_true]
    by_cases h1 : c' + 1 < W <;> by_cases h2 : 0 < c <;> cases ring <;> simp [h1, h2] <;> omega
  · unfold ncol
    simp only [show -(0 : Int) = 0 by decide, if_true, Option.some.injEq]
    exact ⟨fun h => h.symm, fun h => h.symm⟩
  · unfold ncol
    simp only [show (-1 : Int) ≠ 0 by decide, show (-1 : Int) ≠ 1 by decide, show (1 : Int) ≠ 0 by decide, if_false, if_true]
    by_cases h1 : c + 1 < W <;> by_cases h2 : 0 < c' <;> cases ring <;> simp [h1, h2] <;> omega
section
variable {b r : Nat} {e : Nat → Nat × (Nat → Int32)} {m : Mm} {w : Ml} {h : Hp}
theorem e_stepped (hb : TB b) {x : Int32} {W : Nat} {ring : Bool} {s : Int} (hs : s = -1 ∨ s = 0 ∨ s = 1) (hW : 4 ≤ W) (hW2 : W ≤ 32) (h0 : m (b + 1) 0 = nz W) : f_X1_stepped [.ref (b + 1), .int x, .int (zz s), .int (b01 ring)] (HM e m w) = some (HM e m w, .inl (some (.int (stp (m (b + 1) 2) W ring s x)))) := by
  unfold f_X1_stepped stp
  rcases hs with rfl | rfl | rfl
  · simp (disch := omega) only [mth_v, kR_r, kR_if, sQ, sN, sTi, sTa, sTl, sR, sRv, sX, sPi, sPo, sPz_v, zP_b, sRz_v, zR_b, zR_0, zR_1, zR_n0, zR_n1, sPa, sAi, sAl, sAo, sAa, sM_v, sMp_v, eM_v, sIf_v, eIf_v, cAnd_v, cOr_v, cB, cZ, cNot, eC_v, eI, eJ, eOp, eQ, eU, eIL, eLO, eLS, eLC, eGi, eGa, eZ_v, eAi, eAl, eAa, eAn, aN, aI, aA, sInc_v, sB_ok, sB_x, eS_ok, eS_x, eB_ok, eB_x, oE_s, oS_s, kI_i, kI_x, kV_v, kV_x, kP_i, kP_x, List.set_cons_zero, List.set_cons_succ, List.cons_append, List.nil_append, List.length_cons, List.length_nil, List.replicate_succ, List.replicate_zero, List.append_nil, bif_and, bif_or, zne_b01, zeq_b01, bif_d, cond_true, cond_false, nar_0, o_iadd, o_isub, o_imul, c_eq, c_ne, c_lt, c_ge, c_gt, c_le, Nat.reduceAdd, Nat.reduceSub, Nat.zero_add, if_true, if_false, eLl_2, eLi_0, eLi_1, eLi_2, eLi_3, eLi_4, eLi_5, eLi_6, eLi_7, eLi_8, eLi_9, eLi_10, eLi_11, eLi_12, eLi_13, eLa_0, eLa_1, eLa_2, eLa_3, eLa_4, eLa_5, eLa_6, eLa_7, nz_add, nz_mul, nz_sub, nz_lt, nz_le, nz_inj, zeq_nz, zne_nz, zge_nz, zgt_nz, zlt_nz, nlit0, nlit1, nlit2, nlit3, nlit4, nlit5, nlit6, nlit7, nlit8, nlit9, nlit10, nlit11, nlit12, nlit16, nlit18, nlit22, nlit31, nlit32, nlit33, nlit34, nlit40, nlit48, nlit60, nlit63, nlit64, nlit66, nlit80, nlit96, nlit114, nlit126, nlit128, nlit512, nlit756, nlit882, nlit1000, nlit1394, nlit1522, nlit1523, nlit10000, decide_true, decide_false, not_true_eq_false, not_false_eq_true, ne_eq, and_self, and_true, true_and, Bool.and_true, Bool.true_and, Bool.and_false, Bool.false_and, Bool.or_false, Bool.false_or, Bool.or_true, Bool.true_or, Bool.not_true, Bool.not_false, (gd_t0 hb), (rf_t0_0 hb), (rf_t0_1 hb), (rf_t0_2 hb), (rf_t0_3 hb), (rf_t0_4 hb), (rf_t0_5 hb), (rd_t0_6 hb), (wr_t0_6 hb), (rd_t0_7 hb), (wr_t0_7 hb), (rf_t0_8 hb), (rf_t0_9 hb), (gd_t1 hb), (rd_t1_0 hb), (wr_t1_0 hb), (rd_t1_1 hb), (wr_t1_1 hb), (rd_t1_2 hb), (wr_t1_2 hb), (rf_t1_3 hb), (rf_t1_4 hb), (ar_t2 hb), (aw_t2 hb), (an_t2 hb), (ar_t3 hb), (aw_t3 hb), (an_t3 hb), (gd_t4 hb), (rd_t4_0 hb), (wr_t4_0 hb), (rf_t4_1 hb), (ar_t5 hb), (aw_t5 hb), (an_t5 hb), (gd_t6 hb), (rd_t6_0 hb), (wr_t6_0 hb), (rd_t6_1 hb), (wr_t6_1 hb), (rf_t6_2 hb), (ar_t7 hb), (aw_t7 hb), (an_t7 hb), (gd_t8 hb), (rf_t8_0 hb), (rf_t8_1 hb), (ar_t9 hb), (aw_t9 hb), (an_t9 hb), (ar_t10 hb), (aw_t10 hb), (an_t10 hb), (ar_t11 hb), (aw_t11 hb), (an_t11 hb), (ar_t12 hb), (aw_t12 hb), (an_t12 hb), (ar_t13 hb), (aw_t13 hb), (an_t13 hb), (ar_t14 hb), (aw_t14 hb), (an_t14 hb), h0, zgt_zz, zlt_zz, show ¬ (0 : Int) < -1 by decide, show (-1 : Int) < 0 by decide]
    cases ring <;> rfl
  · simp (disch := omega) only [mth_v, kR_r, kR_if, sQ, sN, sTi, sTa, sTl, sR, sRv, sX, sPi, sPo, sPz_v, zP_b, sRz_v, zR_b, zR_0, zR_1, zR_n0, zR_n1, sPa, sAi, sAl, sAo, sAa, sM_v, sMp_v, eM_v, sIf_v, eIf_v, cAnd_v, cOr_v, cB, cZ, cNot, eC_v, eI, eJ, eOp, eQ, eU, eIL, eLO, eLS, eLC, eGi, eGa, eZ_v, eAi, eAl, eAa, eAn, aN, aI, aA, sInc_v, sB_ok, sB_x, eS_ok, eS_x, eB_ok, eB_x, oE_s, oS_s, kI_i, kI_x, kV_v, kV_x, kP_i, kP_x, List.set_cons_zero, List.set_cons_succ, List.cons_append, List.nil_append, List.length_cons, List.length_nil, List.replicate_succ, List.replicate_zero, List.append_nil, bif_and, bif_or, zne_b01, zeq_b01, bif_d, cond_true, cond_false, nar_0, o_iadd, o_isub, o_imul, c_eq, c_ne, c_lt, c_ge, c_gt, c_le, Nat.reduceAdd, Nat.reduceSub, Nat.zero_add, if_true, if_false, eLl_2, eLi_0, eLi_1, eLi_2, eLi_3, eLi_4, eLi_5, eLi_6, eLi_7, eLi_8, eLi_9, eLi_10, eLi_11, eLi_12, eLi_13, eLa_0, eLa_1, eLa_2, eLa_3, eLa_4, eLa_5, eLa_6, eLa_7, nz_add, nz_mul, nz_sub, nz_lt, nz_le, nz_inj, zeq_nz, zne_nz, zge_nz, zgt_nz, zlt_nz, nlit0, nlit1, nlit2, nlit3, nlit4, nlit5, nlit6, nlit7, nlit8, nlit9, nlit10, nlit11, nlit12, nlit16, nlit18, nlit22, nlit31, nlit32, nlit33, nlit34, nlit40, nlit48, nlit60, nlit63, nlit64, nlit66, nlit80, nlit96, nlit114, nlit126, nlit128, nlit512, nlit756, nlit882, nlit1000, nlit1394, nlit1522, nlit1523, nlit10000, decide_true, decide_false, not_true_eq_false, not_false_eq_true, ne_eq, and_self, and_true, true_and, Bool.and_true, Bool.true_and, Bool.and_false, Bool.false_and, Bool.or_false, Bool.false_or, Bool.or_true, Bool.true_or, Bool.not_true, Bool.not_false, (gd_t0 hb), (rf_t0_0 hb), (rf_t0_1 hb), (rf_t0_2 hb), (rf_t0_3 hb), (rf_t0_4 hb), (rf_t0_5 hb), (rd_t0_6 hb), (wr_t0_6 hb), (rd_t0_7 hb), (wr_t0_7 hb), (rf_t0_8 hb), (rf_t0_9 hb), (gd_t1 hb), (rd_t1_0 hb), (wr_t1_0 hb), (rd_t1_1 hb), (wr_t1_1 hb), (rd_t1_2 hb), (wr_t1_2 hb), (rf_t1_3 hb), (rf_t1_4 hb), (ar_t2 hb), (aw_t2 hb), (an_t2 hb), (ar_t3 hb), (aw_t3 hb), (an_t3 hb), (gd_t4 hb), (rd_t4_0 hb), (wr_t4_0 hb), (rf_t4_1 hb), (ar_t5 hb), (aw_t5 hb), (an_t5 hb), (gd_t6 hb), (rd_t6_0 hb), (wr_t6_0 hb), (rd_t6_1 hb), (wr_t6_1 hb), (rf_t6_2 hb), (ar_t7 hb), (aw_t7 hb), (an_t7 hb), (gd_t8 hb), (rf_t8_0 hb), (rf_t8_1 hb), (ar_t9 hb), (aw_t9 hb), (an_t9 hb), (ar_t10 hb), (aw_t10 hb), (an_t10 hb), (ar_t11 hb), (aw_t11 hb), (an_t11 hb), (ar_t12 hb), (aw_t12 hb), (an_t12 hb), (ar_t13 hb), (aw_t13 hb), (an_t13 hb), (ar_t14 hb), (aw_t14 hb), (an_t14 hb), h0, zgt_zz, zlt_zz, show ¬ (0 : Int) < 0 by decide]
    cases ring <;> rfl
  · cases ring <;> simp (disch := omega) only [mth_v, kR_r, kR_if, sQ, sN, sTi, sTa, sTl, sR, sRv, sX, sPi, sPo, sPz_v, zP_b, sRz_v, zR_b, zR_0, zR_1, zR_n0, zR_n1, sPa, sAi, sAl, sAo, sAa, sM_v, sMp_v, eM_v, sIf_v, eIf_v, cAnd_v, cOr_v, cB, cZ, cNot, eC_v, eI, eJ, eOp, eQ, eU, eIL, eLO, eLS, eLC, eGi, eGa, eZ_v, eAi, eAl, eAa, eAn, aN, aI, aA, sInc_v, sB_ok, sB_x, eS_ok, eS_x, eB_ok, eB_x, oE_s, oS_s, kI_i, kI_x, kV_v, kV_x, kP_i, kP_x, List.set_cons_zero, List.set_cons_succ, List.cons_append, List.nil_append, List.length_cons, List.length_nil, List.replicate_succ, List.replicate_zero, List.append_nil, bif_and, bif_or, zne_b01, zeq_b01, bif_d, cond_true, cond_false, nar_0, o_iadd, o_isub, o_imul, c_eq, c_ne, c_lt, c_ge, c_gt, c_le, Nat.reduceAdd, Nat.reduceSub, Nat.zero_add, if_true, if_false, eLl_2, eLi_0, eLi_1, eLi_2, eLi_3, eLi_4, eLi_5, eLi_6, eLi_7, eLi_8, eLi_9, eLi_10, eLi_11, eLi_12, eLi_13, eLa_0, eLa_1, eLa_2, eLa_3, eLa_4, eLa_5, eLa_6, eLa_7, nz_add, nz_mul, nz_sub, nz_lt, nz_le, nz_inj, zeq_nz, zne_nz, zge_nz, zgt_nz, zlt_nz, nlit0, nlit1, nlit2, nlit3, nlit4, nlit5, nlit6, nlit7, nlit8, nlit9, nlit10, nlit11, nlit12, nlit16, nlit18, nlit22, nlit31, nlit32, nlit33, nlit34, nlit40, nlit48, nlit60, nlit63, nlit64, nlit66, nlit80, nlit96, nlit114, nlit126, nlit128, nlit512, nlit756, nlit882, nlit1000, nlit1394, nlit1522, nlit1523, nlit10000, decide_true, decide_false, not_true_eq_false, not_false_eq_true, ne_eq, and_self, and_true, true_and, Bool.and_true, Bool.true_and, Bool.and_false, Bool.false_and, Bool.or_false, Bool.false_or, Bool.or_true, Bool.true_or, Bool.not_true, Bool.not_false, (gd_t0 hb), (rf_t0_0 hb), (rf_t0_1 hb), (rf_t0_2 hb), (rf_t0_3 hb), (rf_t0_4 hb), (rf_t0_5 hb), (rd_t0_6 hb), (wr_t0_6 hb), (rd_t0_7 hb), (wr_t0_7 hb), (rf_t0_8 hb), (rf_t0_9 hb), (gd_t1 hb), (rd_t1_0 hb), (wr_t1_0 hb), (rd_t1_1 hb), (wr_t1_1 hb), (rd_t1_2 hb), (wr_t1_2 hb), (rf_t1_3 hb), (rf_t1_4 hb), (ar_t2 hb), (aw_t2 hb), (an_t2 hb), (ar_t3 hb), (aw_t3 hb), (an_t3 hb), (gd_t4 hb), (rd_t4_0 hb), (wr_t4_0 hb), (rf_t4_1 hb), (ar_t5 hb), (aw_t5 hb), (an_t5 hb), (gd_t6 hb), (rd_t6_0 hb), (wr_t6_0 hb), (rd_t6_1 hb), (wr_t6_1 hb), (rf_t6_2 hb), (ar_t7 hb), (aw_t7 hb), (an_t7 hb), (gd_t8 hb), (rf_t8_0 hb), (rf_t8_1 hb), (ar_t9 hb), (aw_t9 hb), (an_t9 hb), (ar_t10 hb), (aw_t10 hb), (an_t10 hb), (ar_t11 hb), (aw_t11 hb), (an_t11 hb), (ar_t12 hb), (aw_t12 hb), (an_t12 hb), (ar_t13 hb), (aw_t13 hb), (an_t13 hb), (ar_t14 hb), (aw_t14 hb), (an_t14 hb), h0, zgt_zz, zlt_zz, show (0 : Int) < 1 by decide] <;> rfl
theorem e_endColumn (hb : TB b) {W : Nat} {s : Int} (hs : s = -1 ∨ s = 0 ∨ s = 1) (hW : 4 ≤ W) (hW2 : W ≤ 32) (h0 : m (b + 1) 0 = nz W) : f_X1_endColumn [.ref (b + 1), .int (zz s)] (HM e m w) = some (HM e m w, .inl (some (.int (endC W s)))) := by
  unfold f_X1_endColumn endC
  rcases hs with rfl | rfl | rfl
  · simp (disch := omega) only [mth_v, kR_r, kR_if, sQ, sN, sTi, sTa, sTl, sR, sRv, sX, sPi, sPo, sPz_v, zP_b, sRz_v, zR_b, zR_0, zR_1, zR_n0, zR_n1, sPa, sAi, sAl, sAo, sAa, sM_v, sMp_v, eM_v, sIf_v, eIf_v, cAnd_v, cOr_v, cB, cZ, cNot, eC_v, eI, eJ, eOp, eQ, eU, eIL, eLO, eLS, eLC, eGi, eGa, eZ_v, eAi, eAl, eAa, eAn, aN, aI, aA, sInc_v, sB_ok, sB_x, eS_ok, eS_x, eB_ok, eB_x, oE_s, oS_s, kI_i, kI_x, kV_v, kV_x, kP_i, kP_x, List.set_cons_zero, List.set_cons_succ, List.cons_append, List.nil_append, List.length_cons, List.length_nil, List.replicate_succ, List.replicate_zero, List.append_nil, bif_and, bif_or, zne_b01, zeq_b01, bif_d, cond_true, cond_false, nar_0, o_iadd, o_isub, o_imul, c_eq, c_ne, c_lt, c_ge, c_gt, c_le, Nat.reduceAdd, Nat.reduceSub, Nat.zero_add, if_true, if_false, eLl_2, eLi_0, eLi_1, eLi_2, eLi_3, eLi_4, eLi_5, eLi_6, eLi_7, eLi_8, eLi_9, eLi_10, eLi_11, eLi_12, eLi_13, eLa_0, eLa_1, eLa_2, eLa_3, eLa_4, eLa_5, eLa_6, eLa_7, nz_add, nz_mul, nz_sub, nz_lt, nz_le, nz_inj, zeq_nz, zne_nz, zge_nz, zgt_nz, zlt_nz, nlit0, nlit1, nlit2, nlit3, nlit4, nlit5, nlit6, nlit7, nlit8, nlit9, nlit10, nlit11, nlit12, nlit16, nlit18, nlit22, nlit31, nlit32, nlit33, nlit34, nlit40, nlit48, nlit60, nlit63, nlit64, nlit66, nlit80, nlit96, nlit114, nlit126, nlit128, nlit512, nlit756, nlit882, nlit1000, nlit1394, nlit1522, nlit1523, nlit10000, decide_true, decide_false, not_true_eq_false, not_false_eq_true, ne_eq, and_self, and_true, true_and, Bool.and_true, Bool.true_and, Bool.and_false, Bool.false_and, Bool.or_false, Bool.false_or, Bool.or_true, Bool.true_or, Bool.not_true, Bool.not_false, (gd_t0 hb), (rf_t0_0 hb), (rf_t0_1 hb), (rf_t0_2 hb), (rf_t0_3 hb), (rf_t0_4 hb), (rf_t0_5 hb), (rd_t0_6 hb), (wr_t0_6 hb), (rd_t0_7 hb), (wr_t0_7 hb), (rf_t0_8 hb), (rf_t0_9 hb), (gd_t1 hb), (rd_t1_0 hb), (wr_t1_0 hb), (rd_t1_1 hb), (wr_t1_1 hb), (rd_t1_2 hb), (wr_t1_2 hb), (rf_t1_3 hb), (rf_t1_4 hb), (ar_t2 hb), (aw_t2 hb), (an_t2 hb), (ar_t3 hb), (aw_t3 hb), (an_t3 hb), (gd_t4 hb), (rd_t4_0 hb), (wr_t4_0 hb), (rf_t4_1 hb), (ar_t5 hb), (aw_t5 hb), (an_t5 hb), (gd_t6 hb), (rd_t6_0 hb), (wr_t6_0 hb), (rd_t6_1 hb), (wr_t6_1 hb), (rf_t6_2 hb), (ar_t7 hb), (aw_t7 hb), (an_t7 hb), (gd_t8 hb), (rf_t8_0 hb), (rf_t8_1 hb), (ar_t9 hb), (aw_t9 hb), (an_t9 hb), (ar_t10 hb), (aw_t10 hb), (an_t10 hb), (ar_t11 hb), (aw_t11 hb), (an_t11 hb), (ar_t12 hb), (aw_t12 hb), (an_t12 hb), (ar_t13 hb), (aw_t13 hb), (an_t13 hb), (ar_t14 hb), (aw_t14 hb), (an_t14 hb), h0, zgt_zz, zlt_zz, show ¬ (0 : Int) < -1 by decide, show (-1 : Int) < 0 by decide]
    rfl
  · simp (disch := omega) only [mth_v, kR_r, kR_if, sQ, sN, sTi, sTa, sTl, sR, sRv, sX, sPi, sPo, sPz_v, zP_b, sRz_v, zR_b, zR_0, zR_1, zR_n0, zR_n1, sPa, sAi, sAl, sAo, sAa, sM_v, sMp_v, eM_v, sIf_v, eIf_v, cAnd_v, cOr_v, cB, cZ, cNot, eC_v, eI, eJ, eOp, eQ, eU, eIL, eLO, eLS, eLC, eGi, eGa, eZ_v, eAi, eAl, eAa, eAn, aN, aI, aA, sInc_v, sB_ok, sB_x, eS_ok, eS_x, eB_ok, eB_x, oE_s, oS_s, kI_i, kI_x, kV_v, kV_x, kP_i, kP_x, List.set_cons_zero, List.set_cons_succ, List.cons_append, List.nil_append, List.length_cons, List.length_nil, List.replicate_succ, List.replicate_zero, List.append_nil, bif_and, bif_or, zne_b01, zeq_b01, bif_d, cond_true, cond_false, nar_0, o_iadd, o_isub, o_imul, c_eq, c_ne, c_lt, c_ge, c_gt, c_le, Nat.reduceAdd, Nat.reduceSub, Nat.zero_add, if_true, if_false, eLl_2, eLi_0, eLi_1, eLi_2, eLi_3, eLi_4, eLi_5, eLi_6, eLi_7, eLi_8, eLi_9, eLi_10, eLi_11, eLi_12, eLi_13, eLa_0, eLa_1, eLa_2, eLa_3, eLa_4, eLa_5, eLa_6, eLa_7, nz_add, nz_mul, nz_sub, nz_lt, nz_le, nz_inj, zeq_nz, zne_nz, zge_nz, zgt_nz, zlt_nz, nlit0, nlit1, nlit2, nlit3, nlit4, nlit5, nlit6, nlit7, nlit8, nlit9, nlit10, nlit11, nlit12, nlit16, nlit18, nlit22, nlit31, nlit32, nlit33, nlit34, nlit40, nlit48, nlit60, nlit63, nlit64, nlit66, nlit80, nlit96, nlit114, nlit126, nlit128, nlit512, nlit756, nlit882, nlit1000, nlit1394, nlit1522, nlit1523, nlit10000, decide_true, decide_false, not_true_eq_false, not_false_eq_true, ne_eq, and_self, and_true, true_and, Bool.and_true, Bool.true_and, Bool.and_false, Bool.false_and, Bool.or_false, Bool.false_or, Bool.or_true, Bool.true_or, Bool.not_true, Bool.not_false, (gd_t0 hb), (rf_t0_0 hb), (rf_t0_1 hb), (rf_t0_2 hb), (rf_t0_3 hb), (rf_t0_4 hb), (rf_t0_5 hb), (rd_t0_6 hb), (wr_t0_6 hb), (rd_t0_7 hb), (wr_t0_7 hb), (rf_t0_8 hb), (rf_t0_9 hb), (gd_t1 hb), (rd_t1_0 hb), (wr_t1_0 hb), (rd_t1_1 hb), (wr_t1_1 hb), (rd_t1_2 hb), (wr_t1_2 hb), (rf_t1_3 hb), (rf_t1_4 hb), (ar_t2 hb), (aw_t2 hb), (an_t2 hb), (ar_t3 hb), (aw_t3 hb), (an_t3 hb), (gd_t4 hb), (rd_t4_0 hb), (wr_t4_0 hb), (rf_t4_1 hb), (ar_t5 hb), (aw_t5 hb), (an_t5 hb), (gd_t6 hb), (rd_t6_0 hb), (wr_t6_0 hb), (rd_t6_1 hb), (wr_t6_1 hb), (rf_t6_2 hb), (ar_t7 hb), (aw_t7 hb), (an_t7 hb), (gd_t8 hb), (rf_t8_0 hb), (rf_t8_1 hb), (ar_t9 hb), (aw_t9 hb), (an_t9 hb), (ar_t10 hb), (aw_t10 hb), (an_t10 hb), (ar_t11 hb), (aw_t11 hb), (an_t11 hb), (ar_t12 hb), (aw_t12 hb), (an_t12 hb), (ar_t13 hb), (aw_t13 hb), (an_t13 hb), (ar_t14 hb), (aw_t14 hb), (an_t14 hb), h0, zgt_zz, zlt_zz, show ¬ (0 : Int) < 0 by decide]
    rfl
  · simp (disch := omega) only [mth_v, kR_r, kR_if, sQ, sN, sTi, sTa, sTl, sR, sRv, sX, sPi, sPo, sPz_v, zP_b, sRz_v, zR_b, zR_0, zR_1, zR_n0, zR_n1, sPa, sAi, sAl, sAo, sAa, sM_v, sMp_v, eM_v, sIf_v, eIf_v, cAnd_v, cOr_v, cB, cZ, cNot, eC_v, eI, eJ, eOp, eQ, eU, eIL, eLO, eLS, eLC, eGi, eGa, eZ_v, eAi, eAl, eAa, eAn, aN, aI, aA, sInc_v, sB_ok, sB_x, eS_ok, eS_x, eB_ok, eB_x, oE_s, oS_s, kI_i, kI_x, kV_v, kV_x, kP_i, kP_x, List.set_cons_zero, List.set_cons_succ, List.cons_append, List.nil_append, List.length_cons, List.length_nil, List.replicate_succ, List.replicate_zero, List.append_nil, bif_and, bif_or, zne_b01, zeq_b01, bif_d, cond_true, cond_false, nar_0, o_iadd, o_isub, o_imul, c_eq, c_ne, c_lt, c_ge, c_gt, c_le, Nat.reduceAdd, Nat.reduceSub, Nat.zero_add, if_true, if_false, eLl_2, eLi_0, eLi_1, eLi_2, eLi_3, eLi_4, eLi_5, eLi_6, eLi_7, eLi_8, eLi_9, eLi_10, eLi_11, eLi_12, eLi_13, eLa_0, eLa_1, eLa_2, eLa_3, eLa_4, eLa_5, eLa_6, eLa_7, nz_add, nz_mul, nz_sub, nz_lt, nz_le, nz_inj, zeq_nz, zne_nz, zge_nz, zgt_nz, zlt_nz, nlit0, nlit1, nlit2, nlit3, nlit4, nlit5, nlit6, nlit7, nlit8, nlit9, nlit10, nlit11, nlit12, nlit16, nlit18, nlit22, nlit31, nlit32, nlit33, nlit34, nlit40, nlit48, nlit60, nlit63, nlit64, nlit66, nlit80, nlit96, nlit114, nlit126, nlit128, nlit512, nlit756, nlit882, nlit1000, nlit1394, nlit1522, nlit1523, nlit10000, decide_true, decide_false, not_true_eq_false, not_false_eq_true, ne_eq, and_self, and_true, true_and, Bool.and_true, Bool.true_and, Bool.and_false, Bool.false_and, Bool.or_false, Bool.false_or, Bool.or_true, Bool.true_or, Bool.not_true, Bool.not_false, (gd_t0 hb), (rf_t0_0 hb), (rf_t0_1 hb), (rf_t0_2 hb), (rf_t0_3 hb), (rf_t0_4 hb), (rf_t0_5 hb), (rd_t0_6 hb), (wr_t0_6 hb), (rd_t0_7 hb), (wr_t0_7 hb), (rf_t0_8 hb), (rf_t0_9 hb), (gd_t1 hb), (rd_t1_0 hb), (wr_t1_0 hb), (rd_t1_1 hb), (wr_t1_1 hb), (rd_t1_2 hb), (wr_t1_2 hb), (rf_t1_3 hb), (rf_t1_4 hb), (ar_t2 hb), (aw_t2 hb), (an_t2 hb), (ar_t3 hb), (aw_t3 hb), (an_t3 hb), (gd_t4 hb), (rd_t4_0 hb), (wr_t4_0 hb), (rf_t4_1 hb), (ar_t5 hb), (aw_t5 hb), (an_t5 hb), (gd_t6 hb), (rd_t6_0 hb), (wr_t6_0 hb), (rd_t6_1 hb), (wr_t6_1 hb), (rf_t6_2 hb), (ar_t7 hb), (aw_t7 hb), (an_t7 hb), (gd_t8 hb), (rf_t8_0 hb), (rf_t8_1 hb), (ar_t9 hb), (aw_t9 hb), (an_t9 hb), (ar_t10 hb), (aw_t10 hb), (an_t10 hb), (ar_t11 hb), (aw_t11 hb), (an_t11 hb), (ar_t12 hb), (aw_t12 hb), (an_t12 hb), (ar_t13 hb), (aw_t13 hb), (an_t13 hb), (ar_t14 hb), (aw_t14 hb), (an_t14 hb), h0, zgt_zz, zlt_zz, show (0 : Int) < 1 by decide]
/-- the columns of a row that have the state s, as far as its first n directions say -/
def cws (m : Mm) (b r s : Nat) : Nat → Int32
  | 0 => m (b + 1) 2
  | d + 1 => o_iand (cws m b r s d) (if s.testBit d then m (b + 2) (r * 6 + d) else o_ixor (m (b + 2) (r * 6 + d)) (-1))
theorem bt_cws {s c : Nat} (hc : c < 32) : ∀ n, bt (cws m b r s n) c = true ↔ bt (m (b + 1) 2) c = true ∧ ∀ d, d < n → bt (m (b + 2) (r * 6 + d)) c = s.testBit d
  | 0 => by simp [cws]
  | n + 1 => by
    rw [cws, bt_and, Bool.and_eq_true, bt_cws hc n]
    constructor
    · rintro ⟨⟨h1, h2⟩, h3⟩
      refine ⟨h1, fun d hd => ?_⟩
      by_cases h : d = n
      · subst h
        cases hb : s.testBit d with
        | true => rw [hb] at h3; exact h3
        | false => rw [hb, if_neg (by decide), bt_not _ hc] at h3; simpa using h3
      · exact h2 d (by omega)
    · rintro ⟨h1, h2⟩
      refine ⟨⟨h1, fun d hd => h2 d (by omega)⟩, ?_⟩
      have := h2 n (by omega)
      cases hb : s.testBit n with
      | true => rw [hb] at this; exact this
      | false => rw [hb] at this; rw [if_neg (by decide), bt_not _ hc, this]; rfl
theorem e_columnsWithState (hb : TB b) {s : Nat} (hr : r < 16) (hs : s < 64) : f_X1_columnsWithState [.ref (b + 1), .int (nz r), .int (nz s)] (HM e m w) = some (HM e m w, .inl (some (.int (cws m b r s 6)))) := by
  unfold f_X1_columnsWithState
  simp (disch := omega) only [mth_v, kR_r, kR_if, sQ, sN, sTi, sTa, sTl, sR, sRv, sX, sPi, sPo, sPz_v, zP_b, sRz_v, zR_b, zR_0, zR_1, zR_n0, zR_n1, sPa, sAi, sAl, sAo, sAa, sM_v, sMp_v, eM_v, sIf_v, eIf_v, cAnd_v, cOr_v, cB, cZ, cNot, eC_v, eI, eJ, eOp, eQ, eU, eIL, eLO, eLS, eLC, eGi, eGa, eZ_v, eAi, eAl, eAa, eAn, aN, aI, aA, sInc_v, sB_ok, sB_x, eS_ok, eS_x, eB_ok, eB_x, oE_s, oS_s, kI_i, kI_x, kV_v, kV_x, kP_i, kP_x, List.set_cons_zero, List.set_cons_succ, List.cons_append, List.nil_append, List.length_cons, List.length_nil, List.replicate_succ, List.replicate_zero, List.append_nil, bif_and, bif_or, zne_b01, zeq_b01, bif_d, cond_true, cond_false, nar_0, o_iadd, o_isub, o_imul, c_eq, c_ne, c_lt, c_ge, c_gt, c_le, Nat.reduceAdd, Nat.reduceSub, Nat.zero_add, if_true, if_false, eLl_2, eLi_0, eLi_1, eLi_2, eLi_3, eLi_4, eLi_5, eLi_6, eLi_7, eLi_8, eLi_9, eLi_10, eLi_11, eLi_12, eLi_13, eLa_0, eLa_1, eLa_2, eLa_3, eLa_4, eLa_5, eLa_6, eLa_7, nz_add, nz_mul, nz_sub, nz_lt, nz_le, nz_inj, zeq_nz, zne_nz, zge_nz, zgt_nz, zlt_nz, nlit0, nlit1, nlit2, nlit3, nlit4, nlit5, nlit6, nlit7, nlit8, nlit9, nlit10, nlit11, nlit12, nlit16, nlit18, nlit22, nlit31, nlit32, nlit33, nlit34, nlit40, nlit48, nlit60, nlit63, nlit64, nlit66, nlit80, nlit96, nlit114, nlit126, nlit128, nlit512, nlit756, nlit882, nlit1000, nlit1394, nlit1522, nlit1523, nlit10000, (gd_t0 hb), (rf_t0_0 hb), (rf_t0_1 hb), (rf_t0_2 hb), (rf_t0_3 hb), (rf_t0_4 hb), (rf_t0_5 hb), (rd_t0_6 hb), (wr_t0_6 hb), (rd_t0_7 hb), (wr_t0_7 hb), (rf_t0_8 hb), (rf_t0_9 hb), (gd_t1 hb), (rd_t1_0 hb), (wr_t1_0 hb), (rd_t1_1 hb), (wr_t1_1 hb), (rd_t1_2 hb), (wr_t1_2 hb), (rf_t1_3 hb), (rf_t1_4 hb), (ar_t2 hb), (aw_t2 hb), (an_t2 hb), (ar_t3 hb), (aw_t3 hb), (an_t3 hb), (gd_t4 hb), (rd_t4_0 hb), (wr_t4_0 hb), (rf_t4_1 hb), (ar_t5 hb), (aw_t5 hb), (an_t5 hb), (gd_t6 hb), (rd_t6_0 hb), (wr_t6_0 hb), (rd_t6_1 hb), (wr_t6_1 hb), (rf_t6_2 hb), (ar_t7 hb), (aw_t7 hb), (an_t7 hb), (gd_t8 hb), (rf_t8_0 hb), (rf_t8_1 hb), (ar_t9 hb), (aw_t9 hb), (an_t9 hb), (ar_t10 hb), (aw_t10 hb), (an_t10 hb), (ar_t11 hb), (aw_t11 hb), (an_t11 hb), (ar_t12 hb), (aw_t12 hb), (an_t12 hb), (ar_t13 hb), (aw_t13 hb), (an_t13 hb), (ar_t14 hb), (aw_t14 hb), (an_t14 hb)]
  rw [sLp_fn (fun k => [.ref (b + 1), .int (nz r), .int (nz s), .int (cws m b r s k), .int (nz k), nlv (fun k => .int (m (b + 2) (r * 6 + k))) k]) (fun _ => HM e m w) 6 ?_ ?_ _ (NF_lt (by decide)) ?_ ?_]
  · simp only [mth_v, kR_r, kR_if, sQ, sN, sTi, sTa, sTl, sR, sRv, sX, sPi, sPo, sPz_v, zP_b, sRz_v, zR_b, zR_0, zR_1, zR_n0, zR_n1, sPa, sAi, sAl, sAo, sAa, sM_v, sMp_v, eM_v, sIf_v, eIf_v, cAnd_v, cOr_v, cB, cZ, cNot, eC_v, eI, eJ, eOp, eQ, eU, eIL, eLO, eLS, eLC, eGi, eGa, eZ_v, eAi, eAl, eAa, eAn, aN, aI, aA, sInc_v, sB_ok, sB_x, eS_ok, eS_x, eB_ok, eB_x, oE_s, oS_s, kI_i, kI_x, kV_v, kV_x, kP_i, kP_x, List.set_cons_zero, List.set_cons_succ, List.cons_append, List.nil_append, List.length_cons, List.length_nil, List.replicate_succ, List.replicate_zero, List.append_nil, bif_and, bif_or, zne_b01, zeq_b01, bif_d, cond_true, cond_false, nar_0, o_iadd, o_isub, o_imul, c_eq, c_ne, c_lt, c_ge, c_gt, c_le, Nat.reduceAdd, Nat.reduceSub, Nat.zero_add, if_true, if_false, eLl_2, eLi_0, eLi_1, eLi_2, eLi_3, eLi_4, eLi_5, eLi_6, eLi_7, eLi_8, eLi_9, eLi_10, eLi_11, eLi_12, eLi_13, eLa_0, eLa_1, eLa_2, eLa_3, eLa_4, eLa_5, eLa_6, eLa_7]
  · intro j hj
    simp (disch := omega) only [mth_v, kR_r, kR_if, sQ, sN, sTi, sTa, sTl, sR, sRv, sX, sPi, sPo, sPz_v, zP_b, sRz_v, zR_b, zR_0, zR_1, zR_n0, zR_n1, sPa, sAi, sAl, sAo, sAa, sM_v, sMp_v, eM_v, sIf_v, eIf_v, cAnd_v, cOr_v, cB, cZ, cNot, eC_v, eI, eJ, eOp, eQ, eU, eIL, eLO, eLS, eLC, eGi, eGa, eZ_v, eAi, eAl, eAa, eAn, aN, aI, aA, sInc_v, sB_ok, sB_x, eS_ok, eS_x, eB_ok, eB_x, oE_s, oS_s, kI_i, kI_x, kV_v, kV_x, kP_i, kP_x, List.set_cons_zero, List.set_cons_succ, List.cons_append, List.nil_append, List.length_cons, List.length_nil, List.replicate_succ, List.replicate_zero, List.append_nil, bif_and, bif_or, zne_b01, zeq_b01, bif_d, cond_true, cond_false, nar_0, o_iadd, o_isub, o_imul, c_eq, c_ne, c_lt, c_ge, c_gt, c_le, Nat.reduceAdd, Nat.reduceSub, Nat.zero_add, if_true, if_false, eLl_2, eLi_0, eLi_1, eLi_2, eLi_3, eLi_4, eLi_5, eLi_6, eLi_7, eLi_8, eLi_9, eLi_10, eLi_11, eLi_12, eLi_13, eLa_0, eLa_1, eLa_2, eLa_3, eLa_4, eLa_5, eLa_6, eLa_7, nz_add, nz_mul, nz_sub, nz_lt, nz_le, nz_inj, zeq_nz, zne_nz, zge_nz, zgt_nz, zlt_nz, nlit0, nlit1, nlit2, nlit3, nlit4, nlit5, nlit6, nlit7, nlit8, nlit9, nlit10, nlit11, nlit12, nlit16, nlit18, nlit22, nlit31, nlit32, nlit33, nlit34, nlit40, nlit48, nlit60, nlit63, nlit64, nlit66, nlit80, nlit96, nlit114, nlit126, nlit128, nlit512, nlit756, nlit882, nlit1000, nlit1394, nlit1522, nlit1523, nlit10000, (gd_t0 hb), (rf_t0_0 hb), (rf_t0_1 hb), (rf_t0_2 hb), (rf_t0_3 hb), (rf_t0_4 hb), (rf_t0_5 hb), (rd_t0_6 hb), (wr_t0_6 hb), (rd_t0_7 hb), (wr_t0_7 hb), (rf_t0_8 hb), (rf_t0_9 hb), (gd_t1 hb), (rd_t1_0 hb), (wr_t1_0 hb), (rd_t1_1 hb), (wr_t1_1 hb), (rd_t1_2 hb), (wr_t1_2 hb), (rf_t1_3 hb), (rf_t1_4 hb), (ar_t2 hb), (aw_t2 hb), (an_t2 hb), (ar_t3 hb), (aw_t3 hb), (an_t3 hb), (gd_t4 hb), (rd_t4_0 hb), (wr_t4_0 hb), (rf_t4_1 hb), (ar_t5 hb), (aw_t5 hb), (an_t5 hb), (gd_t6 hb), (rd_t6_0 hb), (wr_t6_0 hb), (rd_t6_1 hb), (wr_t6_1 hb), (rf_t6_2 hb), (ar_t7 hb), (aw_t7 hb), (an_t7 hb), (gd_t8 hb), (rf_t8_0 hb), (rf_t8_1 hb), (ar_t9 hb), (aw_t9 hb), (an_t9 hb), (ar_t10 hb), (aw_t10 hb), (an_t10 hb), (ar_t11 hb), (aw_t11 hb), (an_t11 hb), (ar_t12 hb), (aw_t12 hb), (an_t12 hb), (ar_t13 hb), (aw_t13 hb), (an_t13 hb), (ar_t14 hb), (aw_t14 hb), (an_t14 hb), and1, bt_shr, bt_nz, Nat.zero_add, decide_eq_true hj]
    refine ⟨trivial, ?_⟩
    cases hb : s.testBit j <;> simp [kR, sB, eB, eS, kI, kV, kP, sRv, cws, hb, nlv, sInc_v, eLi_4, nz_add, nlit1]
  · simp (disch := omega) only [mth_v, kR_r, kR_if, sQ, sN, sTi, sTa, sTl, sR, sRv, sX, sPi, sPo, sPz_v, zP_b, sRz_v, zR_b, zR_0, zR_1, zR_n0, zR_n1, sPa, sAi, sAl, sAo, sAa, sM_v, sMp_v, eM_v, sIf_v, eIf_v, cAnd_v, cOr_v, cB, cZ, cNot, eC_v, eI, eJ, eOp, eQ, eU, eIL, eLO, eLS, eLC, eGi, eGa, eZ_v, eAi, eAl, eAa, eAn, aN, aI, aA, sInc_v, sB_ok, sB_x, eS_ok, eS_x, eB_ok, eB_x, oE_s, oS_s, kI_i, kI_x, kV_v, kV_x, kP_i, kP_x, List.set_cons_zero, List.set_cons_succ, List.cons_append, List.nil_append, List.length_cons, List.length_nil, List.replicate_succ, List.replicate_zero, List.append_nil, bif_and, bif_or, zne_b01, zeq_b01, bif_d, cond_true, cond_false, nar_0, o_iadd, o_isub, o_imul, c_eq, c_ne, c_lt, c_ge, c_gt, c_le, Nat.reduceAdd, Nat.reduceSub, Nat.zero_add, if_true, if_false, eLl_2, eLi_0, eLi_1, eLi_2, eLi_3, eLi_4, eLi_5, eLi_6, eLi_7, eLi_8, eLi_9, eLi_10, eLi_11, eLi_12, eLi_13, eLa_0, eLa_1, eLa_2, eLa_3, eLa_4, eLa_5, eLa_6, eLa_7, nz_add, nz_mul, nz_sub, nz_lt, nz_le, nz_inj, zeq_nz, zne_nz, zge_nz, zgt_nz, zlt_nz, nlit0, nlit1, nlit2, nlit3, nlit4, nlit5, nlit6, nlit7, nlit8, nlit9, nlit10, nlit11, nlit12, nlit16, nlit18, nlit22, nlit31, nlit32, nlit33, nlit34, nlit40, nlit48, nlit60, nlit63, nlit64, nlit66, nlit80, nlit96, nlit114, nlit126, nlit128, nlit512, nlit756, nlit882, nlit1000, nlit1394, nlit1522, nlit1523, nlit10000]
    simp
  all_goals rfl
def par (n : Nat) : Int32 := if n % 2 = 0 then 1431655765 else -1431655766
theorem bt_par {n c : Nat} (hc : c < 32) : bt (par n) c = decide (c % 2 = n % 2) := by
  have h1 : ∀ c, c < 32 → bt 1431655765 c = decide (c % 2 = 0) := by decide
  have h2 : ∀ c, c < 32 → bt (-1431655766) c = decide (c % 2 = 1) := by decide
  unfold par
  rcases (show n % 2 = 0 ∨ n % 2 = 1 by omega) with h | h
  · rw [if_pos h, h1 c hc, h]
  · rw [if_neg (by omega), h2 c hc, h]
theorem e_parity {n : Nat} : f_X4_columnsOfParity [.int (nz n)] h = some (h, .inl (some (.int (par n)))) := by
  unfold f_X4_columnsOfParity par
  simp (disch := omega) only [mth_v, kR_r, kR_if, sQ, sN, sTi, sTa, sTl, sR, sRv, sX, sPi, sPo, sPz_v, zP_b, sRz_v, zR_b, zR_0, zR_1, zR_n0, zR_n1, sPa, sAi, sAl, sAo, sAa, sM_v, sMp_v, eM_v, sIf_v, eIf_v, cAnd_v, cOr_v, cB, cZ, cNot, eC_v, eI, eJ, eOp, eQ, eU, eIL, eLO, eLS, eLC, eGi, eGa, eZ_v, eAi, eAl, eAa, eAn, aN, aI, aA, sInc_v, sB_ok, sB_x, eS_ok, eS_x, eB_ok, eB_x, oE_s, oS_s, kI_i, kI_x, kV_v, kV_x, kP_i, kP_x, List.set_cons_zero, List.set_cons_succ, List.cons_append, List.nil_append, List.length_cons, List.length_nil, List.replicate_succ, List.replicate_zero, List.append_nil, bif_and, bif_or, zne_b01, zeq_b01, bif_d, cond_true, cond_false, nar_0, o_iadd, o_isub, o_imul, c_eq, c_ne, c_lt, c_ge, c_gt, c_le, Nat.reduceAdd, Nat.reduceSub, Nat.zero_add, if_true, if_false, eLl_2, eLi_0, eLi_1, eLi_2, eLi_3, eLi_4, eLi_5, eLi_6, eLi_7, eLi_8, eLi_9, eLi_10, eLi_11, eLi_12, eLi_13, eLa_0, eLa_1, eLa_2, eLa_3, eLa_4, eLa_5, eLa_6, eLa_7, nz_add, nz_mul, nz_sub, nz_lt, nz_le, nz_inj, zeq_nz, zne_nz, zge_nz, zgt_nz, zlt_nz, nlit0, nlit1, nlit2, nlit3, nlit4, nlit5, nlit6, nlit7, nlit8, nlit9, nlit10, nlit11, nlit12, nlit16, nlit18, nlit22, nlit31, nlit32, nlit33, nlit34, nlit40, nlit48, nlit60, nlit63, nlit64, nlit66, nlit80, nlit96, nlit114, nlit126, nlit128, nlit512, nlit756, nlit882, nlit1000, nlit1394, nlit1522, nlit1523, nlit10000, and1, bt_nz, Nat.testBit_zero]
  rcases (show n % 2 = 0 ∨ n % 2 = 1 by omega) with h | h <;> simp [h, kR, sB, eB, eS, kI, kV, kP, sRv]
end
