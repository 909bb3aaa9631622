/-! THE MODEL'S TICK: one particle -/
section
variable {S : St} {T : Nat} {e : Nat → Nat × (Nat → Int32)} {m : Mm} {w : Ml} {h : Hp}
theorem nz_ti {n : Nat} (h : n < 2147483648) : (nz n).toInt = n := by rw [nz_zz, zz_to (by omega) (by omega)]
theorem e_right {r d : Nat} (hr : r < 1000) (hd : d < 6) : f_X8_right [.int (nz r), .int (nz d)] h = some (h, .inl (some (.int (zz (stq r d))))) := by
  have q2 : ((2 : Nat) = 0) = False := by simp
  have e1 : stq r d = stq (r % 2) d := by unfold stq; rw [Nat.mod_mod]
  have hm : r % 2 < 2 := Nat.mod_lt _ (by decide)
  unfold f_X8_right
  simp (disch := omega) only [mth_w, kR_w, kR_if, sQ_v, sN_v, sTi_v, sTa_v, sTl_v, sR_v, sRv_v, sX_v, sPi_v, sPo_v, sPz_w, zP_b, sRz_w, zR_bw, zR_0w, zR_1w, sPa_v, sAi_v, sAl_v, sAo_v, sAa_v, sM_w, sMp_w, eM_w, sIf_w, eIf_w, cAnd_w, cOr_w, cB_v, cZ_v, cNot_v, eC_v, eI_v, eJ_v, eOp_v, eQ_v, eU_v, eIL_v, eLO_v, eLS_v, eLC_v, eGi_v, eGa_v, eZ_w, eAi_v, eAl_v, eAa_v, eAn_v, aN_v, aI_v, aA_v, sInc_v, sB_okw, sB_xw, eS_okw, eS_xw, eB_okw, eB_xw, oE_w, oS_w, kI_iw, kI_xw, kV_w, kV_xw, kP_iw, kP_xw, List.set_cons_zero, List.set_cons_succ, List.cons_append, List.nil_append, List.length_cons, List.length_nil, List.replicate_succ, List.replicate_zero, List.append_nil, bif_and, bif_or, zne_b01, zeq_b01, bif_d, cond_true, cond_false, nar_0, o_iadd, o_isub, o_imul, c_eq, c_ne, c_lt, c_ge, c_gt, c_le, Nat.reduceAdd, Nat.reduceSub, Nat.zero_add, if_true, if_false, eLl_2, eLi_0, eLi_1, eLi_2, eLi_3, eLi_4, eLi_5, eLi_6, eLi_7, eLi_8, eLi_9, eLi_10, eLi_11, eLi_12, eLi_13, eLa_0, eLa_1, eLa_2, eLa_3, eLa_4, eLa_5, eLa_6, eLa_7, nz_add, nz_mul, nz_sub, nz_lt, nz_le, nz_inj, zeq_nz, zne_nz, zge_nz, zgt_nz, zlt_nz, nlit0, nlit1, nlit2, nlit3, nlit4, nlit5, nlit6, nlit7, nlit8, nlit9, nlit10, nlit11, nlit12, nlit16, nlit18, nlit22, nlit31, nlit32, nlit33, nlit34, nlit40, nlit48, nlit60, nlit63, nlit64, nlit66, nlit80, nlit96, nlit114, nlit126, nlit128, nlit512, nlit756, nlit882, nlit1000, nlit1394, nlit1522, nlit1523, nlit10000, nz_rem, q2]
  rw [e1]
  generalize r % 2 = p at *
  rcases (show p = 0 ∨ p = 1 by omega) with rfl | rfl <;> rcases (show d = 0 ∨ d = 1 ∨ d = 2 ∨ d = 3 ∨ d = 4 ∨ d = 5 by omega) with rfl | rfl | rfl | rfl | rfl | rfl <;> rfl
theorem ncol_m {W c : Nat} {ring : Bool} : ncol W ring (-1) c = if 0 < c then some (c - 1) else if ring then some (W - 1) else none := by
  unfold ncol
  rw [if_neg (by decide), if_neg (by decide)]
theorem ncol_z {W c : Nat} {ring : Bool} : ncol W ring 0 c = some c := by
  unfold ncol
  rw [if_pos rfl]
theorem ncol_p {W c : Nat} {ring : Bool} : ncol W ring 1 c = if c + 1 < W then some (c + 1) else if ring then some 0 else none := by
  unfold ncol
  rw [if_neg (by decide), if_pos rfl]
def colI (W : Nat) (ring : Bool) (s : Int) (c : Nat) : Int := match ncol W ring s c with
  | some c2 => (c2 : Int)
  | none => (c : Int) + s
theorem colI_s {W c c2 : Nat} {ring : Bool} {s : Int} (hn : ncol W ring s c = some c2) : colI W ring s c = c2 := by
  unfold colI
  rw [hn]
theorem colI_n {W c : Nat} {ring : Bool} {s : Int} (hn : ncol W ring s c = none) : colI W ring s c = c + s := by
  unfold colI
  rw [hn]
theorem ncol_no {W c : Nat} {ring : Bool} {s : Int} (hs : s = -1 ∨ s = 0 ∨ s = 1) (hc : c < W) (hn : ncol W ring s c = none) : ring = false ∧ ((s = 1 ∧ c + 1 = W) ∨ (s = -1 ∧ c = 0)) := by
  rcases hs with rfl | rfl | rfl
  · rw [ncol_m] at hn
    by_cases h : 0 < c
    · rw [if_pos h] at hn; cases hn
    · rw [if_neg h] at hn
      cases ring with
      | true => rw [if_pos rfl] at hn; cases hn
      | false => exact ⟨rfl, Or.inr ⟨rfl, by omega⟩⟩
  · rw [ncol_z] at hn; cases hn
  · rw [ncol_p] at hn
    by_cases h : c + 1 < W
    · rw [if_pos h] at hn; cases hn
    · rw [if_neg h] at hn
      cases ring with
      | true => rw [if_pos rfl] at hn; cases hn
      | false => exact ⟨rfl, Or.inl ⟨rfl, by omega⟩⟩
theorem colI_f {W c : Nat} {s : Int} (hs : s = -1 ∨ s = 0 ∨ s = 1) : colI W false s c = c + s := by
  cases hn : ncol W false s c with
  | none => exact colI_n hn
  | some c2 =>
    rw [colI_s hn]
    rcases hs with rfl | rfl | rfl
    · rw [ncol_m] at hn
      by_cases h : 0 < c
      · rw [if_pos h] at hn
        cases hn
        omega
      · rw [if_neg h, if_neg (by decide)] at hn; cases hn
    · rw [ncol_z] at hn
      cases hn
      omega
    · rw [ncol_p] at hn
      by_cases h : c + 1 < W
      · rw [if_pos h] at hn
        cases hn
        omega
      · rw [if_neg h, if_neg (by decide)] at hn; cases hn
theorem colI_t {W c : Nat} {s : Int} (hs : s = -1 ∨ s = 0 ∨ s = 1) (hW : 4 ≤ W) (hc : c < W) : colI W true s c = (((c : Int) + s + W).toNat % W : Nat) := by
  rcases hs with rfl | rfl | rfl
  · rw [show ((c : Int) + -1 + W).toNat = c + W - 1 by omega]
    by_cases h : 0 < c
    · rw [colI_s (c2 := c - 1) (by rw [ncol_m, if_pos h]), show c + W - 1 = (c - 1) + W by omega, Nat.add_mod_right, Nat.mod_eq_of_lt (by omega)]
    · rw [colI_s (c2 := W - 1) (by rw [ncol_m, if_neg h, if_pos rfl]), show c + W - 1 = W - 1 by omega, Nat.mod_eq_of_lt (by omega)]
  · rw [show ((c : Int) + 0 + W).toNat = c + W by omega, colI_s (c2 := c) ncol_z, Nat.add_mod_right, Nat.mod_eq_of_lt hc]
  · rw [show ((c : Int) + 1 + W).toNat = c + 1 + W by omega, Nat.add_mod_right]
    by_cases h : c + 1 < W
    · rw [colI_s (c2 := c + 1) (by rw [ncol_p, if_pos h]), Nat.mod_eq_of_lt h]
    · rw [colI_s (c2 := 0) (by rw [ncol_p, if_neg h, if_pos rfl]), show c + 1 = W by omega, Nat.mod_self]
theorem e_beside {W c R : Nat} {s : Int} (hs : s = -1 ∨ s = 0 ∨ s = 1) (hW : 4 ≤ W) (hW2 : W ≤ 32) (hc : c < W) (h0 : m 134 0 = nz W) (hR : R < 2) (h3 : m 134 3 = nz R) : f_X8_beside [.ref 133, .int (nz c), .int (zz s)] (HM e m w) = some (HM e m w, .inl (some (.int (zz (colI W (decide (R = 1)) s c))))) := by
  have qW : (W = 0) = False := eq_false (by omega)
  rcases (show R = 0 ∨ R = 1 by omega) with rfl | rfl
  · have e1 : nz c + zz s = zz (colI W (decide (0 = 1)) s c) := by
      rw [show decide ((0 : Nat) = 1) = false from rfl, colI_f hs, nz_zz, zz_add]
    have zf : z_eq (m 134 3) = true := by rw [h3]; rfl
    unfold f_X8_beside
    simp (disch := omega) only [mth_w, kR_w, kR_if, sQ_v, sN_v, sTi_v, sTa_v, sTl_v, sR_v, sRv_v, sX_v, sPi_v, sPo_v, sPz_w, zP_b, sRz_w, zR_bw, zR_0w, zR_1w, sPa_v, sAi_v, sAl_v, sAo_v, sAa_v, sM_w, sMp_w, eM_w, sIf_w, eIf_w, cAnd_w, cOr_w, cB_v, cZ_v, cNot_v, eC_v, eI_v, eJ_v, eOp_v, eQ_v, eU_v, eIL_v, eLO_v, eLS_v, eLC_v, eGi_v, eGa_v, eZ_w, eAi_v, eAl_v, eAa_v, eAn_v, aN_v, aI_v, aA_v, sInc_v, sB_okw, sB_xw, eS_okw, eS_xw, eB_okw, eB_xw, oE_w, oS_w, kI_iw, kI_xw, kV_w, kV_xw, kP_iw, kP_xw, List.set_cons_zero, List.set_cons_succ, List.cons_append, List.nil_append, List.length_cons, List.length_nil, List.replicate_succ, List.replicate_zero, List.append_nil, bif_and, bif_or, zne_b01, zeq_b01, bif_d, cond_true, cond_false, nar_0, o_iadd, o_isub, o_imul, c_eq, c_ne, c_lt, c_ge, c_gt, c_le, Nat.reduceAdd, Nat.reduceSub, Nat.zero_add, if_true, if_false, eLl_2, eLi_0, eLi_1, eLi_2, eLi_3, eLi_4, eLi_5, eLi_6, eLi_7, eLi_8, eLi_9, eLi_10, eLi_11, eLi_12, eLi_13, eLa_0, eLa_1, eLa_2, eLa_3, eLa_4, eLa_5, eLa_6, eLa_7, nz_add, nz_mul, nz_sub, nz_lt, nz_le, nz_inj, zeq_nz, zne_nz, zge_nz, zgt_nz, zlt_nz, nlit0, nlit1, nlit2, nlit3, nlit4, nlit5, nlit6, nlit7, nlit8, nlit9, nlit10, nlit11, nlit12, nlit16, nlit18, nlit22, nlit31, nlit32, nlit33, nlit34, nlit40, nlit48, nlit60, nlit63, nlit64, nlit66, nlit80, nlit96, nlit114, nlit126, nlit128, nlit512, nlit756, nlit882, nlit1000, nlit1394, nlit1522, nlit1523, nlit10000, gd_133, rf_133_0, rf_133_1, rf_133_2, rf_133_3, rf_133_4, rf_133_5, rf_133_6, rf_133_7, rf_133_8, rd_133_9, wr_133_9, rd_133_10, wr_133_10, rf_133_11, rd_133_12, wr_133_12, rd_133_13, wr_133_13, rd_133_14, wr_133_14, rd_133_15, wr_133_15, rd_133_16, wr_133_16, rf_133_17, rf_133_18, ar_134, aw_134, an_134, ar_135, aw_135, an_135, ar_136, aw_136, an_136, ar_137, aw_137, ar_138, aw_138, an_138, ar_139, aw_139, an_139, ar_140, aw_140, an_140, ar_141, aw_141, an_141, ar_142, aw_142, an_142, ar_143, aw_143, an_143, ar_144, aw_144, an_144, ar_145, aw_145, zf, e1]
  · have hN : ((c : Int) + s + W).toNat < 100 := by omega
    have e1 : nz c + zz s + nz W = nz ((c : Int) + s + W).toNat := by
      rw [nz_zz, nz_zz, zz_add, zz_add, zz_nz (by omega)]
    have e2 : nz (((c : Int) + s + W).toNat % W) = zz (colI W (decide (1 = 1)) s c) := by
      rw [show decide ((1 : Nat) = 1) = true from rfl, colI_t hs hW hc, nz_zz]
    have zf : z_eq (m 134 3) = false := by rw [h3]; rfl
    generalize ((c : Int) + s + W).toNat = N at *
    unfold f_X8_beside
    simp (disch := omega) only [mth_w, kR_w, kR_if, sQ_v, sN_v, sTi_v, sTa_v, sTl_v, sR_v, sRv_v, sX_v, sPi_v, sPo_v, sPz_w, zP_b, sRz_w, zR_bw, zR_0w, zR_1w, sPa_v, sAi_v, sAl_v, sAo_v, sAa_v, sM_w, sMp_w, eM_w, sIf_w, eIf_w, cAnd_w, cOr_w, cB_v, cZ_v, cNot_v, eC_v, eI_v, eJ_v, eOp_v, eQ_v, eU_v, eIL_v, eLO_v, eLS_v, eLC_v, eGi_v, eGa_v, eZ_w, eAi_v, eAl_v, eAa_v, eAn_v, aN_v, aI_v, aA_v, sInc_v, sB_okw, sB_xw, eS_okw, eS_xw, eB_okw, eB_xw, oE_w, oS_w, kI_iw, kI_xw, kV_w, kV_xw, kP_iw, kP_xw, List.set_cons_zero, List.set_cons_succ, List.cons_append, List.nil_append, List.length_cons, List.length_nil, List.replicate_succ, List.replicate_zero, List.append_nil, bif_and, bif_or, zne_b01, zeq_b01, bif_d, cond_true, cond_false, nar_0, o_iadd, o_isub, o_imul, c_eq, c_ne, c_lt, c_ge, c_gt, c_le, Nat.reduceAdd, Nat.reduceSub, Nat.zero_add, if_true, if_false, eLl_2, eLi_0, eLi_1, eLi_2, eLi_3, eLi_4, eLi_5, eLi_6, eLi_7, eLi_8, eLi_9, eLi_10, eLi_11, eLi_12, eLi_13, eLa_0, eLa_1, eLa_2, eLa_3, eLa_4, eLa_5, eLa_6, eLa_7, nz_add, nz_mul, nz_sub, nz_lt, nz_le, nz_inj, zeq_nz, zne_nz, zge_nz, zgt_nz, zlt_nz, nlit0, nlit1, nlit2, nlit3, nlit4, nlit5, nlit6, nlit7, nlit8, nlit9, nlit10, nlit11, nlit12, nlit16, nlit18, nlit22, nlit31, nlit32, nlit33, nlit34, nlit40, nlit48, nlit60, nlit63, nlit64, nlit66, nlit80, nlit96, nlit114, nlit126, nlit128, nlit512, nlit756, nlit882, nlit1000, nlit1394, nlit1522, nlit1523, nlit10000, gd_133, rf_133_0, rf_133_1, rf_133_2, rf_133_3, rf_133_4, rf_133_5, rf_133_6, rf_133_7, rf_133_8, rd_133_9, wr_133_9, rd_133_10, wr_133_10, rf_133_11, rd_133_12, wr_133_12, rd_133_13, wr_133_13, rd_133_14, wr_133_14, rd_133_15, wr_133_15, rd_133_16, wr_133_16, rf_133_17, rf_133_18, ar_134, aw_134, an_134, ar_135, aw_135, an_135, ar_136, aw_136, an_136, ar_137, aw_137, ar_138, aw_138, an_138, ar_139, aw_139, an_139, ar_140, aw_140, an_140, ar_141, aw_141, an_141, ar_142, aw_142, an_142, ar_143, aw_143, an_143, ar_144, aw_144, an_144, ar_145, aw_145, zf, h0, e1, qW, nz_rem, e2]
theorem row_key {x : Int32} {H : Nat} (h0 : 1 ≤ H) (h : H < 2147483648) : (decide ((0 : Int32) ≤ x) && decide (x ≤ nz H - 1)) = !(z_lt x || decide (nz H ≤ x)) := by
  have q0 : (0 : Int32).toInt = 0 := rfl
  have q1 : (nz H).toInt = H := nz_ti h
  have q2 : (nz H - 1).toInt = (H : Int) - 1 := by
    rw [nlit1, nz_sub h0, nz_ti (by omega)]
    omega
  unfold z_lt
  rw [Bool.eq_iff_iff]
  simp only [Bool.and_eq_true, Bool.not_eq_true', Bool.or_eq_false_iff, decide_eq_true_eq, decide_eq_false_iff_not, Int32.le_iff_toInt_le, Int32.lt_iff_toInt_lt, q0, q1, q2]
  omega
theorem e_isRowM {H r d : Nat} (hd : d < 6) (hr : r < H) (hH : H ≤ 16) (h1 : m 134 1 = nz H) : f_X8_isRow [.ref 133, .int (nz r + q_rs d)] (HM e m w) = some (HM e m w, .inl (some (.int (b01 (!wlB H r d))))) := by
  rw [e_isRow, h1, row_key (by omega) (by omega), tg_wall hd hr hH]
theorem e_isColM {W c : Nat} {ring : Bool} {s : Int} (hs : s = -1 ∨ s = 0 ∨ s = 1) (hW : 4 ≤ W) (hW2 : W ≤ 32) (hc : c < W) (h0 : m 134 0 = nz W) : f_X8_isColumn [.ref 133, .int (zz (colI W ring s c))] (HM e m w) = some (HM e m w, .inl (some (.int (b01 (ncol W ring s c).isSome)))) := by
  rw [e_isColumn, h0, row_key (by omega) (by omega)]
  cases hn : ncol W ring s c with
  | none =>
    have := (ncol_no hs hc hn).2
    have q : (z_lt (zz ((c : Int) + s)) || decide (nz W ≤ zz ((c : Int) + s))) = true := by
      have q0 : (0 : Int32).toInt = 0 := rfl
      have q1 : (nz W).toInt = W := nz_ti (by omega)
      have q2 : (zz ((c : Int) + s)).toInt = (c : Int) + s := zz_to (by omega) (by omega)
      unfold z_lt
      simp only [Bool.or_eq_true, decide_eq_true_eq, Int32.le_iff_toInt_le, Int32.lt_iff_toInt_lt, q0, q1, q2]
      omega
    rw [colI_n hn, q]
    rfl
  | some c2 =>
    have := ncol_lt (by omega) hc hn
    have q : (z_lt (nz c2) || decide (nz W ≤ nz c2)) = false := by
      rw [zlt_nz (by omega), Bool.false_or, decide_eq_false_iff_not, nz_le (by omega) (by omega)]
      omega
    rw [colI_s hn, ← nz_zz, q]
    rfl
theorem e_round {u d : Nat} (hu : u < 2) (hd : d < 6) (hd0 : 0 < d) : f_X8_round [.int (nz u), .int (nz d)] h = some (h, .inl (some (.int (nz (if u = 1 then miN d else opN d))))) := by
  unfold f_X8_round
  rcases (show u = 0 ∨ u = 1 by omega) with rfl | rfl <;> rcases (show d = 1 ∨ d = 2 ∨ d = 3 ∨ d = 4 ∨ d = 5 by omega) with rfl | rfl | rfl | rfl | rfl <;> rfl
theorem pu_one : ∀ x, x < 2 → ∀ d, d < 6 → pu x (o_ishl (nz 1) (nz d)) = mo x d := by decide +kernel
theorem bkS_v {j k : Nat} {x y : Int32} : bkS S j x y k = S k + (if k = 12 + j then x else if k = 17 + j then y else nz 0) := by
  unfold bkS
  simp only [su_v]
  by_cases h1 : k = 17 + j
  · subst h1
    have h3 : ¬ 17 + j = 12 + j := by omega
    simp only [if_neg h3, if_true]
  · rw [if_neg h1, if_neg h1]
    by_cases h2 : k = 12 + j
    · rw [if_pos h2, if_pos h2, h2]
    · rw [if_neg h2, if_neg h2, add_nz0]
theorem bkS_ne {j k : Nat} {x y : Int32} (h1 : k ≠ 12 + j) (h2 : k ≠ 17 + j) : bkS S j x y k = S k := by
  rw [bkS_v, if_neg h1, if_neg h2, add_nz0]
def giv (m : Mm) (j x : Nat) (y : Int32) : Mm := mw (mw m 142 (fun i => m 142 i + if i = 2 * j + x then y else nz 0)) 134 (fun k => m 134 k + if k = 22 + 2 * j + x ∨ k = 12 + 5 * x + 2 then y else nz 0)
theorem giv_134 {j x : Nat} {y : Int32} : giv m j x y 134 = fun k => m 134 k + if k = 22 + 2 * j + x ∨ k = 12 + 5 * x + 2 then y else nz 0 := mw_at
theorem giv_142 {j x : Nat} {y : Int32} : giv m j x y 142 = fun i => m 142 i + if i = 2 * j + x then y else nz 0 := by
  unfold giv
  rw [mw_ne (by decide), mw_at]
theorem giv_ne {j x a : Nat} {y : Int32} (h1 : a ≠ 134) (h2 : a ≠ 142) : giv m j x y a = m a := by
  unfold giv
  rw [mw_ne h1, mw_ne h2]
theorem e_gives {j x : Nat} {y : Int32} (hj : j < 6) (hx : x < 2) : f_X8_gives [.ref 133, .int (nz j), .int (nz x), .int y] (HM e m w) = some (HM e (giv m j x y) w, .inl none) := by
  have key : ms (ms (ms m 142 (2 * j + x) (m 142 (2 * j + x) + y)) 134 (22 + 2 * j + x) (m 134 (22 + 2 * j + x) + y)) 134 (12 + 5 * x + 2) (m 134 (12 + 5 * x + 2) + y) = giv m j x y := by
    funext a k
    unfold giv
    simp only [ms_v, mw_v]
    by_cases h1 : a = 134
    · subst h1
      rw [if_pos rfl]
      by_cases h2 : k = 12 + 5 * x + 2
      · rw [if_pos ⟨rfl, h2⟩, if_pos (Or.inr h2), h2]
      · rw [if_neg (fun z => h2 z.2)]
        by_cases h3 : k = 22 + 2 * j + x
        · rw [if_pos ⟨rfl, h3⟩, if_pos (Or.inl h3), h3]
        · rw [if_neg (fun z => h3 z.2), if_neg (fun z => absurd z.1 (by decide)), if_neg (fun z => z.elim h3 h2), add_nz0]
    · rw [if_neg (fun z => h1 z.1), if_neg (fun z => h1 z.1), if_neg h1]
      by_cases h2 : a = 142
      · subst h2
        rw [if_pos rfl]
        by_cases h3 : k = 2 * j + x
        · rw [if_pos ⟨rfl, h3⟩, if_pos h3, h3]
        · rw [if_neg (fun z => h3 z.2), if_neg h3, add_nz0]
      · rw [if_neg (fun z => h2 z.1), if_neg h2]
  unfold f_X8_gives
  simp (disch := omega) only [mth_w, kR_w, kR_if, sQ_v, sN_v, sTi_v, sTa_v, sTl_v, sR_v, sRv_v, sX_v, sPi_v, sPo_v, sPz_w, zP_b, sRz_w, zR_bw, zR_0w, zR_1w, sPa_v, sAi_v, sAl_v, sAo_v, sAa_v, sM_w, sMp_w, eM_w, sIf_w, eIf_w, cAnd_w, cOr_w, cB_v, cZ_v, cNot_v, eC_v, eI_v, eJ_v, eOp_v, eQ_v, eU_v, eIL_v, eLO_v, eLS_v, eLC_v, eGi_v, eGa_v, eZ_w, eAi_v, eAl_v, eAa_v, eAn_v, aN_v, aI_v, aA_v, sInc_v, sB_okw, sB_xw, eS_okw, eS_xw, eB_okw, eB_xw, oE_w, oS_w, kI_iw, kI_xw, kV_w, kV_xw, kP_iw, kP_xw, List.set_cons_zero, List.set_cons_succ, List.cons_append, List.nil_append, List.length_cons, List.length_nil, List.replicate_succ, List.replicate_zero, List.append_nil, bif_and, bif_or, zne_b01, zeq_b01, bif_d, cond_true, cond_false, nar_0, o_iadd, o_isub, o_imul, c_eq, c_ne, c_lt, c_ge, c_gt, c_le, Nat.reduceAdd, Nat.reduceSub, Nat.zero_add, if_true, if_false, eLl_2, eLi_0, eLi_1, eLi_2, eLi_3, eLi_4, eLi_5, eLi_6, eLi_7, eLi_8, eLi_9, eLi_10, eLi_11, eLi_12, eLi_13, eLa_0, eLa_1, eLa_2, eLa_3, eLa_4, eLa_5, eLa_6, eLa_7, nz_add, nz_mul, nz_sub, nz_lt, nz_le, nz_inj, zeq_nz, zne_nz, zge_nz, zgt_nz, zlt_nz, nlit0, nlit1, nlit2, nlit3, nlit4, nlit5, nlit6, nlit7, nlit8, nlit9, nlit10, nlit11, nlit12, nlit16, nlit18, nlit22, nlit31, nlit32, nlit33, nlit34, nlit40, nlit48, nlit60, nlit63, nlit64, nlit66, nlit80, nlit96, nlit114, nlit126, nlit128, nlit512, nlit756, nlit882, nlit1000, nlit1394, nlit1522, nlit1523, nlit10000, gd_133, rf_133_0, rf_133_1, rf_133_2, rf_133_3, rf_133_4, rf_133_5, rf_133_6, rf_133_7, rf_133_8, rd_133_9, wr_133_9, rd_133_10, wr_133_10, rf_133_11, rd_133_12, wr_133_12, rd_133_13, wr_133_13, rd_133_14, wr_133_14, rd_133_15, wr_133_15, rd_133_16, wr_133_16, rf_133_17, rf_133_18, ar_134, aw_134, an_134, ar_135, aw_135, an_135, ar_136, aw_136, an_136, ar_137, aw_137, ar_138, aw_138, an_138, ar_139, aw_139, an_139, ar_140, aw_140, an_140, ar_141, aw_141, an_141, ar_142, aw_142, an_142, ar_143, aw_143, an_143, ar_144, aw_144, an_144, ar_145, aw_145, ms_ne, ms_nn, key]
/-- what a particle of the cell (c, r) adds to the place k -/
def inS (S : St) (r d c k : Nat) : Int32 :=
  if wlB (hN S) r d then (if k = 15 then mo 0 d - mo 0 (tuS S d) else if k = 20 then mo 1 d - mo 1 (tuS S d) else nz 0)
  else match nbS S r d c with
    | none => if k = 11 then nz 1 else if k = 16 then mo 0 d else if k = 21 then mo 1 d else if k = 34 + (wN S - 1) ∧ stq r d = 1 then nz 1 else nz 0
    | some c2 => if z_ge (vS S c2 (tgN r d)) then (if k = 34 + c ∧ stq r d = 1 then nz 1 else if k = 34 + c2 ∧ stq r d = -1 then -nz 1 else nz 0)
      else if 22 ≤ k ∧ k < 34 then (if bq (vS S c2 (tgN r d)) ((k - 22) / 2) then nz 2 * mo ((k - 22) % 2) d else nz 0) else if k = 14 then nz 2 * mo 0 d else if k = 19 then nz 2 * mo 1 d else nz 0
/-- where it comes to lie: direction and place -/
def tgS (S : St) (r d c : Nat) : Option (Nat × Nat) :=
  if wlB (hN S) r d then some (tuS S d, 32 * r + c)
  else match nbS S r d c with
    | none => none
    | some c2 => if z_ge (vS S c2 (tgN r d)) then some (d, 32 * tgN r d + c2) else some (opN d, 32 * r + c)
theorem orb {f : Nat → Int32} {p t : Nat} (ht : t < 6) (p' j : Nat) (hj : j < 32) : (bt (if p' = p then o_ior (f p) (o_ishl (nz 1) (nz t)) else f p') j = true ↔ bt (f p') j = true ∨ some (t, p) = some (j, p')) := by
  by_cases h : p' = p
  · subst h
    rw [if_pos rfl, bt_or, Bool.or_eq_true, bt_1c (by omega) hj, decide_eq_true_eq]
    constructor
    · rintro (q | q)
      · exact Or.inl q
      · exact Or.inr (by rw [q])
    · rintro (q | q)
      · exact Or.inl q
      · cases q; exact Or.inr rfl
  · rw [if_neg h]
    constructor
    · exact Or.inl
    · rintro (q | q)
      · exact q
      · cases q; exact absurd rfl h
theorem wl_lt {H r d : Nat} (hd : d < 6) (hr : r < H) (hH : H ≤ 16) (hw : wlB H r d = true) : z_lt (nz r + q_rs d) = upD d ∧ 0 < d := by
  have e1 : q_rs 1 = -1 := rfl
  have e2 : q_rs 2 = -1 := rfl
  have e4 : q_rs 4 = nz 1 := rfl
  have e5 : q_rs 5 = nz 1 := rfl
  have l0 : z_lt (nz 0 + -1) = true := by decide
  rcases (show d = 0 ∨ d = 1 ∨ d = 2 ∨ d = 3 ∨ d = 4 ∨ d = 5 by omega) with rfl | rfl | rfl | rfl | rfl | rfl
  · simp [wlB, upD, dnD] at hw
  · have : r = 0 := by simpa [wlB, upD, dnD] using hw
    subst this
    exact ⟨by rw [e1, l0]; rfl, by decide⟩
  · have : r = 0 := by simpa [wlB, upD, dnD] using hw
    subst this
    exact ⟨by rw [e2, l0]; rfl, by decide⟩
  · simp [wlB, upD, dnD] at hw
  · exact ⟨by rw [e4, nz_add, zlt_nz (by omega)]; rfl, by decide⟩
  · exact ⟨by rw [e5, nz_add, zlt_nz (by omega)]; rfl, by decide⟩
theorem tuS_lt (d : Nat) : tuS S d < 6 := by
  have h1 := miN_lt d
  have h2 := opN_lt d
  unfold tuS
  by_cases q : S (if upD d then 4 else 5) = nz 1
  · rw [if_pos q]; exact h1
  · rw [if_neg q]; exact h2
theorem one_sub (x y : Int32) : nz 1 * x + -nz 1 * y = x - y := by
  rw [Int32.neg_mul, show nz 1 * x = x from Int32.one_mul x, show nz 1 * y = y from Int32.one_mul y, Int32.sub_eq_add_neg]
theorem add_c {x y z : Int32} (h : y = z) : x + y = x + z := by rw [h]
theorem one_mulz (x : Int32) : nz 1 * x = x := Int32.one_mul x
theorem e_step {r d c : Nat} (hw : WF T S) (hr : r < hN S) (hd : d < 6) (hc : c < wN S) (hA : ∀ k, k < 8 → m 134 k = S k) (hcell : ∀ c r, c < 32 → r < 16 → vS (m 134) c r = if z_ge (vS S c r) then nz (uS S c r) else vS S c r) :
    ∃ m', f_X8_step [.ref 133, .int (nz c), .int (nz r), .int (nz d)] (HM e m w) = some (HM e m' w, .inl none) ∧ (∀ a, a ≠ 134 → a ≠ 141 → a ≠ 142 → m' a = m a) ∧ (∀ k, m' 134 k = m 134 k + inS S r d c k) ∧ (∀ i, i < 12 → m' 142 i = m 142 i + inS S r d c (22 + i)) ∧ ∀ p j, j < 32 → (bt (m' 141 p) j = true ↔ bt (m 141 p) j = true ∨ tgS S r d c = some (j, p)) := by
  have hW := hw.1
  have hH := hw.2.1
  have q6 : ((6 : Nat) = 0) = False := by simp
  obtain ⟨R, hR, hR3⟩ : ∃ R, R < 2 ∧ S 3 = nz R := by
    rcases hw.2.2.2.1 0 (by decide) with q | q
    · exact ⟨0, by decide, q⟩
    · exact ⟨1, by decide, q⟩
  have h0 : m 134 0 = nz (wN S) := by rw [hA 0 (by decide)]; exact hW.2.2
  have h1 : m 134 1 = nz (hN S) := by rw [hA 1 (by decide)]; exact hH.2.2
  have h3 : m 134 3 = nz R := by rw [hA 3 (by decide)]; exact hR3
  have hs := stq_3 r d
  have er := fun (h : Hp) => e_right (h := h) (r := r) (d := d) (by omega) hd
  have ed := fun (h : Hp) => e_down (h := h) hd
  have eb := e_beside (e := e) (w := w) (m := m) hs hW.1 hW.2.1 hc h0 hR h3
  rw [rg_eq hR hR3] at eb
  have eR := e_isRowM (e := e) (w := w) (m := m) hd hr hH.2.1 h1
  have p141 : 32 * r + c < 512 := by omega
  cases hwl : wlB (hN S) r d with
  | true =>
    rw [hwl, Bool.not_true] at eR
    obtain ⟨hz, hd0⟩ := wl_lt hd hr hH.2.1 hwl
    obtain ⟨u, hu, hu2⟩ : ∃ u, u < 2 ∧ S (if upD d then 4 else 5) = nz u := by
      cases upD d with
      | true =>
        rcases hw.2.2.2.1 1 (by decide) with q | q
        · exact ⟨0, by decide, q⟩
        · exact ⟨1, by decide, q⟩
      | false =>
        rcases hw.2.2.2.1 2 (by decide) with q | q
        · exact ⟨0, by decide, q⟩
        · exact ⟨1, by decide, q⟩
    have htu : (if u = 1 then miN d else opN d) = tuS S d := by
      unfold tuS
      rw [hu2]
      by_cases q : u = 1
      · rw [if_pos q, if_pos (by rw [q])]
      · rw [if_neg q, if_neg (by rw [nz_inj (by omega) (by decide)]; exact q)]
    have htl := tuS_lt (S := S) d
    have hmr : ∀ h : Hp, (bif z_lt (nz r + q_rs d) then (some (h, .inl (m 134 4)) : RE Int32) else some (h, .inl (m 134 5))) = some (h, .inl (nz u)) := by
      intro h
      rw [hz, hA 4 (by decide), hA 5 (by decide)]
      cases hq : upD d with
      | true => rw [hq, if_pos rfl] at hu2; rw [hu2]; rfl
      | false => rw [hq, if_neg (by decide)] at hu2; rw [hu2]; rfl
    have ero := fun (h : Hp) => e_round (h := h) hu hd hd0
    rw [htu] at ero
    refine ⟨?mw, ?evw, ?pow⟩
    case evw =>
      unfold f_X8_step
      simp (disch := omega) only [mth_w, kR_w, kR_if, sQ_v, sN_v, sTi_v, sTa_v, sTl_v, sR_v, sRv_v, sX_v, sPi_v, sPo_v, sPz_w, zP_b, sRz_w, zR_bw, zR_0w, zR_1w, sPa_v, sAi_v, sAl_v, sAo_v, sAa_v, sM_w, sMp_w, eM_w, sIf_w, eIf_w, cAnd_w, cOr_w, cB_v, cZ_v, cNot_v, eC_v, eI_v, eJ_v, eOp_v, eQ_v, eU_v, eIL_v, eLO_v, eLS_v, eLC_v, eGi_v, eGa_v, eZ_w, eAi_v, eAl_v, eAa_v, eAn_v, aN_v, aI_v, aA_v, sInc_v, sB_okw, sB_xw, eS_okw, eS_xw, eB_okw, eB_xw, oE_w, oS_w, kI_iw, kI_xw, kV_w, kV_xw, kP_iw, kP_xw, List.set_cons_zero, List.set_cons_succ, List.cons_append, List.nil_append, List.length_cons, List.length_nil, List.replicate_succ, List.replicate_zero, List.append_nil, bif_and, bif_or, zne_b01, zeq_b01, bif_d, cond_true, cond_false, nar_0, o_iadd, o_isub, o_imul, c_eq, c_ne, c_lt, c_ge, c_gt, c_le, Nat.reduceAdd, Nat.reduceSub, Nat.zero_add, if_true, if_false, eLl_2, eLi_0, eLi_1, eLi_2, eLi_3, eLi_4, eLi_5, eLi_6, eLi_7, eLi_8, eLi_9, eLi_10, eLi_11, eLi_12, eLi_13, eLa_0, eLa_1, eLa_2, eLa_3, eLa_4, eLa_5, eLa_6, eLa_7, nz_add, nz_mul, nz_sub, nz_lt, nz_le, nz_inj, zeq_nz, zne_nz, zge_nz, zgt_nz, zlt_nz, nlit0, nlit1, nlit2, nlit3, nlit4, nlit5, nlit6, nlit7, nlit8, nlit9, nlit10, nlit11, nlit12, nlit16, nlit18, nlit22, nlit31, nlit32, nlit33, nlit34, nlit40, nlit48, nlit60, nlit63, nlit64, nlit66, nlit80, nlit96, nlit114, nlit126, nlit128, nlit512, nlit756, nlit882, nlit1000, nlit1394, nlit1522, nlit1523, nlit10000, decide_true, decide_false, not_true_eq_false, not_false_eq_true, ne_eq, and_self, and_true, true_and, Bool.and_true, Bool.true_and, Bool.and_false, Bool.false_and, Bool.or_false, Bool.false_or, Bool.or_true, Bool.true_or, Bool.not_true, Bool.not_false, gd_133, rf_133_0, rf_133_1, rf_133_2, rf_133_3, rf_133_4, rf_133_5, rf_133_6, rf_133_7, rf_133_8, rd_133_9, wr_133_9, rd_133_10, wr_133_10, rf_133_11, rd_133_12, wr_133_12, rd_133_13, wr_133_13, rd_133_14, wr_133_14, rd_133_15, wr_133_15, rd_133_16, wr_133_16, rf_133_17, rf_133_18, ar_134, aw_134, an_134, ar_135, aw_135, an_135, ar_136, aw_136, an_136, ar_137, aw_137, ar_138, aw_138, an_138, ar_139, aw_139, an_139, ar_140, aw_140, an_140, ar_141, aw_141, an_141, ar_142, aw_142, an_142, ar_143, aw_143, an_143, ar_144, aw_144, an_144, ar_145, aw_145, ed, er, eb, eR, hmr, ero, e_place, e_books]
      rfl
    case pow =>
      refine ⟨fun a a1 a2 a3 => ?_, fun k => ?_, fun i hi => ?_, fun p j hj => ?_⟩
      · simp (disch := omega) only [mw_ne, ms_ne]
      · simp (disch := omega) only [mw_at, ms_ne, bkS_v, pu_one 0 (by decide) d hd, pu_one 1 (by decide) d hd, pu_one 0 (by decide) _ htl, pu_one 1 (by decide) _ htl]
        unfold inS
        rw [hwl, if_pos rfl, Int32.add_assoc]
        congr 1
        by_cases k1 : k = 15
        · subst k1
          exact one_sub _ _
        · by_cases k2 : k = 20
          · subst k2
            exact one_sub _ _
          · have a1 : ¬ k = 12 + 3 := k1
            have a2 : ¬ k = 17 + 3 := k2
            simp only [if_neg a1, if_neg a2, if_neg k1, if_neg k2]
            rfl
      · simp (disch := omega) only [mw_ne, ms_ne]
        unfold inS
        rw [hwl, if_pos rfl, if_neg (by omega), if_neg (by omega), add_nz0]
      · have ht : tgS S r d c = some (tuS S d, 32 * r + c) := by
          unfold tgS
          rw [hwl, if_pos rfl]
        rw [ht]
        simp (disch := omega) only [mw_ne, ms_v, true_and]
        exact orb htl p j hj
  | false =>
    rw [hwl, Bool.not_false] at eR
    obtain ⟨t1, t2⟩ := tg_row hd hr hH.2.1 hwl
    rw [t1] at eR
    have hin : ∀ k, inS S r d c k = match nbS S r d c with
      | none => if k = 11 then nz 1 else if k = 16 then mo 0 d else if k = 21 then mo 1 d else if k = 34 + (wN S - 1) ∧ stq r d = 1 then nz 1 else nz 0
      | some c2 => if z_ge (vS S c2 (tgN r d)) then (if k = 34 + c ∧ stq r d = 1 then nz 1 else if k = 34 + c2 ∧ stq r d = -1 then -nz 1 else nz 0)
        else if 22 ≤ k ∧ k < 34 then (if bq (vS S c2 (tgN r d)) ((k - 22) / 2) then nz 2 * mo ((k - 22) % 2) d else nz 0) else if k = 14 then nz 2 * mo 0 d else if k = 19 then nz 2 * mo 1 d else nz 0 := by
      intro k
      unfold inS
      rw [hwl, if_neg (by decide)]
    have htg : tgS S r d c = match nbS S r d c with
      | none => none
      | some c2 => if z_ge (vS S c2 (tgN r d)) then some (d, 32 * tgN r d + c2) else some (opN d, 32 * r + c) := by
      unfold tgS
      rw [hwl, if_neg (by decide)]
    have eC := e_isColM (e := e) (w := w) (m := m) (ring := rgB S) hs hW.1 hW.2.1 hc h0
    cases hn : ncol (wN S) (rgB S) (stq r d) c with
    | none =>
      have hn' : nbS S r d c = none := hn
      rw [hn'] at hin htg
      dsimp only at hin htg
      have hno := (ncol_no hs hc hn).2
      rw [hn] at eC
      have eC' : f_X8_isColumn [.ref 133, .int (zz (colI (wN S) (rgB S) (stq r d) c))] (HM e m w) = some (HM e m w, .inl (some (.int (b01 false)))) := eC
      have hgt : ∀ h : Hp, (bif z_gt (zz (colI (wN S) (rgB S) (stq r d) c)) then (some (h, .inl (nz 1)) : RE Int32) else some (h, .inl (nz 0))) = some (h, .inl (if stq r d = 1 then nz 1 else nz 0)) := by
        intro h
        rw [colI_n hn, zgt_zz (by omega) (by omega)]
        rcases hno with ⟨z1, z2⟩ | ⟨z1, z2⟩
        · rw [if_pos z1, decide_eq_true (by omega)]; rfl
        · rw [if_neg (by omega), decide_eq_false (by omega)]; rfl
      refine ⟨?mo, ?evo, ?poo⟩
      case evo =>
        unfold f_X8_step
        simp (disch := omega) only [mth_w, kR_w, kR_if, sQ_v, sN_v, sTi_v, sTa_v, sTl_v, sR_v, sRv_v, sX_v, sPi_v, sPo_v, sPz_w, zP_b, sRz_w, zR_bw, zR_0w, zR_1w, sPa_v, sAi_v, sAl_v, sAo_v, sAa_v, sM_w, sMp_w, eM_w, sIf_w, eIf_w, cAnd_w, cOr_w, cB_v, cZ_v, cNot_v, eC_v, eI_v, eJ_v, eOp_v, eQ_v, eU_v, eIL_v, eLO_v, eLS_v, eLC_v, eGi_v, eGa_v, eZ_w, eAi_v, eAl_v, eAa_v, eAn_v, aN_v, aI_v, aA_v, sInc_v, sB_okw, sB_xw, eS_okw, eS_xw, eB_okw, eB_xw, oE_w, oS_w, kI_iw, kI_xw, kV_w, kV_xw, kP_iw, kP_xw, List.set_cons_zero, List.set_cons_succ, List.cons_append, List.nil_append, List.length_cons, List.length_nil, List.replicate_succ, List.replicate_zero, List.append_nil, bif_and, bif_or, zne_b01, zeq_b01, bif_d, cond_true, cond_false, nar_0, o_iadd, o_isub, o_imul, c_eq, c_ne, c_lt, c_ge, c_gt, c_le, Nat.reduceAdd, Nat.reduceSub, Nat.zero_add, if_true, if_false, eLl_2, eLi_0, eLi_1, eLi_2, eLi_3, eLi_4, eLi_5, eLi_6, eLi_7, eLi_8, eLi_9, eLi_10, eLi_11, eLi_12, eLi_13, eLa_0, eLa_1, eLa_2, eLa_3, eLa_4, eLa_5, eLa_6, eLa_7, nz_add, nz_mul, nz_sub, nz_lt, nz_le, nz_inj, zeq_nz, zne_nz, zge_nz, zgt_nz, zlt_nz, nlit0, nlit1, nlit2, nlit3, nlit4, nlit5, nlit6, nlit7, nlit8, nlit9, nlit10, nlit11, nlit12, nlit16, nlit18, nlit22, nlit31, nlit32, nlit33, nlit34, nlit40, nlit48, nlit60, nlit63, nlit64, nlit66, nlit80, nlit96, nlit114, nlit126, nlit128, nlit512, nlit756, nlit882, nlit1000, nlit1394, nlit1522, nlit1523, nlit10000, decide_true, decide_false, not_true_eq_false, not_false_eq_true, ne_eq, and_self, and_true, true_and, Bool.and_true, Bool.true_and, Bool.and_false, Bool.false_and, Bool.or_false, Bool.false_or, Bool.or_true, Bool.true_or, Bool.not_true, Bool.not_false, gd_133, rf_133_0, rf_133_1, rf_133_2, rf_133_3, rf_133_4, rf_133_5, rf_133_6, rf_133_7, rf_133_8, rd_133_9, wr_133_9, rd_133_10, wr_133_10, rf_133_11, rd_133_12, wr_133_12, rd_133_13, wr_133_13, rd_133_14, wr_133_14, rd_133_15, wr_133_15, rd_133_16, wr_133_16, rf_133_17, rf_133_18, ar_134, aw_134, an_134, ar_135, aw_135, an_135, ar_136, aw_136, an_136, ar_137, aw_137, ar_138, aw_138, an_138, ar_139, aw_139, an_139, ar_140, aw_140, an_140, ar_141, aw_141, an_141, ar_142, aw_142, an_142, ar_143, aw_143, an_143, ar_144, aw_144, an_144, ar_145, aw_145, ed, er, eb, t1, eR, eC', e_books, ms_mw, mw_mw, mw_at, bkS_ne, su_ne, h0, hgt]
        rfl
      case poo =>
        refine ⟨fun a a1 a2 a3 => ?_, fun k => ?_, fun i hi => ?_, fun p j hj => ?_⟩
        · simp (disch := omega) only [mw_ne, ms_ne]
        · rw [hin k]
          simp (disch := omega) only [mw_at, su_v, bkS_v, pu_one 0 (by decide) d hd, pu_one 1 (by decide) d hd, one_mulz]
          by_cases k1 : k = 34 + wN S - 1
          · have b1 : ¬ 34 + wN S - 1 = 11 := by omega
            have b2 : ¬ 34 + wN S - 1 = 12 + 4 := by omega
            have b3 : ¬ 34 + wN S - 1 = 17 + 4 := by omega
            have b4 : ¬ 34 + wN S - 1 = 16 := by omega
            have b5 : ¬ 34 + wN S - 1 = 21 := by omega
            have b6 : (34 + wN S - 1 = 34 + (wN S - 1)) = True := eq_true (by omega)
            rw [k1]
            simp only [if_true, if_neg b1, if_neg b2, if_neg b3, if_neg b4, if_neg b5, b6, true_and, add_nz0]
          · have b6 : ¬ (k = 34 + (wN S - 1) ∧ stq r d = 1) := fun y => by omega
            simp only [if_neg k1, if_neg b6]
            by_cases k2 : k = 11
            · subst k2
              exact add_nz0 _
            · by_cases k3 : k = 16
              · subst k3
                rfl
              · by_cases k4 : k = 21
                · subst k4
                  rfl
                · have b2 : ¬ k = 12 + 4 := k3
                  have b3 : ¬ k = 17 + 4 := k4
                  simp only [if_neg k2, if_neg k3, if_neg k4, if_neg b2, if_neg b3]
        · rw [hin]
          simp (disch := omega) only [mw_ne, ms_ne]
          rw [if_neg (by omega), if_neg (by omega), if_neg (by omega), if_neg (fun y => by omega), add_nz0]
        · rw [htg]
          simp (disch := omega) only [mw_ne, ms_ne]
          exact ⟨Or.inl, fun z => z.elim id (fun y => by cases y)⟩
    | some c2 =>
      have hn' : nbS S r d c = some c2 := hn
      rw [hn'] at hin htg
      dsimp only at hin htg
      have hc2 := ncol_lt (by omega) hc hn
      have ecl : zz (colI (wN S) (rgB S) (stq r d) c) = nz c2 := by rw [colI_s hn, nz_zz]
      rw [ecl] at eb eC
      rw [hn] at eC
      have eC' : f_X8_isColumn [.ref 133, .int (nz c2)] (HM e m w) = some (HM e m w, .inl (some (.int (b01 true)))) := eC
      have hcl := hcell c2 (tgN r d) (by omega) (by omega)
      have hv := (hw.2.2.2.2.2.2.1 (tgN r d) (by omega) c2 (by omega)).1
      have eh := e_had (e := e) (w := w) (m := m) (c := c2) (r := tgN r d) (by omega) (by omega)
      cases hz : z_ge (vS S c2 (tgN r d)) with
      | false =>
        rw [hz, if_neg (by decide)] at htg
        obtain ⟨j, hj, hvj⟩ := okV_neg hv hz
        rw [hz, if_neg (by decide)] at hcl
        have hf1 : ∀ j, j < 6 → z_lt (-1 - nz j) = true ∧ -nz 1 - (-1 - nz j) = nz j := by decide
        obtain ⟨z1, z2⟩ := hf1 j hj
        rw [← hvj] at z1 z2
        rw [hcl] at eh
        have ho := opN_lt d
        have hoe : (d + 3) % 6 = opN d := rfl
        refine ⟨?ms, ?evs, ?pos⟩
        case evs =>
          unfold f_X8_step
          simp (disch := omega) only [mth_w, kR_w, kR_if, sQ_v, sN_v, sTi_v, sTa_v, sTl_v, sR_v, sRv_v, sX_v, sPi_v, sPo_v, sPz_w, zP_b, sRz_w, zR_bw, zR_0w, zR_1w, sPa_v, sAi_v, sAl_v, sAo_v, sAa_v, sM_w, sMp_w, eM_w, sIf_w, eIf_w, cAnd_w, cOr_w, cB_v, cZ_v, cNot_v, eC_v, eI_v, eJ_v, eOp_v, eQ_v, eU_v, eIL_v, eLO_v, eLS_v, eLC_v, eGi_v, eGa_v, eZ_w, eAi_v, eAl_v, eAa_v, eAn_v, aN_v, aI_v, aA_v, sInc_v, sB_okw, sB_xw, eS_okw, eS_xw, eB_okw, eB_xw, oE_w, oS_w, kI_iw, kI_xw, kV_w, kV_xw, kP_iw, kP_xw, List.set_cons_zero, List.set_cons_succ, List.cons_append, List.nil_append, List.length_cons, List.length_nil, List.replicate_succ, List.replicate_zero, List.append_nil, bif_and, bif_or, zne_b01, zeq_b01, bif_d, cond_true, cond_false, nar_0, o_iadd, o_isub, o_imul, c_eq, c_ne, c_lt, c_ge, c_gt, c_le, Nat.reduceAdd, Nat.reduceSub, Nat.zero_add, if_true, if_false, eLl_2, eLi_0, eLi_1, eLi_2, eLi_3, eLi_4, eLi_5, eLi_6, eLi_7, eLi_8, eLi_9, eLi_10, eLi_11, eLi_12, eLi_13, eLa_0, eLa_1, eLa_2, eLa_3, eLa_4, eLa_5, eLa_6, eLa_7, nz_add, nz_mul, nz_sub, nz_lt, nz_le, nz_inj, zeq_nz, zne_nz, zge_nz, zgt_nz, zlt_nz, nlit0, nlit1, nlit2, nlit3, nlit4, nlit5, nlit6, nlit7, nlit8, nlit9, nlit10, nlit11, nlit12, nlit16, nlit18, nlit22, nlit31, nlit32, nlit33, nlit34, nlit40, nlit48, nlit60, nlit63, nlit64, nlit66, nlit80, nlit96, nlit114, nlit126, nlit128, nlit512, nlit756, nlit882, nlit1000, nlit1394, nlit1522, nlit1523, nlit10000, decide_true, decide_false, not_true_eq_false, not_false_eq_true, ne_eq, and_self, and_true, true_and, Bool.and_true, Bool.true_and, Bool.and_false, Bool.false_and, Bool.or_false, Bool.false_or, Bool.or_true, Bool.true_or, Bool.not_true, Bool.not_false, gd_133, rf_133_0, rf_133_1, rf_133_2, rf_133_3, rf_133_4, rf_133_5, rf_133_6, rf_133_7, rf_133_8, rd_133_9, wr_133_9, rd_133_10, wr_133_10, rf_133_11, rd_133_12, wr_133_12, rd_133_13, wr_133_13, rd_133_14, wr_133_14, rd_133_15, wr_133_15, rd_133_16, wr_133_16, rf_133_17, rf_133_18, ar_134, aw_134, an_134, ar_135, aw_135, an_135, ar_136, aw_136, an_136, ar_137, aw_137, ar_138, aw_138, an_138, ar_139, aw_139, an_139, ar_140, aw_140, an_140, ar_141, aw_141, an_141, ar_142, aw_142, an_142, ar_143, aw_143, an_143, ar_144, aw_144, an_144, ar_145, aw_145, ed, er, eb, t1, eR, eC', eh, z1, z2, e_place, e_push, e_gives, nz_rem, q6, hoe]
          rfl
        case pos =>
          have hbq : ∀ i, i < 6 → bq (vS S c2 (tgN r d)) i = decide (i = j) := by
            have hf : ∀ j, j < 6 → ∀ i, i < 6 → bq (-1 - nz j) i = decide (i = j) := by decide
            intro i hi
            rw [hvj]
            exact hf j hj i hi
          refine ⟨fun a a1 a2 a3 => ?_, fun k => ?_, fun i hi => ?_, fun p jj hjj => ?_⟩
          · rw [giv_ne a1 a3, giv_ne a1 a3, ms_ne a2]
          · rw [hin k, hz, if_neg (by decide), giv_134, giv_134, ms_ne (by decide)]
            show m 134 k + _ + _ = _
            rw [Int32.add_assoc]
            refine add_c ?_
            by_cases k1 : 22 ≤ k ∧ k < 34
            · rw [if_pos k1, hbq _ (by omega)]
              by_cases k2 : (k - 22) / 2 = j
              · rw [decide_eq_true k2, if_pos rfl]
                rcases (show (k - 22) % 2 = 0 ∨ (k - 22) % 2 = 1 by omega) with k3 | k3
                · rw [if_pos (by omega), if_neg (by omega), k3, add_nz0]
                · rw [if_neg (by omega), if_pos (by omega), k3, nz0_add]
              · rw [decide_eq_false k2, if_neg (by omega), if_neg (by omega), if_neg (by decide)]
                rfl
            · rw [if_neg k1]
              by_cases k2 : k = 14
              · rw [if_pos (by omega), if_neg (by omega), if_pos k2, add_nz0]
              · rw [if_neg (by omega), if_neg k2]
                by_cases k3 : k = 19
                · rw [if_pos (by omega), if_pos k3, nz0_add]
                · rw [if_neg (by omega), if_neg k3]
                  rfl
          · rw [hin, hz, if_neg (by decide), if_pos (by omega), Nat.add_sub_cancel_left, hbq _ (by omega), giv_142, giv_142, ms_ne (by decide)]
            show m 142 i + _ + _ = _
            rw [Int32.add_assoc]
            refine add_c ?_
            by_cases k2 : i / 2 = j
            · rw [decide_eq_true k2, if_pos rfl]
              rcases (show i % 2 = 0 ∨ i % 2 = 1 by omega) with k3 | k3
              · rw [if_pos (by omega), if_neg (by omega), k3, add_nz0]
              · rw [if_neg (by omega), if_pos (by omega), k3, nz0_add]
            · rw [decide_eq_false k2, if_neg (by omega), if_neg (by omega), if_neg (by decide)]
              rfl
          · rw [htg, giv_ne (by decide) (by decide), giv_ne (by decide) (by decide)]
            simp only [ms_v, true_and]
            exact orb ho p jj hjj
      | true =>
        rw [hz, if_pos rfl] at htg
        rw [hz, if_pos rfl] at hcl
        have hul : uS S c2 (tgN r d) < 64 := by
          have hb := bkN_ok hw
          have hn2 := (nS_ok hw (show c2 < 32 by omega) (show tgN r d < 16 by omega)).1
          unfold uS
          exact (hb.1 _ (by omega)).1
        have z1 : z_lt (vS (m 134) c2 (tgN r d)) = false := by rw [hcl]; exact zlt_nz (by omega)
        have hb1 : ∀ h : Hp, (if zz (stq r d) = nz 1 then (some (h, .inl (nz 1)) : RE Int32) else some (h, .inl (nz 0))) = some (h, .inl (if stq r d = 1 then nz 1 else nz 0)) := by
          intro h
          rcases hs with q | q | q <;> rw [q] <;> rfl
        have hb2 : ∀ h : Hp, (if zz (stq r d) = -nz 1 then (some (h, .inl (nz 1)) : RE Int32) else some (h, .inl (nz 0))) = some (h, .inl (if stq r d = -1 then nz 1 else nz 0)) := by
          intro h
          rcases hs with q | q | q <;> rw [q] <;> rfl
        refine ⟨?mf, ?evf, ?pof⟩
        case evf =>
          unfold f_X8_step
          simp (disch := omega) only [mth_w, kR_w, kR_if, sQ_v, sN_v, sTi_v, sTa_v, sTl_v, sR_v, sRv_v, sX_v, sPi_v, sPo_v, sPz_w, zP_b, sRz_w, zR_bw, zR_0w, zR_1w, sPa_v, sAi_v, sAl_v, sAo_v, sAa_v, sM_w, sMp_w, eM_w, sIf_w, eIf_w, cAnd_w, cOr_w, cB_v, cZ_v, cNot_v, eC_v, eI_v, eJ_v, eOp_v, eQ_v, eU_v, eIL_v, eLO_v, eLS_v, eLC_v, eGi_v, eGa_v, eZ_w, eAi_v, eAl_v, eAa_v, eAn_v, aN_v, aI_v, aA_v, sInc_v, sB_okw, sB_xw, eS_okw, eS_xw, eB_okw, eB_xw, oE_w, oS_w, kI_iw, kI_xw, kV_w, kV_xw, kP_iw, kP_xw, List.set_cons_zero, List.set_cons_succ, List.cons_append, List.nil_append, List.length_cons, List.length_nil, List.replicate_succ, List.replicate_zero, List.append_nil, bif_and, bif_or, zne_b01, zeq_b01, bif_d, cond_true, cond_false, nar_0, o_iadd, o_isub, o_imul, c_eq, c_ne, c_lt, c_ge, c_gt, c_le, Nat.reduceAdd, Nat.reduceSub, Nat.zero_add, if_true, if_false, eLl_2, eLi_0, eLi_1, eLi_2, eLi_3, eLi_4, eLi_5, eLi_6, eLi_7, eLi_8, eLi_9, eLi_10, eLi_11, eLi_12, eLi_13, eLa_0, eLa_1, eLa_2, eLa_3, eLa_4, eLa_5, eLa_6, eLa_7, nz_add, nz_mul, nz_sub, nz_lt, nz_le, nz_inj, zeq_nz, zne_nz, zge_nz, zgt_nz, zlt_nz, nlit0, nlit1, nlit2, nlit3, nlit4, nlit5, nlit6, nlit7, nlit8, nlit9, nlit10, nlit11, nlit12, nlit16, nlit18, nlit22, nlit31, nlit32, nlit33, nlit34, nlit40, nlit48, nlit60, nlit63, nlit64, nlit66, nlit80, nlit96, nlit114, nlit126, nlit128, nlit512, nlit756, nlit882, nlit1000, nlit1394, nlit1522, nlit1523, nlit10000, decide_true, decide_false, not_true_eq_false, not_false_eq_true, ne_eq, and_self, and_true, true_and, Bool.and_true, Bool.true_and, Bool.and_false, Bool.false_and, Bool.or_false, Bool.false_or, Bool.or_true, Bool.true_or, Bool.not_true, Bool.not_false, gd_133, rf_133_0, rf_133_1, rf_133_2, rf_133_3, rf_133_4, rf_133_5, rf_133_6, rf_133_7, rf_133_8, rd_133_9, wr_133_9, rd_133_10, wr_133_10, rf_133_11, rd_133_12, wr_133_12, rd_133_13, wr_133_13, rd_133_14, wr_133_14, rd_133_15, wr_133_15, rd_133_16, wr_133_16, rf_133_17, rf_133_18, ar_134, aw_134, an_134, ar_135, aw_135, an_135, ar_136, aw_136, an_136, ar_137, aw_137, ar_138, aw_138, an_138, ar_139, aw_139, an_139, ar_140, aw_140, an_140, ar_141, aw_141, an_141, ar_142, aw_142, an_142, ar_143, aw_143, an_143, ar_144, aw_144, an_144, ar_145, aw_145, ed, er, eb, t1, eR, eC', eh, z1, e_place, hb1, hb2, ms_ne]
          rfl
        case pof =>
          refine ⟨fun a a1 a2 a3 => ?_, fun k => ?_, fun i hi => ?_, fun p jj hjj => ?_⟩
          · simp (disch := omega) only [mw_ne, ms_ne]
          · rw [hin k, hz, if_pos rfl]
            have q3 : ((134 : Nat) = 141) = False := by decide
            have sub0 : ∀ x : Int32, x - nz 0 = x := fun x => Int32.sub_zero x
            have subA : ∀ x : Int32, x - nz 1 = x + -nz 1 := fun x => Int32.sub_eq_add_neg x _
            have p1 : ((-1 : Int) = 1) = False := by decide
            have p2 : ((0 : Int) = 1) = False := by decide
            have p3 : ((0 : Int) = -1) = False := by decide
            have p4 : ((1 : Int) = -1) = False := by decide
            simp only [ms_v, true_and, q3, false_and, if_false]
            rcases hs with q | q | q
            · simp only [q, p1, if_true, if_false, and_false, and_true, add_nz0, subA]
              by_cases k1 : k = 34 + c2
              · subst k1
                rw [if_pos rfl, if_pos rfl]
                congr 1
                by_cases y : c2 = c
                · subst y; rw [if_pos rfl]
                · rw [if_neg (by omega)]
              · rw [if_neg k1, if_neg k1, add_nz0]
                by_cases y : k = 34 + c
                · rw [if_pos y, y]
                · rw [if_neg y]
            · simp only [q, p2, p3, if_false, and_false, add_nz0, sub0]
              by_cases k1 : k = 34 + c2
              · subst k1
                rw [if_pos rfl]
                by_cases y : c2 = c
                · subst y; rw [if_pos rfl]
                · rw [if_neg (by omega)]
              · rw [if_neg k1]
                by_cases y : k = 34 + c
                · rw [if_pos y, y]
                · rw [if_neg y]
            · have hne : c2 ≠ c := by
                intro y
                subst y
                rw [q, ncol_p] at hn
                by_cases y : c2 + 1 < wN S
                · rw [if_pos y] at hn
                  have hn := Option.some.inj hn
                  omega
                · rw [if_neg y] at hn
                  cases hrg : rgB S with
                  | true =>
                    rw [hrg, if_pos rfl] at hn
                    have hn := Option.some.inj hn
                    omega
                  | false =>
                    rw [hrg, if_neg (by decide)] at hn
                    cases hn
              simp only [q, p4, if_true, if_false, and_false, and_true, sub0]
              by_cases k1 : k = 34 + c2
              · subst k1
                rw [if_pos rfl, if_neg (by omega), if_neg (by omega), add_nz0]
              · rw [if_neg k1]
                by_cases y : k = 34 + c
                · rw [if_pos y, if_pos y, y]
                · rw [if_neg y, if_neg y, add_nz0]
          · rw [hin, hz, if_pos rfl]
            simp (disch := omega) only [mw_ne, ms_ne]
            rw [if_neg (fun z => by omega), if_neg (fun z => by omega), add_nz0]
          · rw [htg]
            simp (disch := omega) only [ms_ne, ms_v, true_and]
            exact orb hd p jj hjj
end
