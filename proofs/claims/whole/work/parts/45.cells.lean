/-! THE ROWS OF CELLS, as the tunnel has them -/
def tAl : List Int32 := [2, 1, -1, -2, -1, 1]
def tAc : List Int32 := [0, 1, 1, 0, -1, -1]
def tOp : List Int32 := [3, 4, 5, 0, 1, 2]
def tMi : List Int32 := [0, 5, 4, 3, 2, 1]
def tRs : List Int32 := [0, -1, -1, 0, 1, 1]
def tCe : List Int32 := [1, 0, -1, -1, -1, 0]
def tCo : List Int32 := [1, 1, 0, -1, 0, 1]
def tSh : List Int32 := [0, -1, 1, -2, 2, -3, 3]
/-- the tables that nobody writes -/
def EO (e : Nat → Nat × (Nat → Int32)) : Prop := e 0 = (6, fun d => tAl.getD d 0) ∧ e 1 = (6, fun d => tAc.getD d 0) ∧ e 2 = (6, fun d => tOp.getD d 0) ∧ e 3 = (6, fun d => tMi.getD d 0) ∧ e 4 = (6, fun d => tRs.getD d 0) ∧ e 5 = (6, fun d => tCe.getD d 0) ∧ e 6 = (6, fun d => tCo.getD d 0) ∧ e 7 = (7, fun d => tSh.getD d 0)
section
variable {e : Nat → Nat × (Nat → Int32)} {m : Mm} {w : Ml}
theorem r_al (he : EO e) {d : Nat} (hd : d < 6) : agi 0 (HM e m w) (RO + 0) (nz d) = some (tAl.getD d 0) := by
  have := agi_RO (K := kdL) (e := e) (m := m) (w := w) (k := 0) (n := d) (by rw [he.1]; exact hd) (by omega)
  rw [he.1] at this
  exact this
theorem r_ac (he : EO e) {d : Nat} (hd : d < 6) : agi 0 (HM e m w) (RO + 1) (nz d) = some (tAc.getD d 0) := by
  have := agi_RO (K := kdL) (e := e) (m := m) (w := w) (k := 1) (n := d) (by rw [he.2.1]; exact hd) (by omega)
  rw [he.2.1] at this
  exact this
theorem r_op (he : EO e) {d : Nat} (hd : d < 6) : agi 0 (HM e m w) (RO + 2) (nz d) = some (tOp.getD d 0) := by
  have := agi_RO (K := kdL) (e := e) (m := m) (w := w) (k := 2) (n := d) (by rw [he.2.2.1]; exact hd) (by omega)
  rw [he.2.2.1] at this
  exact this
theorem r_mi (he : EO e) {d : Nat} (hd : d < 6) : agi 0 (HM e m w) (RO + 3) (nz d) = some (tMi.getD d 0) := by
  have := agi_RO (K := kdL) (e := e) (m := m) (w := w) (k := 3) (n := d) (by rw [he.2.2.2.1]; exact hd) (by omega)
  rw [he.2.2.2.1] at this
  exact this
theorem r_rs (he : EO e) {d : Nat} (hd : d < 6) : agi 0 (HM e m w) (RO + 4) (nz d) = some (tRs.getD d 0) := by
  have := agi_RO (K := kdL) (e := e) (m := m) (w := w) (k := 4) (n := d) (by rw [he.2.2.2.2.1]; exact hd) (by omega)
  rw [he.2.2.2.2.1] at this
  exact this
theorem r_ce (he : EO e) {d : Nat} (hd : d < 6) : agi 0 (HM e m w) (RO + 5) (nz d) = some (tCe.getD d 0) := by
  have := agi_RO (K := kdL) (e := e) (m := m) (w := w) (k := 5) (n := d) (by rw [he.2.2.2.2.2.1]; exact hd) (by omega)
  rw [he.2.2.2.2.2.1] at this
  exact this
theorem r_co (he : EO e) {d : Nat} (hd : d < 6) : agi 0 (HM e m w) (RO + 6) (nz d) = some (tCo.getD d 0) := by
  have := agi_RO (K := kdL) (e := e) (m := m) (w := w) (k := 6) (n := d) (by rw [he.2.2.2.2.2.2.1]; exact hd) (by omega)
  rw [he.2.2.2.2.2.2.1] at this
  exact this
theorem r_sh (he : EO e) {d : Nat} (hd : d < 7) : agi 0 (HM e m w) (RO + 7) (nz d) = some (tSh.getD d 0) := by
  have := agi_RO (K := kdL) (e := e) (m := m) (w := w) (k := 7) (n := d) (by rw [he.2.2.2.2.2.2.2]; exact hd) (by omega)
  rw [he.2.2.2.2.2.2.2] at this
  exact this
end
def orr (f : Nat → Int32) : Nat → Int32
  | 0 => 0
  | n + 1 => o_ior (orr f n) (f n)
theorem bt_orr {f : Nat → Int32} {c : Nat} : ∀ n, bt (orr f n) c = true ↔ ∃ k, k < n ∧ bt (f k) c = true
  | 0 => by simp [orr, bt_0]
  | n + 1 => by
    rw [orr, bt_or, Bool.or_eq_true, bt_orr n]
    constructor
    · rintro (⟨k, h1, h2⟩ | h)
      · exact ⟨k, by omega, h2⟩
      · exact ⟨n, by omega, h⟩
    · rintro ⟨k, h1, h2⟩
      by_cases hk : k = n
      · subst hk; exact Or.inr h2
      · exact Or.inl ⟨k, by omega, h2⟩
/-- a state out of its bits -/
def paN (p : Nat → Bool) : Nat → Nat
  | 0 => 0
  | n + 1 => paN p n + (if p n then 2 ^ n else 0)
theorem paN_lt (p : Nat → Bool) : ∀ n, paN p n < 2 ^ n
  | 0 => by simp [paN]
  | n + 1 => by
    have := paN_lt p n
    rw [paN, Nat.pow_succ]
    split <;> omega
theorem paN_bit (p : Nat → Bool) {d : Nat} : ∀ n, (paN p n).testBit d = (decide (d < n) && p d)
  | 0 => by simp [paN]
  | n + 1 => by
    have hl := paN_lt p n
    have ih := paN_bit p (d := d) n
    rw [paN]
    by_cases hp : p n = true
    · rw [if_pos hp, Nat.add_comm, Nat.two_pow_add_eq_or_of_lt hl, Nat.testBit_or, ih, Nat.testBit_two_pow]
      by_cases h : d = n
      · subst h; simp [hp]
      · by_cases h2 : d < n
        · have : ¬ n = d := fun z => h z.symm
          simp [h2, this, show d < n + 1 by omega]
        · have : ¬ n = d := fun z => h z.symm
          simp [h2, this, show ¬ d < n + 1 by omega]
    · rw [if_neg hp, Nat.add_zero, ih]
      by_cases h : d = n
      · subst h; simp [hp]
      · by_cases h2 : d < n
        · simp [h2, show d < n + 1 by omega]
        · simp [h2, show ¬ d < n + 1 by omega]
theorem paN_congr {p q : Nat → Bool} : ∀ n, (∀ d, d < n → p d = q d) → paN p n = paN q n
  | 0, _ => rfl
  | n + 1, h => by
    rw [paN, paN, paN_congr n (fun d hd => h d (by omega)), h n (by omega)]
section
variable {b r : Nat} {e : Nat → Nat × (Nat → Int32)} {m : Mm} {w : Ml}
theorem e_solidColumns (hb : TB b) (hr : r < 16) : f_X1_solidColumns [.ref (b + 1), .int (nz r)] (HM e m w) = some (HM e m w, .inl (some (.int (orr (fun k => m (b + 3) (r * 6 + k)) 6)))) := by
  unfold f_X1_solidColumns
  simp only [mth_v, kR_r, kR_if, sQ, sN, sTi, sTa, sTl, sR, sRv, sX, sPi, sPo, sPz_v, zP_b, sRz_v, zR_b, zR_0, zR_1, sPa, sAi, sAl, sAo, sAa, sM_v, sMp_v, eM_v, sIf_v, eIf_v, cAnd_v, cOr_v, cB, cZ, cNot, eC_v, eI, eJ, eOp, eQ, eU, eIL, eLO, eLS, eLC, eGi, eGa, eZ_v, eAi, eAl, eAa, eAn, aN, aI, aA, sInc_v, sB_ok, sB_x, eS_ok, eS_x, eB_ok, eB_x, oE_s, oS_s, kI_i, kI_x, kV_v, kV_x, kP_i, kP_x, List.set_cons_zero, List.set_cons_succ, List.cons_append, List.nil_append, List.length_cons, List.length_nil, List.replicate_succ, List.replicate_zero, List.append_nil, bif_and, bif_or, zne_b01, zeq_b01, bif_d, cond_true, cond_false, o_iadd, o_isub, o_imul, c_eq, c_ne, c_lt, c_ge, c_gt, c_le, Nat.reduceAdd, Nat.reduceSub, Nat.zero_add, if_true, if_false, eLi_0, eLi_1, eLi_2, eLi_3, eLi_4, eLi_5, eLi_6, eLi_7, eLi_8, eLi_9, eLi_10, eLi_11, eLi_12, eLi_13, eLa_0, eLa_1, eLa_2, eLa_3, eLa_4, eLa_5, eLa_6, eLa_7]
  rw [sLp_fn (fun k => [.ref (b + 1), .int (nz r), .int (orr (fun k => m (b + 3) (r * 6 + k)) k), .int (nz k)]) (fun _ => HM e m w) 6 ?_ ?_ _ (NF_lt (by decide)) rfl rfl]
  · simp only [mth_v, kR_r, kR_if, sQ, sN, sTi, sTa, sTl, sR, sRv, sX, sPi, sPo, sPz_v, zP_b, sRz_v, zR_b, zR_0, zR_1, sPa, sAi, sAl, sAo, sAa, sM_v, sMp_v, eM_v, sIf_v, eIf_v, cAnd_v, cOr_v, cB, cZ, cNot, eC_v, eI, eJ, eOp, eQ, eU, eIL, eLO, eLS, eLC, eGi, eGa, eZ_v, eAi, eAl, eAa, eAn, aN, aI, aA, sInc_v, sB_ok, sB_x, eS_ok, eS_x, eB_ok, eB_x, oE_s, oS_s, kI_i, kI_x, kV_v, kV_x, kP_i, kP_x, List.set_cons_zero, List.set_cons_succ, List.cons_append, List.nil_append, List.length_cons, List.length_nil, List.replicate_succ, List.replicate_zero, List.append_nil, bif_and, bif_or, zne_b01, zeq_b01, bif_d, cond_true, cond_false, o_iadd, o_isub, o_imul, c_eq, c_ne, c_lt, c_ge, c_gt, c_le, Nat.reduceAdd, Nat.reduceSub, Nat.zero_add, if_true, if_false, eLi_0, eLi_1, eLi_2, eLi_3, eLi_4, eLi_5, eLi_6, eLi_7, eLi_8, eLi_9, eLi_10, eLi_11, eLi_12, eLi_13, eLa_0, eLa_1, eLa_2, eLa_3, eLa_4, eLa_5, eLa_6, eLa_7]
  · intro j hj
    simp (disch := omega) only [mth_v, kR_r, kR_if, sQ, sN, sTi, sTa, sTl, sR, sRv, sX, sPi, sPo, sPz_v, zP_b, sRz_v, zR_b, zR_0, zR_1, sPa, sAi, sAl, sAo, sAa, sM_v, sMp_v, eM_v, sIf_v, eIf_v, cAnd_v, cOr_v, cB, cZ, cNot, eC_v, eI, eJ, eOp, eQ, eU, eIL, eLO, eLS, eLC, eGi, eGa, eZ_v, eAi, eAl, eAa, eAn, aN, aI, aA, sInc_v, sB_ok, sB_x, eS_ok, eS_x, eB_ok, eB_x, oE_s, oS_s, kI_i, kI_x, kV_v, kV_x, kP_i, kP_x, List.set_cons_zero, List.set_cons_succ, List.cons_append, List.nil_append, List.length_cons, List.length_nil, List.replicate_succ, List.replicate_zero, List.append_nil, bif_and, bif_or, zne_b01, zeq_b01, bif_d, cond_true, cond_false, o_iadd, o_isub, o_imul, c_eq, c_ne, c_lt, c_ge, c_gt, c_le, Nat.reduceAdd, Nat.reduceSub, Nat.zero_add, if_true, if_false, eLi_0, eLi_1, eLi_2, eLi_3, eLi_4, eLi_5, eLi_6, eLi_7, eLi_8, eLi_9, eLi_10, eLi_11, eLi_12, eLi_13, eLa_0, eLa_1, eLa_2, eLa_3, eLa_4, eLa_5, eLa_6, eLa_7, (gd_t0 hb), (rf_t0_0 hb), (rf_t0_1 hb), (rf_t0_2 hb), (rf_t0_3 hb), (rf_t0_4 hb), (rf_t0_5 hb), (rd_t0_6 hb), (wr_t0_6 hb), (rd_t0_7 hb), (wr_t0_7 hb), (rf_t0_8 hb), (rf_t0_9 hb), (gd_t1 hb), (rd_t1_0 hb), (wr_t1_0 hb), (rd_t1_1 hb), (wr_t1_1 hb), (rd_t1_2 hb), (wr_t1_2 hb), (rf_t1_3 hb), (rf_t1_4 hb), (ar_t2 hb), (aw_t2 hb), (an_t2 hb), (ar_t3 hb), (aw_t3 hb), (an_t3 hb), (gd_t4 hb), (rd_t4_0 hb), (wr_t4_0 hb), (rf_t4_1 hb), (ar_t5 hb), (aw_t5 hb), (an_t5 hb), (gd_t6 hb), (rd_t6_0 hb), (wr_t6_0 hb), (rd_t6_1 hb), (wr_t6_1 hb), (rf_t6_2 hb), (ar_t7 hb), (aw_t7 hb), (an_t7 hb), (gd_t8 hb), (rf_t8_0 hb), (rf_t8_1 hb), (ar_t9 hb), (aw_t9 hb), (an_t9 hb), (ar_t10 hb), (aw_t10 hb), (an_t10 hb), (ar_t11 hb), (aw_t11 hb), (an_t11 hb), (ar_t12 hb), (aw_t12 hb), (an_t12 hb), (ar_t13 hb), (aw_t13 hb), (an_t13 hb), (ar_t14 hb), (aw_t14 hb), (an_t14 hb), nz_add, nz_mul, nz_sub, nz_lt, nz_le, nz_inj, lit0, lit1, lit2, lit3, lit4, lit5, lit6, lit7, lit8, lit9, lit10, lit11, lit12, lit16, lit18, lit22, lit31, lit32, lit33, lit34, lit40, lit48, lit60, lit63, lit64, lit66, lit80, lit96, lit114, lit126, lit128, lit512, lit756, lit882, lit1000, lit1394, lit1522, lit1523, lit10000, orr]
    simp [hj]
  · simp (disch := omega) only [mth_v, kR_r, kR_if, sQ, sN, sTi, sTa, sTl, sR, sRv, sX, sPi, sPo, sPz_v, zP_b, sRz_v, zR_b, zR_0, zR_1, sPa, sAi, sAl, sAo, sAa, sM_v, sMp_v, eM_v, sIf_v, eIf_v, cAnd_v, cOr_v, cB, cZ, cNot, eC_v, eI, eJ, eOp, eQ, eU, eIL, eLO, eLS, eLC, eGi, eGa, eZ_v, eAi, eAl, eAa, eAn, aN, aI, aA, sInc_v, sB_ok, sB_x, eS_ok, eS_x, eB_ok, eB_x, oE_s, oS_s, kI_i, kI_x, kV_v, kV_x, kP_i, kP_x, List.set_cons_zero, List.set_cons_succ, List.cons_append, List.nil_append, List.length_cons, List.length_nil, List.replicate_succ, List.replicate_zero, List.append_nil, bif_and, bif_or, zne_b01, zeq_b01, bif_d, cond_true, cond_false, o_iadd, o_isub, o_imul, c_eq, c_ne, c_lt, c_ge, c_gt, c_le, Nat.reduceAdd, Nat.reduceSub, Nat.zero_add, if_true, if_false, eLi_0, eLi_1, eLi_2, eLi_3, eLi_4, eLi_5, eLi_6, eLi_7, eLi_8, eLi_9, eLi_10, eLi_11, eLi_12, eLi_13, eLa_0, eLa_1, eLa_2, eLa_3, eLa_4, eLa_5, eLa_6, eLa_7, nz_add, nz_mul, nz_sub, nz_lt, nz_le, nz_inj, lit0, lit1, lit2, lit3, lit4, lit5, lit6, lit7, lit8, lit9, lit10, lit11, lit12, lit16, lit18, lit22, lit31, lit32, lit33, lit34, lit40, lit48, lit60, lit63, lit64, lit66, lit80, lit96, lit114, lit126, lit128, lit512, lit756, lit882, lit1000, lit1394, lit1522, lit1523, lit10000]
    simp
theorem e_occupiedColumns (hb : TB b) (hr : r < 16) : f_X1_occupiedColumns [.ref (b + 1), .int (nz r)] (HM e m w) = some (HM e m w, .inl (some (.int (orr (fun k => m (b + 2) (r * 6 + k)) 6)))) := by
  unfold f_X1_occupiedColumns
  simp only [mth_v, kR_r, kR_if, sQ, sN, sTi, sTa, sTl, sR, sRv, sX, sPi, sPo, sPz_v, zP_b, sRz_v, zR_b, zR_0, zR_1, sPa, sAi, sAl, sAo, sAa, sM_v, sMp_v, eM_v, sIf_v, eIf_v, cAnd_v, cOr_v, cB, cZ, cNot, eC_v, eI, eJ, eOp, eQ, eU, eIL, eLO, eLS, eLC, eGi, eGa, eZ_v, eAi, eAl, eAa, eAn, aN, aI, aA, sInc_v, sB_ok, sB_x, eS_ok, eS_x, eB_ok, eB_x, oE_s, oS_s, kI_i, kI_x, kV_v, kV_x, kP_i, kP_x, List.set_cons_zero, List.set_cons_succ, List.cons_append, List.nil_append, List.length_cons, List.length_nil, List.replicate_succ, List.replicate_zero, List.append_nil, bif_and, bif_or, zne_b01, zeq_b01, bif_d, cond_true, cond_false, o_iadd, o_isub, o_imul, c_eq, c_ne, c_lt, c_ge, c_gt, c_le, Nat.reduceAdd, Nat.reduceSub, Nat.zero_add, if_true, if_false, eLi_0, eLi_1, eLi_2, eLi_3, eLi_4, eLi_5, eLi_6, eLi_7, eLi_8, eLi_9, eLi_10, eLi_11, eLi_12, eLi_13, eLa_0, eLa_1, eLa_2, eLa_3, eLa_4, eLa_5, eLa_6, eLa_7]
  rw [sLp_fn (fun k => [.ref (b + 1), .int (nz r), .int (orr (fun k => m (b + 2) (r * 6 + k)) k), .int (nz k)]) (fun _ => HM e m w) 6 ?_ ?_ _ (NF_lt (by decide)) rfl rfl]
  · simp only [mth_v, kR_r, kR_if, sQ, sN, sTi, sTa, sTl, sR, sRv, sX, sPi, sPo, sPz_v, zP_b, sRz_v, zR_b, zR_0, zR_1, sPa, sAi, sAl, sAo, sAa, sM_v, sMp_v, eM_v, sIf_v, eIf_v, cAnd_v, cOr_v, cB, cZ, cNot, eC_v, eI, eJ, eOp, eQ, eU, eIL, eLO, eLS, eLC, eGi, eGa, eZ_v, eAi, eAl, eAa, eAn, aN, aI, aA, sInc_v, sB_ok, sB_x, eS_ok, eS_x, eB_ok, eB_x, oE_s, oS_s, kI_i, kI_x, kV_v, kV_x, kP_i, kP_x, List.set_cons_zero, List.set_cons_succ, List.cons_append, List.nil_append, List.length_cons, List.length_nil, List.replicate_succ, List.replicate_zero, List.append_nil, bif_and, bif_or, zne_b01, zeq_b01, bif_d, cond_true, cond_false, o_iadd, o_isub, o_imul, c_eq, c_ne, c_lt, c_ge, c_gt, c_le, Nat.reduceAdd, Nat.reduceSub, Nat.zero_add, if_true, if_false, eLi_0, eLi_1, eLi_2, eLi_3, eLi_4, eLi_5, eLi_6, eLi_7, eLi_8, eLi_9, eLi_10, eLi_11, eLi_12, eLi_13, eLa_0, eLa_1, eLa_2, eLa_3, eLa_4, eLa_5, eLa_6, eLa_7]
  · intro j hj
    simp (disch := omega) only [mth_v, kR_r, kR_if, sQ, sN, sTi, sTa, sTl, sR, sRv, sX, sPi, sPo, sPz_v, zP_b, sRz_v, zR_b, zR_0, zR_1, sPa, sAi, sAl, sAo, sAa, sM_v, sMp_v, eM_v, sIf_v, eIf_v, cAnd_v, cOr_v, cB, cZ, cNot, eC_v, eI, eJ, eOp, eQ, eU, eIL, eLO, eLS, eLC, eGi, eGa, eZ_v, eAi, eAl, eAa, eAn, aN, aI, aA, sInc_v, sB_ok, sB_x, eS_ok, eS_x, eB_ok, eB_x, oE_s, oS_s, kI_i, kI_x, kV_v, kV_x, kP_i, kP_x, List.set_cons_zero, List.set_cons_succ, List.cons_append, List.nil_append, List.length_cons, List.length_nil, List.replicate_succ, List.replicate_zero, List.append_nil, bif_and, bif_or, zne_b01, zeq_b01, bif_d, cond_true, cond_false, o_iadd, o_isub, o_imul, c_eq, c_ne, c_lt, c_ge, c_gt, c_le, Nat.reduceAdd, Nat.reduceSub, Nat.zero_add, if_true, if_false, eLi_0, eLi_1, eLi_2, eLi_3, eLi_4, eLi_5, eLi_6, eLi_7, eLi_8, eLi_9, eLi_10, eLi_11, eLi_12, eLi_13, eLa_0, eLa_1, eLa_2, eLa_3, eLa_4, eLa_5, eLa_6, eLa_7, (gd_t0 hb), (rf_t0_0 hb), (rf_t0_1 hb), (rf_t0_2 hb), (rf_t0_3 hb), (rf_t0_4 hb), (rf_t0_5 hb), (rd_t0_6 hb), (wr_t0_6 hb), (rd_t0_7 hb), (wr_t0_7 hb), (rf_t0_8 hb), (rf_t0_9 hb), (gd_t1 hb), (rd_t1_0 hb), (wr_t1_0 hb), (rd_t1_1 hb), (wr_t1_1 hb), (rd_t1_2 hb), (wr_t1_2 hb), (rf_t1_3 hb), (rf_t1_4 hb), (ar_t2 hb), (aw_t2 hb), (an_t2 hb), (ar_t3 hb), (aw_t3 hb), (an_t3 hb), (gd_t4 hb), (rd_t4_0 hb), (wr_t4_0 hb), (rf_t4_1 hb), (ar_t5 hb), (aw_t5 hb), (an_t5 hb), (gd_t6 hb), (rd_t6_0 hb), (wr_t6_0 hb), (rd_t6_1 hb), (wr_t6_1 hb), (rf_t6_2 hb), (ar_t7 hb), (aw_t7 hb), (an_t7 hb), (gd_t8 hb), (rf_t8_0 hb), (rf_t8_1 hb), (ar_t9 hb), (aw_t9 hb), (an_t9 hb), (ar_t10 hb), (aw_t10 hb), (an_t10 hb), (ar_t11 hb), (aw_t11 hb), (an_t11 hb), (ar_t12 hb), (aw_t12 hb), (an_t12 hb), (ar_t13 hb), (aw_t13 hb), (an_t13 hb), (ar_t14 hb), (aw_t14 hb), (an_t14 hb), nz_add, nz_mul, nz_sub, nz_lt, nz_le, nz_inj, lit0, lit1, lit2, lit3, lit4, lit5, lit6, lit7, lit8, lit9, lit10, lit11, lit12, lit16, lit18, lit22, lit31, lit32, lit33, lit34, lit40, lit48, lit60, lit63, lit64, lit66, lit80, lit96, lit114, lit126, lit128, lit512, lit756, lit882, lit1000, lit1394, lit1522, lit1523, lit10000, orr]
    simp [hj]
  · simp (disch := omega) only [mth_v, kR_r, kR_if, sQ, sN, sTi, sTa, sTl, sR, sRv, sX, sPi, sPo, sPz_v, zP_b, sRz_v, zR_b, zR_0, zR_1, sPa, sAi, sAl, sAo, sAa, sM_v, sMp_v, eM_v, sIf_v, eIf_v, cAnd_v, cOr_v, cB, cZ, cNot, eC_v, eI, eJ, eOp, eQ, eU, eIL, eLO, eLS, eLC, eGi, eGa, eZ_v, eAi, eAl, eAa, eAn, aN, aI, aA, sInc_v, sB_ok, sB_x, eS_ok, eS_x, eB_ok, eB_x, oE_s, oS_s, kI_i, kI_x, kV_v, kV_x, kP_i, kP_x, List.set_cons_zero, List.set_cons_succ, List.cons_append, List.nil_append, List.length_cons, List.length_nil, List.replicate_succ, List.replicate_zero, List.append_nil, bif_and, bif_or, zne_b01, zeq_b01, bif_d, cond_true, cond_false, o_iadd, o_isub, o_imul, c_eq, c_ne, c_lt, c_ge, c_gt, c_le, Nat.reduceAdd, Nat.reduceSub, Nat.zero_add, if_true, if_false, eLi_0, eLi_1, eLi_2, eLi_3, eLi_4, eLi_5, eLi_6, eLi_7, eLi_8, eLi_9, eLi_10, eLi_11, eLi_12, eLi_13, eLa_0, eLa_1, eLa_2, eLa_3, eLa_4, eLa_5, eLa_6, eLa_7, nz_add, nz_mul, nz_sub, nz_lt, nz_le, nz_inj, lit0, lit1, lit2, lit3, lit4, lit5, lit6, lit7, lit8, lit9, lit10, lit11, lit12, lit16, lit18, lit22, lit31, lit32, lit33, lit34, lit40, lit48, lit60, lit63, lit64, lit66, lit80, lit96, lit114, lit126, lit128, lit512, lit756, lit882, lit1000, lit1394, lit1522, lit1523, lit10000]
    simp
theorem e_particlesAt (hb : TB b) {c : Nat} (hc : c < 32) (hr : r < 16) : f_X1_particlesAt [.ref (b + 1), .int (nz c), .int (nz r)] (HM e m w) = some (HM e m w, .inl (some (.int (nz (paN (fun d => bt (m (b + 2) (r * 6 + d)) c) 6))))) := by
  unfold f_X1_particlesAt
  simp only [mth_v, kR_r, kR_if, sQ, sN, sTi, sTa, sTl, sR, sRv, sX, sPi, sPo, sPz_v, zP_b, sRz_v, zR_b, zR_0, zR_1, sPa, sAi, sAl, sAo, sAa, sM_v, sMp_v, eM_v, sIf_v, eIf_v, cAnd_v, cOr_v, cB, cZ, cNot, eC_v, eI, eJ, eOp, eQ, eU, eIL, eLO, eLS, eLC, eGi, eGa, eZ_v, eAi, eAl, eAa, eAn, aN, aI, aA, sInc_v, sB_ok, sB_x, eS_ok, eS_x, eB_ok, eB_x, oE_s, oS_s, kI_i, kI_x, kV_v, kV_x, kP_i, kP_x, List.set_cons_zero, List.set_cons_succ, List.cons_append, List.nil_append, List.length_cons, List.length_nil, List.replicate_succ, List.replicate_zero, List.append_nil, bif_and, bif_or, zne_b01, zeq_b01, bif_d, cond_true, cond_false, o_iadd, o_isub, o_imul, c_eq, c_ne, c_lt, c_ge, c_gt, c_le, Nat.reduceAdd, Nat.reduceSub, Nat.zero_add, if_true, if_false, eLi_0, eLi_1, eLi_2, eLi_3, eLi_4, eLi_5, eLi_6, eLi_7, eLi_8, eLi_9, eLi_10, eLi_11, eLi_12, eLi_13, eLa_0, eLa_1, eLa_2, eLa_3, eLa_4, eLa_5, eLa_6, eLa_7]
  rw [sLp_fn (fun k => [.ref (b + 1), .int (nz c), .int (nz r), .int (nz (paN (fun d => bt (m (b + 2) (r * 6 + d)) c) k)), .int (nz k)]) (fun _ => HM e m w) 6 ?_ ?_ _ (NF_lt (by decide)) rfl rfl]
  · simp only [mth_v, kR_r, kR_if, sQ, sN, sTi, sTa, sTl, sR, sRv, sX, sPi, sPo, sPz_v, zP_b, sRz_v, zR_b, zR_0, zR_1, sPa, sAi, sAl, sAo, sAa, sM_v, sMp_v, eM_v, sIf_v, eIf_v, cAnd_v, cOr_v, cB, cZ, cNot, eC_v, eI, eJ, eOp, eQ, eU, eIL, eLO, eLS, eLC, eGi, eGa, eZ_v, eAi, eAl, eAa, eAn, aN, aI, aA, sInc_v, sB_ok, sB_x, eS_ok, eS_x, eB_ok, eB_x, oE_s, oS_s, kI_i, kI_x, kV_v, kV_x, kP_i, kP_x, List.set_cons_zero, List.set_cons_succ, List.cons_append, List.nil_append, List.length_cons, List.length_nil, List.replicate_succ, List.replicate_zero, List.append_nil, bif_and, bif_or, zne_b01, zeq_b01, bif_d, cond_true, cond_false, o_iadd, o_isub, o_imul, c_eq, c_ne, c_lt, c_ge, c_gt, c_le, Nat.reduceAdd, Nat.reduceSub, Nat.zero_add, if_true, if_false, eLi_0, eLi_1, eLi_2, eLi_3, eLi_4, eLi_5, eLi_6, eLi_7, eLi_8, eLi_9, eLi_10, eLi_11, eLi_12, eLi_13, eLa_0, eLa_1, eLa_2, eLa_3, eLa_4, eLa_5, eLa_6, eLa_7]
  · intro j hj
    simp (disch := omega) only [mth_v, kR_r, kR_if, sQ, sN, sTi, sTa, sTl, sR, sRv, sX, sPi, sPo, sPz_v, zP_b, sRz_v, zR_b, zR_0, zR_1, sPa, sAi, sAl, sAo, sAa, sM_v, sMp_v, eM_v, sIf_v, eIf_v, cAnd_v, cOr_v, cB, cZ, cNot, eC_v, eI, eJ, eOp, eQ, eU, eIL, eLO, eLS, eLC, eGi, eGa, eZ_v, eAi, eAl, eAa, eAn, aN, aI, aA, sInc_v, sB_ok, sB_x, eS_ok, eS_x, eB_ok, eB_x, oE_s, oS_s, kI_i, kI_x, kV_v, kV_x, kP_i, kP_x, List.set_cons_zero, List.set_cons_succ, List.cons_append, List.nil_append, List.length_cons, List.length_nil, List.replicate_succ, List.replicate_zero, List.append_nil, bif_and, bif_or, zne_b01, zeq_b01, bif_d, cond_true, cond_false, o_iadd, o_isub, o_imul, c_eq, c_ne, c_lt, c_ge, c_gt, c_le, Nat.reduceAdd, Nat.reduceSub, Nat.zero_add, if_true, if_false, eLi_0, eLi_1, eLi_2, eLi_3, eLi_4, eLi_5, eLi_6, eLi_7, eLi_8, eLi_9, eLi_10, eLi_11, eLi_12, eLi_13, eLa_0, eLa_1, eLa_2, eLa_3, eLa_4, eLa_5, eLa_6, eLa_7, (gd_t0 hb), (rf_t0_0 hb), (rf_t0_1 hb), (rf_t0_2 hb), (rf_t0_3 hb), (rf_t0_4 hb), (rf_t0_5 hb), (rd_t0_6 hb), (wr_t0_6 hb), (rd_t0_7 hb), (wr_t0_7 hb), (rf_t0_8 hb), (rf_t0_9 hb), (gd_t1 hb), (rd_t1_0 hb), (wr_t1_0 hb), (rd_t1_1 hb), (wr_t1_1 hb), (rd_t1_2 hb), (wr_t1_2 hb), (rf_t1_3 hb), (rf_t1_4 hb), (ar_t2 hb), (aw_t2 hb), (an_t2 hb), (ar_t3 hb), (aw_t3 hb), (an_t3 hb), (gd_t4 hb), (rd_t4_0 hb), (wr_t4_0 hb), (rf_t4_1 hb), (ar_t5 hb), (aw_t5 hb), (an_t5 hb), (gd_t6 hb), (rd_t6_0 hb), (wr_t6_0 hb), (rd_t6_1 hb), (wr_t6_1 hb), (rf_t6_2 hb), (ar_t7 hb), (aw_t7 hb), (an_t7 hb), (gd_t8 hb), (rf_t8_0 hb), (rf_t8_1 hb), (ar_t9 hb), (aw_t9 hb), (an_t9 hb), (ar_t10 hb), (aw_t10 hb), (an_t10 hb), (ar_t11 hb), (aw_t11 hb), (an_t11 hb), (ar_t12 hb), (aw_t12 hb), (an_t12 hb), (ar_t13 hb), (aw_t13 hb), (an_t13 hb), (ar_t14 hb), (aw_t14 hb), (an_t14 hb), nz_add, nz_mul, nz_sub, nz_lt, nz_le, nz_inj, lit0, lit1, lit2, lit3, lit4, lit5, lit6, lit7, lit8, lit9, lit10, lit11, lit12, lit16, lit18, lit22, lit31, lit32, lit33, lit34, lit40, lit48, lit60, lit63, lit64, lit66, lit80, lit96, lit114, lit126, lit128, lit512, lit756, lit882, lit1000, lit1394, lit1522, lit1523, lit10000, and1, bt_ushr]
    have key : ∀ p : Bool, o_ior (nz (paN (fun d => bt (m (b + 2) (r * 6 + d)) c) j)) (o_ishl (if p = true then nz 1 else nz 0) (nz j)) = nz (paN (fun d => bt (m (b + 2) (r * 6 + d)) c) j + if p = true then 2 ^ j else 0) := by
      intro p
      cases p
      · simp (disch := omega) only [Bool.false_eq_true, if_false, nz_shl, nz_or, Nat.zero_mul, Nat.or_zero, Nat.add_zero]
      · simp (disch := omega) only [if_true, nz_shl, nz_or, Nat.one_mul]
        rw [Nat.or_comm, ← Nat.two_pow_add_eq_or_of_lt (paN_lt _ j), Nat.add_comm]
    rw [key, Nat.zero_add]
    simp [hj, paN]
  · simp (disch := omega) only [mth_v, kR_r, kR_if, sQ, sN, sTi, sTa, sTl, sR, sRv, sX, sPi, sPo, sPz_v, zP_b, sRz_v, zR_b, zR_0, zR_1, sPa, sAi, sAl, sAo, sAa, sM_v, sMp_v, eM_v, sIf_v, eIf_v, cAnd_v, cOr_v, cB, cZ, cNot, eC_v, eI, eJ, eOp, eQ, eU, eIL, eLO, eLS, eLC, eGi, eGa, eZ_v, eAi, eAl, eAa, eAn, aN, aI, aA, sInc_v, sB_ok, sB_x, eS_ok, eS_x, eB_ok, eB_x, oE_s, oS_s, kI_i, kI_x, kV_v, kV_x, kP_i, kP_x, List.set_cons_zero, List.set_cons_succ, List.cons_append, List.nil_append, List.length_cons, List.length_nil, List.replicate_succ, List.replicate_zero, List.append_nil, bif_and, bif_or, zne_b01, zeq_b01, bif_d, cond_true, cond_false, o_iadd, o_isub, o_imul, c_eq, c_ne, c_lt, c_ge, c_gt, c_le, Nat.reduceAdd, Nat.reduceSub, Nat.zero_add, if_true, if_false, eLi_0, eLi_1, eLi_2, eLi_3, eLi_4, eLi_5, eLi_6, eLi_7, eLi_8, eLi_9, eLi_10, eLi_11, eLi_12, eLi_13, eLa_0, eLa_1, eLa_2, eLa_3, eLa_4, eLa_5, eLa_6, eLa_7, nz_add, nz_mul, nz_sub, nz_lt, nz_le, nz_inj, lit0, lit1, lit2, lit3, lit4, lit5, lit6, lit7, lit8, lit9, lit10, lit11, lit12, lit16, lit18, lit22, lit31, lit32, lit33, lit34, lit40, lit48, lit60, lit63, lit64, lit66, lit80, lit96, lit114, lit126, lit128, lit512, lit756, lit882, lit1000, lit1394, lit1522, lit1523, lit10000]
    simp
end
