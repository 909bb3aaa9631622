section
variable {b r : Nat} {e : Nat → Nat × (Nat → Int32)} {m : Mm} {w : Ml} {h : Hp}
/-- of the particles x that go by a step to the row t: those that leave, bounce, go, and where these arrive -/
def mvL (W : Nat) (ring : Bool) (s : Int) (x : Int32) : Int32 := if ring then nz 0 else o_iand x (endC W s)
def mvB (m : Mm) (b W : Nat) (ring : Bool) (s : Int) (x : Int32) (t : Nat) : Int32 := o_iand x (stp (m (b + 1) 2) W ring (-s) (orr (fun k => m (b + 3) (t * 6 + k)) 6))
def mvG (m : Mm) (b W : Nat) (ring : Bool) (s : Int) (x : Int32) (t : Nat) : Int32 := o_iand (o_iand x (o_ixor (mvL W ring s x) (-1))) (o_ixor (mvB m b W ring s x t) (-1))
def mvA (m : Mm) (b W : Nat) (ring : Bool) (s : Int) (x : Int32) (t : Nat) : Int32 := stp (m (b + 1) 2) W ring s (mvG m b W ring s x t)
def mvX (m : Mm) (b W : Nat) (ring : Bool) (s : Int) (x : Int32) (t : Nat) : Int32 := if 0 < s then o_ior (mvG m b W ring s x t) (mvL W ring s x) else mvA m b W ring s x t
theorem pc_0 : pc (nz 0) = 0 := by decide
theorem zz_ne0 {s : Int} (hs : s = -1 ∨ s = 0 ∨ s = 1) : z_ne (zz s) = decide (s ≠ 0) := by
  rcases hs with rfl | rfl | rfl <;> decide
theorem or_nz0 (x : Int32) : o_ior x (nz 0) = x := Int32.or_zero
theorem gvB_0 {W : Nat} {ring : Bool} {d t : Nat} {s : Int} {i : Nat} : gvB m b W ring (nz 0) d t s i = nz 0 := by
  unfold gvB
  rw [show ∀ y, o_iand (nz 0) y = nz 0 from fun y => Int32.zero_and, pc_0]
  exact Int32.mul_zero
theorem e_moveToRow (he : EO e) (hb : TB b) {d t W R : Nat} (hd : d < 6) (hr : r < 16) (ht : t < 16) (hW : 4 ≤ W) (hW2 : W ≤ 32) (h0 : m (b + 1) 0 = nz W) (hR0 : R < 2) (hR1 : m (b + 11) 0 = nz R) :
    ∃ m', f_X4_moveToRow [.ref 31, .ref b, .int (nz r), .int (nz d), .int (nz t)] (HM e m w) = some (HM e m' w, .inl none) ∧ (∀ a, a ≠ b + 2 → a ≠ b + 9 → a ≠ b + 10 → a ≠ b + 14 → a ≠ 33 → m' a = m a) ∧
      (∀ i c, bt (m' (b + 2) i) c = (bt (m (b + 2) i) c || (decide (i = t * 6 + d) && bt (mvA m b W (decide (R = 1)) (stq r d) (m 32 (r * 6 + d)) t) c) || (decide (i = r * 6 + opN d) && bt (mvB m b W (decide (R = 1)) (stq r d) (m 32 (r * 6 + d)) t) c))) ∧
      (∀ i, m' (b + 14) i = if i = r * 6 + d ∧ stq r d ≠ 0 then mvX m b W (decide (R = 1)) (stq r d) (m 32 (r * 6 + d)) t else m (b + 14) i) ∧
      m' (b + 9) = su (m (b + 9)) 3 (m (b + 9) 3 + nz (pc (mvL W (decide (R = 1)) (stq r d) (m 32 (r * 6 + d))))) ∧
      m' (b + 10) = su (su (m (b + 10)) 8 (m (b + 10) 8 + q_al d * nz (pc (mvL W (decide (R = 1)) (stq r d) (m 32 (r * 6 + d)))))) 9 (m (b + 10) 9 + q_ac d * nz (pc (mvL W (decide (R = 1)) (stq r d) (m 32 (r * 6 + d))))) ∧
      ∀ i, m' 33 i = if i < 12 then m 33 i + gvB m b W (decide (R = 1)) (mvB m b W (decide (R = 1)) (stq r d) (m 32 (r * 6 + d)) t) d t (stq r d) i else m 33 i := by
  have n1 := TBne hb (k := 1) (by decide)
  have n2 := TBne hb (k := 2) (by decide)
  have n3 := TBne hb (k := 3) (by decide)
  have n9 := TBne hb (k := 9) (by decide)
  have n10 := TBne hb (k := 10) (by decide)
  have n11 := TBne hb (k := 11) (by decide)
  have n14 := TBne hb (k := 14) (by decide)
  have hs := stq_3 r d
  have hs' : -(stq r d) = -1 ∨ -(stq r d) = 0 ∨ -(stq r d) = 1 := by omega
  have hop := opN_lt d
  generalize hx : m 32 (r * 6 + d) = x
  generalize hsd : stq r d = s at *
  have hst : ∀ h : Hp, (bif !Nat.testBit r 0 then (some (h, .inl (q_ce d)) : RE Int32) else some (h, .inl (q_co d))) = some (h, .inl (zz s)) := by
    intro h
    rw [← hsd, ← q_st hd, Nat.testBit_zero]
    rcases (show r % 2 = 0 ∨ r % 2 = 1 by omega) with q | q <;> simp [q]
  have hri : ∀ m1 : Mm, m1 (b + 11) = m (b + 11) → f_X6_isRing [.ref b] (HM e m1 w) = some (HM e m1 w, .inl (some (.int (b01 (decide (R = 1)))))) := fun m1 q => e_isRing hb hR0 (by rw [q]; exact hR1)
  have hrf := hri m rfl
  have hlv : ∀ h : Hp, (bif decide (R = 1) then (some (h, .inl (nz 0)) : RE Int32) else some (h, .inl (o_iand x (endC W s)))) = some (h, .inl (mvL W (decide (R = 1)) s x)) := by
    intro h
    unfold mvL
    cases decide (R = 1) <;> rfl
  have hsol := e_solidColumns (e := e) (m := m) (w := w) hb ht
  have hstB := fun y => e_stepped (e := e) (m := m) (w := w) (x := y) (ring := decide (R = 1)) hb hs' hW hW2 h0
  have hstA := fun y => e_stepped (e := e) (m := m) (w := w) (x := y) (ring := decide (R = 1)) hb hs hW hW2 h0
  have hec := e_endColumn (e := e) (m := m) (w := w) hb hs hW hW2 h0
  have hBd : o_iand x (stp (m (b + 1) 2) W (decide (R = 1)) (-s) (orr (fun k => m (b + 3) (t * 6 + k)) 6)) = mvB m b W (decide (R = 1)) s x t := rfl
  have hGd : o_iand (o_iand x (o_ixor (mvL W (decide (R = 1)) s x) (-1))) (o_ixor (mvB m b W (decide (R = 1)) s x t) (-1)) = mvG m b W (decide (R = 1)) s x t := rfl
  have hGd' : o_iand (o_iand x (o_ixor (mvL W (decide (R = 1)) s x) (-nz 1))) (o_ixor (mvB m b W (decide (R = 1)) s x t) (-nz 1)) = mvG m b W (decide (R = 1)) s x t := rfl
  have hAd : stp (m (b + 1) 2) W (decide (R = 1)) s (mvG m b W (decide (R = 1)) s x t) = mvA m b W (decide (R = 1)) s x t := rfl
  have hXd : ∀ h : Hp, (bif z_gt (zz s) then (some (h, .inl (o_ior (mvG m b W (decide (R = 1)) s x t) (mvL W (decide (R = 1)) s x))) : RE Int32) else some (h, .inl (mvA m b W (decide (R = 1)) s x t))) = some (h, .inl (mvX m b W (decide (R = 1)) s x t)) := by
    intro h
    rw [zgt_zz (by omega) (by omega)]
    unfold mvX
    by_cases q : 0 < s <;> simp [q]
  generalize hL : mvL W (decide (R = 1)) s x = L at *
  generalize hB : mvB m b W (decide (R = 1)) s x t = B at *
  generalize hG : mvG m b W (decide (R = 1)) s x t = G at *
  generalize hA : mvA m b W (decide (R = 1)) s x t = A at *
  generalize hX : mvX m b W (decide (R = 1)) s x t = X at *
  -- what comes ahead of the two branches
  generalize hm1 : (if s ≠ 0 then ms (ms m (b + 2) (t * 6 + d) (o_ior (m (b + 2) (t * 6 + d)) A)) (b + 14) (r * 6 + d) X else ms m (b + 2) (t * 6 + d) (o_ior (m (b + 2) (t * 6 + d)) A)) = m1
  have v1 : ∀ a, a ≠ b + 2 → a ≠ b + 14 → m1 a = m a := by
    intro a a1 a2
    rw [← hm1]
    split
    · rw [ms_ne a2, ms_ne a1]
    · rw [ms_ne a1]
  have v2 : m1 (b + 2) = su (m (b + 2)) (t * 6 + d) (o_ior (m (b + 2) (t * 6 + d)) A) := by
    rw [← hm1]
    split
    · rw [ms_ne (by omega), ms_mw, mw_at]
    · rw [ms_mw, mw_at]
  have v14 : ∀ i, m1 (b + 14) i = if i = r * 6 + d ∧ s ≠ 0 then X else m (b + 14) i := by
    intro i
    rw [← hm1]
    by_cases q : s ≠ 0
    · rw [if_pos q, ms_v, ms_ne (by omega)]
      by_cases q2 : i = r * 6 + d
      · rw [if_pos ⟨rfl, q2⟩, if_pos ⟨q2, q⟩]
      · rw [if_neg (fun z => q2 z.2), if_neg (fun z => q2 z.1)]
    · rw [if_neg q, if_neg (fun z => q z.2), ms_ne (by omega)]
  have hlast : ∀ (m2 : Mm), (∀ a, a ≠ b + 2 → a ≠ b + 9 → a ≠ b + 10 → a ≠ b + 14 → m2 a = m a) → ∃ m3, f_X4_giveToBodies [.ref 31, .ref b, .int B, .int (nz d), .int (nz t), .int (zz s)] (HM e m2 w) = some (HM e m3 w, .inl none) ∧ (∀ a, a ≠ 33 → m3 a = m2 a) ∧ ∀ i, m3 33 i = if i < 12 then m 33 i + gvB m b W (decide (R = 1)) B d t s i else m 33 i := by
    intro m2 q
    obtain ⟨m3, g1, g2, g3⟩ := e_giveToBodies (e := e) (w := w) (m := m2) (x := B) (t := t) he hb hs hd ht hW hW2 (by rw [q _ (by omega) (by omega) (by omega) (by omega)]; exact h0) hR0 (by rw [q _ (by omega) (by omega) (by omega) (by omega)]; exact hR1)
    refine ⟨m3, g1, g2, fun i => ?_⟩
    rw [g3 i, q 33 (by omega) (by omega) (by omega) (by omega)]
    have : gvB m2 b W (decide (R = 1)) B d t s i = gvB m b W (decide (R = 1)) B d t s i := by
      unfold gvB
      rw [q (b + 1) (by omega) (by omega) (by omega) (by omega), q (b + 3) (by omega) (by omega) (by omega) (by omega)]
    rw [this]
  have zL : z_ne L = decide (¬ L = nz 0) := rfl
  have zB : z_ne B = decide (¬ B = nz 0) := rfl
  generalize hm2 : (if L = nz 0 then m1 else mw (ms m1 (b + 9) 3 (m1 (b + 9) 3 + nz (pc L))) (b + 10) (su (su (m1 (b + 10)) (4 * 2) (m1 (b + 10) (4 * 2) + q_al d * nz (pc L))) (4 * 2 + 1) (m1 (b + 10) (4 * 2 + 1) + q_ac d * nz (pc L)))) = m2
  have u1 : ∀ a, a ≠ b + 9 → a ≠ b + 10 → m2 a = m1 a := by
    intro a a1 a2
    rw [← hm2]
    split
    · rfl
    · rw [mw_ne a2, ms_ne a1]
  have u9 : m2 (b + 9) = su (m (b + 9)) 3 (m (b + 9) 3 + nz (pc L)) := by
    rw [← hm2]
    by_cases q : L = nz 0
    · rw [if_pos q, q, pc_0, add_nz0, su_self, v1 _ (by omega) (by omega)]
    · rw [if_neg q, mw_ne (by omega), ms_mw, mw_at, v1 _ (by omega) (by omega)]
  have u10 : m2 (b + 10) = su (su (m (b + 10)) 8 (m (b + 10) 8 + q_al d * nz (pc L))) 9 (m (b + 10) 9 + q_ac d * nz (pc L)) := by
    rw [← hm2]
    by_cases q : L = nz 0
    · rw [if_pos q, q, pc_0, show ∀ y : Int32, y * nz 0 = nz 0 from fun y => Int32.mul_zero, show ∀ y : Int32, y * nz 0 = nz 0 from fun y => Int32.mul_zero, su_two0, v1 _ (by omega) (by omega)]
    · rw [if_neg q, mw_at, v1 _ (by omega) (by omega)]
  obtain ⟨m3, g1, g2, g3⟩ := hlast (ms m2 (b + 2) (r * 6 + opN d) (o_ior (m2 (b + 2) (r * 6 + opN d)) B)) (fun a a1 a2 a3 a4 => by rw [ms_ne a1, u1 a a2 a3, v1 a a1 a4])
  have hS : ∀ l : Lc, (if ¬ s = 0 then (some (HM e (ms (ms m (b + 2) (t * 6 + d) (o_ior (m (b + 2) (t * 6 + d)) A)) (b + 14) (r * 6 + d) X) w, .inl l) : RS) else some (HM e (ms m (b + 2) (t * 6 + d) (o_ior (m (b + 2) (t * 6 + d)) A)) w, .inl l)) = some (HM e m1 w, .inl l) := by
    intro l
    rw [← hm1]
    by_cases q : s = 0 <;> simp [q]
  have hC : ∀ l : Lc, (if ¬ L = nz 0 then (some (HM e (mw (ms m1 (b + 9) 3 (m1 (b + 9) 3 + nz (pc L))) (b + 10) (su (su (m1 (b + 10)) (4 * 2) (m1 (b + 10) (4 * 2) + q_al d * nz (pc L))) (4 * 2 + 1) (m1 (b + 10) (4 * 2 + 1) + q_ac d * nz (pc L)))) w, .inl l) : RS) else some (HM e m1 w, .inl l)) = some (HM e m2 w, .inl l) := by
    intro l
    rw [← hm2]
    by_cases q : L = nz 0 <;> simp [q]
  have hD : ∀ l : Lc, (if ¬ B = nz 0 then (some (HM e m3 w, .inl l) : RS) else some (HM e m2 w, .inl l)) = some (HM e (if B = nz 0 then m2 else m3) w, .inl l) := by
    intro l
    by_cases q : B = nz 0 <;> simp [q]
  refine ⟨if B = nz 0 then m2 else m3, ?_, fun a a1 a2 a3 a4 a5 => ?_, fun i c => ?_, fun i => ?_, ?_, ?_, fun i => ?_⟩
  · unfold f_X4_moveToRow
    simp (disch := omega) only [mth_w, kR_w, kR_if, sQ_v, sN_v, sTi_v, sTa_v, sTl_v, sR_v, sRv_v, sX_v, sPi_v, sPo_v, sPz_w, zP_b, sRz_w, zR_bw, zR_0w, zR_1w, sPa_v, sAi_v, sAl_v, sAo_v, sAa_v, sM_w, sMp_w, eM_w, sIf_w, eIf_w, cAnd_w, cOr_w, cB_v, cZ_v, cNot_v, eC_v, eI_v, eJ_v, eOp_v, eQ_v, eU_v, eIL_v, eLO_v, eLS_v, eLC_v, eGi_v, eGa_v, eZ_w, eAi_v, eAl_v, eAa_v, eAn_v, aN_v, aI_v, aA_v, sInc_v, sB_okw, sB_xw, eS_okw, eS_xw, eB_okw, eB_xw, oE_w, oS_w, kI_iw, kI_xw, kV_w, kV_xw, kP_iw, kP_xw, List.set_cons_zero, List.set_cons_succ, List.cons_append, List.nil_append, List.length_cons, List.length_nil, List.replicate_succ, List.replicate_zero, List.append_nil, bif_and, bif_or, zne_b01, zeq_b01, bif_d, cond_true, cond_false, nar_0, o_iadd, o_isub, o_imul, c_eq, c_ne, c_lt, c_ge, c_gt, c_le, Nat.reduceAdd, Nat.reduceSub, Nat.zero_add, if_true, if_false, eLl_2, eLi_0, eLi_1, eLi_2, eLi_3, eLi_4, eLi_5, eLi_6, eLi_7, eLi_8, eLi_9, eLi_10, eLi_11, eLi_12, eLi_13, eLa_0, eLa_1, eLa_2, eLa_3, eLa_4, eLa_5, eLa_6, eLa_7, nz_add, nz_mul, nz_sub, nz_lt, nz_le, nz_inj, zeq_nz, zne_nz, zge_nz, zgt_nz, zlt_nz, nlit0, nlit1, nlit2, nlit3, nlit4, nlit5, nlit6, nlit7, nlit8, nlit9, nlit10, nlit11, nlit12, nlit16, nlit18, nlit22, nlit31, nlit32, nlit33, nlit34, nlit40, nlit48, nlit60, nlit63, nlit64, nlit66, nlit80, nlit96, nlit114, nlit126, nlit128, nlit512, nlit756, nlit882, nlit1000, nlit1394, nlit1522, nlit1523, nlit10000, gd_0, rf_0_0, rf_0_1, rf_0_2, rf_0_3, rf_0_4, rd_0_5, wr_0_5, rd_0_6, wr_0_6, rf_0_7, rf_0_8, rf_0_9, gd_31, rf_31_0, rf_31_1, rf_31_2, ar_32, aw_32, an_32, ar_33, aw_33, an_33, ar_34, aw_34, an_34, gd_35, rf_35_0, rd_35_1, wr_35_1, rf_35_2, rd_35_3, wr_35_3, rd_35_4, wr_35_4, rd_35_5, wr_35_5, rf_35_6, rd_35_7, wr_35_7, rd_35_8, wr_35_8, rd_35_9, wr_35_9, rd_35_10, wr_35_10, rd_35_11, wr_35_11, rd_35_12, wr_35_12, rd_35_13, wr_35_13, ar_36, aw_36, ar_37, aw_37, an_37, ar_38, aw_38, ar_39, ar_40, ar_41, aw_41, ar_42, aw_42, ar_146, aw_146, (gd_t0 hb), (rf_t0_0 hb), (rf_t0_1 hb), (rf_t0_2 hb), (rf_t0_3 hb), (rf_t0_4 hb), (rf_t0_5 hb), (rd_t0_6 hb), (wr_t0_6 hb), (rd_t0_7 hb), (wr_t0_7 hb), (rf_t0_8 hb), (rf_t0_9 hb), (gd_t1 hb), (rd_t1_0 hb), (wr_t1_0 hb), (rd_t1_1 hb), (wr_t1_1 hb), (rd_t1_2 hb), (wr_t1_2 hb), (rf_t1_3 hb), (rf_t1_4 hb), (ar_t2 hb), (aw_t2 hb), (an_t2 hb), (ar_t3 hb), (aw_t3 hb), (an_t3 hb), (gd_t4 hb), (rd_t4_0 hb), (wr_t4_0 hb), (rf_t4_1 hb), (ar_t5 hb), (aw_t5 hb), (an_t5 hb), (gd_t6 hb), (rd_t6_0 hb), (wr_t6_0 hb), (rd_t6_1 hb), (wr_t6_1 hb), (rf_t6_2 hb), (ar_t7 hb), (aw_t7 hb), (an_t7 hb), (gd_t8 hb), (rf_t8_0 hb), (rf_t8_1 hb), (ar_t9 hb), (aw_t9 hb), (an_t9 hb), (ar_t10 hb), (aw_t10 hb), (an_t10 hb), (ar_t11 hb), (aw_t11 hb), (an_t11 hb), (ar_t12 hb), (aw_t12 hb), (an_t12 hb), (ar_t13 hb), (aw_t13 hb), (an_t13 hb), (ar_t14 hb), (aw_t14 hb), (an_t14 hb), hx, and1, bt_nz, r_ce he hd, r_co he hd, r_op he hd, q_op_n hd, hst, hrf, hlv, hsol, hstB, hstA, hec, hBd, hGd, hGd', hAd, hXd, zz_neg, o_ineg, zz_ne0 hs, e_bitCount, ms_ne, hS, zL, zB, e_credit he hb (show 4 < 5 by decide) hd, hC, g1, hD]
  · split
    · rw [u1 a a2 a3, v1 a a1 a4]
    · rw [g2 a a5, ms_ne a1, u1 a a2 a3, v1 a a1 a4]
  · have k1 : bt (m2 (b + 2) i) c = (bt (m (b + 2) i) c || (decide (i = t * 6 + d) && bt A c)) := by
      rw [u1 _ (by omega) (by omega), v2, su_v]
      by_cases q : i = t * 6 + d
      · rw [if_pos q, bt_or, q]
        simp
      · rw [if_neg q]
        simp [q]
    by_cases q : B = nz 0
    · rw [if_pos q, k1, q, show bt (nz 0) c = false from bt_0 c]
      simp
    · rw [if_neg q, g2 _ (by omega), ms_v]
      by_cases q2 : i = r * 6 + opN d
      · rw [if_pos ⟨rfl, q2⟩, bt_or, ← q2, k1]
        simp [q2]
      · rw [if_neg (fun z => q2 z.2), k1]
        simp [q2]
  · split
    · rw [u1 _ (by omega) (by omega), v14 i]
    · rw [g2 _ (by omega), ms_ne (by omega), u1 _ (by omega) (by omega), v14 i]
  · split
    · exact u9
    · rw [g2 _ (by omega), ms_ne (by omega), u9]
  · split
    · exact u10
    · rw [g2 _ (by omega), ms_ne (by omega), u10]
  · by_cases q : B = nz 0
    · rw [if_pos q, q, gvB_0, add_nz0, u1 _ (by omega) (by omega), v1 _ (by omega) (by omega)]
      split <;> rfl
    · rw [if_neg q, g3 i]
end
