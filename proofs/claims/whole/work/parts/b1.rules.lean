section
variable {tx : Nat → Nat} {S S' : St} {T b n f k t : Nat} {e : Nat → Nat × (Nat → Int32)} {m m' m1 m2 m3 : Mm} {w : Ml}
theorem enB_lt {fr ev od : Nat} {B : St} (h : ∀ k, k < 128 → ∃ b, b < 64 ∧ B k = nz b) : ∀ j k, k < 128 → ∃ b, b < 64 ∧ enB fr ev od B j k = nz b
  | 0, k, hk => h k hk
  | j + 1, k, hk => by
    show ∃ b, b < 64 ∧ su (su (enB fr ev od B j) (trN fr j) (nz (trN ev j))) (64 + trN fr j) (nz (trN od j)) k = nz b
    rw [su_v, su_v]
    by_cases h1 : k = 64 + trN fr j
    · rw [if_pos h1]
      exact ⟨_, trN_lt, rfl⟩
    · rw [if_neg h1]
      by_cases h2 : k = trN fr j
      · rw [if_pos h2]
        exact ⟨_, trN_lt, rfl⟩
      · rw [if_neg h2]
        exact enB_lt h j k hk
theorem enB_0 {fr ev od : Nat} {B : St} (hf : fr < 64) (h0 : fr ≠ 0) : ∀ j, j ≤ 6 → enB fr ev od B j 0 = B 0 ∧ enB fr ev od B j 64 = B 64
  | 0, _ => ⟨rfl, rfl⟩
  | j + 1, hj => by
    have hz := trN_0 fr hf h0 j (by omega)
    have hl := trN_lt (s := fr) (j := j)
    obtain ⟨g1, g2⟩ := enB_0 (ev := ev) (od := od) (B := B) hf h0 j (by omega)
    show su (su (enB fr ev od B j) (trN fr j) (nz (trN ev j))) (64 + trN fr j) (nz (trN od j)) 0 = _ ∧ su (su (enB fr ev od B j) (trN fr j) (nz (trN ev j))) (64 + trN fr j) (nz (trN od j)) 64 = _
    rw [su_ne (by omega), su_ne (by omega), su_ne (by omega), su_ne (by omega), g1, g2]
    exact ⟨rfl, rfl⟩
theorem BT_lt : ∀ i k, k < 128 → ∃ b, b < 64 ∧ BT tx t i k = nz b
  | 0, k, hk => by
    rw [show BT tx t 0 k = if k < 64 then nz k else nz (k - 64) from rfl]
    by_cases h : k < 64
    · rw [if_pos h]
      exact ⟨k, h, rfl⟩
    · rw [if_neg h]
      exact ⟨k - 64, by omega, rfl⟩
  | i + 1, k, hk => enB_lt (fun k hk => BT_lt i k hk) _ k hk
theorem BT_0 (ht : t ≤ 80) : ∀ i, (∀ j, j < i → frT tx t (posT tx t j) ≠ 0) → BT tx t i 0 = nz 0 ∧ BT tx t i 64 = nz 0
  | 0, _ => ⟨rfl, rfl⟩
  | i + 1, h => by
    obtain ⟨g1, g2⟩ := BT_0 ht i (fun j hj => h j (by omega))
    obtain ⟨a1, a2⟩ := enB_0 (ev := evT tx t (posT tx t i)) (od := odT tx t (posT tx t i)) (B := BT tx t i) (st_lt (tx := tx) (t := t) (p := n1T tx t (posT tx t i))) (h i (by omega)) (tnT tx t (posT tx t i)) tn_le
    exact ⟨a1.trans g1, a2.trans g2⟩
/-- the rules that are entered name no empty state -/
theorem nr_fr (ht : t ≤ 80) (hw : wrT tx t = 0) : ∀ j, j < nrT tx t → frT tx t (posT tx t j) ≠ 0 := fun j hj => by
  have t0 : 0 < t := by
    rcases Nat.eq_zero_or_pos t with z | z
    · unfold nrT at hj
      rw [if_pos z] at hj
      omega
    · exact z
  rw [nr_e t0, if_pos hw] at hj
  have hk : kdT tx t (NT tx t j) (posT tx t j) = 0 := by
    by_cases q : j < laT tx t
    · exact ((la_ok (tx := tx) ht).2.1 j q).1
    · rw [show j = laT tx t by omega, ← wr_e t0]
      exact hw
  exact (ok_y (kd_ok hk)).1
/-- the state with the new book -/
def bkT1 (S : St) (B : St) (n : Nat) : St := fun j => if 1394 ≤ j ∧ j < 1522 then B (j - 1394) else if j = 1522 then nz n else S j
theorem bkT1_lo {B : St} {j : Nat} (h : j < 1394) : bkT1 S B n j = S j := by
  unfold bkT1
  rw [if_neg (by omega), if_neg (by omega)]
theorem bkT1_b {B : St} {j : Nat} (h : j < 128) : bkT1 S B n (1394 + j) = B j := by
  unfold bkT1
  rw [if_pos (by omega), show 1394 + j - 1394 = j by omega]
theorem bkT1_r {B : St} : bkT1 S B n 1522 = nz n := by
  unfold bkT1
  rw [if_neg (by omega), if_pos rfl]
theorem bkT1_wf {B : St} (hw : WF T S) (h1 : ∀ k, k < 128 → ∃ b, b < 64 ∧ B k = nz b) (h2 : B 0 = nz 0) (h3 : B 64 = nz 0) : WF T (bkT1 S B n) := by
  refine WF.gen hw (fun j hj => bkT1_lo (by omega)) (WF.fit hw (fun k hk => bkT1_lo (by omega))) (WF.cel hw (fun c r hc hr => bkT1_lo (by omega))) (WF.gus hw (fun j hj => bkT1_lo (by omega))) ⟨fun k hk => ?_, ?_, ?_⟩
  · rw [bkT1_b hk]
    exact h1 k hk
  · exact (bkT1_b (j := 0) (by decide)).trans h2
  · exact (bkT1_b (j := 64) (by decide)).trans h3
theorem A_rules (he : EO e) (hI : INV T m) : AgJ e m w f_X7_rules f_X8_rules [.ref 0] [.ref 133] [xS] (INV T) := by
  obtain ⟨tx, t, t1, t2, t3, tc, tm⟩ := padi_tx hI.2.2.2.2
  obtain ⟨mb, g0, g1, g2, g3, g4, g5, g6⟩ := e_readBook (e := e) (w := w) he tc t2
  have hw3 := wr_le (tx := tx) (t := t)
  have kb : Keep m mb := ⟨fun a ha => g1 a (by omega) (by omega) (by omega), g1 _ (by decide) (by decide) (by decide), by rw [g2, t2], by rw [g1 _ (by decide) (by decide) (by decide)], by rw [g1 _ (by decide) (by decide) (by decide)]⟩
  have hIb := hI.keep kb
  have t3b : mb 133 12 = nz t := by rw [g1 _ (by decide) (by decide) (by decide)]; exact t3
  have tmb : TxC tx t (mb 143) := by rw [g1 _ (by decide) (by decide) (by decide)]; exact tm
  by_cases q : wrT tx t = 0
  · have qt : (wrT tx t = 0) = True := eq_true q
    have g4' : mb 35 4 = nz 0 := by rw [g4, q]
    obtain ⟨h1, h2, ⟨n, f, h3, h4⟩, h5, h6⟩ := hIb
    obtain ⟨m1, r1, r2, r3, r4⟩ := e_recordChange (e := e) (w := w) h1 h2 h3 (fun i hi => h4.2 i hi)
    have hn := h3.1
    have hT1 : TR 1 m1 (mb 134) := TR.keep h1 h2 (fun a a1 a2 => r2 a (by omega) (by omega))
    obtain ⟨m4, k0, k1, k2, k3⟩ := e_takeBook (e := e) (m := m1) (w := w) TB.one
    obtain ⟨m2, hm2⟩ : ∃ m2, m2 = ms m4 35 1 (nz 0) := ⟨_, rfl⟩
    have k35 : ∀ j, j ≠ 1 → m2 35 j = mb 35 j := fun j hj => by rw [hm2, ms_nn hj, k1 _ (by decide) (by decide), r2 _ (by decide) (by decide)]
    have k2a : ∀ a, a ≠ 1 → a ≠ 13 → a ≠ 35 → m2 a = m1 a := fun a a1 a2 a3 => by rw [hm2, ms_ne a3, k1 a a1 a2]
    have khi : ∀ a, 133 ≤ a → m2 a = mb a := fun a ha => by rw [k2a a (by omega) (by omega) (by omega), r2 a (by omega) (by omega)]
    have hbk : ∀ j, j < 128 → m2 13 j = BT tx t (nrT tx t) j := fun j hj => by
      rw [hm2, ms_ne (by decide)]
      have := k2 j hj
      rw [show (1 : Nat) + 12 = 13 from rfl] at this
      rw [this, r2 _ (by decide) (by decide), g6 j hj]
    have h16 : m2 1 6 = nz (nrT tx t) := by rw [hm2, ms_ne (by decide), k3, su_at, r2 _ (by decide) (by decide), g3]
    have h17 : m2 1 7 = m1 1 7 := by rw [hm2, ms_ne (by decide), k3, su_ne (by decide)]
    obtain ⟨B0, hB0⟩ : ∃ B0, B0 = BT tx t (nrT tx t) := ⟨_, rfl⟩
    obtain ⟨S', hS'⟩ : ∃ S', S' = bkT1 (mb 134) B0 (nrT tx t) := ⟨_, rfl⟩
    have hz0 := BT_0 (tx := tx) t1 (nrT tx t) (nr_fr t1 q)
    have hwf' : WF T S' := by
      rw [hS', hB0]
      exact bkT1_wf h1 (fun k hk => BT_lt _ k hk) hz0.1 hz0.2
    have hTR' : TR 1 m2 S' := by
      rw [hS', hB0]
      refine TR.gen (b := 1) h1 hT1 (k2a _ (by decide) (by decide) (by decide)) (k2a _ (by decide) (by decide) (by decide)) (k2a _ (by decide) (by decide) (by decide)) (k2a _ (by decide) (by decide) (by decide)) h17 (fun j hj => bkT1_lo (by omega)) (Or.inl ⟨k2a _ (by decide) (by decide) (by decide), k2a _ (by decide) (by decide) (by decide), fun c r hc hr => bkT1_lo (by omega)⟩) (Or.inl ⟨k2a _ (by decide) (by decide) (by decide), k2a _ (by decide) (by decide) (by decide), bkT1_lo (by omega), fun k hk => bkT1_lo (by omega)⟩) (Or.inl ⟨k2a _ (by decide) (by decide) (by decide), fun k hk => bkT1_lo (by omega)⟩) (Or.inl ⟨k2a _ (by decide) (by decide) (by decide), fun k _ hk => bkT1_lo (by omega)⟩) (Or.inl ⟨k2a _ (by decide) (by decide) (by decide), fun k hk => bkT1_lo (by omega)⟩) (Or.inr ⟨by rw [h16, bkT1_r], fun k hk => ?_⟩) (Or.inl ⟨k2a _ (by decide) (by decide) (by decide), fun k hk => bkT1_lo (by omega)⟩)
      rw [bkT1_b hk]
      exact hbk k hk
    refine Or.inl ⟨m2, w, nz (nrT tx t), ?_, fun w' => ?_⟩
    · have z00 : ((0 : Nat) = 0) = True := by decide
      have k16 : m4 1 6 = nz (nrT tx t) := by rw [k3, su_at, r2 _ (by decide) (by decide), g3]
      unfold f_X7_rules
      simp (disch := omega) only [mth_w, kR_w, kR_if, sQ_v, sN_v, sTi_v, sTa_v, sTl_v, sR_v, sRv_v, sX_v, sPi_v, sPo_v, sPz_w, zP_b, sRz_w, zR_bw, zR_0w, zR_1w, sPa_v, sAi_v, sAl_v, sAo_v, sAa_v, sM_w, sMp_w, eM_w, sIf_w, eIf_w, cAnd_w, cOr_w, cB_v, cZ_v, cNot_v, eC_v, eI_v, eJ_v, eOp_v, eQ_v, eU_v, eIL_v, eLO_v, eLS_v, eLC_v, eGi_v, eGa_v, eZ_w, eAi_v, eAl_v, eAa_v, eAn_v, aN_v, aI_v, aA_v, sInc_v, sB_okw, sB_xw, eS_okw, eS_xw, eB_okw, eB_xw, oE_w, oS_w, kI_iw, kI_xw, kV_w, kV_xw, kP_iw, kP_xw, List.set_cons_zero, List.set_cons_succ, List.cons_append, List.nil_append, List.length_cons, List.length_nil, List.replicate_succ, List.replicate_zero, List.append_nil, bif_and, bif_or, zne_b01, zeq_b01, bif_d, cond_true, cond_false, nar_0, o_iadd, o_isub, o_imul, c_eq, c_ne, c_lt, c_ge, c_gt, c_le, Nat.reduceAdd, Nat.reduceSub, Nat.zero_add, if_true, if_false, eLl_2, eLi_0, eLi_1, eLi_2, eLi_3, eLi_4, eLi_5, eLi_6, eLi_7, eLi_8, eLi_9, eLi_10, eLi_11, eLi_12, eLi_13, eLa_0, eLa_1, eLa_2, eLa_3, eLa_4, eLa_5, eLa_6, eLa_7, nz_add, nz_mul, nz_sub, nz_lt, nz_le, nz_inj, zeq_nz, zne_nz, zge_nz, zgt_nz, zlt_nz, nlit0, nlit1, nlit2, nlit3, nlit4, nlit5, nlit6, nlit7, nlit8, nlit9, nlit10, nlit11, nlit12, nlit16, nlit18, nlit22, nlit31, nlit32, nlit33, nlit34, nlit40, nlit48, nlit60, nlit63, nlit64, nlit66, nlit80, nlit96, nlit114, nlit126, nlit128, nlit512, nlit756, nlit882, nlit1000, nlit1394, nlit1522, nlit1523, nlit10000, decide_true, decide_false, not_true_eq_false, not_false_eq_true, ne_eq, and_self, and_true, true_and, Bool.and_true, Bool.true_and, Bool.and_false, Bool.false_and, Bool.or_false, Bool.false_or, Bool.or_true, Bool.true_or, Bool.not_true, Bool.not_false, gd_0, rf_0_0, rf_0_1, rf_0_2, rf_0_3, rf_0_4, rd_0_5, wr_0_5, rd_0_6, wr_0_6, rf_0_7, rf_0_8, rf_0_9, gd_31, rf_31_0, rf_31_1, rf_31_2, ar_32, aw_32, an_32, ar_33, aw_33, an_33, ar_34, aw_34, an_34, gd_35, rf_35_0, rd_35_1, wr_35_1, rf_35_2, rd_35_3, wr_35_3, rd_35_4, wr_35_4, rd_35_5, wr_35_5, rf_35_6, rd_35_7, wr_35_7, rd_35_8, wr_35_8, rd_35_9, wr_35_9, rd_35_10, wr_35_10, rd_35_11, wr_35_11, rd_35_12, wr_35_12, rd_35_13, wr_35_13, ar_36, aw_36, ar_37, aw_37, an_37, ar_38, aw_38, ar_39, ar_40, ar_41, aw_41, ar_42, aw_42, ar_146, aw_146, (gd_t0 TB.one), (rf_t0_0 TB.one), (rf_t0_1 TB.one), (rf_t0_2 TB.one), (rf_t0_3 TB.one), (rf_t0_4 TB.one), (rf_t0_5 TB.one), (rd_t0_6 TB.one), (wr_t0_6 TB.one), (rd_t0_7 TB.one), (wr_t0_7 TB.one), (rf_t0_8 TB.one), (rf_t0_9 TB.one), (gd_t1 TB.one), (rd_t1_0 TB.one), (wr_t1_0 TB.one), (rd_t1_1 TB.one), (wr_t1_1 TB.one), (rd_t1_2 TB.one), (wr_t1_2 TB.one), (rf_t1_3 TB.one), (rf_t1_4 TB.one), (ar_t2 TB.one), (aw_t2 TB.one), (an_t2 TB.one), (ar_t3 TB.one), (aw_t3 TB.one), (an_t3 TB.one), (gd_t4 TB.one), (rd_t4_0 TB.one), (wr_t4_0 TB.one), (rf_t4_1 TB.one), (ar_t5 TB.one), (aw_t5 TB.one), (an_t5 TB.one), (gd_t6 TB.one), (rd_t6_0 TB.one), (wr_t6_0 TB.one), (rd_t6_1 TB.one), (wr_t6_1 TB.one), (rf_t6_2 TB.one), (ar_t7 TB.one), (aw_t7 TB.one), (an_t7 TB.one), (gd_t8 TB.one), (rf_t8_0 TB.one), (rf_t8_1 TB.one), (ar_t9 TB.one), (aw_t9 TB.one), (an_t9 TB.one), (ar_t10 TB.one), (aw_t10 TB.one), (an_t10 TB.one), (ar_t11 TB.one), (aw_t11 TB.one), (an_t11 TB.one), (ar_t12 TB.one), (aw_t12 TB.one), (an_t12 TB.one), (ar_t13 TB.one), (aw_t13 TB.one), (an_t13 TB.one), (ar_t14 TB.one), (aw_t14 TB.one), (an_t14 TB.one), needState_q, g0, g4', z00, r1, k0, ms_ne, k16, ← hm2, h16]
    · have y9 : m2 133 9 = nz n := by rw [khi _ (by decide)]; exact h4.1
      obtain ⟨m5, a0, a1, a2, a3, a4, -, a6⟩ := e_readsAll (e := e) (w := w') (m := m2) (tx := tx) (t := t) (by rw [khi _ (by decide)]; exact tmb) (by rw [khi _ (by decide)]; exact t3b)
      have a4' : m5 133 16 = nz 0 := by rw [a4, q]
      have e34 : m5 134 = mb 134 := by rw [a1 _ (by decide) (by decide) (by decide), khi _ (by decide)]
      obtain ⟨m6, hm6⟩ : ∃ m6, m6 = mw m5 138 (fun j => if j < 1523 then m5 134 j else m5 138 j) := ⟨_, rfl⟩
      have e634 : m6 134 = mb 134 := by rw [hm6, mw_ne (by decide), e34]
      have e644 : m6 144 = m5 144 := by rw [hm6, mw_ne (by decide)]
      obtain ⟨m7, hm7⟩ : ∃ m7, m7 = ms (ms (mw m6 134 (fun k => if 1394 ≤ k ∧ k < 1522 then m6 144 (k - 1394) else m6 134 k)) 134 1522 (nz (nrT tx t))) 133 12 (nz 0) := ⟨_, rfl⟩
      have e734 : m7 134 = S' := by
        rw [hm7, ms_ne (by decide), ms_mw, mw_at, mw_at, hS']
        funext j
        rw [su_v]
        unfold bkT1
        by_cases q1 : j = 1522
        · rw [if_pos q1, if_neg (show ¬ (1394 ≤ j ∧ j < 1522) by omega), if_pos q1]
        · rw [if_neg q1]
          by_cases q2 : 1394 ≤ j ∧ j < 1522
          · rw [if_pos (by omega), if_pos q2, e644, a6 q _ (by omega), hB0]
          · rw [if_neg q2, if_neg q2, if_neg q1, e634]
      have e7 : ∀ a, a ≠ 133 → a ≠ 134 → a ≠ 138 → a ≠ 144 → a ≠ 145 → m7 a = m2 a := fun a b1 b2 b3 b4 b5 => by rw [hm7, ms_ne b1, ms_ne b2, mw_ne b2, hm6, mw_ne b3, a1 a b1 b4 b5]
      have e738 : Sq (m7 138) (mb 134) := fun j hj => by
        rw [hm7, ms_ne (by decide), ms_ne (by decide), mw_ne (by decide), hm6, mw_at, if_pos hj, e34]
      have e79 : m7 133 9 = nz n := by rw [hm7, ms_nn (by decide), ms_ne (by decide), mw_ne (by decide), hm6, mw_ne (by decide), a2 9 (by omega), y9]
      have e712 : m7 133 12 = nz 0 := by rw [hm7, ms_eq]
      obtain ⟨m8, s1, s2, s3, s4, s5, s6⟩ := e_saves (e := e) (w := w') (m := m7) (v := nz (nrT tx t)) hn e79
      have y : ∀ a, a ≠ 133 → a ≠ 134 → a ≠ 135 → a ≠ 138 → a ≠ 144 → a ≠ 145 → m8 a = m2 a := fun a a3 a4 a5 a8 a41 a42 => by rw [s2 a a3 a5, e7 a a3 a4 a8 a41 a42]
      have y4 : m8 134 = S' := by rw [s2 _ (by decide) (by decide), e734]
      have y5 : m8 135 = pushP (mb 135) (m7 138) n := by rw [s3, e7 _ (by decide) (by decide) (by decide) (by decide) (by decide), khi _ (by decide)]
      have hP : ∀ i, i < (if n = 4 then 4 else n + 1) → Sq (if n = 4 then (if i < 3 then rowP (mb 135) (i + 1) else mb 134) else if i < n then rowP (mb 135) i else mb 134) (rowP (m8 135) i) := fun i hi k hk1 => by
        have hB : m7 138 k = mb 134 k := e738 k hk1
        rw [y5, row_push hn hk1 hi, hB]
        split
        · split <;> rfl
        · split <;> rfl
      have hPw : ∀ i, i < (if n = 4 then 4 else n + 1) → WF T (if n = 4 then (if i < 3 then rowP (mb 135) (i + 1) else mb 134) else if i < n then rowP (mb 135) i else mb 134) := fun i hi => by
        by_cases q : n = 4
        · rw [if_pos q] at hi ⊢
          by_cases q2 : i < 3
          · rw [if_pos q2]; exact h4.2 _ (by omega)
          · rw [if_neg q2]; exact h1
        · rw [if_neg q] at hi ⊢
          by_cases q2 : i < n
          · rw [if_pos q2]; exact h4.2 _ q2
          · rw [if_neg q2]; exact h1
      refine ⟨m8, ?_, s5, ?_⟩
      · unfold f_X8_rules
        have z00 : ((0 : Nat) = 0) = True := by decide
        simp (disch := omega) only [mth_w, kR_w, kR_if, sQ_v, sN_v, sTi_v, sTa_v, sTl_v, sR_v, sRv_v, sX_v, sPi_v, sPo_v, sPz_w, zP_b, sRz_w, zR_bw, zR_0w, zR_1w, sPa_v, sAi_v, sAl_v, sAo_v, sAa_v, sM_w, sMp_w, eM_w, sIf_w, eIf_w, cAnd_w, cOr_w, cB_v, cZ_v, cNot_v, eC_v, eI_v, eJ_v, eOp_v, eQ_v, eU_v, eIL_v, eLO_v, eLS_v, eLC_v, eGi_v, eGa_v, eZ_w, eAi_v, eAl_v, eAa_v, eAn_v, aN_v, aI_v, aA_v, sInc_v, sB_okw, sB_xw, eS_okw, eS_xw, eB_okw, eB_xw, oE_w, oS_w, kI_iw, kI_xw, kV_w, kV_xw, kP_iw, kP_xw, List.set_cons_zero, List.set_cons_succ, List.cons_append, List.nil_append, List.length_cons, List.length_nil, List.replicate_succ, List.replicate_zero, List.append_nil, bif_and, bif_or, zne_b01, zeq_b01, bif_d, cond_true, cond_false, nar_0, o_iadd, o_isub, o_imul, c_eq, c_ne, c_lt, c_ge, c_gt, c_le, Nat.reduceAdd, Nat.reduceSub, Nat.zero_add, if_true, if_false, eLl_2, eLi_0, eLi_1, eLi_2, eLi_3, eLi_4, eLi_5, eLi_6, eLi_7, eLi_8, eLi_9, eLi_10, eLi_11, eLi_12, eLi_13, eLa_0, eLa_1, eLa_2, eLa_3, eLa_4, eLa_5, eLa_6, eLa_7, nz_add, nz_mul, nz_sub, nz_lt, nz_le, nz_inj, zeq_nz, zne_nz, zge_nz, zgt_nz, zlt_nz, nlit0, nlit1, nlit2, nlit3, nlit4, nlit5, nlit6, nlit7, nlit8, nlit9, nlit10, nlit11, nlit12, nlit16, nlit18, nlit22, nlit31, nlit32, nlit33, nlit34, nlit40, nlit48, nlit60, nlit63, nlit64, nlit66, nlit80, nlit96, nlit114, nlit126, nlit128, nlit512, nlit756, nlit882, nlit1000, nlit1394, nlit1522, nlit1523, nlit10000, decide_true, decide_false, not_true_eq_false, not_false_eq_true, ne_eq, and_self, and_true, true_and, Bool.and_true, Bool.true_and, Bool.and_false, Bool.false_and, Bool.or_false, Bool.false_or, Bool.or_true, Bool.true_or, Bool.not_true, Bool.not_false, gd_133, rf_133_0, rf_133_1, rf_133_2, rf_133_3, rf_133_4, rf_133_5, rf_133_6, rf_133_7, rf_133_8, rd_133_9, wr_133_9, rd_133_10, wr_133_10, rf_133_11, rd_133_12, wr_133_12, rd_133_13, wr_133_13, rd_133_14, wr_133_14, rd_133_15, wr_133_15, rd_133_16, wr_133_16, rf_133_17, rf_133_18, ar_134, aw_134, an_134, ar_135, aw_135, an_135, ar_136, aw_136, an_136, ar_137, aw_137, ar_138, aw_138, an_138, ar_139, aw_139, an_139, ar_140, aw_140, an_140, ar_141, aw_141, an_141, ar_142, aw_142, an_142, ar_143, aw_143, an_143, ar_144, aw_144, an_144, ar_145, aw_145, a0, a4', z00, e_holds]
        rw [← hm6]
        generalize hR : sLp _ _ NF _ _ = R
        have lo := sLp_fnR hR (fun j => [.ref 133, .int (nz j)]) (fun j => HM e (mw m6 134 (fun k => if 1394 ≤ k ∧ k < 1394 + j then m6 144 (k - 1394) else m6 134 k)) w') 128 (NF_lt (by omega)) (fun j hj => by
          refine ⟨by simp (disch := omega) only [mth_w, kR_w, kR_if, sQ_v, sN_v, sTi_v, sTa_v, sTl_v, sR_v, sRv_v, sX_v, sPi_v, sPo_v, sPz_w, zP_b, sRz_w, zR_bw, zR_0w, zR_1w, sPa_v, sAi_v, sAl_v, sAo_v, sAa_v, sM_w, sMp_w, eM_w, sIf_w, eIf_w, cAnd_w, cOr_w, cB_v, cZ_v, cNot_v, eC_v, eI_v, eJ_v, eOp_v, eQ_v, eU_v, eIL_v, eLO_v, eLS_v, eLC_v, eGi_v, eGa_v, eZ_w, eAi_v, eAl_v, eAa_v, eAn_v, aN_v, aI_v, aA_v, sInc_v, sB_okw, sB_xw, eS_okw, eS_xw, eB_okw, eB_xw, oE_w, oS_w, kI_iw, kI_xw, kV_w, kV_xw, kP_iw, kP_xw, List.set_cons_zero, List.set_cons_succ, List.cons_append, List.nil_append, List.length_cons, List.length_nil, List.replicate_succ, List.replicate_zero, List.append_nil, bif_and, bif_or, zne_b01, zeq_b01, bif_d, cond_true, cond_false, nar_0, o_iadd, o_isub, o_imul, c_eq, c_ne, c_lt, c_ge, c_gt, c_le, Nat.reduceAdd, Nat.reduceSub, Nat.zero_add, if_true, if_false, eLl_2, eLi_0, eLi_1, eLi_2, eLi_3, eLi_4, eLi_5, eLi_6, eLi_7, eLi_8, eLi_9, eLi_10, eLi_11, eLi_12, eLi_13, eLa_0, eLa_1, eLa_2, eLa_3, eLa_4, eLa_5, eLa_6, eLa_7, nz_add, nz_mul, nz_sub, nz_lt, nz_le, nz_inj, zeq_nz, zne_nz, zge_nz, zgt_nz, zlt_nz, nlit0, nlit1, nlit2, nlit3, nlit4, nlit5, nlit6, nlit7, nlit8, nlit9, nlit10, nlit11, nlit12, nlit16, nlit18, nlit22, nlit31, nlit32, nlit33, nlit34, nlit40, nlit48, nlit60, nlit63, nlit64, nlit66, nlit80, nlit96, nlit114, nlit126, nlit128, nlit512, nlit756, nlit882, nlit1000, nlit1394, nlit1522, nlit1523, nlit10000, decide_eq_true hj], ?_⟩
          have hst : ms (mw m6 134 (fun k => if 1394 ≤ k ∧ k < 1394 + j then m6 144 (k - 1394) else m6 134 k)) 134 (1394 + j) (m6 144 j) = mw m6 134 (fun k => if 1394 ≤ k ∧ k < 1394 + (j + 1) then m6 144 (k - 1394) else m6 134 k) := by
            rw [ms_mw, mw_mw, mw_at]
            refine congrArg (mw m6 134) (funext fun k => ?_)
            rw [su_v]
            by_cases q1 : k = 1394 + j
            · rw [if_pos q1, if_pos (by omega), show k - 1394 = j by omega]
            · rw [if_neg q1]
              by_cases q2 : 1394 ≤ k ∧ k < 1394 + j
              · rw [if_pos q2, if_pos (by omega)]
              · rw [if_neg q2, if_neg (by omega)]
          simp (disch := omega) only [mth_w, kR_w, kR_if, sQ_v, sN_v, sTi_v, sTa_v, sTl_v, sR_v, sRv_v, sX_v, sPi_v, sPo_v, sPz_w, zP_b, sRz_w, zR_bw, zR_0w, zR_1w, sPa_v, sAi_v, sAl_v, sAo_v, sAa_v, sM_w, sMp_w, eM_w, sIf_w, eIf_w, cAnd_w, cOr_w, cB_v, cZ_v, cNot_v, eC_v, eI_v, eJ_v, eOp_v, eQ_v, eU_v, eIL_v, eLO_v, eLS_v, eLC_v, eGi_v, eGa_v, eZ_w, eAi_v, eAl_v, eAa_v, eAn_v, aN_v, aI_v, aA_v, sInc_v, sB_okw, sB_xw, eS_okw, eS_xw, eB_okw, eB_xw, oE_w, oS_w, kI_iw, kI_xw, kV_w, kV_xw, kP_iw, kP_xw, List.set_cons_zero, List.set_cons_succ, List.cons_append, List.nil_append, List.length_cons, List.length_nil, List.replicate_succ, List.replicate_zero, List.append_nil, bif_and, bif_or, zne_b01, zeq_b01, bif_d, cond_true, cond_false, nar_0, o_iadd, o_isub, o_imul, c_eq, c_ne, c_lt, c_ge, c_gt, c_le, Nat.reduceAdd, Nat.reduceSub, Nat.zero_add, if_true, if_false, eLl_2, eLi_0, eLi_1, eLi_2, eLi_3, eLi_4, eLi_5, eLi_6, eLi_7, eLi_8, eLi_9, eLi_10, eLi_11, eLi_12, eLi_13, eLa_0, eLa_1, eLa_2, eLa_3, eLa_4, eLa_5, eLa_6, eLa_7, nz_add, nz_mul, nz_sub, nz_lt, nz_le, nz_inj, zeq_nz, zne_nz, zge_nz, zgt_nz, zlt_nz, nlit0, nlit1, nlit2, nlit3, nlit4, nlit5, nlit6, nlit7, nlit8, nlit9, nlit10, nlit11, nlit12, nlit16, nlit18, nlit22, nlit31, nlit32, nlit33, nlit34, nlit40, nlit48, nlit60, nlit63, nlit64, nlit66, nlit80, nlit96, nlit114, nlit126, nlit128, nlit512, nlit756, nlit882, nlit1000, nlit1394, nlit1522, nlit1523, nlit10000, decide_true, decide_false, not_true_eq_false, not_false_eq_true, ne_eq, and_self, and_true, true_and, Bool.and_true, Bool.true_and, Bool.and_false, Bool.false_and, Bool.or_false, Bool.false_or, Bool.or_true, Bool.true_or, Bool.not_true, Bool.not_false, gd_133, rf_133_0, rf_133_1, rf_133_2, rf_133_3, rf_133_4, rf_133_5, rf_133_6, rf_133_7, rf_133_8, rd_133_9, wr_133_9, rd_133_10, wr_133_10, rf_133_11, rd_133_12, wr_133_12, rd_133_13, wr_133_13, rd_133_14, wr_133_14, rd_133_15, wr_133_15, rd_133_16, wr_133_16, rf_133_17, rf_133_18, ar_134, aw_134, an_134, ar_135, aw_135, an_135, ar_136, aw_136, an_136, ar_137, aw_137, ar_138, aw_138, an_138, ar_139, aw_139, an_139, ar_140, aw_140, an_140, ar_141, aw_141, an_141, ar_142, aw_142, an_142, ar_143, aw_143, an_143, ar_144, aw_144, an_144, ar_145, aw_145, mw_ne, hst]) (by
          simp (disch := omega) only [mth_w, kR_w, kR_if, sQ_v, sN_v, sTi_v, sTa_v, sTl_v, sR_v, sRv_v, sX_v, sPi_v, sPo_v, sPz_w, zP_b, sRz_w, zR_bw, zR_0w, zR_1w, sPa_v, sAi_v, sAl_v, sAo_v, sAa_v, sM_w, sMp_w, eM_w, sIf_w, eIf_w, cAnd_w, cOr_w, cB_v, cZ_v, cNot_v, eC_v, eI_v, eJ_v, eOp_v, eQ_v, eU_v, eIL_v, eLO_v, eLS_v, eLC_v, eGi_v, eGa_v, eZ_w, eAi_v, eAl_v, eAa_v, eAn_v, aN_v, aI_v, aA_v, sInc_v, sB_okw, sB_xw, eS_okw, eS_xw, eB_okw, eB_xw, oE_w, oS_w, kI_iw, kI_xw, kV_w, kV_xw, kP_iw, kP_xw, List.set_cons_zero, List.set_cons_succ, List.cons_append, List.nil_append, List.length_cons, List.length_nil, List.replicate_succ, List.replicate_zero, List.append_nil, bif_and, bif_or, zne_b01, zeq_b01, bif_d, cond_true, cond_false, nar_0, o_iadd, o_isub, o_imul, c_eq, c_ne, c_lt, c_ge, c_gt, c_le, Nat.reduceAdd, Nat.reduceSub, Nat.zero_add, if_true, if_false, eLl_2, eLi_0, eLi_1, eLi_2, eLi_3, eLi_4, eLi_5, eLi_6, eLi_7, eLi_8, eLi_9, eLi_10, eLi_11, eLi_12, eLi_13, eLa_0, eLa_1, eLa_2, eLa_3, eLa_4, eLa_5, eLa_6, eLa_7, nz_add, nz_mul, nz_sub, nz_lt, nz_le, nz_inj, zeq_nz, zne_nz, zge_nz, zgt_nz, zlt_nz, nlit0, nlit1, nlit2, nlit3, nlit4, nlit5, nlit6, nlit7, nlit8, nlit9, nlit10, nlit11, nlit12, nlit16, nlit18, nlit22, nlit31, nlit32, nlit33, nlit34, nlit40, nlit48, nlit60, nlit63, nlit64, nlit66, nlit80, nlit96, nlit114, nlit126, nlit128, nlit512, nlit756, nlit882, nlit1000, nlit1394, nlit1522, nlit1523, nlit10000]
          simp) rfl (by
          have : (fun k => if 1394 ≤ k ∧ k < 1394 + 0 then m6 144 (k - 1394) else m6 134 k) = m6 134 := funext fun k => if_neg (by omega)
          rw [this, mw_self])
        rw [lo]
        have e14 : m6 133 14 = nz (nrT tx t) := by rw [hm6, mw_ne (by decide), a3]
        have e714 : m7 133 14 = nz (nrT tx t) := by rw [hm7, ms_nn (by decide), ms_ne (by decide), mw_ne (by decide), e14]
        simp (disch := omega) only [mth_w, kR_w, kR_if, sQ_v, sN_v, sTi_v, sTa_v, sTl_v, sR_v, sRv_v, sX_v, sPi_v, sPo_v, sPz_w, zP_b, sRz_w, zR_bw, zR_0w, zR_1w, sPa_v, sAi_v, sAl_v, sAo_v, sAa_v, sM_w, sMp_w, eM_w, sIf_w, eIf_w, cAnd_w, cOr_w, cB_v, cZ_v, cNot_v, eC_v, eI_v, eJ_v, eOp_v, eQ_v, eU_v, eIL_v, eLO_v, eLS_v, eLC_v, eGi_v, eGa_v, eZ_w, eAi_v, eAl_v, eAa_v, eAn_v, aN_v, aI_v, aA_v, sInc_v, sB_okw, sB_xw, eS_okw, eS_xw, eB_okw, eB_xw, oE_w, oS_w, kI_iw, kI_xw, kV_w, kV_xw, kP_iw, kP_xw, List.set_cons_zero, List.set_cons_succ, List.cons_append, List.nil_append, List.length_cons, List.length_nil, List.replicate_succ, List.replicate_zero, List.append_nil, bif_and, bif_or, zne_b01, zeq_b01, bif_d, cond_true, cond_false, nar_0, o_iadd, o_isub, o_imul, c_eq, c_ne, c_lt, c_ge, c_gt, c_le, Nat.reduceAdd, Nat.reduceSub, Nat.zero_add, if_true, if_false, eLl_2, eLi_0, eLi_1, eLi_2, eLi_3, eLi_4, eLi_5, eLi_6, eLi_7, eLi_8, eLi_9, eLi_10, eLi_11, eLi_12, eLi_13, eLa_0, eLa_1, eLa_2, eLa_3, eLa_4, eLa_5, eLa_6, eLa_7, nz_add, nz_mul, nz_sub, nz_lt, nz_le, nz_inj, zeq_nz, zne_nz, zge_nz, zgt_nz, zlt_nz, nlit0, nlit1, nlit2, nlit3, nlit4, nlit5, nlit6, nlit7, nlit8, nlit9, nlit10, nlit11, nlit12, nlit16, nlit18, nlit22, nlit31, nlit32, nlit33, nlit34, nlit40, nlit48, nlit60, nlit63, nlit64, nlit66, nlit80, nlit96, nlit114, nlit126, nlit128, nlit512, nlit756, nlit882, nlit1000, nlit1394, nlit1522, nlit1523, nlit10000, decide_true, decide_false, not_true_eq_false, not_false_eq_true, ne_eq, and_self, and_true, true_and, Bool.and_true, Bool.true_and, Bool.and_false, Bool.false_and, Bool.or_false, Bool.false_or, Bool.or_true, Bool.true_or, Bool.not_true, Bool.not_false, gd_133, rf_133_0, rf_133_1, rf_133_2, rf_133_3, rf_133_4, rf_133_5, rf_133_6, rf_133_7, rf_133_8, rd_133_9, wr_133_9, rd_133_10, wr_133_10, rf_133_11, rd_133_12, wr_133_12, rd_133_13, wr_133_13, rd_133_14, wr_133_14, rd_133_15, wr_133_15, rd_133_16, wr_133_16, rf_133_17, rf_133_18, ar_134, aw_134, an_134, ar_135, aw_135, an_135, ar_136, aw_136, an_136, ar_137, aw_137, ar_138, aw_138, an_138, ar_139, aw_139, an_139, ar_140, aw_140, an_140, ar_141, aw_141, an_141, ar_142, aw_142, an_142, ar_143, aw_143, an_143, ar_144, aw_144, an_144, ar_145, aw_145, mw_ne, e14, ← hm7, e714, s1]
      · refine ⟨by rw [y4]; exact hwf', ?_, ⟨_, _, ⟨r4.1, r4.2.1, ?_, ?_, fun i hi => ?_⟩, s4, fun i hi => ?_⟩, ?_, ?_⟩
        · rw [y4]
          exact TR.keep hwf' hTR' (fun a a1 a2 => y a (by omega) (by omega) (by omega) (by omega) (by omega) (by omega))
        · rw [y 0 (by decide) (by decide) (by decide) (by decide) (by decide) (by decide), k2a 0 (by decide) (by decide) (by decide)]; exact r4.2.2.1
        · rw [y 0 (by decide) (by decide) (by decide) (by decide) (by decide) (by decide), k2a 0 (by decide) (by decide) (by decide)]; exact r4.2.2.2.1
        · have hb := hb4_in (if n = 4 then (f + 1) % 4 else f) i
          exact TR.of_sq (hPw i hi) (TR.keep (hPw i hi) (r4.2.2.2.2 i hi) (fun a a1 a2 => by rw [y a (by omega) (by omega) (by omega) (by omega) (by omega) (by omega), k2a a (by omega) (by omega) (by omega)])) (hP i hi)
        · exact (hP i hi).wf (hPw i hi)
        · exact h5.keep (m' := m8) (fun a ha => by rw [y a (by omega) (by omega) (by omega) (by omega) (by omega) (by omega), k2a a (by omega) (by omega) (by omega), r2 a (by omega) (by omega)])
        · refine ⟨0, by decide, ?_, ?_, fun i hi => absurd hi (Nat.not_lt_zero i)⟩
          · rw [y _ (by decide) (by decide) (by decide) (by decide) (by decide) (by decide), hm2, ms_eq]
          · rw [s6 _ (by decide) (by decide), e712]
  · have qf : (wrT tx t = 0) = False := eq_false q
    refine Or.inr ⟨xS, 1, mb, ?_, by simp, by simp, fun w' => ?_⟩
    · unfold f_X7_rules
      simp (disch := omega) only [mth_w, kR_w, kR_if, sQ_v, sN_v, sTi_v, sTa_v, sTl_v, sR_v, sRv_v, sX_v, sPi_v, sPo_v, sPz_w, zP_b, sRz_w, zR_bw, zR_0w, zR_1w, sPa_v, sAi_v, sAl_v, sAo_v, sAa_v, sM_w, sMp_w, eM_w, sIf_w, eIf_w, cAnd_w, cOr_w, cB_v, cZ_v, cNot_v, eC_v, eI_v, eJ_v, eOp_v, eQ_v, eU_v, eIL_v, eLO_v, eLS_v, eLC_v, eGi_v, eGa_v, eZ_w, eAi_v, eAl_v, eAa_v, eAn_v, aN_v, aI_v, aA_v, sInc_v, sB_okw, sB_xw, eS_okw, eS_xw, eB_okw, eB_xw, oE_w, oS_w, kI_iw, kI_xw, kV_w, kV_xw, kP_iw, kP_xw, List.set_cons_zero, List.set_cons_succ, List.cons_append, List.nil_append, List.length_cons, List.length_nil, List.replicate_succ, List.replicate_zero, List.append_nil, bif_and, bif_or, zne_b01, zeq_b01, bif_d, cond_true, cond_false, nar_0, o_iadd, o_isub, o_imul, c_eq, c_ne, c_lt, c_ge, c_gt, c_le, Nat.reduceAdd, Nat.reduceSub, Nat.zero_add, if_true, if_false, eLl_2, eLi_0, eLi_1, eLi_2, eLi_3, eLi_4, eLi_5, eLi_6, eLi_7, eLi_8, eLi_9, eLi_10, eLi_11, eLi_12, eLi_13, eLa_0, eLa_1, eLa_2, eLa_3, eLa_4, eLa_5, eLa_6, eLa_7, nz_add, nz_mul, nz_sub, nz_lt, nz_le, nz_inj, zeq_nz, zne_nz, zge_nz, zgt_nz, zlt_nz, nlit0, nlit1, nlit2, nlit3, nlit4, nlit5, nlit6, nlit7, nlit8, nlit9, nlit10, nlit11, nlit12, nlit16, nlit18, nlit22, nlit31, nlit32, nlit33, nlit34, nlit40, nlit48, nlit60, nlit63, nlit64, nlit66, nlit80, nlit96, nlit114, nlit126, nlit128, nlit512, nlit756, nlit882, nlit1000, nlit1394, nlit1522, nlit1523, nlit10000, decide_true, decide_false, not_true_eq_false, not_false_eq_true, ne_eq, and_self, and_true, true_and, Bool.and_true, Bool.true_and, Bool.and_false, Bool.false_and, Bool.or_false, Bool.false_or, Bool.or_true, Bool.true_or, Bool.not_true, Bool.not_false, gd_0, rf_0_0, rf_0_1, rf_0_2, rf_0_3, rf_0_4, rd_0_5, wr_0_5, rd_0_6, wr_0_6, rf_0_7, rf_0_8, rf_0_9, gd_31, rf_31_0, rf_31_1, rf_31_2, ar_32, aw_32, an_32, ar_33, aw_33, an_33, ar_34, aw_34, an_34, gd_35, rf_35_0, rd_35_1, wr_35_1, rf_35_2, rd_35_3, wr_35_3, rd_35_4, wr_35_4, rd_35_5, wr_35_5, rf_35_6, rd_35_7, wr_35_7, rd_35_8, wr_35_8, rd_35_9, wr_35_9, rd_35_10, wr_35_10, rd_35_11, wr_35_11, rd_35_12, wr_35_12, rd_35_13, wr_35_13, ar_36, aw_36, ar_37, aw_37, an_37, ar_38, aw_38, ar_39, ar_40, ar_41, aw_41, ar_42, aw_42, ar_146, aw_146, g0, g4, qf, needState_q]
    · obtain ⟨m5, a0, a1, a2, a3, a4, -, -⟩ := e_readsAll (e := e) (w := w') (m := mb) (tx := tx) (t := t) tmb t3b
      refine ⟨ms m5 133 10 (nz 1), nz 0, ?_, ms_eq, hIb.keep ⟨fun a ha => ?_, ?_, ?_, ?_, ?_⟩⟩
      · unfold f_X8_rules
        simp (disch := omega) only [mth_w, kR_w, kR_if, sQ_v, sN_v, sTi_v, sTa_v, sTl_v, sR_v, sRv_v, sX_v, sPi_v, sPo_v, sPz_w, zP_b, sRz_w, zR_bw, zR_0w, zR_1w, sPa_v, sAi_v, sAl_v, sAo_v, sAa_v, sM_w, sMp_w, eM_w, sIf_w, eIf_w, cAnd_w, cOr_w, cB_v, cZ_v, cNot_v, eC_v, eI_v, eJ_v, eOp_v, eQ_v, eU_v, eIL_v, eLO_v, eLS_v, eLC_v, eGi_v, eGa_v, eZ_w, eAi_v, eAl_v, eAa_v, eAn_v, aN_v, aI_v, aA_v, sInc_v, sB_okw, sB_xw, eS_okw, eS_xw, eB_okw, eB_xw, oE_w, oS_w, kI_iw, kI_xw, kV_w, kV_xw, kP_iw, kP_xw, List.set_cons_zero, List.set_cons_succ, List.cons_append, List.nil_append, List.length_cons, List.length_nil, List.replicate_succ, List.replicate_zero, List.append_nil, bif_and, bif_or, zne_b01, zeq_b01, bif_d, cond_true, cond_false, nar_0, o_iadd, o_isub, o_imul, c_eq, c_ne, c_lt, c_ge, c_gt, c_le, Nat.reduceAdd, Nat.reduceSub, Nat.zero_add, if_true, if_false, eLl_2, eLi_0, eLi_1, eLi_2, eLi_3, eLi_4, eLi_5, eLi_6, eLi_7, eLi_8, eLi_9, eLi_10, eLi_11, eLi_12, eLi_13, eLa_0, eLa_1, eLa_2, eLa_3, eLa_4, eLa_5, eLa_6, eLa_7, nz_add, nz_mul, nz_sub, nz_lt, nz_le, nz_inj, zeq_nz, zne_nz, zge_nz, zgt_nz, zlt_nz, nlit0, nlit1, nlit2, nlit3, nlit4, nlit5, nlit6, nlit7, nlit8, nlit9, nlit10, nlit11, nlit12, nlit16, nlit18, nlit22, nlit31, nlit32, nlit33, nlit34, nlit40, nlit48, nlit60, nlit63, nlit64, nlit66, nlit80, nlit96, nlit114, nlit126, nlit128, nlit512, nlit756, nlit882, nlit1000, nlit1394, nlit1522, nlit1523, nlit10000, decide_true, decide_false, not_true_eq_false, not_false_eq_true, ne_eq, and_self, and_true, true_and, Bool.and_true, Bool.true_and, Bool.and_false, Bool.false_and, Bool.or_false, Bool.false_or, Bool.or_true, Bool.true_or, Bool.not_true, Bool.not_false, gd_133, rf_133_0, rf_133_1, rf_133_2, rf_133_3, rf_133_4, rf_133_5, rf_133_6, rf_133_7, rf_133_8, rd_133_9, wr_133_9, rd_133_10, wr_133_10, rf_133_11, rd_133_12, wr_133_12, rd_133_13, wr_133_13, rd_133_14, wr_133_14, rd_133_15, wr_133_15, rd_133_16, wr_133_16, rf_133_17, rf_133_18, ar_134, aw_134, an_134, ar_135, aw_135, an_135, ar_136, aw_136, an_136, ar_137, aw_137, ar_138, aw_138, an_138, ar_139, aw_139, an_139, ar_140, aw_140, an_140, ar_141, aw_141, an_141, ar_142, aw_142, an_142, ar_143, aw_143, an_143, ar_144, aw_144, an_144, ar_145, aw_145, a0, a4, qf, e_fails]
      · rw [ms_ne (by omega), a1 a (by omega) (by omega) (by omega)]
      · rw [ms_ne (by decide), a1 _ (by decide) (by decide) (by decide)]
      · rw [ms_ne (by decide), a1 _ (by decide) (by decide) (by decide)]
      · rw [ms_nn (by decide), a2 _ (by omega)]
      · rw [ms_nn (by decide), a2 _ (by omega)]
end
