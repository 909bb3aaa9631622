theorem tb_ext {n s : Nat} (hn : n < 64) (hs : s < 64) (h : ∀ d, d < 6 → n.testBit d = s.testBit d) : n = s := by
  apply Nat.eq_of_testBit_eq
  intro i
  by_cases hi : i < 6
  · exact h i hi
  · have h6 : (2 : Nat) ^ 6 ≤ 2 ^ i := Nat.pow_le_pow_right (by decide) (by omega)
    rw [Nat.testBit_lt_two_pow (by omega), Nat.testBit_lt_two_pow (by omega)]
section
variable {b : Nat} {e : Nat → Nat × (Nat → Int32)} {m : Mm} {w : Ml}
/-- the particles of the rows, as numbers of cells -/
def PB (f : Nat → Int32) (H : Nat) (n : Nat → Nat → Nat) : Prop := ∀ r, r < H → ∀ d, d < 6 → ∀ c, c < 32 → bt (f (r * 6 + d)) c = (n r c).testBit d
/-- how far the exchanges have come: what is ready -/
def gx (K G : Nat → Nat → Nat) (T s : Nat) (n : Nat → Nat → Nat) (r c : Nat) : Nat := if K ((c + r + T) % 2) (n r c) < s then G ((c + r + T) % 2) (n r c) else n r c
theorem round_ok (hb : TB b) {H W T s : Nat} {n K G : Nat → Nat → Nat} {F0 T0 F1 T1 : Nat} (hH : H ≤ 16) (h1 : m (b + 1) 1 = nz H) (hT : T < 1000000) (h7 : m b 7 = nz T)
    (hA : ∀ c, c < 32 → bt (m (b + 1) 2) c = decide (c < W)) (hn : ∀ r c, n r c < 64) (hz : ∀ r c, W ≤ c → n r c = 0) (hP : PB (m (b + 2)) H n) (hs0 : 1 ≤ s) (hs : s < 64)
    (f0 : F0 < 64) (t0 : T0 < 64) (f1 : F1 < 64) (t1 : T1 < 64) (hF0 : ∀ k, k < 64 → (F0 = k ↔ K 0 k = s)) (hT0 : ∀ k, k < 64 → K 0 k = s → T0 = G 0 k) (hF1 : ∀ k, k < 64 → (F1 = k ↔ K 1 k = s)) (hT1 : ∀ k, k < 64 → K 1 k = s → T1 = G 1 k)
    (hz0 : ∀ p, p < 2 → K p 0 = 0) (hI : PB (m 32) H (gx K G T s n)) : ∃ m1 m2, f_X4_exchange [.ref 31, .ref b, .int (nz F0), .int (nz T0), .int (nz 0)] (HM e m w) = some (HM e m1 w, .inl none) ∧ f_X4_exchange [.ref 31, .ref b, .int (nz F1), .int (nz T1), .int (nz 1)] (HM e m1 w) = some (HM e m2 w, .inl none) ∧ (∀ a, a ≠ 32 → m1 a = m a) ∧ (∀ a, a ≠ 32 → m2 a = m a) ∧ PB (m2 32) H (gx K G T (s + 1) n) ∧ ∀ i, H * 6 ≤ i → m2 32 i = m 32 i := by
  have n1 := (TBne hb (k := 1) (by decide)).2.1
  have n2 := (TBne hb (k := 2) (by decide)).2.1
  have n0 := (TBne hb (k := 0) (by decide)).2.1
  rw [Nat.add_zero] at n0
  obtain ⟨m1, e1, g1, b1, kp1⟩ := e_exchange (e := e) (m := m) (w := w) (o := 0) hb f0 t0 (by decide) hH h1 hT h7
  obtain ⟨m2, e2, g2, b2, kp2⟩ := e_exchange (e := e) (m := m1) (w := w) (o := 1) hb f1 t1 (by decide) hH (by rw [g1 _ n1]; exact h1) hT (by rw [g1 _ n0]; exact h7)
  refine ⟨m1, m2, e1, e2, g1, fun a ha => by rw [g2 a ha, g1 a ha], fun r hr d hd c hc => ?_, fun i hi => by rw [kp2 i hi, kp1 i hi]⟩
  have key : ∀ (F : Nat), F < 64 → (bt (cws m b r F 6) c = true ↔ c < W ∧ n r c = F) := by
    intro F hF
    rw [bt_cws hc 6, hA c hc, decide_eq_true_eq]
    constructor
    · rintro ⟨q1, q2⟩
      exact ⟨q1, tb_ext (hn r c) hF (fun d hd => by rw [← hP r hr d hd c hc]; exact q2 d hd)⟩
    · rintro ⟨q1, q2⟩
      exact ⟨q1, fun d hd => by rw [hP r hr d hd c hc, q2]⟩
  rw [b2 r hr d hd c, b1 r hr d hd c, hI r hr d hd c hc]
  unfold cwp
  rw [cws_congr (g1 _ n1) (g1 _ n2) 6, bt_and, bt_and, bt_par hc, bt_par hc]
  have hk : ∀ F, F < 64 → bt (cws m b r F 6) c = decide (c < W ∧ n r c = F) := fun F hF => by
    rw [Bool.eq_iff_iff, key F hF, decide_eq_true_eq]
  rw [hk _ f0, hk _ f1]
  unfold gx
  have hp : (c + r + T) % 2 = 0 ∨ (c + r + T) % 2 = 1 := by omega
  have hxor : ∀ x y : Nat, (x.testBit d != (x ^^^ y).testBit d) = y.testBit d := fun x y => by
    rw [Nat.testBit_xor]
    cases x.testBit d <;> cases y.testBit d <;> rfl
  rcases hp with hp | hp
  · have p0 : decide (c % 2 = (r + T + 0) % 2) = true := by simp; omega
    have p1 : decide (c % 2 = (r + T + 1) % 2) = false := by simp; omega
    rw [hp, p0, p1, Bool.and_false, Bool.and_true, Bool.and_false, Bool.bne_false]
    by_cases hK : K 0 (n r c) = s
    · have hc9 : c < W := by
        rcases Nat.lt_or_ge c W with z | z
        · exact z
        · rw [hz r c z, hz0 0 (by decide)] at hK; omega
      have hf9 : n r c = F0 := ((hF0 _ (hn r c)).mpr hK).symm
      rw [if_neg (by omega), if_pos (by omega), ← hT0 _ (hn r c) hK, decide_eq_true (show c < W ∧ n r c = F0 from ⟨hc9, hf9⟩), Bool.and_true, hf9, hxor]
    · have hf9 : ¬ n r c = F0 := fun q => hK ((hF0 _ (hn r c)).mp q.symm)
      rw [decide_eq_false (show ¬ (c < W ∧ n r c = F0) from fun q => hf9 q.2), Bool.and_false, Bool.bne_false]
      by_cases h9 : K 0 (n r c) < s
      · rw [if_pos h9, if_pos (by omega)]
      · rw [if_neg h9, if_neg (by omega)]
  · have p0 : decide (c % 2 = (r + T + 0) % 2) = false := by simp; omega
    have p1 : decide (c % 2 = (r + T + 1) % 2) = true := by simp; omega
    rw [hp, p0, p1, Bool.and_false, Bool.and_true, Bool.and_false, Bool.bne_false]
    by_cases hK : K 1 (n r c) = s
    · have hc9 : c < W := by
        rcases Nat.lt_or_ge c W with z | z
        · exact z
        · rw [hz r c z, hz0 1 (by decide)] at hK; omega
      have hf9 : n r c = F1 := ((hF1 _ (hn r c)).mpr hK).symm
      rw [if_neg (by omega), if_pos (by omega), ← hT1 _ (hn r c) hK, decide_eq_true (show c < W ∧ n r c = F1 from ⟨hc9, hf9⟩), Bool.and_true, hf9, hxor]
    · have hf9 : ¬ n r c = F1 := fun q => hK ((hF1 _ (hn r c)).mp q.symm)
      rw [decide_eq_false (show ¬ (c < W ∧ n r c = F1) from fun q => hf9 q.2), Bool.and_false, Bool.bne_false]
      by_cases h9 : K 1 (n r c) < s
      · rw [if_pos h9, if_pos (by omega)]
      · rw [if_neg h9, if_neg (by omega)]
theorem cl_1 (hb : TB b) : (sM cpy (aI (aI (aA (aI (aA (aN) (eGa (eGa (eLa 1) 6 0) 1 3)) (eI (0))) (eGa (eLa 0) 4 0)) (eI (0))) (eAn (eGa (eLa 0) 4 0)))) [.ref 31, .ref b, .null] (HM e m w) = some (HM e (mw m 32 (va_cpy (m (b + 2)) (m 32) 0 0 96)) w, .inl [.ref 31, .ref b, .null]) := by
  have c32 := e_cpy (e := e) (m := m) (w := w) (a0 := b + 2) (a := 32) (sp := 0) (dp := 0) (n := 96) (kd_t2 hb) kd_32 (by decide) (by decide) (by decide) (by decide) (tRO hb (by decide)) (by decide)
  simp (disch := omega) only [mth_v, kR_r, kR_if, sQ, sN, sTi, sTa, sTl, sR, sRv, sX, sPi, sPo, sPz_v, zP_b, sRz_v, zR_b, zR_0, zR_1, zR_n0, zR_n1, sPa, sAi, sAl, sAo, sAa, sM_v, sMp_v, eM_v, sIf_v, eIf_v, cAnd_v, cOr_v, cB, cZ, cNot, eC_v, eI, eJ, eOp, eQ, eU, eIL, eLO, eLS, eLC, eGi, eGa, eZ_v, eAi, eAl, eAa, eAn, aN, aI, aA, sInc_v, sB_ok, sB_x, eS_ok, eS_x, eB_ok, eB_x, oE_s, oS_s, kI_i, kI_x, kV_v, kV_x, kP_i, kP_x, List.set_cons_zero, List.set_cons_succ, List.cons_append, List.nil_append, List.length_cons, List.length_nil, List.replicate_succ, List.replicate_zero, List.append_nil, bif_and, bif_or, zne_b01, zeq_b01, bif_d, cond_true, cond_false, nar_0, o_iadd, o_isub, o_imul, c_eq, c_ne, c_lt, c_ge, c_gt, c_le, Nat.reduceAdd, Nat.reduceSub, Nat.zero_add, if_true, if_false, eLl_2, eLi_0, eLi_1, eLi_2, eLi_3, eLi_4, eLi_5, eLi_6, eLi_7, eLi_8, eLi_9, eLi_10, eLi_11, eLi_12, eLi_13, eLa_0, eLa_1, eLa_2, eLa_3, eLa_4, eLa_5, eLa_6, eLa_7, nz_add, nz_mul, nz_sub, nz_lt, nz_le, nz_inj, zeq_nz, zne_nz, zge_nz, zgt_nz, zlt_nz, nlit0, nlit1, nlit2, nlit3, nlit4, nlit5, nlit6, nlit7, nlit8, nlit9, nlit10, nlit11, nlit12, nlit16, nlit18, nlit22, nlit31, nlit32, nlit33, nlit34, nlit40, nlit48, nlit60, nlit63, nlit64, nlit66, nlit80, nlit96, nlit114, nlit126, nlit128, nlit512, nlit756, nlit882, nlit1000, nlit1394, nlit1522, nlit1523, nlit10000, gd_0, rf_0_0, rf_0_1, rf_0_2, rf_0_3, rf_0_4, rd_0_5, wr_0_5, rd_0_6, wr_0_6, rf_0_7, rf_0_8, rf_0_9, gd_31, rf_31_0, rf_31_1, rf_31_2, ar_32, aw_32, an_32, ar_33, aw_33, an_33, ar_34, aw_34, an_34, gd_35, rf_35_0, rd_35_1, wr_35_1, rf_35_2, rd_35_3, wr_35_3, rd_35_4, wr_35_4, rd_35_5, wr_35_5, rf_35_6, rd_35_7, wr_35_7, rd_35_8, wr_35_8, rd_35_9, wr_35_9, rd_35_10, wr_35_10, rd_35_11, wr_35_11, rd_35_12, wr_35_12, rd_35_13, wr_35_13, ar_36, aw_36, ar_37, aw_37, an_37, ar_38, aw_38, ar_39, ar_40, ar_41, aw_41, ar_42, aw_42, ar_146, aw_146, (gd_t0 hb), (rf_t0_0 hb), (rf_t0_1 hb), (rf_t0_2 hb), (rf_t0_3 hb), (rf_t0_4 hb), (rf_t0_5 hb), (rd_t0_6 hb), (wr_t0_6 hb), (rd_t0_7 hb), (wr_t0_7 hb), (rf_t0_8 hb), (rf_t0_9 hb), (gd_t1 hb), (rd_t1_0 hb), (wr_t1_0 hb), (rd_t1_1 hb), (wr_t1_1 hb), (rd_t1_2 hb), (wr_t1_2 hb), (rf_t1_3 hb), (rf_t1_4 hb), (ar_t2 hb), (aw_t2 hb), (an_t2 hb), (ar_t3 hb), (aw_t3 hb), (an_t3 hb), (gd_t4 hb), (rd_t4_0 hb), (wr_t4_0 hb), (rf_t4_1 hb), (ar_t5 hb), (aw_t5 hb), (an_t5 hb), (gd_t6 hb), (rd_t6_0 hb), (wr_t6_0 hb), (rd_t6_1 hb), (wr_t6_1 hb), (rf_t6_2 hb), (ar_t7 hb), (aw_t7 hb), (an_t7 hb), (gd_t8 hb), (rf_t8_0 hb), (rf_t8_1 hb), (ar_t9 hb), (aw_t9 hb), (an_t9 hb), (ar_t10 hb), (aw_t10 hb), (an_t10 hb), (ar_t11 hb), (aw_t11 hb), (an_t11 hb), (ar_t12 hb), (aw_t12 hb), (an_t12 hb), (ar_t13 hb), (aw_t13 hb), (an_t13 hb), (ar_t14 hb), (aw_t14 hb), (an_t14 hb), c32]
theorem cl_2 (hb : TB b) (L : SX) : (sQ (sM cpy (aI (aI (aA (aI (aA (aN) (eGa (eGa (eLa 1) 6 0) 1 3)) (eI (0))) (eGa (eLa 0) 4 0)) (eI (0))) (eAn (eGa (eLa 0) 4 0)))) L) [.ref 31, .ref b, .null] (HM e m w) = L [.ref 31, .ref b, .null] (HM e (mw m 32 (va_cpy (m (b + 2)) (m 32) 0 0 96)) w) := by
  simp only [sQ, cl_1 hb, sB_ok]
theorem cl_3 (hb : TB b) (L : SX) : mth 3 (sQ (sQ (sM cpy (aI (aI (aA (aI (aA (aN) (eGa (eGa (eLa 1) 6 0) 1 3)) (eI (0))) (eGa (eLa 0) 4 0)) (eI (0))) (eAn (eGa (eLa 0) 4 0)))) L) sRv) [.ref 31, .ref b] (HM e m w) = kR (sB (L [.ref 31, .ref b, .null] (HM e (mw m 32 (va_cpy (m (b + 2)) (m 32) 0 0 96)) w)) sRv) := by
  show kR (sB ((sQ (sM cpy (aI (aI (aA (aI (aA (aN) (eGa (eGa (eLa 1) 6 0) 1 3)) (eI (0))) (eGa (eLa 0) 4 0)) (eI (0))) (eAn (eGa (eLa 0) 4 0)))) L) [.ref 31, .ref b, .null] (HM e m w)) sRv) = _
  rw [cl_2 hb]
theorem e_collide (hb : TB b) {H W T : Nat} {n : Nat → Nat → Nat} {bk : Nat → Nat} (hH : H ≤ 16) (h1 : m (b + 1) 1 = nz H) (hT : T < 1000000) (h7 : m b 7 = nz T)
    (hA : ∀ c, c < 32 → bt (m (b + 1) 2) c = decide (c < W)) (hn : ∀ r c, n r c < 64) (hz : ∀ r c, W ≤ c → n r c = 0) (hP : PB (m (b + 2)) H n) (hbk : ∀ k, k < 128 → bk k < 64 ∧ m (b + 12) k = nz (bk k)) (k0 : bk 0 = 0) (k1 : bk 64 = 0) :
    ∃ m', f_X4_collide [.ref 31, .ref b] (HM e m w) = some (HM e m' w, .inl none) ∧ (∀ a, a ≠ 32 → m' a = m a) ∧ PB (m' 32) H (fun r c => bk (64 * ((c + r + T) % 2) + n r c)) := by
  have q1 := (TBne hb (k := 1) (by decide)).2.1
  have q2 := (TBne hb (k := 2) (by decide)).2.1
  have q0 := (TBne hb (k := 0) (by decide)).2.1
  have q12 := (TBne hb (k := 12) (by decide)).2.1
  rw [Nat.add_zero] at q0
  unfold f_X4_collide
  rw [cl_3 hb]
  simp only [sQ, sTi, eI, eS_ok, sB_ok, List.set_cons_zero, List.set_cons_succ, nlit1]
  generalize hR : sLp _ _ NF _ _ = R
  obtain ⟨m1, rfl, f1, f2⟩ := sLp_mem hR (fun j => [.ref 31, .ref b, .int (nz (j + 1))]) (fun j m1 => (∀ a, a ≠ 32 → m1 a = m a) ∧ PB (m1 32) H (gx (fun _ k => k) (fun p k => bk (64 * p + k)) T (j + 1) n)) 63 (NF_lt (by decide)) (fun j m1 hj hI => by
    obtain ⟨f1, f2⟩ := hI
    have hb0 := hbk (j + 1) (by omega)
    have hb1 := hbk (64 + (j + 1)) (by omega)
    obtain ⟨m2, m3, e2, e3, g2, g3, g4, _⟩ := round_ok (e := e) (w := w) (m := m1) (n := n) (K := fun _ k => k) (G := fun p k => bk (64 * p + k)) (F0 := j + 1) (T0 := bk (j + 1)) (F1 := j + 1) (T1 := bk (64 + (j + 1))) (s := j + 1) (W := W) hb hH (by rw [f1 _ q1]; exact h1) hT (by rw [f1 _ q0]; exact h7) (by rw [f1 _ q1]; exact hA) hn hz (by rw [f1 _ q2]; exact hP) (by omega) (by omega) (by omega) hb0.1 (by omega) hb1.1 (fun k _ => ⟨fun h => h.symm, fun h => h.symm⟩) (fun k _ h => by
      have h : k = j + 1 := h
      show bk (j + 1) = bk (64 * 0 + k)
      rw [h, Nat.mul_zero, Nat.zero_add]) (fun k _ => ⟨fun h => h.symm, fun h => h.symm⟩) (fun k _ h => by
      have h : k = j + 1 := h
      show bk (64 + (j + 1)) = bk (64 * 1 + k)
      rw [h, Nat.mul_one]) (fun p _ => rfl) f2
    refine ⟨?_, m3, ?_, fun a ha => by rw [g3 a ha, f1 a ha], g4⟩
    · simp (disch := omega) only [mth_v, kR_r, kR_if, sQ, sN, sTi, sTa, sTl, sR, sRv, sX, sPi, sPo, sPz_v, zP_b, sRz_v, zR_b, zR_0, zR_1, zR_n0, zR_n1, sPa, sAi, sAl, sAo, sAa, sM_v, sMp_v, eM_v, sIf_v, eIf_v, cAnd_v, cOr_v, cB, cZ, cNot, eC_v, eI, eJ, eOp, eQ, eU, eIL, eLO, eLS, eLC, eGi, eGa, eZ_v, eAi, eAl, eAa, eAn, aN, aI, aA, sInc_v, sB_ok, sB_x, eS_ok, eS_x, eB_ok, eB_x, oE_s, oS_s, kI_i, kI_x, kV_v, kV_x, kP_i, kP_x, List.set_cons_zero, List.set_cons_succ, List.cons_append, List.nil_append, List.length_cons, List.length_nil, List.replicate_succ, List.replicate_zero, List.append_nil, bif_and, bif_or, zne_b01, zeq_b01, bif_d, cond_true, cond_false, nar_0, o_iadd, o_isub, o_imul, c_eq, c_ne, c_lt, c_ge, c_gt, c_le, Nat.reduceAdd, Nat.reduceSub, Nat.zero_add, if_true, if_false, eLl_2, eLi_0, eLi_1, eLi_2, eLi_3, eLi_4, eLi_5, eLi_6, eLi_7, eLi_8, eLi_9, eLi_10, eLi_11, eLi_12, eLi_13, eLa_0, eLa_1, eLa_2, eLa_3, eLa_4, eLa_5, eLa_6, eLa_7, nz_add, nz_mul, nz_sub, nz_lt, nz_le, nz_inj, zeq_nz, zne_nz, zge_nz, zgt_nz, zlt_nz, nlit0, nlit1, nlit2, nlit3, nlit4, nlit5, nlit6, nlit7, nlit8, nlit9, nlit10, nlit11, nlit12, nlit16, nlit18, nlit22, nlit31, nlit32, nlit33, nlit34, nlit40, nlit48, nlit60, nlit63, nlit64, nlit66, nlit80, nlit96, nlit114, nlit126, nlit128, nlit512, nlit756, nlit882, nlit1000, nlit1394, nlit1522, nlit1523, nlit10000]
      simp
      omega
    · simp (disch := omega) only [mth_v, kR_r, kR_if, sQ, sN, sTi, sTa, sTl, sR, sRv, sX, sPi, sPo, sPz_v, zP_b, sRz_v, zR_b, zR_0, zR_1, zR_n0, zR_n1, sPa, sAi, sAl, sAo, sAa, sM_v, sMp_v, eM_v, sIf_v, eIf_v, cAnd_v, cOr_v, cB, cZ, cNot, eC_v, eI, eJ, eOp, eQ, eU, eIL, eLO, eLS, eLC, eGi, eGa, eZ_v, eAi, eAl, eAa, eAn, aN, aI, aA, sInc_v, sB_ok, sB_x, eS_ok, eS_x, eB_ok, eB_x, oE_s, oS_s, kI_i, kI_x, kV_v, kV_x, kP_i, kP_x, List.set_cons_zero, List.set_cons_succ, List.cons_append, List.nil_append, List.length_cons, List.length_nil, List.replicate_succ, List.replicate_zero, List.append_nil, bif_and, bif_or, zne_b01, zeq_b01, bif_d, cond_true, cond_false, nar_0, o_iadd, o_isub, o_imul, c_eq, c_ne, c_lt, c_ge, c_gt, c_le, Nat.reduceAdd, Nat.reduceSub, Nat.zero_add, if_true, if_false, eLl_2, eLi_0, eLi_1, eLi_2, eLi_3, eLi_4, eLi_5, eLi_6, eLi_7, eLi_8, eLi_9, eLi_10, eLi_11, eLi_12, eLi_13, eLa_0, eLa_1, eLa_2, eLa_3, eLa_4, eLa_5, eLa_6, eLa_7, nz_add, nz_mul, nz_sub, nz_lt, nz_le, nz_inj, zeq_nz, zne_nz, zge_nz, zgt_nz, zlt_nz, nlit0, nlit1, nlit2, nlit3, nlit4, nlit5, nlit6, nlit7, nlit8, nlit9, nlit10, nlit11, nlit12, nlit16, nlit18, nlit22, nlit31, nlit32, nlit33, nlit34, nlit40, nlit48, nlit60, nlit63, nlit64, nlit66, nlit80, nlit96, nlit114, nlit126, nlit128, nlit512, nlit756, nlit882, nlit1000, nlit1394, nlit1522, nlit1523, nlit10000, gd_0, rf_0_0, rf_0_1, rf_0_2, rf_0_3, rf_0_4, rd_0_5, wr_0_5, rd_0_6, wr_0_6, rf_0_7, rf_0_8, rf_0_9, gd_31, rf_31_0, rf_31_1, rf_31_2, ar_32, aw_32, an_32, ar_33, aw_33, an_33, ar_34, aw_34, an_34, gd_35, rf_35_0, rd_35_1, wr_35_1, rf_35_2, rd_35_3, wr_35_3, rd_35_4, wr_35_4, rd_35_5, wr_35_5, rf_35_6, rd_35_7, wr_35_7, rd_35_8, wr_35_8, rd_35_9, wr_35_9, rd_35_10, wr_35_10, rd_35_11, wr_35_11, rd_35_12, wr_35_12, rd_35_13, wr_35_13, ar_36, aw_36, ar_37, aw_37, an_37, ar_38, aw_38, ar_39, ar_40, ar_41, aw_41, ar_42, aw_42, ar_146, aw_146, (gd_t0 hb), (rf_t0_0 hb), (rf_t0_1 hb), (rf_t0_2 hb), (rf_t0_3 hb), (rf_t0_4 hb), (rf_t0_5 hb), (rd_t0_6 hb), (wr_t0_6 hb), (rd_t0_7 hb), (wr_t0_7 hb), (rf_t0_8 hb), (rf_t0_9 hb), (gd_t1 hb), (rd_t1_0 hb), (wr_t1_0 hb), (rd_t1_1 hb), (wr_t1_1 hb), (rd_t1_2 hb), (wr_t1_2 hb), (rf_t1_3 hb), (rf_t1_4 hb), (ar_t2 hb), (aw_t2 hb), (an_t2 hb), (ar_t3 hb), (aw_t3 hb), (an_t3 hb), (gd_t4 hb), (rd_t4_0 hb), (wr_t4_0 hb), (rf_t4_1 hb), (ar_t5 hb), (aw_t5 hb), (an_t5 hb), (gd_t6 hb), (rd_t6_0 hb), (wr_t6_0 hb), (rd_t6_1 hb), (wr_t6_1 hb), (rf_t6_2 hb), (ar_t7 hb), (aw_t7 hb), (an_t7 hb), (gd_t8 hb), (rf_t8_0 hb), (rf_t8_1 hb), (ar_t9 hb), (aw_t9 hb), (an_t9 hb), (ar_t10 hb), (aw_t10 hb), (an_t10 hb), (ar_t11 hb), (aw_t11 hb), (an_t11 hb), (ar_t12 hb), (aw_t12 hb), (an_t12 hb), (ar_t13 hb), (aw_t13 hb), (an_t13 hb), (ar_t14 hb), (aw_t14 hb), (an_t14 hb), f1 _ q12, g2 _ q12, hb0.2, hb1.2, e2, e3]) (fun m1 _ => by
    simp (disch := omega) only [mth_v, kR_r, kR_if, sQ, sN, sTi, sTa, sTl, sR, sRv, sX, sPi, sPo, sPz_v, zP_b, sRz_v, zR_b, zR_0, zR_1, zR_n0, zR_n1, sPa, sAi, sAl, sAo, sAa, sM_v, sMp_v, eM_v, sIf_v, eIf_v, cAnd_v, cOr_v, cB, cZ, cNot, eC_v, eI, eJ, eOp, eQ, eU, eIL, eLO, eLS, eLC, eGi, eGa, eZ_v, eAi, eAl, eAa, eAn, aN, aI, aA, sInc_v, sB_ok, sB_x, eS_ok, eS_x, eB_ok, eB_x, oE_s, oS_s, kI_i, kI_x, kV_v, kV_x, kP_i, kP_x, List.set_cons_zero, List.set_cons_succ, List.cons_append, List.nil_append, List.length_cons, List.length_nil, List.replicate_succ, List.replicate_zero, List.append_nil, bif_and, bif_or, zne_b01, zeq_b01, bif_d, cond_true, cond_false, nar_0, o_iadd, o_isub, o_imul, c_eq, c_ne, c_lt, c_ge, c_gt, c_le, Nat.reduceAdd, Nat.reduceSub, Nat.zero_add, if_true, if_false, eLl_2, eLi_0, eLi_1, eLi_2, eLi_3, eLi_4, eLi_5, eLi_6, eLi_7, eLi_8, eLi_9, eLi_10, eLi_11, eLi_12, eLi_13, eLa_0, eLa_1, eLa_2, eLa_3, eLa_4, eLa_5, eLa_6, eLa_7, nz_add, nz_mul, nz_sub, nz_lt, nz_le, nz_inj, zeq_nz, zne_nz, zge_nz, zgt_nz, zlt_nz, nlit0, nlit1, nlit2, nlit3, nlit4, nlit5, nlit6, nlit7, nlit8, nlit9, nlit10, nlit11, nlit12, nlit16, nlit18, nlit22, nlit31, nlit32, nlit33, nlit34, nlit40, nlit48, nlit60, nlit63, nlit64, nlit66, nlit80, nlit96, nlit114, nlit126, nlit128, nlit512, nlit756, nlit882, nlit1000, nlit1394, nlit1522, nlit1523, nlit10000]
    simp) rfl rfl ⟨fun a ha => mw_ne ha, fun r hr d hd c hc => by
      rw [mw_at, va_cpy_lt (by omega), hP r hr d hd c hc]
      unfold gx
      by_cases h : n r c < 0 + 1
      · have hz : n r c = 0 := by omega
        rw [if_pos h, hz]
        rcases (show (c + r + T) % 2 = 0 ∨ (c + r + T) % 2 = 1 by omega) with h | h <;> rw [h]
        · show _ = (bk 0).testBit d
          rw [k0]
        · show _ = (bk 64).testBit d
          rw [k1]
      · rw [if_neg h]⟩
  refine ⟨m1, ?_, f1, fun r hr d hd c hc => ?_⟩
  · simp only [mth_v, kR_r, kR_if, sQ, sN, sTi, sTa, sTl, sR, sRv, sX, sPi, sPo, sPz_v, zP_b, sRz_v, zR_b, zR_0, zR_1, zR_n0, zR_n1, sPa, sAi, sAl, sAo, sAa, sM_v, sMp_v, eM_v, sIf_v, eIf_v, cAnd_v, cOr_v, cB, cZ, cNot, eC_v, eI, eJ, eOp, eQ, eU, eIL, eLO, eLS, eLC, eGi, eGa, eZ_v, eAi, eAl, eAa, eAn, aN, aI, aA, sInc_v, sB_ok, sB_x, eS_ok, eS_x, eB_ok, eB_x, oE_s, oS_s, kI_i, kI_x, kV_v, kV_x, kP_i, kP_x, List.set_cons_zero, List.set_cons_succ, List.cons_append, List.nil_append, List.length_cons, List.length_nil, List.replicate_succ, List.replicate_zero, List.append_nil, bif_and, bif_or, zne_b01, zeq_b01, bif_d, cond_true, cond_false, nar_0, o_iadd, o_isub, o_imul, c_eq, c_ne, c_lt, c_ge, c_gt, c_le, Nat.reduceAdd, Nat.reduceSub, Nat.zero_add, if_true, if_false, eLl_2, eLi_0, eLi_1, eLi_2, eLi_3, eLi_4, eLi_5, eLi_6, eLi_7, eLi_8, eLi_9, eLi_10, eLi_11, eLi_12, eLi_13, eLa_0, eLa_1, eLa_2, eLa_3, eLa_4, eLa_5, eLa_6, eLa_7]
  · rw [f2 r hr d hd c hc]
    unfold gx
    rw [if_pos (by have := hn r c; omega)]
end
