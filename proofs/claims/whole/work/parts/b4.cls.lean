/-! THE CLASS AS IT IS MADE -/
def txL : List Nat := [42, 48, 51, 62, 49, 52, 124, 50, 53, 59, 42, 48, 50, 52, 62, 49, 51, 53]
def tx0 (i : Nat) : Nat := txL.getD i 0
theorem tx0_c : ∀ i, i < 18 → bkC (nz i) = nz (tx0 i) ∧ 33 ≤ tx0 i ∧ tx0 i ≤ 126 ∧ nar 3 (nz (tx0 i)) = nz (tx0 i) := by decide +kernel
theorem frst_eq {p : Nat → Bool} {n k : Nat} (hk : k < n) (h0 : ∀ i, i < k → p i = false) (h1 : p k = true) : frst p n = k := by
  obtain ⟨a1, a2, a3⟩ := frst_ok p n
  rcases Nat.lt_trichotomy (frst p n) k with z | z | z
  · have := h0 _ z
    rw [a3 (by omega)] at this
    exact absurd this (by decide)
  · exact z
  · have := a2 k z
    rw [h1] at this
    exact absurd this (by decide)
theorem jj0_a : jjT tx0 18 1 = 2 ∧ jjT tx0 18 4 = 2 ∧ jjT tx0 18 7 = 2 := by decide +kernel
theorem jj0_b : jjT tx0 18 11 = 3 ∧ jjT tx0 18 15 = 3 := by decide +kernel
theorem tk0 : tkT tx0 18 42 0 = true ∧ tkT tx0 18 62 3 = true ∧ tkT tx0 18 124 6 = true ∧ tkT tx0 18 42 10 = true ∧ tkT tx0 18 62 14 = true ∧ tkT tx0 18 124 18 = false := by decide +kernel
theorem st0_v : seT tx0 1 2 = 9 ∧ seT tx0 4 2 = 18 ∧ seT tx0 7 2 = 36 ∧ seT tx0 11 3 = 21 ∧ seT tx0 15 3 = 42 := by decide +kernel
theorem n0_1 : n1T tx0 18 0 = 1 := by
  unfold n1T nxT
  rw [tk0.1, if_pos (show true = true from rfl)]
theorem n0_2 : n2T tx0 18 0 = 3 := by
  unfold n2T
  rw [n0_1, jj0_a.1]
theorem n0_3 : n3T tx0 18 0 = 4 := by
  unfold n3T
  rw [n0_2]
theorem n0_4 : n4T tx0 18 0 = 6 := by
  unfold n4T
  rw [n0_3, jj0_a.2.1]
theorem n0_b : barT tx0 18 0 = true := by
  unfold barT
  rw [n0_4]
  exact tk0.2.2.1
theorem n0_5 : n5T tx0 18 0 = 7 := by
  unfold n5T
  rw [n0_4]
theorem n0_6 : n6T tx0 18 0 = 9 := by
  unfold n6T
  rw [n0_b, if_pos (show true = true from rfl), n0_5, jj0_a.2.2]
theorem n0_fr : frT tx0 18 0 = 9 := by
  unfold frT stT
  rw [n0_1, jj0_a.1]
  exact st0_v.1
theorem n0_ev : evT tx0 18 0 = 18 := by
  unfold evT stT
  rw [n0_3, jj0_a.2.1]
  exact st0_v.2.1
theorem n0_od : odT tx0 18 0 = 36 := by
  unfold odT
  rw [n0_b, if_pos (show true = true from rfl), n0_5]
  unfold stT
  rw [jj0_a.2.2]
  exact st0_v.2.2.1
theorem n0_tn : tnT tx0 18 0 = 6 := by
  unfold tnT
  rw [tk0.1, if_pos (show true = true from rfl)]
theorem n1_1 : n1T tx0 18 10 = 11 := by
  unfold n1T nxT
  rw [tk0.2.2.2.1, if_pos (show true = true from rfl)]
theorem n1_2 : n2T tx0 18 10 = 14 := by
  unfold n2T
  rw [n1_1, jj0_b.1]
theorem n1_3 : n3T tx0 18 10 = 15 := by
  unfold n3T
  rw [n1_2]
theorem n1_4 : n4T tx0 18 10 = 18 := by
  unfold n4T
  rw [n1_3, jj0_b.2]
theorem n1_b : barT tx0 18 10 = false := by
  unfold barT
  rw [n1_4]
  exact tk0.2.2.2.2.2
theorem n1_6 : n6T tx0 18 10 = 18 := by
  unfold n6T
  rw [n1_b, if_neg (show ¬ false = true by decide), n1_4]
theorem n1_fr : frT tx0 18 10 = 21 := by
  unfold frT stT
  rw [n1_1, jj0_b.1]
  exact st0_v.2.2.2.1
theorem n1_ev : evT tx0 18 10 = 42 := by
  unfold evT stT
  rw [n1_3, jj0_b.2]
  exact st0_v.2.2.2.2
theorem n1_od : odT tx0 18 10 = 42 := by
  unfold odT
  rw [n1_b, if_neg (show ¬ false = true by decide), n1_ev]
theorem n1_tn : tnT tx0 18 10 = 6 := by
  unfold tnT
  rw [tk0.2.2.2.1, if_pos (show true = true from rfl)]
theorem pos0_1 : posT tx0 18 1 = 10 := by
  show n6T tx0 18 0 + 1 = 10
  rw [n0_6]
theorem ok0_0 : okT tx0 18 0 = true := by
  unfold okT
  rw [n0_fr, n0_2, tk0.2.1, n0_ev, n0_od, n0_6]
  decide
theorem ok0_1 : okT tx0 18 10 = true := by
  unfold okT
  rw [n1_fr, n1_2, tk0.2.2.2.2.1, n1_ev, n1_od, n1_6]
  decide
theorem bal0 : balT 9 18 = true ∧ balT 9 36 = true ∧ balT 21 42 = true := by decide +kernel
theorem tw0 : twT (NT tx0 18 0) 9 6 = false := by decide +kernel
theorem tw1 : twT (enN 9 (NT tx0 18 0) 6) 21 6 = false := by decide +kernel
theorem NT0_1 : NT tx0 18 1 = enN 9 (NT tx0 18 0) 6 := by
  show enN (frT tx0 18 0) (NT tx0 18 0) (tnT tx0 18 0) = _
  rw [n0_fr, n0_tn]
theorem kd0_0 : kdT tx0 18 (NT tx0 18 0) 0 = 0 := by
  unfold kdT
  rw [ok0_0, n0_fr, n0_tn, n0_ev, n0_od, tw0, bal0.1, bal0.2.1]
  decide
theorem kd0_1 : kdT tx0 18 (NT tx0 18 1) 10 = 0 := by
  unfold kdT
  rw [ok0_1, n1_fr, n1_tn, n1_ev, n1_od, NT0_1, tw1, bal0.2.2]
  decide
theorem la0 : laT tx0 18 = 1 := by
  refine frst_eq (by decide) (fun i hi => ?_) ?_
  · obtain rfl : i = 0 := by omega
    rw [show posT tx0 18 0 = 0 from rfl, kd0_0, n0_6]
    decide
  · rw [pos0_1, kd0_1, n1_6]
    decide
theorem wr0 : wrT tx0 18 = 0 := by
  rw [wr_e (by decide), la0, pos0_1, kd0_1]
theorem nr0 : nrT tx0 18 = 2 := by
  rw [nr_e (by decide), wr0, if_pos (show (0 : Nat) = 0 from rfl), la0]
def B0K : St := enB 21 42 42 (enB 9 18 36 (BT tx0 18 0) 6) 6
theorem BT0 : BT tx0 18 2 = B0K := by
  show enB (frT tx0 18 (posT tx0 18 1)) (evT tx0 18 (posT tx0 18 1)) (odT tx0 18 (posT tx0 18 1)) (enB (frT tx0 18 0) (evT tx0 18 0) (odT tx0 18 0) (BT tx0 18 0) (tnT tx0 18 0)) (tnT tx0 18 (posT tx0 18 1)) = _
  rw [pos0_1, n1_fr, n1_ev, n1_od, n1_tn, n0_fr, n0_ev, n0_od, n0_tn]
  rfl
def S00 : St := bldE (fun _ => nz 0) 16 8
def S0 : St := bkT1 S00 B0K 2
theorem S00_z {k : Nat} (h : 2 ≤ k) : S00 k = nz 0 := by
  unfold S00
  by_cases q : 3 ≤ k ∧ k ≤ 5 ∨ 1394 ≤ k
  · rw [bldE_k q]
  · exact bldE_0 (by omega)
theorem S00_0 : S00 0 = nz 16 := by
  unfold S00 bldE
  rw [if_neg (by omega), if_neg (by omega), if_pos rfl]
theorem S00_1 : S00 1 = nz 8 := by
  unfold S00 bldE
  rw [if_neg (by omega), if_pos rfl]
theorem S00_W : wN S00 = 16 := by unfold wN; rw [S00_0, nz_cl (by omega)]
theorem S00_H : hN S00 = 8 := by unfold hN; rw [S00_1, nz_cl (by omega)]
theorem S00_t : tN S00 = 0 := by unfold tN; rw [S00_z (by omega)]; rfl
theorem S00_g : gN S00 = 0 := by unfold gN; rw [S00_z (by omega)]; rfl
theorem S00_r : rN S00 = 0 := by unfold rN; rw [S00_z (by omega)]; rfl
theorem S00_c {c r : Nat} : vS S00 c r = nz 0 := S00_z (by omega)
theorem S00_wf : WF 0 S00 := by
  unfold WF
  rw [S00_W, S00_H, S00_t, S00_g, S00_r]
  exact ⟨⟨by omega, by omega, S00_0⟩, ⟨by omega, by omega, S00_1⟩, ⟨by omega, S00_z (by omega)⟩, fun k hk => Or.inl (S00_z (by omega)), ⟨by omega, S00_z (by omega)⟩, ⟨by omega, S00_z (by omega)⟩, fun r hr c hc => by rw [S00_c]; exact ⟨okV_z, fun _ => rfl⟩, fun g hg => absurd hg (Nat.not_lt_zero g), fun k hk => ⟨0, by omega, S00_z (by omega)⟩, ⟨S00_z (by omega), S00_z (by omega)⟩, fun i hi => absurd hi (Nat.not_lt_zero i)⟩
theorem S0_wf : WF 0 S0 := by
  have h0 := BT_0 (tx := tx0) (t := 18) (by decide) 2 (fun j hj => by
    rcases (show j = 0 ∨ j = 1 by omega) with rfl | rfl
    · show frT tx0 18 0 ≠ 0
      rw [n0_fr]
      decide
    · rw [pos0_1, n1_fr]
      decide)
  rw [BT0] at h0
  exact bkT1_wf S00_wf (fun k hk => by rw [← BT0]; exact BT_lt 2 k hk) h0.1 h0.2
section
variable {e : Nat → Nat × (Nat → Int32)} {m : Mm} {w : Ml}
theorem e_append {i ch : Nat} (h1 : m 35 1 = nz i) (hi : i < 80) (hc : nar 3 (nz ch) = nz ch) : f_X3_append [.ref 35, .int (nz ch)] (HM e m w) = some (HM e (ms (ms m 36 i (nz ch)) 35 1 (nz (i + 1))) w, .inl none) := by
  unfold f_X3_append
  simp (disch := omega) only [mth_w, kR_w, kR_if, sQ_v, sN_v, sTi_v, sTa_v, sTl_v, sR_v, sRv_v, sX_v, sPi_v, sPo_v, sPz_w, zP_b, sRz_w, zR_bw, zR_0w, zR_1w, sPa_v, sAi_v, sAl_v, sAo_v, sAa_v, sM_w, sMp_w, eM_w, sIf_w, eIf_w, cAnd_w, cOr_w, cB_v, cZ_v, cNot_v, eC_v, eI_v, eJ_v, eOp_v, eQ_v, eU_v, eIL_v, eLO_v, eLS_v, eLC_v, eGi_v, eGa_v, eZ_w, eAi_v, eAl_v, eAa_v, eAn_v, aN_v, aI_v, aA_v, sInc_v, sB_okw, sB_xw, eS_okw, eS_xw, eB_okw, eB_xw, oE_w, oS_w, kI_iw, kI_xw, kV_w, kV_xw, kP_iw, kP_xw, List.set_cons_zero, List.set_cons_succ, List.cons_append, List.nil_append, List.length_cons, List.length_nil, List.replicate_succ, List.replicate_zero, List.append_nil, bif_and, bif_or, zne_b01, zeq_b01, bif_d, cond_true, cond_false, nar_0, o_iadd, o_isub, o_imul, c_eq, c_ne, c_lt, c_ge, c_gt, c_le, Nat.reduceAdd, Nat.reduceSub, Nat.zero_add, if_true, if_false, eLl_2, eLi_0, eLi_1, eLi_2, eLi_3, eLi_4, eLi_5, eLi_6, eLi_7, eLi_8, eLi_9, eLi_10, eLi_11, eLi_12, eLi_13, eLa_0, eLa_1, eLa_2, eLa_3, eLa_4, eLa_5, eLa_6, eLa_7, nz_add, nz_mul, nz_sub, nz_lt, nz_le, nz_inj, zeq_nz, zne_nz, zge_nz, zgt_nz, zlt_nz, nlit0, nlit1, nlit2, nlit3, nlit4, nlit5, nlit6, nlit7, nlit8, nlit9, nlit10, nlit11, nlit12, nlit16, nlit18, nlit22, nlit31, nlit32, nlit33, nlit34, nlit40, nlit48, nlit60, nlit63, nlit64, nlit66, nlit80, nlit96, nlit114, nlit126, nlit128, nlit512, nlit756, nlit882, nlit1000, nlit1394, nlit1522, nlit1523, nlit10000, decide_true, decide_false, not_true_eq_false, not_false_eq_true, ne_eq, and_self, and_true, true_and, Bool.and_true, Bool.true_and, Bool.and_false, Bool.false_and, Bool.or_false, Bool.false_or, Bool.or_true, Bool.true_or, Bool.not_true, Bool.not_false, gd_0, rf_0_0, rf_0_1, rf_0_2, rf_0_3, rf_0_4, rd_0_5, wr_0_5, rd_0_6, wr_0_6, rf_0_7, rf_0_8, rf_0_9, gd_31, rf_31_0, rf_31_1, rf_31_2, ar_32, aw_32, an_32, ar_33, aw_33, an_33, ar_34, aw_34, an_34, gd_35, rf_35_0, rd_35_1, wr_35_1, rf_35_2, rd_35_3, wr_35_3, rd_35_4, wr_35_4, rd_35_5, wr_35_5, rf_35_6, rd_35_7, wr_35_7, rd_35_8, wr_35_8, rd_35_9, wr_35_9, rd_35_10, wr_35_10, rd_35_11, wr_35_11, rd_35_12, wr_35_12, rd_35_13, wr_35_13, ar_36, aw_36, ar_37, aw_37, an_37, ar_38, aw_38, ar_39, ar_40, ar_41, aw_41, ar_42, aw_42, ar_146, aw_146, h1, decide_eq_true hi, hc, ms_ne]
theorem e_made (he : EO e) : ∃ m1, f_X7_init [.ref 0] (1, uo (FH e Zm Zl) 0 (.inr (7, [.null, .null, .null, .null, .null, .int 0, .int 0, .null, .null, .null]))) = some ((133, FH e m1 Zl), .inl none) ∧ (∀ a, 15 < a → a ≠ 35 → a ≠ 36 → a ≠ 37 → a ≠ 38 → m1 a = Zm a) ∧ m1 0 = Zm 0 ∧ m1 35 1 = nz 0 ∧ TR 1 m1 S0 := by
  have z0 : ∀ a j, Zm a j = nz 0 := fun _ _ => rfl
  have hgone : G3 (FH e Zm Zl) cls7 (qhO 4 43 4) (qhO 2 103 2) = FH e Zm Zl := G3_out ((FH_at (by decide) kd_0).trans rfl) ((FH_at (by decide) kd_39).trans qh_4.symm) ((FH_at (by decide) kd_40).trans qh_2.symm)
  obtain ⟨m2, b1, b2, b3, b4, b5, b6, b7, b8, b9, b10, b11, b12, b13, b14, b15, b16, b17, b18⟩ := e_buildAnew (e := eN e 133) (w := Zl) (m := Zm) (b := 1) (W := 15) (H := nz 8) TB.one (by omega)
  rw [show 15 + 1 = 16 from rfl] at b1 b3
  have he' : EO (eN e 133) := EO_n he
  obtain ⟨m3, hm3⟩ : ∃ m3 : Mm, m3 = fun a => if a = 36 then (fun j => if j < 18 then nz (tx0 j) else m2 36 j) else if a = 35 then su (m2 35) 1 (nz 18) else m2 a := ⟨_, rfl⟩
  have m3n : ∀ a, a ≠ 35 → a ≠ 36 → m3 a = m2 a := fun a a1 a2 => by rw [hm3]; show (if a = 36 then _ else if a = 35 then _ else _) = _; rw [if_neg a2, if_neg a1]
  have m336 : ∀ j, j < 18 → m3 36 j = nz (tx0 j) := fun j hj => by rw [hm3]; show (if 36 = 36 then (fun j => if j < 18 then nz (tx0 j) else m2 36 j) else _) j = _; rw [if_pos rfl, if_pos hj]
  have m3351 : m3 35 1 = nz 18 := by rw [hm3]; show (if 35 = 36 then _ else if 35 = 35 then su (m2 35) 1 (nz 18) else _) 1 = _; rw [if_neg (by decide), if_pos rfl, su_at]
  have hx : TxC tx0 18 (m3 36) := ⟨by decide, fun i hi => ⟨(tx0_c i hi).2.1, (tx0_c i hi).2.2.1, m336 i hi⟩⟩
  obtain ⟨m4, r0, r1, r2, r3, r4, -, r6⟩ := e_readBook (e := eN e 133) (w := Zl) (m := m3) (tx := tx0) (t := 18) he' hx m3351
  rw [nr0] at r3 r6
  rw [BT0] at r6
  obtain ⟨m5, k0, k1, k2, k3⟩ := e_takeBook (e := eN e 133) (m := m4) (w := Zl) TB.one
  obtain ⟨m6, hm6⟩ : ∃ m6, m6 = ms m5 35 1 (nz 0) := ⟨_, rfl⟩
  have m6n : ∀ a, a ≠ 1 → a ≠ 13 → a ≠ 35 → a ≠ 36 → a ≠ 37 → a ≠ 38 → m6 a = m2 a := fun a a1 a2 a3 a4 a5 a6 => by rw [hm6, ms_ne a3, k1 a a1 a2, r1 a a3 a5 a6, m3n a a3 a4]
  refine ⟨m6, ?_, fun a a1 a2 a3 a4 a5 => ?_, ?_, ?_, ?_⟩
  · have hend : (133, FH e m6 Zl) = HM (eN e 133) m6 Zl := HM_n.symm
    rw [hend]
    unfold f_X7_init
    show kR ((sQ sO _) [.ref 0, .null] _) = _
    rw [new7_a]
    have hc7 : (.inr (7, [.ref 1, .ref 16, .ref 31, .ref 35, .ref 39, .int 0, .int 0, .ref 40, .ref 41, .ref 42]) : Ob) = cls7 := rfl
    rw [hc7, ← qh_0 (N := 4) (b := 43), ← qh_0 (N := 2) (b := 103), sQ_v, new7_b, new7_c, hgone, ← HM_n]
    simp (disch := omega) only [mth_w, kR_w, kR_if, sQ_v, sN_v, sTi_v, sTa_v, sTl_v, sR_v, sRv_v, sX_v, sPi_v, sPo_v, sPz_w, zP_b, sRz_w, zR_bw, zR_0w, zR_1w, sPa_v, sAi_v, sAl_v, sAo_v, sAa_v, sM_w, sMp_w, eM_w, sIf_w, eIf_w, cAnd_w, cOr_w, cB_v, cZ_v, cNot_v, eC_v, eI_v, eJ_v, eOp_v, eQ_v, eU_v, eIL_v, eLO_v, eLS_v, eLC_v, eGi_v, eGa_v, eZ_w, eAi_v, eAl_v, eAa_v, eAn_v, aN_v, aI_v, aA_v, sInc_v, sB_okw, sB_xw, eS_okw, eS_xw, eB_okw, eB_xw, oE_w, oS_w, kI_iw, kI_xw, kV_w, kV_xw, kP_iw, kP_xw, List.set_cons_zero, List.set_cons_succ, List.cons_append, List.nil_append, List.length_cons, List.length_nil, List.replicate_succ, List.replicate_zero, List.append_nil, bif_and, bif_or, zne_b01, zeq_b01, bif_d, cond_true, cond_false, nar_0, o_iadd, o_isub, o_imul, c_eq, c_ne, c_lt, c_ge, c_gt, c_le, Nat.reduceAdd, Nat.reduceSub, Nat.zero_add, if_true, if_false, eLl_2, eLi_0, eLi_1, eLi_2, eLi_3, eLi_4, eLi_5, eLi_6, eLi_7, eLi_8, eLi_9, eLi_10, eLi_11, eLi_12, eLi_13, eLa_0, eLa_1, eLa_2, eLa_3, eLa_4, eLa_5, eLa_6, eLa_7, nlit0, nlit1, nlit8, nlit16, gd_0, rf_0_0, rf_0_1, rf_0_2, rf_0_3, rf_0_4, rd_0_5, wr_0_5, rd_0_6, wr_0_6, rf_0_7, rf_0_8, rf_0_9, gd_31, rf_31_0, rf_31_1, rf_31_2, ar_32, aw_32, an_32, ar_33, aw_33, an_33, ar_34, aw_34, an_34, gd_35, rf_35_0, rd_35_1, wr_35_1, rf_35_2, rd_35_3, wr_35_3, rd_35_4, wr_35_4, rd_35_5, wr_35_5, rf_35_6, rd_35_7, wr_35_7, rd_35_8, wr_35_8, rd_35_9, wr_35_9, rd_35_10, wr_35_10, rd_35_11, wr_35_11, rd_35_12, wr_35_12, rd_35_13, wr_35_13, ar_36, aw_36, ar_37, aw_37, an_37, ar_38, aw_38, ar_39, ar_40, ar_41, aw_41, ar_42, aw_42, ar_146, aw_146, (gd_t0 TB.one), (rf_t0_0 TB.one), (rf_t0_1 TB.one), (rf_t0_2 TB.one), (rf_t0_3 TB.one), (rf_t0_4 TB.one), (rf_t0_5 TB.one), (rd_t0_6 TB.one), (wr_t0_6 TB.one), (rd_t0_7 TB.one), (wr_t0_7 TB.one), (rf_t0_8 TB.one), (rf_t0_9 TB.one), (gd_t1 TB.one), (rd_t1_0 TB.one), (wr_t1_0 TB.one), (rd_t1_1 TB.one), (wr_t1_1 TB.one), (rd_t1_2 TB.one), (wr_t1_2 TB.one), (rf_t1_3 TB.one), (rf_t1_4 TB.one), (ar_t2 TB.one), (aw_t2 TB.one), (an_t2 TB.one), (ar_t3 TB.one), (aw_t3 TB.one), (an_t3 TB.one), (gd_t4 TB.one), (rd_t4_0 TB.one), (wr_t4_0 TB.one), (rf_t4_1 TB.one), (ar_t5 TB.one), (aw_t5 TB.one), (an_t5 TB.one), (gd_t6 TB.one), (rd_t6_0 TB.one), (wr_t6_0 TB.one), (rd_t6_1 TB.one), (wr_t6_1 TB.one), (rf_t6_2 TB.one), (ar_t7 TB.one), (aw_t7 TB.one), (an_t7 TB.one), (gd_t8 TB.one), (rf_t8_0 TB.one), (rf_t8_1 TB.one), (ar_t9 TB.one), (aw_t9 TB.one), (an_t9 TB.one), (ar_t10 TB.one), (aw_t10 TB.one), (an_t10 TB.one), (ar_t11 TB.one), (aw_t11 TB.one), (an_t11 TB.one), (ar_t12 TB.one), (aw_t12 TB.one), (an_t12 TB.one), (ar_t13 TB.one), (aw_t13 TB.one), (an_t13 TB.one), (ar_t14 TB.one), (aw_t14 TB.one), (an_t14 TB.one), b1]
    generalize hR : sLp _ _ NF _ _ = R
    obtain ⟨l', h', q1, y, mm, rfl, rfl, i1, i2, i3⟩ := sLp_invR hR (fun i l h => ∃ y mm, l = [.ref 0, y] ∧ y = .int (nz i) ∧ h = HM (eN e 133) mm Zl ∧ (∀ a, a ≠ 35 → a ≠ 36 → mm a = m2 a) ∧ (mm 35 = su (m2 35) 1 (nz i)) ∧ mm 36 = fun j => if j < i then nz (tx0 j) else m2 36 j) 18 (NF_lt (by omega)) (fun i l h hi hQ => by
      obtain ⟨y, mm, rfl, rfl, rfl, i1, i2, i3⟩ := hQ
      obtain ⟨t1, t2, t3, t4⟩ := tx0_c i hi
      have h351 : mm 35 1 = nz i := by rw [i2, su_at]
      have ap := e_append (e := eN e 133) (w := Zl) (m := mm) (i := i) (ch := tx0 i) h351 (by omega) t4
      have hst : ∀ (l : Lc), eSt (eLi 1) [.ref 0, .int (nz i)] (HM (eN e 133) mm Zl) = some (HM (eN e 133) mm Zl, .inl (nz (tx0 i))) := fun _ => by
        unfold eSt
        rw [eLi_1, eB_okw, if_pos ⟨nz_nn (by omega), by rw [show (18 : Int32) = nz 18 from rfl, nz_lt (by omega) (by omega)]; exact hi⟩, t1]
      refine ⟨by simp (disch := omega) only [mth_w, kR_w, kR_if, sQ_v, sN_v, sTi_v, sTa_v, sTl_v, sR_v, sRv_v, sX_v, sPi_v, sPo_v, sPz_w, zP_b, sRz_w, zR_bw, zR_0w, zR_1w, sPa_v, sAi_v, sAl_v, sAo_v, sAa_v, sM_w, sMp_w, eM_w, sIf_w, eIf_w, cAnd_w, cOr_w, cB_v, cZ_v, cNot_v, eC_v, eI_v, eJ_v, eOp_v, eQ_v, eU_v, eIL_v, eLO_v, eLS_v, eLC_v, eGi_v, eGa_v, eZ_w, eAi_v, eAl_v, eAa_v, eAn_v, aN_v, aI_v, aA_v, sInc_v, sB_okw, sB_xw, eS_okw, eS_xw, eB_okw, eB_xw, oE_w, oS_w, kI_iw, kI_xw, kV_w, kV_xw, kP_iw, kP_xw, List.set_cons_zero, List.set_cons_succ, List.cons_append, List.nil_append, List.length_cons, List.length_nil, List.replicate_succ, List.replicate_zero, List.append_nil, bif_and, bif_or, zne_b01, zeq_b01, bif_d, cond_true, cond_false, nar_0, o_iadd, o_isub, o_imul, c_eq, c_ne, c_lt, c_ge, c_gt, c_le, Nat.reduceAdd, Nat.reduceSub, Nat.zero_add, if_true, if_false, eLl_2, eLi_0, eLi_1, eLi_2, eLi_3, eLi_4, eLi_5, eLi_6, eLi_7, eLi_8, eLi_9, eLi_10, eLi_11, eLi_12, eLi_13, eLa_0, eLa_1, eLa_2, eLa_3, eLa_4, eLa_5, eLa_6, eLa_7, nz_add, nz_mul, nz_sub, nz_lt, nz_le, nz_inj, zeq_nz, zne_nz, zge_nz, zgt_nz, zlt_nz, nlit0, nlit1, nlit2, nlit3, nlit4, nlit5, nlit6, nlit7, nlit8, nlit9, nlit10, nlit11, nlit12, nlit16, nlit18, nlit22, nlit31, nlit32, nlit33, nlit34, nlit40, nlit48, nlit60, nlit63, nlit64, nlit66, nlit80, nlit96, nlit114, nlit126, nlit128, nlit512, nlit756, nlit882, nlit1000, nlit1394, nlit1522, nlit1523, nlit10000, decide_eq_true hi], [.ref 0, .int (nz (i + 1))], HM (eN e 133) (ms (ms mm 36 i (nz (tx0 i))) 35 1 (nz (i + 1))) Zl, ?_, _, _, rfl, rfl, rfl, fun a a1 a2 => ?_, ?_, ?_⟩
      · simp (disch := omega) only [mth_w, kR_w, kR_if, sQ_v, sN_v, sTi_v, sTa_v, sTl_v, sR_v, sRv_v, sX_v, sPi_v, sPo_v, sPz_w, zP_b, sRz_w, zR_bw, zR_0w, zR_1w, sPa_v, sAi_v, sAl_v, sAo_v, sAa_v, sM_w, sMp_w, eM_w, sIf_w, eIf_w, cAnd_w, cOr_w, cB_v, cZ_v, cNot_v, eC_v, eI_v, eJ_v, eOp_v, eQ_v, eU_v, eIL_v, eLO_v, eLS_v, eLC_v, eGi_v, eGa_v, eZ_w, eAi_v, eAl_v, eAa_v, eAn_v, aN_v, aI_v, aA_v, sInc_v, sB_okw, sB_xw, eS_okw, eS_xw, eB_okw, eB_xw, oE_w, oS_w, kI_iw, kI_xw, kV_w, kV_xw, kP_iw, kP_xw, List.set_cons_zero, List.set_cons_succ, List.cons_append, List.nil_append, List.length_cons, List.length_nil, List.replicate_succ, List.replicate_zero, List.append_nil, bif_and, bif_or, zne_b01, zeq_b01, bif_d, cond_true, cond_false, nar_0, o_iadd, o_isub, o_imul, c_eq, c_ne, c_lt, c_ge, c_gt, c_le, Nat.reduceAdd, Nat.reduceSub, Nat.zero_add, if_true, if_false, eLl_2, eLi_0, eLi_1, eLi_2, eLi_3, eLi_4, eLi_5, eLi_6, eLi_7, eLi_8, eLi_9, eLi_10, eLi_11, eLi_12, eLi_13, eLa_0, eLa_1, eLa_2, eLa_3, eLa_4, eLa_5, eLa_6, eLa_7, nz_add, nz_mul, nz_sub, nz_lt, nz_le, nz_inj, zeq_nz, zne_nz, zge_nz, zgt_nz, zlt_nz, nlit0, nlit1, nlit2, nlit3, nlit4, nlit5, nlit6, nlit7, nlit8, nlit9, nlit10, nlit11, nlit12, nlit16, nlit18, nlit22, nlit31, nlit32, nlit33, nlit34, nlit40, nlit48, nlit60, nlit63, nlit64, nlit66, nlit80, nlit96, nlit114, nlit126, nlit128, nlit512, nlit756, nlit882, nlit1000, nlit1394, nlit1522, nlit1523, nlit10000, gd_0, rf_0_0, rf_0_1, rf_0_2, rf_0_3, rf_0_4, rd_0_5, wr_0_5, rd_0_6, wr_0_6, rf_0_7, rf_0_8, rf_0_9, gd_31, rf_31_0, rf_31_1, rf_31_2, ar_32, aw_32, an_32, ar_33, aw_33, an_33, ar_34, aw_34, an_34, gd_35, rf_35_0, rd_35_1, wr_35_1, rf_35_2, rd_35_3, wr_35_3, rd_35_4, wr_35_4, rd_35_5, wr_35_5, rf_35_6, rd_35_7, wr_35_7, rd_35_8, wr_35_8, rd_35_9, wr_35_9, rd_35_10, wr_35_10, rd_35_11, wr_35_11, rd_35_12, wr_35_12, rd_35_13, wr_35_13, ar_36, aw_36, ar_37, aw_37, an_37, ar_38, aw_38, ar_39, ar_40, ar_41, aw_41, ar_42, aw_42, ar_146, aw_146, hst [], ap]
      · rw [ms_ne a1, ms_ne a2, i1 a a1 a2]
      · rw [ms_mw, mw_at, ms_ne (by decide), i2, su_su]
      · rw [ms_ne (by decide), ms_at, i3]
        funext j
        by_cases q : j = i
        · rw [if_pos q, if_pos (by omega), q]
        · rw [if_neg q]
          by_cases q2 : j < i
          · rw [if_pos q2, if_pos (by omega)]
          · rw [if_neg q2, if_neg (by omega)]) (fun l h hQ => by
      obtain ⟨y, mm, rfl, rfl, rfl, -, -, -⟩ := hQ
      simp (disch := omega) only [mth_w, kR_w, kR_if, sQ_v, sN_v, sTi_v, sTa_v, sTl_v, sR_v, sRv_v, sX_v, sPi_v, sPo_v, sPz_w, zP_b, sRz_w, zR_bw, zR_0w, zR_1w, sPa_v, sAi_v, sAl_v, sAo_v, sAa_v, sM_w, sMp_w, eM_w, sIf_w, eIf_w, cAnd_w, cOr_w, cB_v, cZ_v, cNot_v, eC_v, eI_v, eJ_v, eOp_v, eQ_v, eU_v, eIL_v, eLO_v, eLS_v, eLC_v, eGi_v, eGa_v, eZ_w, eAi_v, eAl_v, eAa_v, eAn_v, aN_v, aI_v, aA_v, sInc_v, sB_okw, sB_xw, eS_okw, eS_xw, eB_okw, eB_xw, oE_w, oS_w, kI_iw, kI_xw, kV_w, kV_xw, kP_iw, kP_xw, List.set_cons_zero, List.set_cons_succ, List.cons_append, List.nil_append, List.length_cons, List.length_nil, List.replicate_succ, List.replicate_zero, List.append_nil, bif_and, bif_or, zne_b01, zeq_b01, bif_d, cond_true, cond_false, nar_0, o_iadd, o_isub, o_imul, c_eq, c_ne, c_lt, c_ge, c_gt, c_le, Nat.reduceAdd, Nat.reduceSub, Nat.zero_add, if_true, if_false, eLl_2, eLi_0, eLi_1, eLi_2, eLi_3, eLi_4, eLi_5, eLi_6, eLi_7, eLi_8, eLi_9, eLi_10, eLi_11, eLi_12, eLi_13, eLa_0, eLa_1, eLa_2, eLa_3, eLa_4, eLa_5, eLa_6, eLa_7, nz_add, nz_mul, nz_sub, nz_lt, nz_le, nz_inj, zeq_nz, zne_nz, zge_nz, zgt_nz, zlt_nz, nlit0, nlit1, nlit2, nlit3, nlit4, nlit5, nlit6, nlit7, nlit8, nlit9, nlit10, nlit11, nlit12, nlit16, nlit18, nlit22, nlit31, nlit32, nlit33, nlit34, nlit40, nlit48, nlit60, nlit63, nlit64, nlit66, nlit80, nlit96, nlit114, nlit126, nlit128, nlit512, nlit756, nlit882, nlit1000, nlit1394, nlit1522, nlit1523, nlit10000]
      simp) ⟨_, m2, rfl, rfl, rfl, fun _ _ _ => rfl, by
        have h351 : m2 35 1 = nz 0 := by rw [b2 35 (by omega)]
        rw [← h351, su_self], by
        funext j
        rw [if_neg (Nat.not_lt_zero j)]⟩
    have hmm : mm = m3 := by
      rw [hm3]
      funext a
      by_cases q : a = 36
      · rw [if_pos q, q, i3]
      · rw [if_neg q]
        by_cases q2 : a = 35
        · rw [if_pos q2, q2, i2]
        · rw [if_neg q2, i1 a q2 q]
    rw [q1, hmm]
    simp (disch := omega) only [mth_w, kR_w, kR_if, sQ_v, sN_v, sTi_v, sTa_v, sTl_v, sR_v, sRv_v, sX_v, sPi_v, sPo_v, sPz_w, zP_b, sRz_w, zR_bw, zR_0w, zR_1w, sPa_v, sAi_v, sAl_v, sAo_v, sAa_v, sM_w, sMp_w, eM_w, sIf_w, eIf_w, cAnd_w, cOr_w, cB_v, cZ_v, cNot_v, eC_v, eI_v, eJ_v, eOp_v, eQ_v, eU_v, eIL_v, eLO_v, eLS_v, eLC_v, eGi_v, eGa_v, eZ_w, eAi_v, eAl_v, eAa_v, eAn_v, aN_v, aI_v, aA_v, sInc_v, sB_okw, sB_xw, eS_okw, eS_xw, eB_okw, eB_xw, oE_w, oS_w, kI_iw, kI_xw, kV_w, kV_xw, kP_iw, kP_xw, List.set_cons_zero, List.set_cons_succ, List.cons_append, List.nil_append, List.length_cons, List.length_nil, List.replicate_succ, List.replicate_zero, List.append_nil, bif_and, bif_or, zne_b01, zeq_b01, bif_d, cond_true, cond_false, nar_0, o_iadd, o_isub, o_imul, c_eq, c_ne, c_lt, c_ge, c_gt, c_le, Nat.reduceAdd, Nat.reduceSub, Nat.zero_add, if_true, if_false, eLl_2, eLi_0, eLi_1, eLi_2, eLi_3, eLi_4, eLi_5, eLi_6, eLi_7, eLi_8, eLi_9, eLi_10, eLi_11, eLi_12, eLi_13, eLa_0, eLa_1, eLa_2, eLa_3, eLa_4, eLa_5, eLa_6, eLa_7, nlit0, gd_0, rf_0_0, rf_0_1, rf_0_2, rf_0_3, rf_0_4, rd_0_5, wr_0_5, rd_0_6, wr_0_6, rf_0_7, rf_0_8, rf_0_9, gd_31, rf_31_0, rf_31_1, rf_31_2, ar_32, aw_32, an_32, ar_33, aw_33, an_33, ar_34, aw_34, an_34, gd_35, rf_35_0, rd_35_1, wr_35_1, rf_35_2, rd_35_3, wr_35_3, rd_35_4, wr_35_4, rd_35_5, wr_35_5, rf_35_6, rd_35_7, wr_35_7, rd_35_8, wr_35_8, rd_35_9, wr_35_9, rd_35_10, wr_35_10, rd_35_11, wr_35_11, rd_35_12, wr_35_12, rd_35_13, wr_35_13, ar_36, aw_36, ar_37, aw_37, an_37, ar_38, aw_38, ar_39, ar_40, ar_41, aw_41, ar_42, aw_42, ar_146, aw_146, (gd_t0 TB.one), (rf_t0_0 TB.one), (rf_t0_1 TB.one), (rf_t0_2 TB.one), (rf_t0_3 TB.one), (rf_t0_4 TB.one), (rf_t0_5 TB.one), (rd_t0_6 TB.one), (wr_t0_6 TB.one), (rd_t0_7 TB.one), (wr_t0_7 TB.one), (rf_t0_8 TB.one), (rf_t0_9 TB.one), (gd_t1 TB.one), (rd_t1_0 TB.one), (wr_t1_0 TB.one), (rd_t1_1 TB.one), (wr_t1_1 TB.one), (rd_t1_2 TB.one), (wr_t1_2 TB.one), (rf_t1_3 TB.one), (rf_t1_4 TB.one), (ar_t2 TB.one), (aw_t2 TB.one), (an_t2 TB.one), (ar_t3 TB.one), (aw_t3 TB.one), (an_t3 TB.one), (gd_t4 TB.one), (rd_t4_0 TB.one), (wr_t4_0 TB.one), (rf_t4_1 TB.one), (ar_t5 TB.one), (aw_t5 TB.one), (an_t5 TB.one), (gd_t6 TB.one), (rd_t6_0 TB.one), (wr_t6_0 TB.one), (rd_t6_1 TB.one), (wr_t6_1 TB.one), (rf_t6_2 TB.one), (ar_t7 TB.one), (aw_t7 TB.one), (an_t7 TB.one), (gd_t8 TB.one), (rf_t8_0 TB.one), (rf_t8_1 TB.one), (ar_t9 TB.one), (aw_t9 TB.one), (an_t9 TB.one), (ar_t10 TB.one), (aw_t10 TB.one), (an_t10 TB.one), (ar_t11 TB.one), (aw_t11 TB.one), (an_t11 TB.one), (ar_t12 TB.one), (aw_t12 TB.one), (an_t12 TB.one), (ar_t13 TB.one), (aw_t13 TB.one), (an_t13 TB.one), (ar_t14 TB.one), (aw_t14 TB.one), (an_t14 TB.one), r0, k0, ← hm6]
  · by_cases q : a = 13
    · omega
    · rw [m6n a (by omega) q a2 a3 a4 a5, b2 a (by omega)]
  · rw [m6n 0 (by decide) (by decide) (by decide) (by decide) (by decide) (by decide), b2 0 (by omega)]
  · rw [hm6, ms_eq]
  · have hT2 : TR 1 m2 S00 := by
      have hbq : ∀ k, k < 6 → bq (nz 0) k = false := by decide
      unfold TR TRv
      rw [S00_W, S00_H, S00_g, S00_r]
      refine ⟨⟨?_, ?_, fun c hc => ?_⟩, fun r hr d hd c hc => ?_, fun r hr k hk c hc => ?_, ⟨?_, fun k hk => by omega⟩, ⟨?_, 0, by omega, ?_, fun i hi => absurd hi (Nat.not_lt_zero i)⟩, fun k hk => ?_, fun k hk x hx => ?_, fun k hk => ?_, fun k hk => ?_, ⟨?_, ?_⟩, fun k hk => ?_, fun c hc => ?_⟩
      · show m2 (1 + 1) 0 = _
        rw [b3, S00_0]
      · show m2 (1 + 1) 1 = _
        rw [b4, S00_1]
      · show bt (m2 (1 + 1) 2) c = _
        rw [b5, bt_cb (by omega) (by omega) hc, decide_eq_true (Nat.zero_le _), Bool.true_and]
        exact decide_eq_decide.mpr (by omega)
      · show bt (m2 (1 + 2) _) c = _
        rw [b6 _ (by omega), S00_c, pq_nz (by decide) hd]
        exact (bt_0 c).trans (by simp)
      · show bt (m2 (1 + 3) _) c = _
        rw [b7 _ (by omega), S00_c, hbq k hk]
        exact bt_0 c
      · show m2 (1 + 4) 0 = _
        rw [b8, S00_z (by omega)]
      · show m2 (1 + 6) 0 = _
        rw [b9, S00_z (by omega)]
      · show m2 (1 + 6) 1 = _
        rw [b10]
        rfl
      · show m2 (1 + 9) k = _
        rw [b11 k hk, S00_z (by omega)]
      · show m2 (1 + 10) _ = _
        rw [b12 _ (by omega), S00_z (by omega)]
      · show m2 (1 + 11) k = _
        rw [b13, S00_z (by omega)]
        rfl
      · show m2 (1 + 12) k = _
        rw [b14, S00_z (by omega)]
        rfl
      · show m2 1 6 = _
        rw [b15, S00_z (by omega)]
        rfl
      · show m2 1 7 = _
        rw [b16, S00_z (by omega)]
      · show m2 (1 + 13) k = _
        rw [b17 k hk, S00_z (by omega)]
      · rw [S00_z (by omega)]
        refine sm_zero fun r hr => sm_zero fun d hd => ?_
        show sg d (b01 (bt (m2 (1 + 14) _) c)) = _
        rw [b18 _ (by omega), show bt (nz 0) c = false from bt_0 c]
        exact sg_z
    have m4n : ∀ a, a ≠ 35 → a ≠ 36 → a ≠ 37 → a ≠ 38 → m4 a = m2 a := fun a a1 a2 a3 a4 => by rw [r1 a a1 a3 a4, m3n a a1 a2]
    have h16 : m6 1 6 = nz 2 := by rw [hm6, ms_ne (by decide), k3, su_at, r3]
    have h17 : m6 1 7 = m2 1 7 := by rw [hm6, ms_ne (by decide), k3, su_ne (by decide), m4n 1 (by decide) (by decide) (by decide) (by decide)]
    have k2a : ∀ a, a ≠ 1 → a ≠ 13 → a < 35 → m6 a = m2 a := fun a a1 a2 a3 => m6n a a1 a2 (by omega) (by omega) (by omega) (by omega)
    unfold S0
    refine TR.gen (b := 1) S00_wf hT2 (k2a _ (by decide) (by decide) (by decide)) (k2a _ (by decide) (by decide) (by decide)) (k2a _ (by decide) (by decide) (by decide)) (k2a _ (by decide) (by decide) (by decide)) h17 (fun j hj => bkT1_lo (by omega)) (Or.inl ⟨k2a _ (by decide) (by decide) (by decide), k2a _ (by decide) (by decide) (by decide), fun c r hc hr => bkT1_lo (by omega)⟩) (Or.inl ⟨k2a _ (by decide) (by decide) (by decide), k2a _ (by decide) (by decide) (by decide), bkT1_lo (by omega), fun k hk => bkT1_lo (by omega)⟩) (Or.inl ⟨k2a _ (by decide) (by decide) (by decide), fun k hk => bkT1_lo (by omega)⟩) (Or.inl ⟨k2a _ (by decide) (by decide) (by decide), fun k _ hk => bkT1_lo (by omega)⟩) (Or.inl ⟨k2a _ (by decide) (by decide) (by decide), fun k hk => bkT1_lo (by omega)⟩) (Or.inr ⟨by rw [h16, bkT1_r], fun k hk => ?_⟩) (Or.inl ⟨k2a _ (by decide) (by decide) (by decide), fun k hk => bkT1_lo (by omega)⟩)
    rw [bkT1_b hk, hm6, ms_ne (by decide), k2 k hk, r6 k hk]
end
