section
variable {tx : Nat → Nat} {t p i : Nat} {F B N : St} {e : Nat → Nat × (Nat → Int32)} {m : Mm} {w : Ml}
/-- what a rule's reading in the model comes to -/
def RmQ (tx : Nat → Nat) (t p : Nat) (F B N F' B' N' : St) : Prop := (∀ k, k ≠ 13 → k ≠ 15 → k ≠ 16 → F' k = F k) ∧ F' 16 = nz (kdT tx t N p) ∧ (kdT tx t N p ≠ 0 → F' 15 = nz (psT tx t N p)) ∧ (kdT tx t N p = 0 → F' 13 = nz (n6T tx t p) ∧ B' = enB (frT tx t p) (evT tx t p) (odT tx t p) B (tnT tx t p) ∧ N' = enN (frT tx t p) N (tnT tx t p))
theorem RmQ.bad {F' : St} (hok : okT tx t p = false) (h1 : ∀ k, k ≠ 13 → k ≠ 15 → k ≠ 16 → F' k = F k) (h2 : F' 16 = nz 1) (h3 : F' 15 = nz (fpT tx t p)) : RmQ tx t p F B N F' B N := by
  have hkd : kdT tx t N p = 1 := if_pos hok
  have hps : psT tx t N p = fpT tx t p := if_pos hok
  unfold RmQ
  rw [hkd, hps]
  exact ⟨h1, h2, fun _ => h3, fun z => absurd z (by decide)⟩
theorem od_lt : odT tx t p < 64 := by
  unfold odT
  split <;> exact st_lt
theorem e_rd10 (hx : TxC tx t (m 143)) (h12 : F 12 = nz t) (h13 : F 13 = nz (n6T tx t p)) (h6 : n6T tx t p ≤ t) (h16 : F 16 = nz 0) (c1 : frT tx t p ≠ 0) (c2 : tkT tx t 62 (n2T tx t p) = true) (c3 : evT tx t p ≠ 0) (c4 : odT tx t p ≠ 0) {v8 : Value} : ∃ l' F' B' N', rd10 [.ref 133, .int (nz p), .int (nz (tnT tx t p)), .int (nz (frT tx t p)), .int (nz (n3T tx t p)), .int (nz (evT tx t p)), .int (nz (q6T tx t p)), .int (nz (odT tx t p)), v8] (HM e (MM m F B N) w) = some (HM e (MM m F' B' N') w, .inl l') ∧ RmQ tx t p F B N F' B' N' := by
  have ht := hx.1
  have z11 : z_eq (nz 1) = false := by decide
  have hfr : frT tx t p < 64 := st_lt
  have hev : evT tx t p < 64 := st_lt
  have pa := e_padAt (e := e) (w := w) (B := B) (N := N) hx h12 h13 h6
  have hok : okT tx t p = decide (t ≤ n6T tx t p ∨ tx (n6T tx t p) = 59) := by
    unfold okT
    rw [decide_eq_true c1, c2, decide_eq_true c3, decide_eq_true c4, Bool.true_and, Bool.true_and, Bool.true_and, Bool.true_and]
  have hp59 : n6T tx t p < t → (paT tx t (n6T tx t p) = nz 59) = (tx (n6T tx t p) = 59) := fun z => by
    rw [pa_eq hx (by decide)]
    exact propext ⟨fun q => (tk_y q).2, fun q => tk_i z q⟩
  by_cases q : t ≤ n6T tx t p ∨ tx (n6T tx t p) = 59
  · rw [decide_eq_true q] at hok
    obtain ⟨l', F', B', N', r0, r1, r2, r3, r4, r5⟩ := rd11_yes (e := e) (m := m) (w := w) (B := B) (N := N) (p := p) (fr := frT tx t p) (ev := evT tx t p) (od := odT tx t p) (n := tnT tx t p) (n3 := n3T tx t p) (q6 := q6T tx t p) (v8 := v8) h16 tn_le hfr hev od_lt
    have q1' : ¬ okT tx t p = false := by
      rw [hok]
      decide
    refine ⟨l', F', B', N', ?_, fun k k1 k2 k3 => r1 k k2 k3, ?_⟩
    · unfold rd10
      cases hd : decide (n6T tx t p < t) with
      | false => simp (disch := omega) only [mth_w, kR_w, kR_if, sQ_v, sN_v, sTi_v, sTa_v, sTl_v, sR_v, sRv_v, sX_v, sPi_v, sPo_v, sPz_w, zP_b, sRz_w, zR_bw, zR_0w, zR_1w, sPa_v, sAi_v, sAl_v, sAo_v, sAa_v, sM_w, sMp_w, eM_w, sIf_w, eIf_w, cAnd_w, cOr_w, cB_v, cZ_v, cNot_v, eC_v, eI_v, eJ_v, eOp_v, eQ_v, eU_v, eIL_v, eLO_v, eLS_v, eLC_v, eGi_v, eGa_v, eZ_w, eAi_v, eAl_v, eAa_v, eAn_v, aN_v, aI_v, aA_v, sInc_v, sB_okw, sB_xw, eS_okw, eS_xw, eB_okw, eB_xw, oE_w, oS_w, kI_iw, kI_xw, kV_w, kV_xw, kP_iw, kP_xw, List.set_cons_zero, List.set_cons_succ, List.cons_append, List.nil_append, List.length_cons, List.length_nil, List.replicate_succ, List.replicate_zero, List.append_nil, bif_and, bif_or, zne_b01, zeq_b01, bif_d, cond_true, cond_false, nar_0, o_iadd, o_isub, o_imul, c_eq, c_ne, c_lt, c_ge, c_gt, c_le, Nat.reduceAdd, Nat.reduceSub, Nat.zero_add, if_true, if_false, eLl_2, eLi_0, eLi_1, eLi_2, eLi_3, eLi_4, eLi_5, eLi_6, eLi_7, eLi_8, eLi_9, eLi_10, eLi_11, eLi_12, eLi_13, eLa_0, eLa_1, eLa_2, eLa_3, eLa_4, eLa_5, eLa_6, eLa_7, nz_add, nz_mul, nz_sub, nz_lt, nz_le, nz_inj, zeq_nz, zne_nz, zge_nz, zgt_nz, zlt_nz, nlit0, nlit1, nlit2, nlit3, nlit4, nlit5, nlit6, nlit7, nlit8, nlit9, nlit10, nlit11, nlit12, nlit16, nlit18, nlit22, nlit31, nlit32, nlit33, nlit34, nlit40, nlit48, nlit60, nlit63, nlit64, nlit66, nlit80, nlit96, nlit114, nlit126, nlit128, nlit512, nlit756, nlit882, nlit1000, nlit1394, nlit1522, nlit1523, nlit10000, decide_true, decide_false, not_true_eq_false, not_false_eq_true, ne_eq, and_self, and_true, true_and, Bool.and_true, Bool.true_and, Bool.and_false, Bool.false_and, Bool.or_false, Bool.false_or, Bool.or_true, Bool.true_or, Bool.not_true, Bool.not_false, gd_133, rf_133_0, rf_133_1, rf_133_2, rf_133_3, rf_133_4, rf_133_5, rf_133_6, rf_133_7, rf_133_8, rd_133_9, wr_133_9, rd_133_10, wr_133_10, rf_133_11, rd_133_12, wr_133_12, rd_133_13, wr_133_13, rd_133_14, wr_133_14, rd_133_15, wr_133_15, rd_133_16, wr_133_16, rf_133_17, rf_133_18, ar_134, aw_134, an_134, ar_135, aw_135, an_135, ar_136, aw_136, an_136, ar_137, aw_137, ar_138, aw_138, an_138, ar_139, aw_139, an_139, ar_140, aw_140, an_140, ar_141, aw_141, an_141, ar_142, aw_142, an_142, ar_143, aw_143, an_143, ar_144, aw_144, an_144, ar_145, aw_145, MM_3, MM_4, MM_5, MM_ne, MM_s3, MM_s4, MM_s5, su_at, su_ne, h12, h13, hd, r0]
      | true =>
        have hlt := of_decide_eq_true hd
        have q9 : tx (n6T tx t p) = 59 := by
          rcases q with z | z
          · omega
          · exact z
        have qt : (paT tx t (n6T tx t p) = nz 59) = True := by rw [hp59 hlt]; exact eq_true q9
        simp (disch := omega) only [mth_w, kR_w, kR_if, sQ_v, sN_v, sTi_v, sTa_v, sTl_v, sR_v, sRv_v, sX_v, sPi_v, sPo_v, sPz_w, zP_b, sRz_w, zR_bw, zR_0w, zR_1w, sPa_v, sAi_v, sAl_v, sAo_v, sAa_v, sM_w, sMp_w, eM_w, sIf_w, eIf_w, cAnd_w, cOr_w, cB_v, cZ_v, cNot_v, eC_v, eI_v, eJ_v, eOp_v, eQ_v, eU_v, eIL_v, eLO_v, eLS_v, eLC_v, eGi_v, eGa_v, eZ_w, eAi_v, eAl_v, eAa_v, eAn_v, aN_v, aI_v, aA_v, sInc_v, sB_okw, sB_xw, eS_okw, eS_xw, eB_okw, eB_xw, oE_w, oS_w, kI_iw, kI_xw, kV_w, kV_xw, kP_iw, kP_xw, List.set_cons_zero, List.set_cons_succ, List.cons_append, List.nil_append, List.length_cons, List.length_nil, List.replicate_succ, List.replicate_zero, List.append_nil, bif_and, bif_or, zne_b01, zeq_b01, bif_d, cond_true, cond_false, nar_0, o_iadd, o_isub, o_imul, c_eq, c_ne, c_lt, c_ge, c_gt, c_le, Nat.reduceAdd, Nat.reduceSub, Nat.zero_add, if_true, if_false, eLl_2, eLi_0, eLi_1, eLi_2, eLi_3, eLi_4, eLi_5, eLi_6, eLi_7, eLi_8, eLi_9, eLi_10, eLi_11, eLi_12, eLi_13, eLa_0, eLa_1, eLa_2, eLa_3, eLa_4, eLa_5, eLa_6, eLa_7, nz_add, nz_mul, nz_sub, nz_lt, nz_le, nz_inj, zeq_nz, zne_nz, zge_nz, zgt_nz, zlt_nz, nlit0, nlit1, nlit2, nlit3, nlit4, nlit5, nlit6, nlit7, nlit8, nlit9, nlit10, nlit11, nlit12, nlit16, nlit18, nlit22, nlit31, nlit32, nlit33, nlit34, nlit40, nlit48, nlit60, nlit63, nlit64, nlit66, nlit80, nlit96, nlit114, nlit126, nlit128, nlit512, nlit756, nlit882, nlit1000, nlit1394, nlit1522, nlit1523, nlit10000, decide_true, decide_false, not_true_eq_false, not_false_eq_true, ne_eq, and_self, and_true, true_and, Bool.and_true, Bool.true_and, Bool.and_false, Bool.false_and, Bool.or_false, Bool.false_or, Bool.or_true, Bool.true_or, Bool.not_true, Bool.not_false, gd_133, rf_133_0, rf_133_1, rf_133_2, rf_133_3, rf_133_4, rf_133_5, rf_133_6, rf_133_7, rf_133_8, rd_133_9, wr_133_9, rd_133_10, wr_133_10, rf_133_11, rd_133_12, wr_133_12, rd_133_13, wr_133_13, rd_133_14, wr_133_14, rd_133_15, wr_133_15, rd_133_16, wr_133_16, rf_133_17, rf_133_18, ar_134, aw_134, an_134, ar_135, aw_135, an_135, ar_136, aw_136, an_136, ar_137, aw_137, ar_138, aw_138, an_138, ar_139, aw_139, an_139, ar_140, aw_140, an_140, ar_141, aw_141, an_141, ar_142, aw_142, an_142, ar_143, aw_143, an_143, ar_144, aw_144, an_144, ar_145, aw_145, MM_3, MM_4, MM_5, MM_ne, MM_s3, MM_s4, MM_s5, su_at, su_ne, nlit59, h12, h13, hd, pa, qt, r0]
    · unfold kdT psT
      rw [if_neg q1', if_neg q1']
      cases q2 : twT N (frT tx t p) (tnT tx t p) with
      | true =>
        rw [if_pos (show true = true from rfl), if_pos (show true = true from rfl)]
        exact ⟨(r2 q2).1, fun _ => (r2 q2).2, fun z => absurd z (by decide)⟩
      | false =>
        rw [if_neg (show ¬ false = true by decide), if_neg (show ¬ false = true by decide)]
        cases q3 : balT (frT tx t p) (evT tx t p) with
        | false =>
          rw [if_pos (show false = false from rfl), if_pos (show false = false from rfl)]
          exact ⟨(r3 q2 q3).1, fun _ => (r3 q2 q3).2, fun z => absurd z (by decide)⟩
        | true =>
          rw [if_neg (show ¬ true = false by decide), if_neg (show ¬ true = false by decide)]
          cases q4 : balT (frT tx t p) (odT tx t p) with
          | false =>
            rw [if_pos (show false = false from rfl)]
            exact ⟨(r4 q2 q3 q4).1, fun _ => (r4 q2 q3 q4).2, fun z => absurd z (by decide)⟩
          | true =>
            rw [if_neg (show ¬ true = false by decide)]
            obtain ⟨y1, y2, y3⟩ := r5 q2 q3 q4
            exact ⟨y1, fun z => absurd rfl z, fun _ => ⟨by rw [r1 13 (by decide) (by decide), h13], y2, y3⟩⟩
  · rw [decide_eq_false q] at hok
    have hlt : n6T tx t p < t := Nat.lt_of_not_le fun z => q (Or.inl z)
    have q9 : ¬ tx (n6T tx t p) = 59 := fun z => q (Or.inr z)
    have qf : (paT tx t (n6T tx t p) = nz 59) = False := by rw [hp59 hlt]; exact eq_false q9
    have fy := fauT_y (F := F) h16 (n6T tx t p) 1
    have hz : z_eq (fauT F (n6T tx t p) 1 16) = false := by rw [fy, su_ne (by decide), su_at]; exact z11
    have hfp : fpT tx t p = n6T tx t p := by
      unfold fpT
      rw [if_neg c1, if_neg (show ¬ tkT tx t 62 (n2T tx t p) = false by rw [c2]; decide), if_neg c3, if_neg c4]
    refine ⟨[.ref 133, .int (nz p), .int (nz (tnT tx t p)), .int (nz (frT tx t p)), .int (nz (n3T tx t p)), .int (nz (evT tx t p)), .int (nz (q6T tx t p)), .int (nz (odT tx t p)), .int (nz 0)], fauT F (n6T tx t p) 1, B, N, ?_, RmQ.bad hok (fun k k1 k2 k3 => fauT_ne k2 k3) (by rw [fy, su_ne (by decide), su_at]) (by rw [fy, su_at, hfp])⟩
    unfold rd10
    simp (disch := omega) only [mth_w, kR_w, kR_if, sQ_v, sN_v, sTi_v, sTa_v, sTl_v, sR_v, sRv_v, sX_v, sPi_v, sPo_v, sPz_w, zP_b, sRz_w, zR_bw, zR_0w, zR_1w, sPa_v, sAi_v, sAl_v, sAo_v, sAa_v, sM_w, sMp_w, eM_w, sIf_w, eIf_w, cAnd_w, cOr_w, cB_v, cZ_v, cNot_v, eC_v, eI_v, eJ_v, eOp_v, eQ_v, eU_v, eIL_v, eLO_v, eLS_v, eLC_v, eGi_v, eGa_v, eZ_w, eAi_v, eAl_v, eAa_v, eAn_v, aN_v, aI_v, aA_v, sInc_v, sB_okw, sB_xw, eS_okw, eS_xw, eB_okw, eB_xw, oE_w, oS_w, kI_iw, kI_xw, kV_w, kV_xw, kP_iw, kP_xw, List.set_cons_zero, List.set_cons_succ, List.cons_append, List.nil_append, List.length_cons, List.length_nil, List.replicate_succ, List.replicate_zero, List.append_nil, bif_and, bif_or, zne_b01, zeq_b01, bif_d, cond_true, cond_false, nar_0, o_iadd, o_isub, o_imul, c_eq, c_ne, c_lt, c_ge, c_gt, c_le, Nat.reduceAdd, Nat.reduceSub, Nat.zero_add, if_true, if_false, eLl_2, eLi_0, eLi_1, eLi_2, eLi_3, eLi_4, eLi_5, eLi_6, eLi_7, eLi_8, eLi_9, eLi_10, eLi_11, eLi_12, eLi_13, eLa_0, eLa_1, eLa_2, eLa_3, eLa_4, eLa_5, eLa_6, eLa_7, nz_add, nz_mul, nz_sub, nz_lt, nz_le, nz_inj, zeq_nz, zne_nz, zge_nz, zgt_nz, zlt_nz, nlit0, nlit1, nlit2, nlit3, nlit4, nlit5, nlit6, nlit7, nlit8, nlit9, nlit10, nlit11, nlit12, nlit16, nlit18, nlit22, nlit31, nlit32, nlit33, nlit34, nlit40, nlit48, nlit60, nlit63, nlit64, nlit66, nlit80, nlit96, nlit114, nlit126, nlit128, nlit512, nlit756, nlit882, nlit1000, nlit1394, nlit1522, nlit1523, nlit10000, decide_true, decide_false, not_true_eq_false, not_false_eq_true, ne_eq, and_self, and_true, true_and, Bool.and_true, Bool.true_and, Bool.and_false, Bool.false_and, Bool.or_false, Bool.false_or, Bool.or_true, Bool.true_or, Bool.not_true, Bool.not_false, gd_133, rf_133_0, rf_133_1, rf_133_2, rf_133_3, rf_133_4, rf_133_5, rf_133_6, rf_133_7, rf_133_8, rd_133_9, wr_133_9, rd_133_10, wr_133_10, rf_133_11, rd_133_12, wr_133_12, rd_133_13, wr_133_13, rd_133_14, wr_133_14, rd_133_15, wr_133_15, rd_133_16, wr_133_16, rf_133_17, rf_133_18, ar_134, aw_134, an_134, ar_135, aw_135, an_135, ar_136, aw_136, an_136, ar_137, aw_137, ar_138, aw_138, an_138, ar_139, aw_139, an_139, ar_140, aw_140, an_140, ar_141, aw_141, an_141, ar_142, aw_142, an_142, ar_143, aw_143, an_143, ar_144, aw_144, an_144, ar_145, aw_145, MM_3, MM_4, MM_5, MM_ne, MM_s3, MM_s4, MM_s5, su_at, su_ne, nlit59, h12, h13, decide_eq_true hlt, pa, qf, e_faults, rd11_no hz]
theorem e_readsM (hx : TxC tx t (m 143)) (h12 : F 12 = nz t) (h13 : F 13 = nz p) (h16 : F 16 = nz 0) (hp : p ≤ t) : ∃ F' B' N', f_X8_reads [.ref 133] (HM e (MM m F B N) w) = some (HM e (MM m F' B' N') w, .inl none) ∧ RmQ tx t p F B N F' B' N' := by
  have ht := hx.1
  have z00 : ((0 : Nat) = 0) = True := by decide
  have z11 : z_eq (nz 1) = false := by decide
  have l1 := n1_le (tx := tx) hp
  have l2 := n2_le (tx := tx) hp
  have hfr : frT tx t p < 64 := st_lt
  have hev : evT tx t p < 64 := st_lt
  have htn : ∀ h : Hp, (bif tkT tx t 42 p then (some (h, .inl (nz 6)) : RE Int32) else some (h, .inl (nz 1))) = some (h, .inl (nz (tnT tx t p))) := fun h => by
    unfold tnT
    cases tkT tx t 42 p
    · rw [if_neg (show ¬ false = true by decide)]
      rfl
    · rw [if_pos (show true = true from rfl)]
      rfl
  obtain ⟨F1, hF1⟩ : ∃ F1, F1 = su F 13 (nz (n1T tx t p)) := ⟨_, rfl⟩
  have r1 : f_X8_takes [.ref 133, .int (nz 42)] (HM e (MM m F B N) w) = some (HM e (MM m F1 B N) w, .inl (some (.int (b01 (tkT tx t 42 p))))) := by
    rw [hF1]
    exact e_takes hx h12 h13 hp (by decide)
  have f112 : F1 12 = nz t := by rw [hF1, su_ne (by decide), h12]
  have f113 : F1 13 = nz (n1T tx t p) := by rw [hF1, su_at]
  have f116 : F1 16 = nz 0 := by rw [hF1, su_ne (by decide), h16]
  obtain ⟨F2, hF2⟩ : ∃ F2, F2 = sfT tx t (n1T tx t p) F1 := ⟨_, rfl⟩
  have r2 : f_X8_state [.ref 133] (HM e (MM m F1 B N) w) = some (HM e (MM m F2 B N) w, .inl (some (.int (nz (frT tx t p))))) := by
    rw [hF2]
    exact e_stateM hx f112 f113 l1
  have k2 : ∀ k, k ≠ 13 → k ≠ 15 → k ≠ 16 → F2 k = F k := fun k a1 a2 a3 => by rw [hF2, sfT_ne a2 a3 a1, hF1, su_ne a1]
  have f212 : F2 12 = nz t := by rw [k2 12 (by decide) (by decide) (by decide), h12]
  have f213 : F2 13 = nz (n2T tx t p) := by rw [hF2]; exact sfT_13
  obtain ⟨F3, hF3⟩ : ∃ F3, F3 = su F2 13 (nz (nxT tx t 62 (n2T tx t p))) := ⟨_, rfl⟩
  have r3 : f_X8_takes [.ref 133, .int (nz 62)] (HM e (MM m F2 B N) w) = some (HM e (MM m F3 B N) w, .inl (some (.int (b01 (tkT tx t 62 (n2T tx t p)))))) := by
    rw [hF3]
    exact e_takes hx f212 f213 l2 (by decide)
  have k3 : ∀ k, k ≠ 13 → F3 k = F2 k := fun k a1 => by rw [hF3, su_ne a1]
  have f313 : F3 13 = nz (nxT tx t 62 (n2T tx t p)) := by rw [hF3, su_at]
  have f312 : F3 12 = nz t := by rw [k3 12 (by decide), f212]
  have l3x : nxT tx t 62 (n2T tx t p) ≤ t := nx_le l2
  by_cases c1 : frT tx t p = 0
  · have hj := (st_0 (tx := tx) (t := t) (p := n1T tx t p)).mp c1
    have hok : okT tx t p = false := by
      unfold okT
      rw [decide_eq_false (fun z => z c1), Bool.false_and]
    have hfp : fpT tx t p = n1T tx t p := if_pos c1
    have hF2' : F2 = su (su (su F1 13 (nz (n1T tx t p))) 16 (nz 1)) 15 (nz (n1T tx t p)) := by
      rw [hF2]
      unfold sfT
      rw [if_pos (show stT tx t (n1T tx t p) = 0 from c1), hj, Nat.add_zero, fauT_y (by rw [su_ne (by decide), f116])]
    have f216 : F2 16 = nz 1 := by rw [hF2', su_ne (by decide), su_at]
    have f215 : F2 15 = nz (n1T tx t p) := by rw [hF2', su_at]
    have hz : z_eq (F3 16) = false := by rw [k3 16 (by decide), f216]; exact z11
    have fn := fauT_no hz
    have r9 := fun (a1 a2 a3 a4 a5 a6 a7 : Int32) (v8 : Value) => rd10_no (e := e) (w := w) (B := B) (N := N) (a1 := a1) (a2 := a2) (a3 := a3) (a4 := a4) (a5 := a5) (a6 := a6) (a7 := a7) (v8 := v8) hx f312 f313 l3x hz
    refine ⟨F3, B, N, ?_, RmQ.bad hok (fun k a1 a2 a3 => by rw [k3 k a1, k2 k a1 a2 a3]) (by rw [k3 16 (by decide), f216]) (by rw [k3 15 (by decide), f215, hfp])⟩
    rw [reads_eq]
    cases c2 : tkT tx t 62 (n2T tx t p) <;> rw [c2] at r3 <;> simp (disch := omega) only [mth_w, kR_w, kR_if, sQ_v, sN_v, sTi_v, sTa_v, sTl_v, sR_v, sRv_v, sX_v, sPi_v, sPo_v, sPz_w, zP_b, sRz_w, zR_bw, zR_0w, zR_1w, sPa_v, sAi_v, sAl_v, sAo_v, sAa_v, sM_w, sMp_w, eM_w, sIf_w, eIf_w, cAnd_w, cOr_w, cB_v, cZ_v, cNot_v, eC_v, eI_v, eJ_v, eOp_v, eQ_v, eU_v, eIL_v, eLO_v, eLS_v, eLC_v, eGi_v, eGa_v, eZ_w, eAi_v, eAl_v, eAa_v, eAn_v, aN_v, aI_v, aA_v, sInc_v, sB_okw, sB_xw, eS_okw, eS_xw, eB_okw, eB_xw, oE_w, oS_w, kI_iw, kI_xw, kV_w, kV_xw, kP_iw, kP_xw, List.set_cons_zero, List.set_cons_succ, List.cons_append, List.nil_append, List.length_cons, List.length_nil, List.replicate_succ, List.replicate_zero, List.append_nil, bif_and, bif_or, zne_b01, zeq_b01, bif_d, cond_true, cond_false, nar_0, o_iadd, o_isub, o_imul, c_eq, c_ne, c_lt, c_ge, c_gt, c_le, Nat.reduceAdd, Nat.reduceSub, Nat.zero_add, if_true, if_false, eLl_2, eLi_0, eLi_1, eLi_2, eLi_3, eLi_4, eLi_5, eLi_6, eLi_7, eLi_8, eLi_9, eLi_10, eLi_11, eLi_12, eLi_13, eLa_0, eLa_1, eLa_2, eLa_3, eLa_4, eLa_5, eLa_6, eLa_7, nz_add, nz_mul, nz_sub, nz_lt, nz_le, nz_inj, zeq_nz, zne_nz, zge_nz, zgt_nz, zlt_nz, nlit0, nlit1, nlit2, nlit3, nlit4, nlit5, nlit6, nlit7, nlit8, nlit9, nlit10, nlit11, nlit12, nlit16, nlit18, nlit22, nlit31, nlit32, nlit33, nlit34, nlit40, nlit48, nlit60, nlit63, nlit64, nlit66, nlit80, nlit96, nlit114, nlit126, nlit128, nlit512, nlit756, nlit882, nlit1000, nlit1394, nlit1522, nlit1523, nlit10000, decide_true, decide_false, not_true_eq_false, not_false_eq_true, ne_eq, and_self, and_true, true_and, Bool.and_true, Bool.true_and, Bool.and_false, Bool.false_and, Bool.or_false, Bool.false_or, Bool.or_true, Bool.true_or, Bool.not_true, Bool.not_false, gd_133, rf_133_0, rf_133_1, rf_133_2, rf_133_3, rf_133_4, rf_133_5, rf_133_6, rf_133_7, rf_133_8, rd_133_9, wr_133_9, rd_133_10, wr_133_10, rf_133_11, rd_133_12, wr_133_12, rd_133_13, wr_133_13, rd_133_14, wr_133_14, rd_133_15, wr_133_15, rd_133_16, wr_133_16, rf_133_17, rf_133_18, ar_134, aw_134, an_134, ar_135, aw_135, an_135, ar_136, aw_136, an_136, ar_137, aw_137, ar_138, aw_138, an_138, ar_139, aw_139, an_139, ar_140, aw_140, an_140, ar_141, aw_141, an_141, ar_142, aw_142, an_142, ar_143, aw_143, an_143, ar_144, aw_144, an_144, ar_145, aw_145, MM_3, MM_4, MM_5, MM_ne, MM_s3, MM_s4, MM_s5, su_at, su_ne, nlit42, nlit62, h13, r1, htn, r2, r3, f313, e_faults, fn, hz, r9]
  · have c1f : (frT tx t p = 0) = False := eq_false c1
    have hF2' : F2 = su F1 13 (nz (n2T tx t p)) := by
      rw [hF2]
      unfold sfT
      rw [if_neg (show ¬ stT tx t (n1T tx t p) = 0 from c1)]
      rfl
    have f216 : F2 16 = nz 0 := by rw [hF2', su_ne (by decide), f116]
    cases c2 : tkT tx t 62 (n2T tx t p) with
    | false =>
      rw [c2] at r3
      have hnx : nxT tx t 62 (n2T tx t p) = n2T tx t p := if_neg (by rw [c2]; decide)
      rw [hnx] at f313
      have hok : okT tx t p = false := by
        unfold okT
        rw [c2, Bool.false_and, Bool.and_false]
      have hfp : fpT tx t p = n2T tx t p := by
        unfold fpT
        rw [if_neg c1, if_pos c2]
      have f316 : F3 16 = nz 0 := by rw [k3 16 (by decide), f216]
      obtain ⟨F4, hF4⟩ : ∃ F4, F4 = fauT F3 (n2T tx t p) 1 := ⟨_, rfl⟩
      have fy := fauT_y (F := F3) f316 (n2T tx t p) 1
      have f416 : F4 16 = nz 1 := by rw [hF4, fy, su_ne (by decide), su_at]
      have f413 : F4 13 = nz (n2T tx t p) := by rw [hF4, fauT_ne (by decide) (by decide), f313]
      have hz : z_eq (F4 16) = false := by rw [f416]; exact z11
      have r9 := fun (a1 a2 a3 a4 a5 a6 a7 : Int32) (v8 : Value) => rd10_no (e := e) (w := w) (B := B) (N := N) (a1 := a1) (a2 := a2) (a3 := a3) (a4 := a4) (a5 := a5) (a6 := a6) (a7 := a7) (v8 := v8) hx (by rw [hF4, fauT_ne (by decide) (by decide), f312]) f413 l2 hz
      refine ⟨F4, B, N, ?_, RmQ.bad hok (fun k a1 a2 a3 => by rw [hF4, fauT_ne a2 a3, k3 k a1, k2 k a1 a2 a3]) f416 (by rw [hF4, fy, su_at, hfp])⟩
      rw [reads_eq]
      simp (disch := omega) only [mth_w, kR_w, kR_if, sQ_v, sN_v, sTi_v, sTa_v, sTl_v, sR_v, sRv_v, sX_v, sPi_v, sPo_v, sPz_w, zP_b, sRz_w, zR_bw, zR_0w, zR_1w, sPa_v, sAi_v, sAl_v, sAo_v, sAa_v, sM_w, sMp_w, eM_w, sIf_w, eIf_w, cAnd_w, cOr_w, cB_v, cZ_v, cNot_v, eC_v, eI_v, eJ_v, eOp_v, eQ_v, eU_v, eIL_v, eLO_v, eLS_v, eLC_v, eGi_v, eGa_v, eZ_w, eAi_v, eAl_v, eAa_v, eAn_v, aN_v, aI_v, aA_v, sInc_v, sB_okw, sB_xw, eS_okw, eS_xw, eB_okw, eB_xw, oE_w, oS_w, kI_iw, kI_xw, kV_w, kV_xw, kP_iw, kP_xw, List.set_cons_zero, List.set_cons_succ, List.cons_append, List.nil_append, List.length_cons, List.length_nil, List.replicate_succ, List.replicate_zero, List.append_nil, bif_and, bif_or, zne_b01, zeq_b01, bif_d, cond_true, cond_false, nar_0, o_iadd, o_isub, o_imul, c_eq, c_ne, c_lt, c_ge, c_gt, c_le, Nat.reduceAdd, Nat.reduceSub, Nat.zero_add, if_true, if_false, eLl_2, eLi_0, eLi_1, eLi_2, eLi_3, eLi_4, eLi_5, eLi_6, eLi_7, eLi_8, eLi_9, eLi_10, eLi_11, eLi_12, eLi_13, eLa_0, eLa_1, eLa_2, eLa_3, eLa_4, eLa_5, eLa_6, eLa_7, nz_add, nz_mul, nz_sub, nz_lt, nz_le, nz_inj, zeq_nz, zne_nz, zge_nz, zgt_nz, zlt_nz, nlit0, nlit1, nlit2, nlit3, nlit4, nlit5, nlit6, nlit7, nlit8, nlit9, nlit10, nlit11, nlit12, nlit16, nlit18, nlit22, nlit31, nlit32, nlit33, nlit34, nlit40, nlit48, nlit60, nlit63, nlit64, nlit66, nlit80, nlit96, nlit114, nlit126, nlit128, nlit512, nlit756, nlit882, nlit1000, nlit1394, nlit1522, nlit1523, nlit10000, decide_true, decide_false, not_true_eq_false, not_false_eq_true, ne_eq, and_self, and_true, true_and, Bool.and_true, Bool.true_and, Bool.and_false, Bool.false_and, Bool.or_false, Bool.false_or, Bool.or_true, Bool.true_or, Bool.not_true, Bool.not_false, gd_133, rf_133_0, rf_133_1, rf_133_2, rf_133_3, rf_133_4, rf_133_5, rf_133_6, rf_133_7, rf_133_8, rd_133_9, wr_133_9, rd_133_10, wr_133_10, rf_133_11, rd_133_12, wr_133_12, rd_133_13, wr_133_13, rd_133_14, wr_133_14, rd_133_15, wr_133_15, rd_133_16, wr_133_16, rf_133_17, rf_133_18, ar_134, aw_134, an_134, ar_135, aw_135, an_135, ar_136, aw_136, an_136, ar_137, aw_137, ar_138, aw_138, an_138, ar_139, aw_139, an_139, ar_140, aw_140, an_140, ar_141, aw_141, an_141, ar_142, aw_142, an_142, ar_143, aw_143, an_143, ar_144, aw_144, an_144, ar_145, aw_145, MM_3, MM_4, MM_5, MM_ne, MM_s3, MM_s4, MM_s5, su_at, su_ne, nlit42, nlit62, h13, r1, htn, r2, r3, f313, e_faults, ← hF4, f413, hz, r9]
    | true =>
      rw [c2] at r3
      have c2' : ¬ tkT tx t 62 (n2T tx t p) = false := by
        rw [c2]
        decide
      have hnx : nxT tx t 62 (n2T tx t p) = n3T tx t p := if_pos c2
      rw [hnx] at f313
      have l3 := n3_le hp c2
      have l4 := n4_le hp c2
      have f316 : F3 16 = nz 0 := by rw [k3 16 (by decide), f216]
      obtain ⟨F5, hF5⟩ : ∃ F5, F5 = sfT tx t (n3T tx t p) F3 := ⟨_, rfl⟩
      have r5 : f_X8_state [.ref 133] (HM e (MM m F3 B N) w) = some (HM e (MM m F5 B N) w, .inl (some (.int (nz (evT tx t p))))) := by
        rw [hF5]
        exact e_stateM hx f312 f313 l3
      have k5 : ∀ k, k ≠ 13 → k ≠ 15 → k ≠ 16 → F5 k = F k := fun k a1 a2 a3 => by rw [hF5, sfT_ne a2 a3 a1, k3 k a1, k2 k a1 a2 a3]
      have f512 : F5 12 = nz t := by rw [k5 12 (by decide) (by decide) (by decide), h12]
      have f513 : F5 13 = nz (n4T tx t p) := by rw [hF5]; exact sfT_13
      by_cases c3 : evT tx t p = 0
      · have hj := (st_0 (tx := tx) (t := t) (p := n3T tx t p)).mp c3
        have hok : okT tx t p = false := by
          unfold okT
          rw [decide_eq_false (show ¬ evT tx t p ≠ 0 from fun z => z c3), Bool.false_and, Bool.and_false, Bool.and_false]
        have hfp : fpT tx t p = n3T tx t p := by
          unfold fpT
          rw [if_neg c1, if_neg c2', if_pos c3]
        have hF5' : F5 = su (su (su F3 13 (nz (n3T tx t p))) 16 (nz 1)) 15 (nz (n3T tx t p)) := by
          rw [hF5]
          unfold sfT
          rw [if_pos (show stT tx t (n3T tx t p) = 0 from c3), hj, Nat.add_zero, fauT_y (by rw [su_ne (by decide), f316])]
        have f516 : F5 16 = nz 1 := by rw [hF5', su_ne (by decide), su_at]
        have f515 : F5 15 = nz (n3T tx t p) := by rw [hF5', su_at]
        have hz : z_eq (F5 16) = false := by rw [f516]; exact z11
        have r9 := fun (a1 a2 a3 a4 a5 a6 a7 : Int32) (v8 : Value) => rd10_no (e := e) (w := w) (B := B) (N := N) (a1 := a1) (a2 := a2) (a3 := a3) (a4 := a4) (a5 := a5) (a6 := a6) (a7 := a7) (v8 := v8) hx f512 f513 l4 hz
        refine ⟨F5, B, N, ?_, RmQ.bad hok k5 f516 (by rw [f515, hfp])⟩
        rw [reads_eq]
        simp (disch := omega) only [mth_w, kR_w, kR_if, sQ_v, sN_v, sTi_v, sTa_v, sTl_v, sR_v, sRv_v, sX_v, sPi_v, sPo_v, sPz_w, zP_b, sRz_w, zR_bw, zR_0w, zR_1w, sPa_v, sAi_v, sAl_v, sAo_v, sAa_v, sM_w, sMp_w, eM_w, sIf_w, eIf_w, cAnd_w, cOr_w, cB_v, cZ_v, cNot_v, eC_v, eI_v, eJ_v, eOp_v, eQ_v, eU_v, eIL_v, eLO_v, eLS_v, eLC_v, eGi_v, eGa_v, eZ_w, eAi_v, eAl_v, eAa_v, eAn_v, aN_v, aI_v, aA_v, sInc_v, sB_okw, sB_xw, eS_okw, eS_xw, eB_okw, eB_xw, oE_w, oS_w, kI_iw, kI_xw, kV_w, kV_xw, kP_iw, kP_xw, List.set_cons_zero, List.set_cons_succ, List.cons_append, List.nil_append, List.length_cons, List.length_nil, List.replicate_succ, List.replicate_zero, List.append_nil, bif_and, bif_or, zne_b01, zeq_b01, bif_d, cond_true, cond_false, nar_0, o_iadd, o_isub, o_imul, c_eq, c_ne, c_lt, c_ge, c_gt, c_le, Nat.reduceAdd, Nat.reduceSub, Nat.zero_add, if_true, if_false, eLl_2, eLi_0, eLi_1, eLi_2, eLi_3, eLi_4, eLi_5, eLi_6, eLi_7, eLi_8, eLi_9, eLi_10, eLi_11, eLi_12, eLi_13, eLa_0, eLa_1, eLa_2, eLa_3, eLa_4, eLa_5, eLa_6, eLa_7, nz_add, nz_mul, nz_sub, nz_lt, nz_le, nz_inj, zeq_nz, zne_nz, zge_nz, zgt_nz, zlt_nz, nlit0, nlit1, nlit2, nlit3, nlit4, nlit5, nlit6, nlit7, nlit8, nlit9, nlit10, nlit11, nlit12, nlit16, nlit18, nlit22, nlit31, nlit32, nlit33, nlit34, nlit40, nlit48, nlit60, nlit63, nlit64, nlit66, nlit80, nlit96, nlit114, nlit126, nlit128, nlit512, nlit756, nlit882, nlit1000, nlit1394, nlit1522, nlit1523, nlit10000, decide_true, decide_false, not_true_eq_false, not_false_eq_true, ne_eq, and_self, and_true, true_and, Bool.and_true, Bool.true_and, Bool.and_false, Bool.false_and, Bool.or_false, Bool.false_or, Bool.or_true, Bool.true_or, Bool.not_true, Bool.not_false, gd_133, rf_133_0, rf_133_1, rf_133_2, rf_133_3, rf_133_4, rf_133_5, rf_133_6, rf_133_7, rf_133_8, rd_133_9, wr_133_9, rd_133_10, wr_133_10, rf_133_11, rd_133_12, wr_133_12, rd_133_13, wr_133_13, rd_133_14, wr_133_14, rd_133_15, wr_133_15, rd_133_16, wr_133_16, rf_133_17, rf_133_18, ar_134, aw_134, an_134, ar_135, aw_135, an_135, ar_136, aw_136, an_136, ar_137, aw_137, ar_138, aw_138, an_138, ar_139, aw_139, an_139, ar_140, aw_140, an_140, ar_141, aw_141, an_141, ar_142, aw_142, an_142, ar_143, aw_143, an_143, ar_144, aw_144, an_144, ar_145, aw_145, MM_3, MM_4, MM_5, MM_ne, MM_s3, MM_s4, MM_s5, su_at, su_ne, nlit42, nlit62, h13, r1, htn, r2, r3, f313, f316, z00, r5, hz, r9]
      · have hF5' : F5 = su F3 13 (nz (n4T tx t p)) := by
          rw [hF5]
          unfold sfT
          rw [if_neg (show ¬ stT tx t (n3T tx t p) = 0 from c3)]
          rfl
        have f516 : F5 16 = nz 0 := by rw [hF5', su_ne (by decide), f316]
        obtain ⟨F6, hF6⟩ : ∃ F6, F6 = su F5 13 (nz (nxT tx t 124 (n4T tx t p))) := ⟨_, rfl⟩
        have r6 : f_X8_takes [.ref 133, .int (nz 124)] (HM e (MM m F5 B N) w) = some (HM e (MM m F6 B N) w, .inl (some (.int (b01 (barT tx t p))))) := by
          rw [hF6]
          exact e_takes hx f512 f513 l4 (by decide)
        have k6 : ∀ k, k ≠ 13 → F6 k = F5 k := fun k a1 => by rw [hF6, su_ne a1]
        have f612 : F6 12 = nz t := by rw [k6 12 (by decide), f512]
        have f616 : F6 16 = nz 0 := by rw [k6 16 (by decide), f516]
        have l6 := n6_le hp c2
        cases c4 : barT tx t p with
        | false =>
          rw [c4] at r6
          have e6 : n6T tx t p = n4T tx t p := if_neg (by rw [c4]; decide)
          have e7 : odT tx t p = evT tx t p := if_neg (by rw [c4]; decide)
          have e8 : q6T tx t p = n3T tx t p := if_neg (by rw [c4]; decide)
          have hnx2 : nxT tx t 124 (n4T tx t p) = n4T tx t p := if_neg (by rw [show tkT tx t 124 (n4T tx t p) = barT tx t p from rfl, c4]; decide)
          have f613 : F6 13 = nz (n6T tx t p) := by rw [hF6, su_at, hnx2, e6]
          obtain ⟨l', F', B', N', y0, y1, y2, y3, y4⟩ := e_rd10 (e := e) (w := w) (B := B) (N := N) (v8 := .null) hx f612 f613 l6 f616 c1 c2 c3 (by rw [e7]; exact c3)
          refine ⟨F', B', N', ?_, fun k a1 a2 a3 => by rw [y1 k a1 a2 a3, k6 k a1, k5 k a1 a2 a3], y2, y3, y4⟩
          rw [e7, e8] at y0
          rw [reads_eq]
          simp (disch := omega) only [mth_w, kR_w, kR_if, sQ_v, sN_v, sTi_v, sTa_v, sTl_v, sR_v, sRv_v, sX_v, sPi_v, sPo_v, sPz_w, zP_b, sRz_w, zR_bw, zR_0w, zR_1w, sPa_v, sAi_v, sAl_v, sAo_v, sAa_v, sM_w, sMp_w, eM_w, sIf_w, eIf_w, cAnd_w, cOr_w, cB_v, cZ_v, cNot_v, eC_v, eI_v, eJ_v, eOp_v, eQ_v, eU_v, eIL_v, eLO_v, eLS_v, eLC_v, eGi_v, eGa_v, eZ_w, eAi_v, eAl_v, eAa_v, eAn_v, aN_v, aI_v, aA_v, sInc_v, sB_okw, sB_xw, eS_okw, eS_xw, eB_okw, eB_xw, oE_w, oS_w, kI_iw, kI_xw, kV_w, kV_xw, kP_iw, kP_xw, List.set_cons_zero, List.set_cons_succ, List.cons_append, List.nil_append, List.length_cons, List.length_nil, List.replicate_succ, List.replicate_zero, List.append_nil, bif_and, bif_or, zne_b01, zeq_b01, bif_d, cond_true, cond_false, nar_0, o_iadd, o_isub, o_imul, c_eq, c_ne, c_lt, c_ge, c_gt, c_le, Nat.reduceAdd, Nat.reduceSub, Nat.zero_add, if_true, if_false, eLl_2, eLi_0, eLi_1, eLi_2, eLi_3, eLi_4, eLi_5, eLi_6, eLi_7, eLi_8, eLi_9, eLi_10, eLi_11, eLi_12, eLi_13, eLa_0, eLa_1, eLa_2, eLa_3, eLa_4, eLa_5, eLa_6, eLa_7, nz_add, nz_mul, nz_sub, nz_lt, nz_le, nz_inj, zeq_nz, zne_nz, zge_nz, zgt_nz, zlt_nz, nlit0, nlit1, nlit2, nlit3, nlit4, nlit5, nlit6, nlit7, nlit8, nlit9, nlit10, nlit11, nlit12, nlit16, nlit18, nlit22, nlit31, nlit32, nlit33, nlit34, nlit40, nlit48, nlit60, nlit63, nlit64, nlit66, nlit80, nlit96, nlit114, nlit126, nlit128, nlit512, nlit756, nlit882, nlit1000, nlit1394, nlit1522, nlit1523, nlit10000, decide_true, decide_false, not_true_eq_false, not_false_eq_true, ne_eq, and_self, and_true, true_and, Bool.and_true, Bool.true_and, Bool.and_false, Bool.false_and, Bool.or_false, Bool.false_or, Bool.or_true, Bool.true_or, Bool.not_true, Bool.not_false, gd_133, rf_133_0, rf_133_1, rf_133_2, rf_133_3, rf_133_4, rf_133_5, rf_133_6, rf_133_7, rf_133_8, rd_133_9, wr_133_9, rd_133_10, wr_133_10, rf_133_11, rd_133_12, wr_133_12, rd_133_13, wr_133_13, rd_133_14, wr_133_14, rd_133_15, wr_133_15, rd_133_16, wr_133_16, rf_133_17, rf_133_18, ar_134, aw_134, an_134, ar_135, aw_135, an_135, ar_136, aw_136, an_136, ar_137, aw_137, ar_138, aw_138, an_138, ar_139, aw_139, an_139, ar_140, aw_140, an_140, ar_141, aw_141, an_141, ar_142, aw_142, an_142, ar_143, aw_143, an_143, ar_144, aw_144, an_144, ar_145, aw_145, MM_3, MM_4, MM_5, MM_ne, MM_s3, MM_s4, MM_s5, su_at, su_ne, nlit42, nlit62, nlit124, h13, r1, htn, r2, r3, f313, f316, z00, r5, f516, r6, y0]
        | true =>
          rw [c4] at r6
          have e6 : n6T tx t p = n5T tx t p + jjT tx t (n5T tx t p) := if_pos c4
          have e7 : odT tx t p = stT tx t (n5T tx t p) := if_pos c4
          have e8 : q6T tx t p = n5T tx t p := if_pos c4
          have hnx2 : nxT tx t 124 (n4T tx t p) = n5T tx t p := if_pos (show tkT tx t 124 (n4T tx t p) = true from c4)
          have l5 : n5T tx t p ≤ t := by
            have := (tk_y (show tkT tx t 124 (n4T tx t p) = true from c4)).1
            unfold n5T
            omega
          have f613 : F6 13 = nz (n5T tx t p) := by rw [hF6, su_at, hnx2]
          obtain ⟨F7, hF7⟩ : ∃ F7, F7 = sfT tx t (n5T tx t p) F6 := ⟨_, rfl⟩
          have r7 : f_X8_state [.ref 133] (HM e (MM m F6 B N) w) = some (HM e (MM m F7 B N) w, .inl (some (.int (nz (odT tx t p))))) := by
            rw [hF7, e7]
            exact e_stateM hx f612 f613 l5
          have k7 : ∀ k, k ≠ 13 → k ≠ 15 → k ≠ 16 → F7 k = F k := fun k a1 a2 a3 => by rw [hF7, sfT_ne a2 a3 a1, k6 k a1, k5 k a1 a2 a3]
          have f712 : F7 12 = nz t := by rw [k7 12 (by decide) (by decide) (by decide), h12]
          have f713 : F7 13 = nz (n6T tx t p) := by rw [hF7, e6]; exact sfT_13
          by_cases c5 : odT tx t p = 0
          · have hj := (st_0 (tx := tx) (t := t) (p := n5T tx t p)).mp (by rw [← e7]; exact c5)
            have hok : okT tx t p = false := by
              unfold okT
              rw [decide_eq_false (show ¬ odT tx t p ≠ 0 from fun z => z c5), Bool.false_and, Bool.and_false, Bool.and_false, Bool.and_false]
            have hfp : fpT tx t p = n5T tx t p := by
              unfold fpT
              rw [if_neg c1, if_neg c2', if_neg c3, if_pos c5]
            have hF7' : F7 = su (su (su F6 13 (nz (n5T tx t p))) 16 (nz 1)) 15 (nz (n5T tx t p)) := by
              rw [hF7]
              unfold sfT
              rw [if_pos (show stT tx t (n5T tx t p) = 0 by rw [← e7]; exact c5), hj, Nat.add_zero, fauT_y (by rw [su_ne (by decide), f616])]
            have f716 : F7 16 = nz 1 := by rw [hF7', su_ne (by decide), su_at]
            have f715 : F7 15 = nz (n5T tx t p) := by rw [hF7', su_at]
            have hz : z_eq (F7 16) = false := by rw [f716]; exact z11
            have r9 := fun (a1 a2 a3 a4 a5 a6 a7 : Int32) (v8 : Value) => rd10_no (e := e) (w := w) (B := B) (N := N) (a1 := a1) (a2 := a2) (a3 := a3) (a4 := a4) (a5 := a5) (a6 := a6) (a7 := a7) (v8 := v8) hx f712 f713 l6 hz
            refine ⟨F7, B, N, ?_, RmQ.bad hok k7 f716 (by rw [f715, hfp])⟩
            rw [reads_eq]
            simp (disch := omega) only [mth_w, kR_w, kR_if, sQ_v, sN_v, sTi_v, sTa_v, sTl_v, sR_v, sRv_v, sX_v, sPi_v, sPo_v, sPz_w, zP_b, sRz_w, zR_bw, zR_0w, zR_1w, sPa_v, sAi_v, sAl_v, sAo_v, sAa_v, sM_w, sMp_w, eM_w, sIf_w, eIf_w, cAnd_w, cOr_w, cB_v, cZ_v, cNot_v, eC_v, eI_v, eJ_v, eOp_v, eQ_v, eU_v, eIL_v, eLO_v, eLS_v, eLC_v, eGi_v, eGa_v, eZ_w, eAi_v, eAl_v, eAa_v, eAn_v, aN_v, aI_v, aA_v, sInc_v, sB_okw, sB_xw, eS_okw, eS_xw, eB_okw, eB_xw, oE_w, oS_w, kI_iw, kI_xw, kV_w, kV_xw, kP_iw, kP_xw, List.set_cons_zero, List.set_cons_succ, List.cons_append, List.nil_append, List.length_cons, List.length_nil, List.replicate_succ, List.replicate_zero, List.append_nil, bif_and, bif_or, zne_b01, zeq_b01, bif_d, cond_true, cond_false, nar_0, o_iadd, o_isub, o_imul, c_eq, c_ne, c_lt, c_ge, c_gt, c_le, Nat.reduceAdd, Nat.reduceSub, Nat.zero_add, if_true, if_false, eLl_2, eLi_0, eLi_1, eLi_2, eLi_3, eLi_4, eLi_5, eLi_6, eLi_7, eLi_8, eLi_9, eLi_10, eLi_11, eLi_12, eLi_13, eLa_0, eLa_1, eLa_2, eLa_3, eLa_4, eLa_5, eLa_6, eLa_7, nz_add, nz_mul, nz_sub, nz_lt, nz_le, nz_inj, zeq_nz, zne_nz, zge_nz, zgt_nz, zlt_nz, nlit0, nlit1, nlit2, nlit3, nlit4, nlit5, nlit6, nlit7, nlit8, nlit9, nlit10, nlit11, nlit12, nlit16, nlit18, nlit22, nlit31, nlit32, nlit33, nlit34, nlit40, nlit48, nlit60, nlit63, nlit64, nlit66, nlit80, nlit96, nlit114, nlit126, nlit128, nlit512, nlit756, nlit882, nlit1000, nlit1394, nlit1522, nlit1523, nlit10000, decide_true, decide_false, not_true_eq_false, not_false_eq_true, ne_eq, and_self, and_true, true_and, Bool.and_true, Bool.true_and, Bool.and_false, Bool.false_and, Bool.or_false, Bool.false_or, Bool.or_true, Bool.true_or, Bool.not_true, Bool.not_false, gd_133, rf_133_0, rf_133_1, rf_133_2, rf_133_3, rf_133_4, rf_133_5, rf_133_6, rf_133_7, rf_133_8, rd_133_9, wr_133_9, rd_133_10, wr_133_10, rf_133_11, rd_133_12, wr_133_12, rd_133_13, wr_133_13, rd_133_14, wr_133_14, rd_133_15, wr_133_15, rd_133_16, wr_133_16, rf_133_17, rf_133_18, ar_134, aw_134, an_134, ar_135, aw_135, an_135, ar_136, aw_136, an_136, ar_137, aw_137, ar_138, aw_138, an_138, ar_139, aw_139, an_139, ar_140, aw_140, an_140, ar_141, aw_141, an_141, ar_142, aw_142, an_142, ar_143, aw_143, an_143, ar_144, aw_144, an_144, ar_145, aw_145, MM_3, MM_4, MM_5, MM_ne, MM_s3, MM_s4, MM_s5, su_at, su_ne, nlit42, nlit62, nlit124, h13, r1, htn, r2, r3, f313, f316, z00, r5, f516, r6, f613, r7, r9]
          · have hF7' : F7 = su F6 13 (nz (n6T tx t p)) := by
              rw [hF7, e6]
              unfold sfT
              rw [if_neg (show ¬ stT tx t (n5T tx t p) = 0 by rw [← e7]; exact c5)]
            have f716 : F7 16 = nz 0 := by rw [hF7', su_ne (by decide), f616]
            obtain ⟨l', F', B', N', y0, y1, y2, y3, y4⟩ := e_rd10 (e := e) (w := w) (B := B) (N := N) (v8 := .null) hx f712 f713 l6 f716 c1 c2 c3 c5
            refine ⟨F', B', N', ?_, fun k a1 a2 a3 => by rw [y1 k a1 a2 a3, k7 k a1 a2 a3], y2, y3, y4⟩
            rw [e8] at y0
            rw [reads_eq]
            simp (disch := omega) only [mth_w, kR_w, kR_if, sQ_v, sN_v, sTi_v, sTa_v, sTl_v, sR_v, sRv_v, sX_v, sPi_v, sPo_v, sPz_w, zP_b, sRz_w, zR_bw, zR_0w, zR_1w, sPa_v, sAi_v, sAl_v, sAo_v, sAa_v, sM_w, sMp_w, eM_w, sIf_w, eIf_w, cAnd_w, cOr_w, cB_v, cZ_v, cNot_v, eC_v, eI_v, eJ_v, eOp_v, eQ_v, eU_v, eIL_v, eLO_v, eLS_v, eLC_v, eGi_v, eGa_v, eZ_w, eAi_v, eAl_v, eAa_v, eAn_v, aN_v, aI_v, aA_v, sInc_v, sB_okw, sB_xw, eS_okw, eS_xw, eB_okw, eB_xw, oE_w, oS_w, kI_iw, kI_xw, kV_w, kV_xw, kP_iw, kP_xw, List.set_cons_zero, List.set_cons_succ, List.cons_append, List.nil_append, List.length_cons, List.length_nil, List.replicate_succ, List.replicate_zero, List.append_nil, bif_and, bif_or, zne_b01, zeq_b01, bif_d, cond_true, cond_false, nar_0, o_iadd, o_isub, o_imul, c_eq, c_ne, c_lt, c_ge, c_gt, c_le, Nat.reduceAdd, Nat.reduceSub, Nat.zero_add, if_true, if_false, eLl_2, eLi_0, eLi_1, eLi_2, eLi_3, eLi_4, eLi_5, eLi_6, eLi_7, eLi_8, eLi_9, eLi_10, eLi_11, eLi_12, eLi_13, eLa_0, eLa_1, eLa_2, eLa_3, eLa_4, eLa_5, eLa_6, eLa_7, nz_add, nz_mul, nz_sub, nz_lt, nz_le, nz_inj, zeq_nz, zne_nz, zge_nz, zgt_nz, zlt_nz, nlit0, nlit1, nlit2, nlit3, nlit4, nlit5, nlit6, nlit7, nlit8, nlit9, nlit10, nlit11, nlit12, nlit16, nlit18, nlit22, nlit31, nlit32, nlit33, nlit34, nlit40, nlit48, nlit60, nlit63, nlit64, nlit66, nlit80, nlit96, nlit114, nlit126, nlit128, nlit512, nlit756, nlit882, nlit1000, nlit1394, nlit1522, nlit1523, nlit10000, decide_true, decide_false, not_true_eq_false, not_false_eq_true, ne_eq, and_self, and_true, true_and, Bool.and_true, Bool.true_and, Bool.and_false, Bool.false_and, Bool.or_false, Bool.false_or, Bool.or_true, Bool.true_or, Bool.not_true, Bool.not_false, gd_133, rf_133_0, rf_133_1, rf_133_2, rf_133_3, rf_133_4, rf_133_5, rf_133_6, rf_133_7, rf_133_8, rd_133_9, wr_133_9, rd_133_10, wr_133_10, rf_133_11, rd_133_12, wr_133_12, rd_133_13, wr_133_13, rd_133_14, wr_133_14, rd_133_15, wr_133_15, rd_133_16, wr_133_16, rf_133_17, rf_133_18, ar_134, aw_134, an_134, ar_135, aw_135, an_135, ar_136, aw_136, an_136, ar_137, aw_137, ar_138, aw_138, an_138, ar_139, aw_139, an_139, ar_140, aw_140, an_140, ar_141, aw_141, an_141, ar_142, aw_142, an_142, ar_143, aw_143, an_143, ar_144, aw_144, an_144, ar_145, aw_145, MM_3, MM_4, MM_5, MM_ne, MM_s3, MM_s4, MM_s5, su_at, su_ne, nlit42, nlit62, nlit124, h13, r1, htn, r2, r3, f313, f316, z00, r5, f516, r6, f613, r7, y0]
end
