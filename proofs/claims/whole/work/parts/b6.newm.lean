/-! THE MODEL'S CONSTRUCTOR -/
theorem nlit21 : (21 : Int32) = nz 21 := id rfl
theorem nlit36 : (36 : Int32) = nz 36 := id rfl
section
variable {e : Nat → Nat × (Nat → Int32)} {m : Mm} {w : Ml}
theorem new8_a {rest : SX} (hz : ∀ a, 133 ≤ a → m a = Zm a) : (sQ sO (sQ (sPa (eLa 0) 8 0 (eNi 0 1523)) (sQ (sPa (eLa 0) 8 1 (eNi 0 6092)) (sQ (sPa (eLa 0) 8 2 (eNi 0 3046)) (sQ (sPa (eLa 0) 8 3 (eNi 2 2)) (sQ (sPa (eLa 0) 8 4 (eNi 0 1523)) (sQ (sPa (eLa 0) 8 5 (eNi 0 1523)) (sQ (sPa (eLa 0) 8 6 (eNi 0 31232)) (sQ (sPa (eLa 0) 8 7 (eNi 0 512)) (sQ (sPa (eLa 0) 8 8 (eNi 0 12)) (sQ (sPa (eLa 0) 8 11 (eNi 0 80)) (sQ (sPa (eLa 0) 8 17 (eNi 0 128)) (sQ (sPa (eLa 0) 8 18 (eNi 2 64)) rest))))))))))))) [.ref 133, .null] (134, uo (FH e m Zl) 133 (.inr (8, [.null, .null, .null, .null, .null, .null, .null, .null, .null, .int 0, .int 0, .null, .int 0, .int 0, .int 0, .int 0, .int 0, .null, .null]))) = rest [.ref 133, .null] (146, FH e m Zl) := by
  have f0 : FH e m Zl 134 = ar0 0 1523 := (FH_at (by decide) kd_134).trans (by rw [hz 134 (by decide)]; rfl)
  have a0 := eNi_g (l := [.ref 133, .null]) (n := 134) (G := uo (FH e m Zl) 133 (.inr (8, [.null, .null, .null, .null, .null, .null, .null, .null, .null, .int 0, .int 0, .null, .int 0, .int 0, .int 0, .int 0, .int 0, .null, .null]))) (by decide) ((uo_ne (by decide)).trans f0)
  have s0 := sPa_g (p := 133) (r := [.null]) (a := 133) (i := 0) (ci := 8) (k := 0) rfl a0 uo_at (show 0 < 19 by decide)
  rw [uo_uo] at s0
  simp only [List.set_cons_zero, List.set_cons_succ, Nat.reduceAdd] at s0
  have f1 : FH e m Zl 135 = ar0 0 6092 := (FH_at (by decide) kd_135).trans (by rw [hz 135 (by decide)]; rfl)
  have a1 := eNi_g (l := [.ref 133, .null]) (n := 135) (G := uo (FH e m Zl) 133 (.inr (8, [.ref 134, .null, .null, .null, .null, .null, .null, .null, .null, .int 0, .int 0, .null, .int 0, .int 0, .int 0, .int 0, .int 0, .null, .null]))) (by decide) ((uo_ne (by decide)).trans f1)
  have s1 := sPa_g (p := 133) (r := [.null]) (a := 133) (i := 0) (ci := 8) (k := 1) rfl a1 uo_at (show 1 < 19 by decide)
  rw [uo_uo] at s1
  simp only [List.set_cons_zero, List.set_cons_succ, Nat.reduceAdd] at s1
  have f2 : FH e m Zl 136 = ar0 0 3046 := (FH_at (by decide) kd_136).trans (by rw [hz 136 (by decide)]; rfl)
  have a2 := eNi_g (l := [.ref 133, .null]) (n := 136) (G := uo (FH e m Zl) 133 (.inr (8, [.ref 134, .ref 135, .null, .null, .null, .null, .null, .null, .null, .int 0, .int 0, .null, .int 0, .int 0, .int 0, .int 0, .int 0, .null, .null]))) (by decide) ((uo_ne (by decide)).trans f2)
  have s2 := sPa_g (p := 133) (r := [.null]) (a := 133) (i := 0) (ci := 8) (k := 2) rfl a2 uo_at (show 2 < 19 by decide)
  rw [uo_uo] at s2
  simp only [List.set_cons_zero, List.set_cons_succ, Nat.reduceAdd] at s2
  have f3 : FH e m Zl 137 = ar0 2 2 := (FH_at (by decide) kd_137).trans (by rw [hz 137 (by decide)]; rfl)
  have a3 := eNi_g (l := [.ref 133, .null]) (n := 137) (G := uo (FH e m Zl) 133 (.inr (8, [.ref 134, .ref 135, .ref 136, .null, .null, .null, .null, .null, .null, .int 0, .int 0, .null, .int 0, .int 0, .int 0, .int 0, .int 0, .null, .null]))) (by decide) ((uo_ne (by decide)).trans f3)
  have s3 := sPa_g (p := 133) (r := [.null]) (a := 133) (i := 0) (ci := 8) (k := 3) rfl a3 uo_at (show 3 < 19 by decide)
  rw [uo_uo] at s3
  simp only [List.set_cons_zero, List.set_cons_succ, Nat.reduceAdd] at s3
  have f4 : FH e m Zl 138 = ar0 0 1523 := (FH_at (by decide) kd_138).trans (by rw [hz 138 (by decide)]; rfl)
  have a4 := eNi_g (l := [.ref 133, .null]) (n := 138) (G := uo (FH e m Zl) 133 (.inr (8, [.ref 134, .ref 135, .ref 136, .ref 137, .null, .null, .null, .null, .null, .int 0, .int 0, .null, .int 0, .int 0, .int 0, .int 0, .int 0, .null, .null]))) (by decide) ((uo_ne (by decide)).trans f4)
  have s4 := sPa_g (p := 133) (r := [.null]) (a := 133) (i := 0) (ci := 8) (k := 4) rfl a4 uo_at (show 4 < 19 by decide)
  rw [uo_uo] at s4
  simp only [List.set_cons_zero, List.set_cons_succ, Nat.reduceAdd] at s4
  have f5 : FH e m Zl 139 = ar0 0 1523 := (FH_at (by decide) kd_139).trans (by rw [hz 139 (by decide)]; rfl)
  have a5 := eNi_g (l := [.ref 133, .null]) (n := 139) (G := uo (FH e m Zl) 133 (.inr (8, [.ref 134, .ref 135, .ref 136, .ref 137, .ref 138, .null, .null, .null, .null, .int 0, .int 0, .null, .int 0, .int 0, .int 0, .int 0, .int 0, .null, .null]))) (by decide) ((uo_ne (by decide)).trans f5)
  have s5 := sPa_g (p := 133) (r := [.null]) (a := 133) (i := 0) (ci := 8) (k := 5) rfl a5 uo_at (show 5 < 19 by decide)
  rw [uo_uo] at s5
  simp only [List.set_cons_zero, List.set_cons_succ, Nat.reduceAdd] at s5
  have f6 : FH e m Zl 140 = ar0 0 31232 := (FH_at (by decide) kd_140).trans (by rw [hz 140 (by decide)]; rfl)
  have a6 := eNi_g (l := [.ref 133, .null]) (n := 140) (G := uo (FH e m Zl) 133 (.inr (8, [.ref 134, .ref 135, .ref 136, .ref 137, .ref 138, .ref 139, .null, .null, .null, .int 0, .int 0, .null, .int 0, .int 0, .int 0, .int 0, .int 0, .null, .null]))) (by decide) ((uo_ne (by decide)).trans f6)
  have s6 := sPa_g (p := 133) (r := [.null]) (a := 133) (i := 0) (ci := 8) (k := 6) rfl a6 uo_at (show 6 < 19 by decide)
  rw [uo_uo] at s6
  simp only [List.set_cons_zero, List.set_cons_succ, Nat.reduceAdd] at s6
  have f7 : FH e m Zl 141 = ar0 0 512 := (FH_at (by decide) kd_141).trans (by rw [hz 141 (by decide)]; rfl)
  have a7 := eNi_g (l := [.ref 133, .null]) (n := 141) (G := uo (FH e m Zl) 133 (.inr (8, [.ref 134, .ref 135, .ref 136, .ref 137, .ref 138, .ref 139, .ref 140, .null, .null, .int 0, .int 0, .null, .int 0, .int 0, .int 0, .int 0, .int 0, .null, .null]))) (by decide) ((uo_ne (by decide)).trans f7)
  have s7 := sPa_g (p := 133) (r := [.null]) (a := 133) (i := 0) (ci := 8) (k := 7) rfl a7 uo_at (show 7 < 19 by decide)
  rw [uo_uo] at s7
  simp only [List.set_cons_zero, List.set_cons_succ, Nat.reduceAdd] at s7
  have f8 : FH e m Zl 142 = ar0 0 12 := (FH_at (by decide) kd_142).trans (by rw [hz 142 (by decide)]; rfl)
  have a8 := eNi_g (l := [.ref 133, .null]) (n := 142) (G := uo (FH e m Zl) 133 (.inr (8, [.ref 134, .ref 135, .ref 136, .ref 137, .ref 138, .ref 139, .ref 140, .ref 141, .null, .int 0, .int 0, .null, .int 0, .int 0, .int 0, .int 0, .int 0, .null, .null]))) (by decide) ((uo_ne (by decide)).trans f8)
  have s8 := sPa_g (p := 133) (r := [.null]) (a := 133) (i := 0) (ci := 8) (k := 8) rfl a8 uo_at (show 8 < 19 by decide)
  rw [uo_uo] at s8
  simp only [List.set_cons_zero, List.set_cons_succ, Nat.reduceAdd] at s8
  have f9 : FH e m Zl 143 = ar0 0 80 := (FH_at (by decide) kd_143).trans (by rw [hz 143 (by decide)]; rfl)
  have a9 := eNi_g (l := [.ref 133, .null]) (n := 143) (G := uo (FH e m Zl) 133 (.inr (8, [.ref 134, .ref 135, .ref 136, .ref 137, .ref 138, .ref 139, .ref 140, .ref 141, .ref 142, .int 0, .int 0, .null, .int 0, .int 0, .int 0, .int 0, .int 0, .null, .null]))) (by decide) ((uo_ne (by decide)).trans f9)
  have s9 := sPa_g (p := 133) (r := [.null]) (a := 133) (i := 0) (ci := 8) (k := 11) rfl a9 uo_at (show 11 < 19 by decide)
  rw [uo_uo] at s9
  simp only [List.set_cons_zero, List.set_cons_succ, Nat.reduceAdd] at s9
  have f10 : FH e m Zl 144 = ar0 0 128 := (FH_at (by decide) kd_144).trans (by rw [hz 144 (by decide)]; rfl)
  have a10 := eNi_g (l := [.ref 133, .null]) (n := 144) (G := uo (FH e m Zl) 133 (.inr (8, [.ref 134, .ref 135, .ref 136, .ref 137, .ref 138, .ref 139, .ref 140, .ref 141, .ref 142, .int 0, .int 0, .ref 143, .int 0, .int 0, .int 0, .int 0, .int 0, .null, .null]))) (by decide) ((uo_ne (by decide)).trans f10)
  have s10 := sPa_g (p := 133) (r := [.null]) (a := 133) (i := 0) (ci := 8) (k := 17) rfl a10 uo_at (show 17 < 19 by decide)
  rw [uo_uo] at s10
  simp only [List.set_cons_zero, List.set_cons_succ, Nat.reduceAdd] at s10
  have f11 : FH e m Zl 145 = ar0 2 64 := (FH_at (by decide) kd_145).trans (by rw [hz 145 (by decide)]; rfl)
  have a11 := eNi_g (l := [.ref 133, .null]) (n := 145) (G := uo (FH e m Zl) 133 (.inr (8, [.ref 134, .ref 135, .ref 136, .ref 137, .ref 138, .ref 139, .ref 140, .ref 141, .ref 142, .int 0, .int 0, .ref 143, .int 0, .int 0, .int 0, .int 0, .int 0, .ref 144, .null]))) (by decide) ((uo_ne (by decide)).trans f11)
  have s11 := sPa_g (p := 133) (r := [.null]) (a := 133) (i := 0) (ci := 8) (k := 18) rfl a11 uo_at (show 18 < 19 by decide)
  rw [uo_uo] at s11
  simp only [List.set_cons_zero, List.set_cons_succ, Nat.reduceAdd] at s11
  have hf : FH e m Zl 133 = .inr (8, [.ref 134, .ref 135, .ref 136, .ref 137, .ref 138, .ref 139, .ref 140, .ref 141, .ref 142, .int 0, .int 0, .ref 143, .int 0, .int 0, .int 0, .int 0, .int 0, .ref 144, .ref 145]) := (FH_at (by decide) kd_133).trans (by rw [hz 133 (by decide)]; rfl)
  rw [sQ_v, sO_g, sB_okw, sQ_v, s0, sB_okw, sQ_v, s1, sB_okw, sQ_v, s2, sB_okw, sQ_v, s3, sB_okw, sQ_v, s4, sB_okw, sQ_v, s5, sB_okw, sQ_v, s6, sB_okw, sQ_v, s7, sB_okw, sQ_v, s8, sB_okw, sQ_v, s9, sB_okw, sQ_v, s10, sB_okw, sQ_v, s11, sB_okw, uo_self hf]
def mdB (B : St) : Nat → St
  | 0 => B
  | t + 1 => su (su (su (su (mdB B t) (trN 9 t) (nz (trN 18 t))) (64 + trN 9 t) (nz (trN 36 t))) (trN 21 t) (nz (trN 42 t))) (64 + trN 21 t) (nz (trN 42 t))
def mdN (N : St) : Nat → St
  | 0 => N
  | t + 1 => su (su (mdN N t) (trN 9 t) (nz 1)) (trN 21 t) (nz 1)
theorem mdB_6 : ∀ k, k < 128 → mdB (plB (fun _ => 0) 64) 6 k = B0K k := by decide +kernel
theorem e_made8 (hz : ∀ a, 133 ≤ a → m a = Zm a) : ∃ m1, f_X8_init [.ref 133] (134, uo (FH e m Zl) 133 (.inr (8, [.null, .null, .null, .null, .null, .null, .null, .null, .null, .int 0, .int 0, .null, .int 0, .int 0, .int 0, .int 0, .int 0, .null, .null]))) = some ((146, FH e m1 Zl), .inl none) ∧ (∀ a, a ≠ 134 → a ≠ 144 → a ≠ 145 → m1 a = m a) ∧ Sq S0 (m1 134) := by
  obtain ⟨A, hA⟩ : ∃ A, A = su (su (m 134) 0 (nz 16)) 1 (nz 8) := ⟨_, rfl⟩
  obtain ⟨m2, hm2⟩ : ∃ m2, m2 = mw m 134 A := ⟨_, rfl⟩
  have h44 : m2 144 = fun _ => 0 := by rw [hm2, mw_ne (by decide), hz 144 (by decide)]; rfl
  obtain ⟨M, hM⟩ : ∃ M, M = MM m2 (m2 133) (mdB (plB (m2 144) 64) 6) (mdN (plN (m2 145) 64) 6) := ⟨_, rfl⟩
  have M34 : M 134 = A := by rw [hM, MM_ne (by decide) (by decide) (by decide), hm2, mw_at]
  have M44 : M 144 = mdB (plB (fun _ => 0) 64) 6 := by rw [hM, MM_4, h44]
  obtain ⟨m3, hm3⟩ : ∃ m3, m3 = ms (mw M 134 (fun k => if 1394 ≤ k ∧ k < 1522 then M 144 (k - 1394) else M 134 k)) 134 1522 (nz 2) := ⟨_, rfl⟩
  refine ⟨m3, ?_, fun a a1 a2 a3 => ?_, fun k hk => ?_⟩
  · have hend : (146, FH e m3 Zl) = HM (eN e 146) m3 Zl := HM_n.symm
    rw [hend]
    unfold f_X8_init
    have hl : ([.ref 133] ++ List.replicate (2 - ([.ref 133] : List Value).length) .null : List Value) = [.ref 133, .null] := rfl
    rw [mth_w, hl, new8_a hz, ← HM_n]
    have hst1 : ms (ms m 134 0 (nz 16)) 134 1 (nz 8) = m2 := by rw [ms_mw, ms_mw, mw_mw, mw_at, ← hA, hm2]
    have hpl := e_plain (e := eN e 146) (m := m2) (w := Zl) (F := m2 133) (B := m2 144) (N := m2 145)
    rw [MM_self] at hpl
    simp (disch := omega) only [mth_w, kR_w, kR_if, sQ_v, sN_v, sTi_v, sTa_v, sTl_v, sR_v, sRv_v, sX_v, sPi_v, sPo_v, sPz_w, zP_b, sRz_w, zR_bw, zR_0w, zR_1w, sPa_v, sAi_v, sAl_v, sAo_v, sAa_v, sM_w, sMp_w, eM_w, sIf_w, eIf_w, cAnd_w, cOr_w, cB_v, cZ_v, cNot_v, eC_v, eI_v, eJ_v, eOp_v, eQ_v, eU_v, eIL_v, eLO_v, eLS_v, eLC_v, eGi_v, eGa_v, eZ_w, eAi_v, eAl_v, eAa_v, eAn_v, aN_v, aI_v, aA_v, sInc_v, sB_okw, sB_xw, eS_okw, eS_xw, eB_okw, eB_xw, oE_w, oS_w, kI_iw, kI_xw, kV_w, kV_xw, kP_iw, kP_xw, List.set_cons_zero, List.set_cons_succ, List.cons_append, List.nil_append, List.length_cons, List.length_nil, List.replicate_succ, List.replicate_zero, List.append_nil, bif_and, bif_or, zne_b01, zeq_b01, bif_d, cond_true, cond_false, nar_0, o_iadd, o_isub, o_imul, c_eq, c_ne, c_lt, c_ge, c_gt, c_le, Nat.reduceAdd, Nat.reduceSub, Nat.zero_add, if_true, if_false, eLl_2, eLi_0, eLi_1, eLi_2, eLi_3, eLi_4, eLi_5, eLi_6, eLi_7, eLi_8, eLi_9, eLi_10, eLi_11, eLi_12, eLi_13, eLa_0, eLa_1, eLa_2, eLa_3, eLa_4, eLa_5, eLa_6, eLa_7, nlit0, nlit1, nlit2, nlit6, nlit8, nlit9, nlit16, nlit18, nlit21, nlit36, nlit42, nlit128, nlit1394, nlit1522, gd_133, rf_133_0, rf_133_1, rf_133_2, rf_133_3, rf_133_4, rf_133_5, rf_133_6, rf_133_7, rf_133_8, rd_133_9, wr_133_9, rd_133_10, wr_133_10, rf_133_11, rd_133_12, wr_133_12, rd_133_13, wr_133_13, rd_133_14, wr_133_14, rd_133_15, wr_133_15, rd_133_16, wr_133_16, rf_133_17, rf_133_18, ar_134, aw_134, an_134, ar_135, aw_135, an_135, ar_136, aw_136, an_136, ar_137, aw_137, ar_138, aw_138, an_138, ar_139, aw_139, an_139, ar_140, aw_140, an_140, ar_141, aw_141, an_141, ar_142, aw_142, an_142, ar_143, aw_143, an_143, ar_144, aw_144, an_144, ar_145, aw_145, hst1, hpl]
    generalize hR : sLp _ _ NF _ _ = R
    have k1 := sLp_fnR hR (fun t => [.ref 133, .int (nz t)]) (fun t => HM (eN e 146) (MM m2 (m2 133) (mdB (plB (m2 144) 64) t) (mdN (plN (m2 145) 64) t)) Zl) 6 (NF_lt (by omega)) (fun t ht => by
      have n1 := e_names (e := eN e 146) (m := m2) (w := Zl) (F := m2 133) (B := mdB (plB (m2 144) 64) t) (N := mdN (plN (m2 145) 64) t) (fr := 9) (ev := 18) (od := 36) (j := t) (by decide) (by decide) (by decide) ht
      have n2 := e_names (e := eN e 146) (m := m2) (w := Zl) (F := m2 133) (B := su (su (mdB (plB (m2 144) 64) t) (trN 9 t) (nz (trN 18 t))) (64 + trN 9 t) (nz (trN 36 t))) (N := su (mdN (plN (m2 145) 64) t) (trN 9 t) (nz 1)) (fr := 21) (ev := 42) (od := 42) (j := t) (by decide) (by decide) (by decide) ht
      refine ⟨by simp (disch := omega) only [mth_w, kR_w, kR_if, sQ_v, sN_v, sTi_v, sTa_v, sTl_v, sR_v, sRv_v, sX_v, sPi_v, sPo_v, sPz_w, zP_b, sRz_w, zR_bw, zR_0w, zR_1w, sPa_v, sAi_v, sAl_v, sAo_v, sAa_v, sM_w, sMp_w, eM_w, sIf_w, eIf_w, cAnd_w, cOr_w, cB_v, cZ_v, cNot_v, eC_v, eI_v, eJ_v, eOp_v, eQ_v, eU_v, eIL_v, eLO_v, eLS_v, eLC_v, eGi_v, eGa_v, eZ_w, eAi_v, eAl_v, eAa_v, eAn_v, aN_v, aI_v, aA_v, sInc_v, sB_okw, sB_xw, eS_okw, eS_xw, eB_okw, eB_xw, oE_w, oS_w, kI_iw, kI_xw, kV_w, kV_xw, kP_iw, kP_xw, List.set_cons_zero, List.set_cons_succ, List.cons_append, List.nil_append, List.length_cons, List.length_nil, List.replicate_succ, List.replicate_zero, List.append_nil, bif_and, bif_or, zne_b01, zeq_b01, bif_d, cond_true, cond_false, nar_0, o_iadd, o_isub, o_imul, c_eq, c_ne, c_lt, c_ge, c_gt, c_le, Nat.reduceAdd, Nat.reduceSub, Nat.zero_add, if_true, if_false, eLl_2, eLi_0, eLi_1, eLi_2, eLi_3, eLi_4, eLi_5, eLi_6, eLi_7, eLi_8, eLi_9, eLi_10, eLi_11, eLi_12, eLi_13, eLa_0, eLa_1, eLa_2, eLa_3, eLa_4, eLa_5, eLa_6, eLa_7, nz_add, nz_mul, nz_sub, nz_lt, nz_le, nz_inj, zeq_nz, zne_nz, zge_nz, zgt_nz, zlt_nz, nlit0, nlit1, nlit2, nlit3, nlit4, nlit5, nlit6, nlit7, nlit8, nlit9, nlit10, nlit11, nlit12, nlit16, nlit18, nlit22, nlit31, nlit32, nlit33, nlit34, nlit40, nlit48, nlit60, nlit63, nlit64, nlit66, nlit80, nlit96, nlit114, nlit126, nlit128, nlit512, nlit756, nlit882, nlit1000, nlit1394, nlit1522, nlit1523, nlit10000, decide_eq_true ht], ?_⟩
      show _ = some (HM (eN e 146) (MM m2 (m2 133) (su (su (su (su (mdB (plB (m2 144) 64) t) (trN 9 t) (nz (trN 18 t))) (64 + trN 9 t) (nz (trN 36 t))) (trN 21 t) (nz (trN 42 t))) (64 + trN 21 t) (nz (trN 42 t))) (su (su (mdN (plN (m2 145) 64) t) (trN 9 t) (nz 1)) (trN 21 t) (nz 1))) Zl, _)
      simp (disch := omega) only [mth_w, kR_w, kR_if, sQ_v, sN_v, sTi_v, sTa_v, sTl_v, sR_v, sRv_v, sX_v, sPi_v, sPo_v, sPz_w, zP_b, sRz_w, zR_bw, zR_0w, zR_1w, sPa_v, sAi_v, sAl_v, sAo_v, sAa_v, sM_w, sMp_w, eM_w, sIf_w, eIf_w, cAnd_w, cOr_w, cB_v, cZ_v, cNot_v, eC_v, eI_v, eJ_v, eOp_v, eQ_v, eU_v, eIL_v, eLO_v, eLS_v, eLC_v, eGi_v, eGa_v, eZ_w, eAi_v, eAl_v, eAa_v, eAn_v, aN_v, aI_v, aA_v, sInc_v, sB_okw, sB_xw, eS_okw, eS_xw, eB_okw, eB_xw, oE_w, oS_w, kI_iw, kI_xw, kV_w, kV_xw, kP_iw, kP_xw, List.set_cons_zero, List.set_cons_succ, List.cons_append, List.nil_append, List.length_cons, List.length_nil, List.replicate_succ, List.replicate_zero, List.append_nil, bif_and, bif_or, zne_b01, zeq_b01, bif_d, cond_true, cond_false, nar_0, o_iadd, o_isub, o_imul, c_eq, c_ne, c_lt, c_ge, c_gt, c_le, Nat.reduceAdd, Nat.reduceSub, Nat.zero_add, if_true, if_false, eLl_2, eLi_0, eLi_1, eLi_2, eLi_3, eLi_4, eLi_5, eLi_6, eLi_7, eLi_8, eLi_9, eLi_10, eLi_11, eLi_12, eLi_13, eLa_0, eLa_1, eLa_2, eLa_3, eLa_4, eLa_5, eLa_6, eLa_7, nz_add, nz_mul, nz_sub, nz_lt, nz_le, nz_inj, zeq_nz, zne_nz, zge_nz, zgt_nz, zlt_nz, nlit0, nlit1, nlit2, nlit3, nlit4, nlit5, nlit6, nlit7, nlit8, nlit9, nlit10, nlit11, nlit12, nlit16, nlit18, nlit22, nlit31, nlit32, nlit33, nlit34, nlit40, nlit48, nlit60, nlit63, nlit64, nlit66, nlit80, nlit96, nlit114, nlit126, nlit128, nlit512, nlit756, nlit882, nlit1000, nlit1394, nlit1522, nlit1523, nlit10000, gd_133, rf_133_0, rf_133_1, rf_133_2, rf_133_3, rf_133_4, rf_133_5, rf_133_6, rf_133_7, rf_133_8, rd_133_9, wr_133_9, rd_133_10, wr_133_10, rf_133_11, rd_133_12, wr_133_12, rd_133_13, wr_133_13, rd_133_14, wr_133_14, rd_133_15, wr_133_15, rd_133_16, wr_133_16, rf_133_17, rf_133_18, ar_134, aw_134, an_134, ar_135, aw_135, an_135, ar_136, aw_136, an_136, ar_137, aw_137, ar_138, aw_138, an_138, ar_139, aw_139, an_139, ar_140, aw_140, an_140, ar_141, aw_141, an_141, ar_142, aw_142, an_142, ar_143, aw_143, an_143, ar_144, aw_144, an_144, ar_145, aw_145, n1, n2]) (by
      simp (disch := omega) only [mth_w, kR_w, kR_if, sQ_v, sN_v, sTi_v, sTa_v, sTl_v, sR_v, sRv_v, sX_v, sPi_v, sPo_v, sPz_w, zP_b, sRz_w, zR_bw, zR_0w, zR_1w, sPa_v, sAi_v, sAl_v, sAo_v, sAa_v, sM_w, sMp_w, eM_w, sIf_w, eIf_w, cAnd_w, cOr_w, cB_v, cZ_v, cNot_v, eC_v, eI_v, eJ_v, eOp_v, eQ_v, eU_v, eIL_v, eLO_v, eLS_v, eLC_v, eGi_v, eGa_v, eZ_w, eAi_v, eAl_v, eAa_v, eAn_v, aN_v, aI_v, aA_v, sInc_v, sB_okw, sB_xw, eS_okw, eS_xw, eB_okw, eB_xw, oE_w, oS_w, kI_iw, kI_xw, kV_w, kV_xw, kP_iw, kP_xw, List.set_cons_zero, List.set_cons_succ, List.cons_append, List.nil_append, List.length_cons, List.length_nil, List.replicate_succ, List.replicate_zero, List.append_nil, bif_and, bif_or, zne_b01, zeq_b01, bif_d, cond_true, cond_false, nar_0, o_iadd, o_isub, o_imul, c_eq, c_ne, c_lt, c_ge, c_gt, c_le, Nat.reduceAdd, Nat.reduceSub, Nat.zero_add, if_true, if_false, eLl_2, eLi_0, eLi_1, eLi_2, eLi_3, eLi_4, eLi_5, eLi_6, eLi_7, eLi_8, eLi_9, eLi_10, eLi_11, eLi_12, eLi_13, eLa_0, eLa_1, eLa_2, eLa_3, eLa_4, eLa_5, eLa_6, eLa_7, nz_add, nz_mul, nz_sub, nz_lt, nz_le, nz_inj, zeq_nz, zne_nz, zge_nz, zgt_nz, zlt_nz, nlit0, nlit1, nlit2, nlit3, nlit4, nlit5, nlit6, nlit7, nlit8, nlit9, nlit10, nlit11, nlit12, nlit16, nlit18, nlit22, nlit31, nlit32, nlit33, nlit34, nlit40, nlit48, nlit60, nlit63, nlit64, nlit66, nlit80, nlit96, nlit114, nlit126, nlit128, nlit512, nlit756, nlit882, nlit1000, nlit1394, nlit1522, nlit1523, nlit10000]
      simp) rfl rfl
    rw [k1, ← hM]
    simp (disch := omega) only [mth_w, kR_w, kR_if, sQ_v, sN_v, sTi_v, sTa_v, sTl_v, sR_v, sRv_v, sX_v, sPi_v, sPo_v, sPz_w, zP_b, sRz_w, zR_bw, zR_0w, zR_1w, sPa_v, sAi_v, sAl_v, sAo_v, sAa_v, sM_w, sMp_w, eM_w, sIf_w, eIf_w, cAnd_w, cOr_w, cB_v, cZ_v, cNot_v, eC_v, eI_v, eJ_v, eOp_v, eQ_v, eU_v, eIL_v, eLO_v, eLS_v, eLC_v, eGi_v, eGa_v, eZ_w, eAi_v, eAl_v, eAa_v, eAn_v, aN_v, aI_v, aA_v, sInc_v, sB_okw, sB_xw, eS_okw, eS_xw, eB_okw, eB_xw, oE_w, oS_w, kI_iw, kI_xw, kV_w, kV_xw, kP_iw, kP_xw, List.set_cons_zero, List.set_cons_succ, List.cons_append, List.nil_append, List.length_cons, List.length_nil, List.replicate_succ, List.replicate_zero, List.append_nil, bif_and, bif_or, zne_b01, zeq_b01, bif_d, cond_true, cond_false, nar_0, o_iadd, o_isub, o_imul, c_eq, c_ne, c_lt, c_ge, c_gt, c_le, Nat.reduceAdd, Nat.reduceSub, Nat.zero_add, if_true, if_false, eLl_2, eLi_0, eLi_1, eLi_2, eLi_3, eLi_4, eLi_5, eLi_6, eLi_7, eLi_8, eLi_9, eLi_10, eLi_11, eLi_12, eLi_13, eLa_0, eLa_1, eLa_2, eLa_3, eLa_4, eLa_5, eLa_6, eLa_7]
    generalize hR2 : sLp _ _ NF _ _ = R2
    have lo := sLp_fnR hR2 (fun j => [.ref 133, .int (nz j)]) (fun j => HM (eN e 146) (mw M 134 (fun k => if 1394 ≤ k ∧ k < 1394 + j then M 144 (k - 1394) else M 134 k)) Zl) 128 (NF_lt (by omega)) (fun j hj => by
      refine ⟨by simp (disch := omega) only [mth_w, kR_w, kR_if, sQ_v, sN_v, sTi_v, sTa_v, sTl_v, sR_v, sRv_v, sX_v, sPi_v, sPo_v, sPz_w, zP_b, sRz_w, zR_bw, zR_0w, zR_1w, sPa_v, sAi_v, sAl_v, sAo_v, sAa_v, sM_w, sMp_w, eM_w, sIf_w, eIf_w, cAnd_w, cOr_w, cB_v, cZ_v, cNot_v, eC_v, eI_v, eJ_v, eOp_v, eQ_v, eU_v, eIL_v, eLO_v, eLS_v, eLC_v, eGi_v, eGa_v, eZ_w, eAi_v, eAl_v, eAa_v, eAn_v, aN_v, aI_v, aA_v, sInc_v, sB_okw, sB_xw, eS_okw, eS_xw, eB_okw, eB_xw, oE_w, oS_w, kI_iw, kI_xw, kV_w, kV_xw, kP_iw, kP_xw, List.set_cons_zero, List.set_cons_succ, List.cons_append, List.nil_append, List.length_cons, List.length_nil, List.replicate_succ, List.replicate_zero, List.append_nil, bif_and, bif_or, zne_b01, zeq_b01, bif_d, cond_true, cond_false, nar_0, o_iadd, o_isub, o_imul, c_eq, c_ne, c_lt, c_ge, c_gt, c_le, Nat.reduceAdd, Nat.reduceSub, Nat.zero_add, if_true, if_false, eLl_2, eLi_0, eLi_1, eLi_2, eLi_3, eLi_4, eLi_5, eLi_6, eLi_7, eLi_8, eLi_9, eLi_10, eLi_11, eLi_12, eLi_13, eLa_0, eLa_1, eLa_2, eLa_3, eLa_4, eLa_5, eLa_6, eLa_7, nz_add, nz_mul, nz_sub, nz_lt, nz_le, nz_inj, zeq_nz, zne_nz, zge_nz, zgt_nz, zlt_nz, nlit0, nlit1, nlit2, nlit3, nlit4, nlit5, nlit6, nlit7, nlit8, nlit9, nlit10, nlit11, nlit12, nlit16, nlit18, nlit22, nlit31, nlit32, nlit33, nlit34, nlit40, nlit48, nlit60, nlit63, nlit64, nlit66, nlit80, nlit96, nlit114, nlit126, nlit128, nlit512, nlit756, nlit882, nlit1000, nlit1394, nlit1522, nlit1523, nlit10000, decide_eq_true hj], ?_⟩
      have hst : ms (mw M 134 (fun k => if 1394 ≤ k ∧ k < 1394 + j then M 144 (k - 1394) else M 134 k)) 134 (1394 + j) (M 144 j) = mw M 134 (fun k => if 1394 ≤ k ∧ k < 1394 + (j + 1) then M 144 (k - 1394) else M 134 k) := by
        rw [ms_mw, mw_mw, mw_at]
        refine congrArg (mw M 134) (funext fun k => ?_)
        rw [su_v]
        by_cases q1 : k = 1394 + j
        · rw [if_pos q1, if_pos (by omega), show k - 1394 = j by omega]
        · rw [if_neg q1]
          by_cases q2 : 1394 ≤ k ∧ k < 1394 + j
          · rw [if_pos q2, if_pos (by omega)]
          · rw [if_neg q2, if_neg (by omega)]
      simp (disch := omega) only [mth_w, kR_w, kR_if, sQ_v, sN_v, sTi_v, sTa_v, sTl_v, sR_v, sRv_v, sX_v, sPi_v, sPo_v, sPz_w, zP_b, sRz_w, zR_bw, zR_0w, zR_1w, sPa_v, sAi_v, sAl_v, sAo_v, sAa_v, sM_w, sMp_w, eM_w, sIf_w, eIf_w, cAnd_w, cOr_w, cB_v, cZ_v, cNot_v, eC_v, eI_v, eJ_v, eOp_v, eQ_v, eU_v, eIL_v, eLO_v, eLS_v, eLC_v, eGi_v, eGa_v, eZ_w, eAi_v, eAl_v, eAa_v, eAn_v, aN_v, aI_v, aA_v, sInc_v, sB_okw, sB_xw, eS_okw, eS_xw, eB_okw, eB_xw, oE_w, oS_w, kI_iw, kI_xw, kV_w, kV_xw, kP_iw, kP_xw, List.set_cons_zero, List.set_cons_succ, List.cons_append, List.nil_append, List.length_cons, List.length_nil, List.replicate_succ, List.replicate_zero, List.append_nil, bif_and, bif_or, zne_b01, zeq_b01, bif_d, cond_true, cond_false, nar_0, o_iadd, o_isub, o_imul, c_eq, c_ne, c_lt, c_ge, c_gt, c_le, Nat.reduceAdd, Nat.reduceSub, Nat.zero_add, if_true, if_false, eLl_2, eLi_0, eLi_1, eLi_2, eLi_3, eLi_4, eLi_5, eLi_6, eLi_7, eLi_8, eLi_9, eLi_10, eLi_11, eLi_12, eLi_13, eLa_0, eLa_1, eLa_2, eLa_3, eLa_4, eLa_5, eLa_6, eLa_7, nz_add, nz_mul, nz_sub, nz_lt, nz_le, nz_inj, zeq_nz, zne_nz, zge_nz, zgt_nz, zlt_nz, nlit0, nlit1, nlit2, nlit3, nlit4, nlit5, nlit6, nlit7, nlit8, nlit9, nlit10, nlit11, nlit12, nlit16, nlit18, nlit22, nlit31, nlit32, nlit33, nlit34, nlit40, nlit48, nlit60, nlit63, nlit64, nlit66, nlit80, nlit96, nlit114, nlit126, nlit128, nlit512, nlit756, nlit882, nlit1000, nlit1394, nlit1522, nlit1523, nlit10000, decide_true, decide_false, not_true_eq_false, not_false_eq_true, ne_eq, and_self, and_true, true_and, Bool.and_true, Bool.true_and, Bool.and_false, Bool.false_and, Bool.or_false, Bool.false_or, Bool.or_true, Bool.true_or, Bool.not_true, Bool.not_false, gd_133, rf_133_0, rf_133_1, rf_133_2, rf_133_3, rf_133_4, rf_133_5, rf_133_6, rf_133_7, rf_133_8, rd_133_9, wr_133_9, rd_133_10, wr_133_10, rf_133_11, rd_133_12, wr_133_12, rd_133_13, wr_133_13, rd_133_14, wr_133_14, rd_133_15, wr_133_15, rd_133_16, wr_133_16, rf_133_17, rf_133_18, ar_134, aw_134, an_134, ar_135, aw_135, an_135, ar_136, aw_136, an_136, ar_137, aw_137, ar_138, aw_138, an_138, ar_139, aw_139, an_139, ar_140, aw_140, an_140, ar_141, aw_141, an_141, ar_142, aw_142, an_142, ar_143, aw_143, an_143, ar_144, aw_144, an_144, ar_145, aw_145, mw_ne, hst]) (by
      simp (disch := omega) only [mth_w, kR_w, kR_if, sQ_v, sN_v, sTi_v, sTa_v, sTl_v, sR_v, sRv_v, sX_v, sPi_v, sPo_v, sPz_w, zP_b, sRz_w, zR_bw, zR_0w, zR_1w, sPa_v, sAi_v, sAl_v, sAo_v, sAa_v, sM_w, sMp_w, eM_w, sIf_w, eIf_w, cAnd_w, cOr_w, cB_v, cZ_v, cNot_v, eC_v, eI_v, eJ_v, eOp_v, eQ_v, eU_v, eIL_v, eLO_v, eLS_v, eLC_v, eGi_v, eGa_v, eZ_w, eAi_v, eAl_v, eAa_v, eAn_v, aN_v, aI_v, aA_v, sInc_v, sB_okw, sB_xw, eS_okw, eS_xw, eB_okw, eB_xw, oE_w, oS_w, kI_iw, kI_xw, kV_w, kV_xw, kP_iw, kP_xw, List.set_cons_zero, List.set_cons_succ, List.cons_append, List.nil_append, List.length_cons, List.length_nil, List.replicate_succ, List.replicate_zero, List.append_nil, bif_and, bif_or, zne_b01, zeq_b01, bif_d, cond_true, cond_false, nar_0, o_iadd, o_isub, o_imul, c_eq, c_ne, c_lt, c_ge, c_gt, c_le, Nat.reduceAdd, Nat.reduceSub, Nat.zero_add, if_true, if_false, eLl_2, eLi_0, eLi_1, eLi_2, eLi_3, eLi_4, eLi_5, eLi_6, eLi_7, eLi_8, eLi_9, eLi_10, eLi_11, eLi_12, eLi_13, eLa_0, eLa_1, eLa_2, eLa_3, eLa_4, eLa_5, eLa_6, eLa_7, nz_add, nz_mul, nz_sub, nz_lt, nz_le, nz_inj, zeq_nz, zne_nz, zge_nz, zgt_nz, zlt_nz, nlit0, nlit1, nlit2, nlit3, nlit4, nlit5, nlit6, nlit7, nlit8, nlit9, nlit10, nlit11, nlit12, nlit16, nlit18, nlit22, nlit31, nlit32, nlit33, nlit34, nlit40, nlit48, nlit60, nlit63, nlit64, nlit66, nlit80, nlit96, nlit114, nlit126, nlit128, nlit512, nlit756, nlit882, nlit1000, nlit1394, nlit1522, nlit1523, nlit10000]
      simp) rfl (by
      have : (fun k => if 1394 ≤ k ∧ k < 1394 + 0 then M 144 (k - 1394) else M 134 k) = M 134 := funext fun k => if_neg (by omega)
      rw [this, mw_self])
    rw [lo]
    simp (disch := omega) only [mth_w, kR_w, kR_if, sQ_v, sN_v, sTi_v, sTa_v, sTl_v, sR_v, sRv_v, sX_v, sPi_v, sPo_v, sPz_w, zP_b, sRz_w, zR_bw, zR_0w, zR_1w, sPa_v, sAi_v, sAl_v, sAo_v, sAa_v, sM_w, sMp_w, eM_w, sIf_w, eIf_w, cAnd_w, cOr_w, cB_v, cZ_v, cNot_v, eC_v, eI_v, eJ_v, eOp_v, eQ_v, eU_v, eIL_v, eLO_v, eLS_v, eLC_v, eGi_v, eGa_v, eZ_w, eAi_v, eAl_v, eAa_v, eAn_v, aN_v, aI_v, aA_v, sInc_v, sB_okw, sB_xw, eS_okw, eS_xw, eB_okw, eB_xw, oE_w, oS_w, kI_iw, kI_xw, kV_w, kV_xw, kP_iw, kP_xw, List.set_cons_zero, List.set_cons_succ, List.cons_append, List.nil_append, List.length_cons, List.length_nil, List.replicate_succ, List.replicate_zero, List.append_nil, bif_and, bif_or, zne_b01, zeq_b01, bif_d, cond_true, cond_false, nar_0, o_iadd, o_isub, o_imul, c_eq, c_ne, c_lt, c_ge, c_gt, c_le, Nat.reduceAdd, Nat.reduceSub, Nat.zero_add, if_true, if_false, eLl_2, eLi_0, eLi_1, eLi_2, eLi_3, eLi_4, eLi_5, eLi_6, eLi_7, eLi_8, eLi_9, eLi_10, eLi_11, eLi_12, eLi_13, eLa_0, eLa_1, eLa_2, eLa_3, eLa_4, eLa_5, eLa_6, eLa_7, nz_add, nz_mul, nz_sub, nz_lt, nz_le, nz_inj, zeq_nz, zne_nz, zge_nz, zgt_nz, zlt_nz, nlit0, nlit1, nlit2, nlit3, nlit4, nlit5, nlit6, nlit7, nlit8, nlit9, nlit10, nlit11, nlit12, nlit16, nlit18, nlit22, nlit31, nlit32, nlit33, nlit34, nlit40, nlit48, nlit60, nlit63, nlit64, nlit66, nlit80, nlit96, nlit114, nlit126, nlit128, nlit512, nlit756, nlit882, nlit1000, nlit1394, nlit1522, nlit1523, nlit10000, gd_133, rf_133_0, rf_133_1, rf_133_2, rf_133_3, rf_133_4, rf_133_5, rf_133_6, rf_133_7, rf_133_8, rd_133_9, wr_133_9, rd_133_10, wr_133_10, rf_133_11, rd_133_12, wr_133_12, rd_133_13, wr_133_13, rd_133_14, wr_133_14, rd_133_15, wr_133_15, rd_133_16, wr_133_16, rf_133_17, rf_133_18, ar_134, aw_134, an_134, ar_135, aw_135, an_135, ar_136, aw_136, an_136, ar_137, aw_137, ar_138, aw_138, an_138, ar_139, aw_139, an_139, ar_140, aw_140, an_140, ar_141, aw_141, an_141, ar_142, aw_142, an_142, ar_143, aw_143, an_143, ar_144, aw_144, an_144, ar_145, aw_145, mw_ne, ← hm3]
  · rw [hm3, ms_ne a1, mw_ne a1, hM]
    by_cases q : a = 133
    · rw [q, MM_3, hm2, mw_ne (by decide)]
    · rw [MM_ne q a2 a3, hm2, mw_ne a1]
  · rw [hm3, ms_mw, mw_at, mw_at, su_v, M34, M44]
    unfold S0 bkT1
    by_cases q1 : k = 1522
    · rw [if_neg (show ¬ (1394 ≤ k ∧ k < 1522) by omega), if_pos q1, if_pos q1]
    · rw [if_neg q1]
      by_cases q2 : 1394 ≤ k ∧ k < 1522
      · rw [if_pos q2, if_pos q2, mdB_6 _ (by omega), if_neg q1]
      · rw [if_neg q2, if_neg q2, if_neg q1, hA, su_v, su_v, hz 134 (by decide)]
        by_cases q3 : k = 1
        · rw [if_pos q3, q3, S00_1]
        · rw [if_neg q3]
          by_cases q4 : k = 0
          · rw [if_pos q4, q4, S00_0]
          · rw [if_neg q4, S00_z (by omega)]
            rfl
end
