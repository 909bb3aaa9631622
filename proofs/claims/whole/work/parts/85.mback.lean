/-! THE MODEL'S TICK TAKEN BACK -/
theorem sm_neg {n : Nat} {f : Nat → Int32} : sm n (fun i => -nz 1 * f i) = -nz 1 * sm n f := sm_mul
theorem sm_op {f : Nat → Int32} : sm 6 (fun d => f (opN d)) = sm 6 f := by
  have h : ∀ g : Nat → Int32, sm 6 g = nz 0 + g 0 + g 1 + g 2 + g 3 + g 4 + g 5 := fun g => rfl
  rw [h, h]
  show nz 0 + f 3 + f 4 + f 5 + f 0 + f 1 + f 2 = nz 0 + f 0 + f 1 + f 2 + f 3 + f 4 + f 5
  ac_rfl
theorem neg_mulz (x : Int32) : -nz 1 * x = -x := by rw [Int32.neg_mul, show nz 1 * x = x from Int32.one_mul x]
section
variable {S : St} {T : Nat} {e : Nat → Nat × (Nat → Int32)} {m : Mm} {w : Ml} {h : Hp}
theorem mo_op {x d : Nat} (hx : x < 2) (hd : d < 6) : mo x (opN d) = -mo x d := by
  have : ∀ x, x < 2 → ∀ d, d < 6 → mo x (opN d) = -mo x d := by decide
  exact this x hx d hd
def inB (S : St) (r d c k : Nat) : Int32 := if 34 ≤ k ∧ k < 66 then nz 0 else -nz 1 * inS (vir S) r (opN d) c k
def tgB (S : St) (r d c : Nat) : Option (Nat × Nat) := match tgS (vir S) r (opN d) c with
  | none => none
  | some q => some (opN q.1, q.2)
theorem sol_eq (hw : WF T S) {c r : Nat} (hc : c < 32) (hr : r < 16) (hz : z_ge (vS S c r) = false) : vS (vir S) c r = vS S c r := by
  rw [vir_v hc hr, hz, if_neg (by decide)]
theorem e_stepBack {r d c : Nat} (hw : WF T S) (hrg : rgB S = true) (hr : r < hN S) (hd : d < 6) (hc : c < wN S) (hA : ∀ k, k < 8 → m 134 k = S k) (hcell : ∀ c r, c < 32 → r < 16 → vS (m 134) c r = vS S c r) :
    ∃ m', f_X8_stepBack [.ref 133, .int (nz c), .int (nz r), .int (nz d)] (HM e m w) = some (HM e m' w, .inl none) ∧ (∀ a, a ≠ 134 → a ≠ 141 → a ≠ 142 → m' a = m a) ∧ (∀ k, m' 134 k = m 134 k + inB S r d c k) ∧ (∀ i, i < 12 → m' 142 i = m 142 i + -nz 1 * inS (vir S) r (opN d) c (22 + i)) ∧ ∀ p j, j < 32 → (bt (m' 141 p) j = true ↔ bt (m 141 p) j = true ∨ tgB S r d c = some (j, p)) := by
  have hW := hw.1
  have hH := hw.2.1
  have q6 : ((6 : Nat) = 0) = False := by simp
  have ho := opN_lt d
  have hoe : (d + 3) % 6 = opN d := rfl
  have hR3 : S 3 = nz 1 := of_decide_eq_true hrg
  have h0 : m 134 0 = nz (wN S) := by rw [hA 0 (by decide)]; exact hW.2.2
  have h1 : m 134 1 = nz (hN S) := by rw [hA 1 (by decide)]; exact hH.2.2
  have h3 : m 134 3 = nz 1 := by rw [hA 3 (by decide)]; exact hR3
  have hs := stq_3 r (opN d)
  have er := fun (h : Hp) => e_right (h := h) (r := r) (d := opN d) (by omega) ho
  have ed := fun (h : Hp) => e_down (h := h) ho
  have eb := e_beside (e := e) (w := w) (m := m) hs hW.1 hW.2.1 hc h0 (by decide) h3
  have eR := e_isRowM (e := e) (w := w) (m := m) ho hr hH.2.1 h1
  have p141 : 32 * r + c < 512 := by omega
  have hrv : rgB (vir S) = true := by rw [vir_rg]; exact hrg
  cases hwl : wlB (hN S) r (opN d) with
  | true =>
    have hwv : wlB (hN (vir S)) r (opN d) = true := by rw [vir_h]; exact hwl
    rw [hwl, Bool.not_true] at eR
    obtain ⟨hz, hd0⟩ := wl_lt ho hr hH.2.1 hwl
    obtain ⟨u, hu, hu2⟩ : ∃ u, u < 2 ∧ S (if upD (opN d) then 4 else 5) = nz u := by
      cases upD (opN d) with
      | true =>
        rcases hw.2.2.2.1 1 (by decide) with q | q
        · exact ⟨0, by decide, q⟩
        · exact ⟨1, by decide, q⟩
      | false =>
        rcases hw.2.2.2.1 2 (by decide) with q | q
        · exact ⟨0, by decide, q⟩
        · exact ⟨1, by decide, q⟩
    have hd1 : 0 < d := by
      rcases Nat.eq_zero_or_pos d with q | q
      · subst q
        simp [wlB, upD, dnD, opN] at hwl
      · exact q
    have htu : (if u = 1 then miN d else opN d) = opN (tuS (vir S) (opN d)) := by
      have hf1 : ∀ d, d < 6 → wlB 1 0 (opN d) = true → opN (miN (opN d)) = miN d := by decide
      have hf2 : ∀ d, d < 6 → opN (opN (opN d)) = opN d := by decide
      have hwx : wlB 1 0 (opN d) = true := by
        unfold wlB at hwl ⊢
        simp only [Bool.or_eq_true, Bool.and_eq_true, decide_eq_true_eq] at hwl ⊢
        rcases hwl with q | q
        · exact Or.inl ⟨q.1, trivial⟩
        · exact Or.inr ⟨q.1, trivial⟩
      unfold tuS
      rw [vir_lo (by split <;> omega), hu2]
      by_cases q : u = 1
      · rw [if_pos q, if_pos (by rw [q]), hf1 d hd hwx]
      · rw [if_neg q, if_neg (by rw [nz_inj (by omega) (by decide)]; exact q), hf2 d hd]
    have htl := tuS_lt (S := vir S) (opN d)
    have htl2 := opN_lt (tuS (vir S) (opN d))
    have hmr : ∀ h : Hp, (bif z_lt (nz r + q_rs (opN d)) then (some (h, .inl (m 134 4)) : RE Int32) else some (h, .inl (m 134 5))) = some (h, .inl (nz u)) := by
      intro h
      rw [hz, hA 4 (by decide), hA 5 (by decide)]
      cases hq : upD (opN d) with
      | true => rw [hq, if_pos rfl] at hu2; rw [hu2]; rfl
      | false => rw [hq, if_neg (by decide)] at hu2; rw [hu2]; rfl
    have ero := fun (h : Hp) => e_round (h := h) hu hd hd1
    rw [htu] at ero
    refine ⟨?mw, ?evw, ?pow⟩
    case evw =>
      unfold f_X8_stepBack
      simp (disch := omega) only [mth_w, kR_w, kR_if, sQ_v, sN_v, sTi_v, sTa_v, sTl_v, sR_v, sRv_v, sX_v, sPi_v, sPo_v, sPz_w, zP_b, sRz_w, zR_bw, zR_0w, zR_1w, sPa_v, sAi_v, sAl_v, sAo_v, sAa_v, sM_w, sMp_w, eM_w, sIf_w, eIf_w, cAnd_w, cOr_w, cB_v, cZ_v, cNot_v, eC_v, eI_v, eJ_v, eOp_v, eQ_v, eU_v, eIL_v, eLO_v, eLS_v, eLC_v, eGi_v, eGa_v, eZ_w, eAi_v, eAl_v, eAa_v, eAn_v, aN_v, aI_v, aA_v, sInc_v, sB_okw, sB_xw, eS_okw, eS_xw, eB_okw, eB_xw, oE_w, oS_w, kI_iw, kI_xw, kV_w, kV_xw, kP_iw, kP_xw, List.set_cons_zero, List.set_cons_succ, List.cons_append, List.nil_append, List.length_cons, List.length_nil, List.replicate_succ, List.replicate_zero, List.append_nil, bif_and, bif_or, zne_b01, zeq_b01, bif_d, cond_true, cond_false, nar_0, o_iadd, o_isub, o_imul, c_eq, c_ne, c_lt, c_ge, c_gt, c_le, Nat.reduceAdd, Nat.reduceSub, Nat.zero_add, if_true, if_false, eLl_2, eLi_0, eLi_1, eLi_2, eLi_3, eLi_4, eLi_5, eLi_6, eLi_7, eLi_8, eLi_9, eLi_10, eLi_11, eLi_12, eLi_13, eLa_0, eLa_1, eLa_2, eLa_3, eLa_4, eLa_5, eLa_6, eLa_7, nz_add, nz_mul, nz_sub, nz_lt, nz_le, nz_inj, zeq_nz, zne_nz, zge_nz, zgt_nz, zlt_nz, nlit0, nlit1, nlit2, nlit3, nlit4, nlit5, nlit6, nlit7, nlit8, nlit9, nlit10, nlit11, nlit12, nlit16, nlit18, nlit22, nlit31, nlit32, nlit33, nlit34, nlit40, nlit48, nlit60, nlit63, nlit64, nlit66, nlit80, nlit96, nlit114, nlit126, nlit128, nlit512, nlit756, nlit882, nlit1000, nlit1394, nlit1522, nlit1523, nlit10000, decide_true, decide_false, not_true_eq_false, not_false_eq_true, ne_eq, and_self, and_true, true_and, Bool.and_true, Bool.true_and, Bool.and_false, Bool.false_and, Bool.or_false, Bool.false_or, Bool.or_true, Bool.true_or, Bool.not_true, Bool.not_false, gd_133, rf_133_0, rf_133_1, rf_133_2, rf_133_3, rf_133_4, rf_133_5, rf_133_6, rf_133_7, rf_133_8, rd_133_9, wr_133_9, rd_133_10, wr_133_10, rf_133_11, rd_133_12, wr_133_12, rd_133_13, wr_133_13, rd_133_14, wr_133_14, rd_133_15, wr_133_15, rd_133_16, wr_133_16, rf_133_17, rf_133_18, ar_134, aw_134, an_134, ar_135, aw_135, an_135, ar_136, aw_136, an_136, ar_137, aw_137, ar_138, aw_138, an_138, ar_139, aw_139, an_139, ar_140, aw_140, an_140, ar_141, aw_141, an_141, ar_142, aw_142, an_142, ar_143, aw_143, an_143, ar_144, aw_144, an_144, ar_145, aw_145, nz_rem, q6, hoe, ed, er, eb, eR, hmr, ero, e_place, e_books]
      rfl
    case pow =>
      refine ⟨fun a a1 a2 a3 => ?_, fun k => ?_, fun i hi => ?_, fun p j hj => ?_⟩
      · simp (disch := omega) only [mw_ne, ms_ne]
      · simp (disch := omega) only [mw_at, ms_ne, bkS_v, pu_one 0 (by decide) d hd, pu_one 1 (by decide) d hd, pu_one 0 (by decide) _ htl2, pu_one 1 (by decide) _ htl2]
        unfold inB
        rw [inS_w hwv, Int32.add_assoc]
        refine add_c ?_
        have hval : ∀ x, x < 2 → -nz 1 * mo x (opN (tuS (vir S) (opN d))) + nz 1 * mo x d = -nz 1 * (mo x (opN d) - mo x (tuS (vir S) (opN d))) := fun x hx => by
          rw [mo_op hx htl, mo_op hx hd, one_mulz, neg_mulz, neg_mulz, Int32.neg_neg, Int32.sub_eq_add_neg, Int32.neg_add, Int32.neg_neg, Int32.sub_eq_add_neg, Int32.neg_neg, Int32.add_comm]
        by_cases k1 : k = 15
        · subst k1
          exact hval 0 (by decide)
        · by_cases k2 : k = 20
          · subst k2
            exact hval 1 (by decide)
          · have a1 : ¬ k = 12 + 3 := k1
            have a2 : ¬ k = 17 + 3 := k2
            have a3 : -nz 1 * nz 0 = nz 0 := Int32.mul_zero
            simp only [if_neg a1, if_neg a2, if_neg k1, if_neg k2, a3, ite_self]
            rfl
      · simp (disch := omega) only [mw_ne, ms_ne]
        rw [inS_w hwv, if_neg (by omega), if_neg (by omega)]
        exact (add_nz0 _).symm
      · have ht : tgB S r d c = some (opN (tuS (vir S) (opN d)), 32 * r + c) := by
          unfold tgB
          rw [tgS_w hwv]
        rw [ht]
        simp (disch := omega) only [mw_ne, ms_v, true_and]
        exact orb htl2 p j hj
  | false =>
    have hwv : wlB (hN (vir S)) r (opN d) = false := by rw [vir_h]; exact hwl
    rw [hwl, Bool.not_false] at eR
    obtain ⟨t1, t2⟩ := tg_row ho hr hH.2.1 hwl
    rw [t1] at eR
    cases hn : ncol (wN S) true (stq r (opN d)) c with
    | none => exact absurd hn ncol_ring
    | some c2 =>
      have hn' : nbS (vir S) r (opN d) c = some c2 := by
        unfold nbS
        rw [vir_w, hrv]
        exact hn
      have hc2 := ncol_lt (by omega) hc hn
      have ecl : zz (colI (wN S) (decide (1 = 1)) (stq r (opN d)) c) = nz c2 := by
        rw [show decide ((1 : Nat) = 1) = true from rfl, colI_s hn, nz_zz]
      rw [ecl] at eb
      have hcl := hcell c2 (tgN r (opN d)) (by omega) (by omega)
      have hv := (hw.2.2.2.2.2.2.1 (tgN r (opN d)) (by omega) c2 (by omega)).1
      have eh := e_had (e := e) (w := w) (m := m) (c := c2) (r := tgN r (opN d)) (by omega) (by omega)
      have hgv := vir_ge hw (c := c2) (r := tgN r (opN d)) (by omega) (by omega)
      have htb : tgB S r d c = match (if z_ge (vS (vir S) c2 (tgN r (opN d))) then some (opN d, 32 * tgN r (opN d) + c2) else some (opN (opN d), 32 * r + c)) with
          | none => none
          | some q => some (opN q.1, q.2) := by
        unfold tgB
        rw [tgS_s hwv hn']
      rw [hgv] at htb
      cases hz : z_ge (vS S c2 (tgN r (opN d))) with
      | false =>
        rw [hz, if_neg (by decide), opN_op hd] at htb
        dsimp only at htb
        obtain ⟨j, hj, hvj⟩ := okV_neg hv hz
        have hf1 : ∀ j, j < 6 → z_lt (-1 - nz j) = true ∧ -nz 1 - (-1 - nz j) = nz j := by decide
        obtain ⟨z1, z2⟩ := hf1 j hj
        rw [← hvj] at z1 z2
        rw [hcl] at eh
        have hneg2 : ∀ x, x < 2 → -nz 2 * mo x (opN d) = -nz 1 * (nz 2 * mo x (opN d)) := by
          have hf : ∀ o, o < 6 → ∀ x, x < 2 → -nz 2 * mo x o = -nz 1 * (nz 2 * mo x o) := by decide
          exact hf _ ho
        refine ⟨?ms, ?evs, ?pos⟩
        case evs =>
          unfold f_X8_stepBack
          simp (disch := omega) only [mth_w, kR_w, kR_if, sQ_v, sN_v, sTi_v, sTa_v, sTl_v, sR_v, sRv_v, sX_v, sPi_v, sPo_v, sPz_w, zP_b, sRz_w, zR_bw, zR_0w, zR_1w, sPa_v, sAi_v, sAl_v, sAo_v, sAa_v, sM_w, sMp_w, eM_w, sIf_w, eIf_w, cAnd_w, cOr_w, cB_v, cZ_v, cNot_v, eC_v, eI_v, eJ_v, eOp_v, eQ_v, eU_v, eIL_v, eLO_v, eLS_v, eLC_v, eGi_v, eGa_v, eZ_w, eAi_v, eAl_v, eAa_v, eAn_v, aN_v, aI_v, aA_v, sInc_v, sB_okw, sB_xw, eS_okw, eS_xw, eB_okw, eB_xw, oE_w, oS_w, kI_iw, kI_xw, kV_w, kV_xw, kP_iw, kP_xw, List.set_cons_zero, List.set_cons_succ, List.cons_append, List.nil_append, List.length_cons, List.length_nil, List.replicate_succ, List.replicate_zero, List.append_nil, bif_and, bif_or, zne_b01, zeq_b01, bif_d, cond_true, cond_false, nar_0, o_iadd, o_isub, o_imul, c_eq, c_ne, c_lt, c_ge, c_gt, c_le, Nat.reduceAdd, Nat.reduceSub, Nat.zero_add, if_true, if_false, eLl_2, eLi_0, eLi_1, eLi_2, eLi_3, eLi_4, eLi_5, eLi_6, eLi_7, eLi_8, eLi_9, eLi_10, eLi_11, eLi_12, eLi_13, eLa_0, eLa_1, eLa_2, eLa_3, eLa_4, eLa_5, eLa_6, eLa_7, nz_add, nz_mul, nz_sub, nz_lt, nz_le, nz_inj, zeq_nz, zne_nz, zge_nz, zgt_nz, zlt_nz, nlit0, nlit1, nlit2, nlit3, nlit4, nlit5, nlit6, nlit7, nlit8, nlit9, nlit10, nlit11, nlit12, nlit16, nlit18, nlit22, nlit31, nlit32, nlit33, nlit34, nlit40, nlit48, nlit60, nlit63, nlit64, nlit66, nlit80, nlit96, nlit114, nlit126, nlit128, nlit512, nlit756, nlit882, nlit1000, nlit1394, nlit1522, nlit1523, nlit10000, decide_true, decide_false, not_true_eq_false, not_false_eq_true, ne_eq, and_self, and_true, true_and, Bool.and_true, Bool.true_and, Bool.and_false, Bool.false_and, Bool.or_false, Bool.false_or, Bool.or_true, Bool.true_or, Bool.not_true, Bool.not_false, gd_133, rf_133_0, rf_133_1, rf_133_2, rf_133_3, rf_133_4, rf_133_5, rf_133_6, rf_133_7, rf_133_8, rd_133_9, wr_133_9, rd_133_10, wr_133_10, rf_133_11, rd_133_12, wr_133_12, rd_133_13, wr_133_13, rd_133_14, wr_133_14, rd_133_15, wr_133_15, rd_133_16, wr_133_16, rf_133_17, rf_133_18, ar_134, aw_134, an_134, ar_135, aw_135, an_135, ar_136, aw_136, an_136, ar_137, aw_137, ar_138, aw_138, an_138, ar_139, aw_139, an_139, ar_140, aw_140, an_140, ar_141, aw_141, an_141, ar_142, aw_142, an_142, ar_143, aw_143, an_143, ar_144, aw_144, an_144, ar_145, aw_145, nz_rem, q6, hoe, ed, er, eb, t1, eR, eh, z1, z2, e_place, e_push, e_gives]
          rfl
        case pos =>
          have hbq : ∀ i, i < 6 → bq (vS (vir S) c2 (tgN r (opN d))) i = decide (i = j) := by
            have hf : ∀ j, j < 6 → ∀ i, i < 6 → bq (-1 - nz j) i = decide (i = j) := by decide
            intro i hi
            rw [sol_eq hw (by omega) (by omega) hz, hvj]
            exact hf j hj i hi
          have n0 : ∀ x : Int32, -nz 1 * nz 0 = nz 0 := fun _ => Int32.mul_zero
          refine ⟨fun a a1 a2 a3 => ?_, fun k => ?_, fun i hi => ?_, fun p jj hjj => ?_⟩
          · rw [giv_ne a1 a3, giv_ne a1 a3, ms_ne a2]
          · unfold inB
            rw [inS_s hwv hn', hgv, hz, if_neg (show ¬ false = true by decide), giv_134, giv_134, ms_ne (by decide)]
            show m 134 k + _ + _ = _
            rw [Int32.add_assoc]
            refine add_c ?_
            by_cases k0 : 34 ≤ k ∧ k < 66
            · rw [if_pos k0, if_neg (by omega), if_neg (by omega)]
              rfl
            · rw [if_neg k0]
              by_cases k1 : 22 ≤ k ∧ k < 34
              · rw [if_pos k1, hbq _ (by omega)]
                by_cases k2 : (k - 22) / 2 = j
                · rw [decide_eq_true k2, if_pos (show true = true from rfl)]
                  rcases (show (k - 22) % 2 = 0 ∨ (k - 22) % 2 = 1 by omega) with k3 | k3
                  · rw [if_pos (by omega), if_neg (by omega), k3, add_nz0, hneg2 0 (by decide)]
                  · rw [if_neg (by omega), if_pos (by omega), k3, nz0_add, hneg2 1 (by decide)]
                · rw [decide_eq_false k2, if_neg (show ¬ false = true by decide), if_neg (by omega), if_neg (by omega)]
                  exact (n0 (nz 0)).symm
              · rw [if_neg k1]
                by_cases k2 : k = 14
                · rw [if_pos (by omega), if_neg (by omega), if_pos k2, add_nz0, hneg2 0 (by decide)]
                · rw [if_neg (by omega), if_neg k2]
                  by_cases k3 : k = 19
                  · rw [if_pos (by omega), if_pos k3, nz0_add, hneg2 1 (by decide)]
                  · rw [if_neg (by omega), if_neg k3]
                    exact (n0 (nz 0)).symm
          · rw [inS_s hwv hn', hgv, hz, if_neg (show ¬ false = true by decide), if_pos (by omega), Nat.add_sub_cancel_left, hbq _ (by omega), giv_142, giv_142, ms_ne (by decide)]
            show m 142 i + _ + _ = _
            rw [Int32.add_assoc]
            refine add_c ?_
            by_cases k2 : i / 2 = j
            · rw [decide_eq_true k2, if_pos (show true = true from rfl)]
              rcases (show i % 2 = 0 ∨ i % 2 = 1 by omega) with k3 | k3
              · rw [if_pos (by omega), if_neg (by omega), k3, add_nz0, hneg2 0 (by decide)]
              · rw [if_neg (by omega), if_pos (by omega), k3, nz0_add, hneg2 1 (by decide)]
            · rw [decide_eq_false k2, if_neg (show ¬ false = true by decide), if_neg (by omega), if_neg (by omega)]
              exact (n0 (nz 0)).symm
          · rw [htb, giv_ne (by decide) (by decide), giv_ne (by decide) (by decide)]
            simp only [ms_v, true_and]
            exact orb ho p jj hjj
      | true =>
        rw [hz, if_pos rfl] at htb
        dsimp only at htb
        rw [opN_op hd] at htb
        have z1 : z_lt (vS (m 134) c2 (tgN r (opN d))) = false := by
          rw [hcl]
          rcases hv with ⟨n, hn, hq⟩ | ⟨k, hk, hq⟩
          · rw [hq]; exact zlt_nz (by omega)
          · have hf : ∀ k, k < 6 → z_ge (-1 - nz k) = false := by decide
            rw [hq, hf k hk] at hz
            cases hz
        refine ⟨?mf, ?evf, ?pof⟩
        case evf =>
          unfold f_X8_stepBack
          simp (disch := omega) only [mth_w, kR_w, kR_if, sQ_v, sN_v, sTi_v, sTa_v, sTl_v, sR_v, sRv_v, sX_v, sPi_v, sPo_v, sPz_w, zP_b, sRz_w, zR_bw, zR_0w, zR_1w, sPa_v, sAi_v, sAl_v, sAo_v, sAa_v, sM_w, sMp_w, eM_w, sIf_w, eIf_w, cAnd_w, cOr_w, cB_v, cZ_v, cNot_v, eC_v, eI_v, eJ_v, eOp_v, eQ_v, eU_v, eIL_v, eLO_v, eLS_v, eLC_v, eGi_v, eGa_v, eZ_w, eAi_v, eAl_v, eAa_v, eAn_v, aN_v, aI_v, aA_v, sInc_v, sB_okw, sB_xw, eS_okw, eS_xw, eB_okw, eB_xw, oE_w, oS_w, kI_iw, kI_xw, kV_w, kV_xw, kP_iw, kP_xw, List.set_cons_zero, List.set_cons_succ, List.cons_append, List.nil_append, List.length_cons, List.length_nil, List.replicate_succ, List.replicate_zero, List.append_nil, bif_and, bif_or, zne_b01, zeq_b01, bif_d, cond_true, cond_false, nar_0, o_iadd, o_isub, o_imul, c_eq, c_ne, c_lt, c_ge, c_gt, c_le, Nat.reduceAdd, Nat.reduceSub, Nat.zero_add, if_true, if_false, eLl_2, eLi_0, eLi_1, eLi_2, eLi_3, eLi_4, eLi_5, eLi_6, eLi_7, eLi_8, eLi_9, eLi_10, eLi_11, eLi_12, eLi_13, eLa_0, eLa_1, eLa_2, eLa_3, eLa_4, eLa_5, eLa_6, eLa_7, nz_add, nz_mul, nz_sub, nz_lt, nz_le, nz_inj, zeq_nz, zne_nz, zge_nz, zgt_nz, zlt_nz, nlit0, nlit1, nlit2, nlit3, nlit4, nlit5, nlit6, nlit7, nlit8, nlit9, nlit10, nlit11, nlit12, nlit16, nlit18, nlit22, nlit31, nlit32, nlit33, nlit34, nlit40, nlit48, nlit60, nlit63, nlit64, nlit66, nlit80, nlit96, nlit114, nlit126, nlit128, nlit512, nlit756, nlit882, nlit1000, nlit1394, nlit1522, nlit1523, nlit10000, decide_true, decide_false, not_true_eq_false, not_false_eq_true, ne_eq, and_self, and_true, true_and, Bool.and_true, Bool.true_and, Bool.and_false, Bool.false_and, Bool.or_false, Bool.false_or, Bool.or_true, Bool.true_or, Bool.not_true, Bool.not_false, gd_133, rf_133_0, rf_133_1, rf_133_2, rf_133_3, rf_133_4, rf_133_5, rf_133_6, rf_133_7, rf_133_8, rd_133_9, wr_133_9, rd_133_10, wr_133_10, rf_133_11, rd_133_12, wr_133_12, rd_133_13, wr_133_13, rd_133_14, wr_133_14, rd_133_15, wr_133_15, rd_133_16, wr_133_16, rf_133_17, rf_133_18, ar_134, aw_134, an_134, ar_135, aw_135, an_135, ar_136, aw_136, an_136, ar_137, aw_137, ar_138, aw_138, an_138, ar_139, aw_139, an_139, ar_140, aw_140, an_140, ar_141, aw_141, an_141, ar_142, aw_142, an_142, ar_143, aw_143, an_143, ar_144, aw_144, an_144, ar_145, aw_145, nz_rem, q6, hoe, ed, er, eb, t1, eR, eh, z1, e_place]
          rfl
        case pof =>
          have n0 : -nz 1 * nz 0 = nz 0 := Int32.mul_zero
          refine ⟨fun a a1 a2 a3 => ?_, fun k => ?_, fun i hi => ?_, fun p jj hjj => ?_⟩
          · rw [ms_ne a2]
          · unfold inB
            rw [inS_s hwv hn', hgv, hz, if_pos (show true = true from rfl), ms_ne (by decide)]
            by_cases k0 : 34 ≤ k ∧ k < 66
            · rw [if_pos k0, add_nz0]
            · rw [if_neg k0, if_neg (fun z => by omega), if_neg (fun z => by omega), n0, add_nz0]
          · rw [inS_s hwv hn', hgv, hz, if_pos (show true = true from rfl), ms_ne (by decide), if_neg (fun z => by omega), if_neg (fun z => by omega), n0, add_nz0]
          · rw [htb]
            simp only [ms_v, true_and]
            exact orb hd p jj hjj
end
