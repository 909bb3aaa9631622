section
variable {S S' : St} {T b r : Nat} {e : Nat → Nat × (Nat → Int32)} {m : Mm} {w : Ml}
theorem WF.upd (h : WF T S) (hS : ∀ j, (j < 8 ∨ (66 ≤ j ∧ j < 114 ∧ (j - 66) % 8 ≠ 7) ∨ (114 ≤ j ∧ j < 882) ∨ 1394 ≤ j) → S' j = S j) (h7 : ∀ r, r < 16 → ∀ c, c < 32 → okV (vS S' c r) ∧ (¬ (c < wN S ∧ r < hN S) → vS S' c r = nz 0)) : WF T S' := by
  obtain ⟨t1, t2, t3, t4, t5, t6, t7, t8, t9, t10, t11⟩ := h
  have ew : wN S' = wN S := by unfold wN; rw [hS 0 (by omega)]
  have eh : hN S' = hN S := by unfold hN; rw [hS 1 (by omega)]
  have et : tN S' = tN S := by unfold tN; rw [hS 2 (by omega)]
  have eg : gN S' = gN S := by unfold gN; rw [hS 6 (by omega)]
  have er : rN S' = rN S := by unfold rN; rw [hS 7 (by omega)]
  unfold WF
  rw [ew, eh, et, eg, er, hS 0 (by omega), hS 1 (by omega), hS 2 (by omega), hS 6 (by omega), hS 7 (by omega), hS 1394 (by omega), hS 1458 (by omega)]
  refine ⟨t1, t2, t3, fun k hk => ?_, t5, t6, h7, fun g hg => ?_, fun k hk => ?_, t10, fun i hi j hj => ?_⟩
  · rw [hS _ (by omega)]; exact t4 k hk
  · have := t8 g hg
    unfold gustOK at this ⊢
    rw [ew, eh, hS (66 + 8 * g) (by omega), hS (66 + 8 * g + 1) (by omega), hS (66 + 8 * g + 2) (by omega), hS (66 + 8 * g + 3) (by omega), hS (66 + 8 * g + 5) (by omega)]
    exact this
  · rw [hS _ (by omega)]; exact t9 k hk
  · rw [hS _ (by omega)]; exact t11 i hi j hj
theorem okV_z : okV (nz 0) := Or.inl ⟨0, by decide, rfl⟩
theorem bwT_ok {k : Nat} {v : Int32} (hk : k < 3) (hv : okV v) : okV (bwT k v) := by
  rcases (show k = 0 ∨ k = 1 ∨ k = 2 by omega) with rfl | rfl | rfl
  · exact (bw0 hv).1
  · exact (bw1 hv).1
  · exact (bw2 hv).1
theorem WF.blow1 (h : WF T S) {g k c r : Nat} (hg : g < 6) (hk : k < 3) (hc : c < wN S) (hr : r < hN S) : WF T (blow1 S g k c r) := by
  have hc2 : c < 32 := Nat.lt_of_lt_of_le hc h.1.2.1
  have hr2 : r < 16 := Nat.lt_of_lt_of_le hr h.2.1.2.1
  obtain ⟨f1, -⟩ := blow1_f (S := S) (k := k) hg hc2 hr2
  refine h.upd (fun j hj => f1 j (by omega) (by omega) (by omega) (by omega) (by omega) (by omega)) (fun r' hr' c' hc' => ?_)
  rw [vS_blow1 hg hc2 hr2 hc' hr']
  have h7 := h.2.2.2.2.2.2.1
  by_cases q : c' = c ∧ r' = r
  · rw [if_pos q]
    refine ⟨bwT_ok hk (h7 r hr2 c hc2).1, fun z => absurd ?_ z⟩
    rw [q.1, q.2]
    exact ⟨hc, hr⟩
  · rw [if_neg q]
    exact h7 r' hr' c' hc'
/-- solid or not, out of the rows of bodies -/
theorem sol_bt (hT : TR b m S) {c : Nat} (hr : r < 16) (hc : c < 32) (hv : okV (vS S c r)) : bt (orr (fun k => m (b + 3) (r * 6 + k)) 6) c = !z_ge (vS S c r) := by
  have h3 := hT.2.2.1 r hr
  rcases hv with ⟨n, hn, hv⟩ | ⟨k, hk, hv⟩
  · have hf : ∀ n, n < 64 → ∀ k, k < 6 → bq (nz n) k = false := by decide +kernel
    rw [hv, zge_nz (by omega), Bool.not_true]
    cases hb : bt (orr (fun k => m (b + 3) (r * 6 + k)) 6) c with
    | false => rfl
    | true =>
      obtain ⟨k, k1, k2⟩ := (bt_orr 6).mp hb
      have h9 : bt (m (b + 3) (r * 6 + k)) c = bq (vS S c r) k := h3 k k1 c hc
      rw [h9, hv, hf n hn k k1] at k2
      cases k2
  · have hf : ∀ k, k < 6 → z_ge (-1 - nz k) = false := by decide
    have hf2 : ∀ k, k < 6 → bq (-1 - nz k) k = true := by decide
    rw [hv, hf k hk]
    refine (bt_orr 6).mpr ⟨k, hk, ?_⟩
    have h9 : bt (m (b + 3) (r * 6 + k)) c = bq (vS S c r) k := h3 k hk c hc
    rw [h9, hv, hf2 k hk]
theorem sSc_nz {e0 : EXi} {cs : List SX} {d : SX} {l : Lc} {h h' : Hp} {k : Nat} (hk : k < 2147483648) (he : e0 l h = some (h', .inl (nz k))) : sSc e0 0 cs d l h = (cs[k]?.getD d) l h' := by
  unfold sSc
  rw [he]
  show ((if (nz k).toInt < 0 then none else cs[((nz k).toInt - 0).toNat]?).getD d) l h' = _
  have h1 : (nz k).toInt = (k : Int) := by
    rw [nz_zz, zz_to (by omega) (by omega)]
  rw [h1, if_neg (by omega), Int.sub_zero, Int.toNat_natCast]
/-- one row of a gust, in the tunnel -/
theorem blow_step (he : EO e) (hb : TB b) {g k c i : Nat} {y : Int32} (hg : g < 6) (hi : i = g * 8 + 7) (hk : k < 3) (hw : WF T S) (hc : c < wN S) (hr : r < hN S) (hT : TR b (ms m (b + 5) i (m (b + 5) i + y)) S) (hgn : g < gN S) :
    ∃ m' x, f_X4_blow [.ref b, .int (nz k), .int (nz c), .int (nz r)] (HM e m w) = some (HM e m' w, .inl (some (.int x))) ∧ (∀ a, a ≠ b + 2 → a ≠ b + 9 → a ≠ b + 10 → m' a = m a) ∧ TR b (ms m' (b + 5) i (m' (b + 5) i + (y + x))) (blow1 S g k c r) ∧ x = bwn k (vS S c r) := by
  have hc2 : c < 32 := Nat.lt_of_lt_of_le hc hw.1.2.1
  have hr2 : r < 16 := Nat.lt_of_lt_of_le hr hw.2.1.2.1
  obtain ⟨f1, f2, f3, f4, f5, f6, f7⟩ := blow1_f (S := S) (k := k) hg hc2 hr2
  have hv := (hw.2.2.2.2.2.2.1 r hr2 c hc2).1
  have s2 : ∀ a, a ≠ b + 5 → ms m (b + 5) i (m (b + 5) i + y) a = m a := fun a ha => ms_ne ha
  have hsol : bt (orr (fun k => m (b + 3) (r * 6 + k)) 6) c = !z_ge (vS S c r) := by
    have := sol_bt hT hr2 hc2 hv
    rw [s2 _ (by omega)] at this
    exact this
  have hP : ∀ r', r' < 16 → ∀ d, d < 6 → ∀ c', c' < 32 → bt (m (b + 2) (r' * 6 + d)) c' = pq (vS S c' r') d := fun r' hr' d hd c' hc' => by
    have := hT.2.1 r' hr' d hd c' hc'
    dsimp only at this
    rw [s2 _ (by omega)] at this
    exact this
  have h5 : ∀ j, j < 8 * gN S → (if j = i then m (b + 5) i + y else m (b + 5) j) = S (66 + j) := fun j hj => by
    have := hT.2.2.2.1.2 j hj
    dsimp only at this
    rw [ms_v] at this
    simpa using this
  have h9 : ∀ j, j < 4 → m (b + 9) j = S (8 + j) := fun j hj => by
    have := hT.2.2.2.2.2.1 j hj
    dsimp only at this
    rw [s2 _ (by omega)] at this
    exact this
  have h10 : ∀ k, k < 5 → ∀ x, x < 2 → m (b + 10) (k * 2 + x) = S (12 + 5 * x + k) := fun k hk x hx => by
    have := hT.2.2.2.2.2.2.1 k hk x hx
    dsimp only at this
    rw [s2 _ (by omega)] at this
    exact this
  have hg6 : gN S ≤ 6 := hw.2.2.2.2.1.1
  -- what is common to the three kinds
  have fin : ∀ (m' : Mm) (x : Int32), (∀ a, a ≠ b + 2 → a ≠ b + 9 → a ≠ b + 10 → m' a = m a) → x = bwn k (vS S c r) →
      (∀ r', r' < 16 → ∀ d, d < 6 → ∀ c', c' < 32 → bt (m' (b + 2) (r' * 6 + d)) c' = if c' = c ∧ r' = r then pq (bwT k (vS S c r)) d else pq (vS S c' r') d) →
      m' (b + 9) = su (su (m (b + 9)) 1 (m (b + 9) 1 + (if k = 0 then bwn k (vS S c r) else nz 0))) 2 (m (b + 9) 2 + (if k = 2 then bwn k (vS S c r) else nz 0)) →
      m' (b + 10) = su (su (m (b + 10)) 2 (m (b + 10) 2 + bwp k 0 (vS S c r))) 3 (m (b + 10) 3 + bwp k 1 (vS S c r)) → (∀ j, j < 6 → bq (bwT k (vS S c r)) j = bq (vS S c r) j) → TR b (ms m' (b + 5) i (m' (b + 5) i + (y + x))) (blow1 S g k c r) := by
    intro m' x q1 q2 q3 q4 q5 q6
    refine TRv.upd hT (fun j j1 j2 j3 j4 => ?_) (fun j hj => f1 j (by omega) (by omega) (by omega) (by omega) (by omega) (by omega)) hw.1.2.1 hw.2.2.2.2.2.1.1 (fun r' hr' d hd c' hc' => ?_) (fun r' hr' j hj c' hc' => ?_) (fun j hj => ?_) (fun j hj => ?_) (fun j hj z hz => ?_)
    · show ms m' (b + 5) i (m' (b + 5) i + (y + x)) (b + j) = ms m (b + 5) i (m (b + 5) i + y) (b + j)
      rw [ms_ne (by omega), ms_ne (by omega), q1 _ (by omega) (by omega) (by omega)]
    · show bt (ms m' (b + 5) i (m' (b + 5) i + (y + x)) (b + 2) (r' * 6 + d)) c' = _
      rw [ms_ne (by omega), q3 r' hr' d hd c' hc', vS_blow1 hg hc2 hr2 hc' hr']
      split <;> rfl
    · rw [vS_blow1 hg hc2 hr2 hc' hr']
      split
      · rename_i q
        rw [q.1, q.2, q6 j hj]
      · rfl
    · show ms m' (b + 5) i (m' (b + 5) i + (y + x)) (b + 5) j = _
      have h5j := h5 j hj
      rw [ms_v, q1 _ (by omega) (by omega) (by omega)]
      by_cases hj2 : j = i
      · rw [if_pos ⟨rfl, hj2⟩]
        rw [if_pos hj2] at h5j
        rw [show 66 + j = 66 + 8 * g + 7 by omega, f3, ← q2, ← Int32.add_assoc, h5j, show 66 + j = 66 + 8 * g + 7 by omega]
      · rw [if_neg (fun z => hj2 z.2)]
        rw [if_neg hj2] at h5j
        rw [h5j, f1 _ (by omega) (by omega) (by omega) (by omega) (by omega) (by omega)]
    · show ms m' (b + 5) i (m' (b + 5) i + (y + x)) (b + 9) j = _
      rw [ms_ne (by omega), q4]
      rcases (show j = 0 ∨ j = 1 ∨ j = 2 ∨ j = 3 by omega) with rfl | rfl | rfl | rfl
      · rw [su_ne (by decide), su_ne (by decide), h9 0 (by decide), f1 _ (by omega) (by omega) (by omega) (by omega) (by omega) (by omega)]
      · rw [su_ne (by decide), su_at, h9 1 (by decide)]
        exact f4.symm
      · rw [su_at, h9 2 (by decide)]
        exact f5.symm
      · rw [su_ne (by decide), su_ne (by decide), h9 3 (by decide), f1 _ (by omega) (by omega) (by omega) (by omega) (by omega) (by omega)]
    · show ms m' (b + 5) i (m' (b + 5) i + (y + x)) (b + 10) (j * 2 + z) = _
      rw [ms_ne (by omega), q5]
      by_cases hj1 : j = 1
      · subst hj1
        rcases (show z = 0 ∨ z = 1 by omega) with rfl | rfl
        · have := h10 1 (by decide) 0 (by decide)
          rw [su_ne (by decide), show 1 * 2 + 0 = 2 from rfl, su_at, this]
          exact f6.symm
        · have := h10 1 (by decide) 1 (by decide)
          rw [show 1 * 2 + 1 = 3 from rfl, su_at, this]
          exact f7.symm
      · rw [su_ne (by omega), su_ne (by omega), h10 j hj z hz, f1 _ (by omega) (by omega) (by omega) (by omega) (by omega) (by omega)]
  have hP0 : bt (m (b + 2) (r * 6)) c = pq (vS S c r) 0 := hP r hr2 0 (by decide) c hc2
  have hP3 := hP r hr2 3 (by decide) c hc2
  have hz0 : ∀ y : Int32, y + nz 0 = y := add_nz0
  rcases (show k = 0 ∨ k = 1 ∨ k = 2 by omega) with rfl | rfl | rfl
  · obtain ⟨w1, w2, w3, w4, w5⟩ := bw0 hv
    obtain ⟨m', g0, g1, g2, g3, g4⟩ := e_blowIn (e := e) (m := m) (w := w) he hb hc2 hr2
    rw [hsol, Bool.not_not, hP0] at g0 g2 g3 g4
    refine ⟨m', _, ?_, g1, fin m' _ g1 w4.symm (fun r' hr' d hd c' hc' => ?_) ?_ ?_ (fun j hj => (w2 j).elim id (fun z => by omega)), w4.symm⟩
    · unfold f_X4_blow
      simp only [mth_w, List.length_cons, List.length_nil, List.cons_append, List.nil_append, List.replicate_zero, Nat.reduceAdd, Nat.reduceSub]
      rw [sSc_nz (k := 0) (by decide) eLi_1]
      simp only [List.getElem?_cons_zero, Option.getD_some]
      simp (disch := omega) only [mth_w, kR_w, kR_if, sQ_v, sN_v, sTi_v, sTa_v, sTl_v, sR_v, sRv_v, sX_v, sPi_v, sPo_v, sPz_w, zP_b, sRz_w, zR_bw, zR_0w, zR_1w, sPa_v, sAi_v, sAl_v, sAo_v, sAa_v, sM_w, sMp_w, eM_w, sIf_w, eIf_w, cAnd_w, cOr_w, cB_v, cZ_v, cNot_v, eC_v, eI_v, eJ_v, eOp_v, eQ_v, eU_v, eIL_v, eLO_v, eLS_v, eLC_v, eGi_v, eGa_v, eZ_w, eAi_v, eAl_v, eAa_v, eAn_v, aN_v, aI_v, aA_v, sInc_v, sB_okw, sB_xw, eS_okw, eS_xw, eB_okw, eB_xw, oE_w, oS_w, kI_iw, kI_xw, kV_w, kV_xw, kP_iw, kP_xw, List.set_cons_zero, List.set_cons_succ, List.cons_append, List.nil_append, List.length_cons, List.length_nil, List.replicate_succ, List.replicate_zero, List.append_nil, bif_and, bif_or, zne_b01, zeq_b01, bif_d, cond_true, cond_false, nar_0, o_iadd, o_isub, o_imul, c_eq, c_ne, c_lt, c_ge, c_gt, c_le, Nat.reduceAdd, Nat.reduceSub, Nat.zero_add, if_true, if_false, eLl_2, eLi_0, eLi_1, eLi_2, eLi_3, eLi_4, eLi_5, eLi_6, eLi_7, eLi_8, eLi_9, eLi_10, eLi_11, eLi_12, eLi_13, eLa_0, eLa_1, eLa_2, eLa_3, eLa_4, eLa_5, eLa_6, eLa_7, nz_add, nz_mul, nz_sub, nz_lt, nz_le, nz_inj, zeq_nz, zne_nz, zge_nz, zgt_nz, zlt_nz, nlit0, nlit1, nlit2, nlit3, nlit4, nlit5, nlit6, nlit7, nlit8, nlit9, nlit10, nlit11, nlit12, nlit16, nlit18, nlit22, nlit31, nlit32, nlit33, nlit34, nlit40, nlit48, nlit60, nlit63, nlit64, nlit66, nlit80, nlit96, nlit114, nlit126, nlit128, nlit512, nlit756, nlit882, nlit1000, nlit1394, nlit1522, nlit1523, nlit10000, g0]
    · rw [g2 _ _ hc']
      have : bt (m (b + 2) (r' * 6 + d)) c' = pq (vS S c' r') d := hP r' hr' d hd c' hc'
      rw [this]
      by_cases q : c' = c ∧ r' = r
      · rw [if_pos q, w3 d hd, q.1, q.2]
        congr 2
        exact decide_eq_decide.mpr (by omega)
      · rw [if_neg q, decide_eq_false (show ¬ (r' * 6 + d = r * 6 ∧ c' = c) by omega)]
        simp
    · rw [g3, w4, if_pos rfl, if_neg (by decide), hz0]
      funext j
      simp only [su_v]
      by_cases h2 : j = 2 <;> simp [h2]
    · rw [g4, w5 0 (by decide), w5 1 (by decide)]
      rfl
  · obtain ⟨w1, w2, w3, w4, w5⟩ := bw1 hv
    obtain ⟨m', g0, g1, g2, g4⟩ := e_turnEast (e := e) (m := m) (w := w) he hb hc2 hr2
    rw [hP3, hP0] at g0 g2 g4
    have g1' : ∀ a, a ≠ b + 2 → a ≠ b + 9 → a ≠ b + 10 → m' a = m a := fun a a1 _ a3 => g1 a a1 a3
    refine ⟨m', _, ?_, g1', fin m' _ g1' w4.symm (fun r' hr' d hd c' hc' => ?_) ?_ ?_ (fun j hj => (w2 j).elim id (fun z => by omega)), w4.symm⟩
    · unfold f_X4_blow
      simp only [mth_w, List.length_cons, List.length_nil, List.cons_append, List.nil_append, List.replicate_zero, Nat.reduceAdd, Nat.reduceSub]
      rw [sSc_nz (k := 1) (by decide) eLi_1]
      simp only [List.getElem?_cons_zero, List.getElem?_cons_succ, Option.getD_some]
      simp (disch := omega) only [mth_w, kR_w, kR_if, sQ_v, sN_v, sTi_v, sTa_v, sTl_v, sR_v, sRv_v, sX_v, sPi_v, sPo_v, sPz_w, zP_b, sRz_w, zR_bw, zR_0w, zR_1w, sPa_v, sAi_v, sAl_v, sAo_v, sAa_v, sM_w, sMp_w, eM_w, sIf_w, eIf_w, cAnd_w, cOr_w, cB_v, cZ_v, cNot_v, eC_v, eI_v, eJ_v, eOp_v, eQ_v, eU_v, eIL_v, eLO_v, eLS_v, eLC_v, eGi_v, eGa_v, eZ_w, eAi_v, eAl_v, eAa_v, eAn_v, aN_v, aI_v, aA_v, sInc_v, sB_okw, sB_xw, eS_okw, eS_xw, eB_okw, eB_xw, oE_w, oS_w, kI_iw, kI_xw, kV_w, kV_xw, kP_iw, kP_xw, List.set_cons_zero, List.set_cons_succ, List.cons_append, List.nil_append, List.length_cons, List.length_nil, List.replicate_succ, List.replicate_zero, List.append_nil, bif_and, bif_or, zne_b01, zeq_b01, bif_d, cond_true, cond_false, nar_0, o_iadd, o_isub, o_imul, c_eq, c_ne, c_lt, c_ge, c_gt, c_le, Nat.reduceAdd, Nat.reduceSub, Nat.zero_add, if_true, if_false, eLl_2, eLi_0, eLi_1, eLi_2, eLi_3, eLi_4, eLi_5, eLi_6, eLi_7, eLi_8, eLi_9, eLi_10, eLi_11, eLi_12, eLi_13, eLa_0, eLa_1, eLa_2, eLa_3, eLa_4, eLa_5, eLa_6, eLa_7, nz_add, nz_mul, nz_sub, nz_lt, nz_le, nz_inj, zeq_nz, zne_nz, zge_nz, zgt_nz, zlt_nz, nlit0, nlit1, nlit2, nlit3, nlit4, nlit5, nlit6, nlit7, nlit8, nlit9, nlit10, nlit11, nlit12, nlit16, nlit18, nlit22, nlit31, nlit32, nlit33, nlit34, nlit40, nlit48, nlit60, nlit63, nlit64, nlit66, nlit80, nlit96, nlit114, nlit126, nlit128, nlit512, nlit756, nlit882, nlit1000, nlit1394, nlit1522, nlit1523, nlit10000, g0]
    · rw [g2 _ _ hc']
      have : bt (m (b + 2) (r' * 6 + d)) c' = pq (vS S c' r') d := hP r' hr' d hd c' hc'
      rw [this]
      by_cases q : c' = c ∧ r' = r
      · rw [if_pos q, w3 d hd, q.1, q.2, decide_eq_true rfl, Bool.true_and]
        congr 1
        by_cases d0 : d = 0
        · rw [if_pos (by omega), if_pos d0]
        · rw [if_neg (by omega), if_neg d0]
          by_cases d3 : d = 3
          · rw [if_pos (by omega), if_pos d3]
          · rw [if_neg (by omega), if_neg d3]
      · rw [if_neg q]
        by_cases qc : c' = c
        · rw [decide_eq_true qc, Bool.true_and]
          split
          · rw [if_neg (by omega), if_neg (by omega)]
          · rfl
        · rw [decide_eq_false qc, Bool.false_and, if_neg (by decide)]
    · rw [g1 _ (by omega) (by omega), if_neg (by decide), if_neg (by decide), hz0, hz0, su_self, su_self]
    · rw [g4, w5 0 (by decide), w5 1 (by decide)]
      rfl
  · obtain ⟨w1, w2, w3, w4, w5⟩ := bw2 hv
    obtain ⟨m', g0, g1, g2, g3, g4⟩ := e_removeParticles (e := e) (m := m) (w := w) (a := 1) (x := o_ishl (nz 1) (nz c)) he hb hr2 (by decide)
    have hcount : ∀ d, d < 6 → nz (pc (o_iand (m (b + 2) (r * 6 + d)) (o_ishl (nz 1) (nz c)))) = b01 (pq (vS S c r) d) := by
      intro d hd
      have hcm : o_iand (m (b + 2) (r * 6 + d)) (o_ishl (nz 1) (nz c)) = o_iand (o_ishl (nz 1) (nz c)) (m (b + 2) (r * 6 + d)) := Int32.and_comm _ _
      rw [hcm, one_and hc2, hP r hr2 d hd c hc2]
      have h1 : ∀ c, c < 32 → nz (pc (o_ishl (nz 1) (nz c))) = nz 1 := by decide +kernel
      cases pq (vS S c r) d
      · rw [if_neg (by decide), pc_0]
        rfl
      · exact h1 c hc2
    have hsum : sm 6 (fun d => nz (pc (o_iand (m (b + 2) (r * 6 + d)) (o_ishl (nz 1) (nz c))))) = bwn 2 (vS S c r) := by
      rw [w4]
      exact sm_congr hcount
    refine ⟨m', _, ?_, g1, fin m' _ g1 hsum (fun r' hr' d hd c' hc' => ?_) ?_ ?_ (fun j hj => (w2 j).elim id (fun z => by omega)), hsum⟩
    · unfold f_X4_blow
      simp only [mth_w, List.length_cons, List.length_nil, List.cons_append, List.nil_append, List.replicate_zero, Nat.reduceAdd, Nat.reduceSub]
      rw [sSc_nz (k := 2) (by decide) eLi_1]
      simp only [List.getElem?_cons_succ, List.getElem?_nil, Option.getD_none]
      simp (disch := omega) only [mth_w, kR_w, kR_if, sQ_v, sN_v, sTi_v, sTa_v, sTl_v, sR_v, sRv_v, sX_v, sPi_v, sPo_v, sPz_w, zP_b, sRz_w, zR_bw, zR_0w, zR_1w, sPa_v, sAi_v, sAl_v, sAo_v, sAa_v, sM_w, sMp_w, eM_w, sIf_w, eIf_w, cAnd_w, cOr_w, cB_v, cZ_v, cNot_v, eC_v, eI_v, eJ_v, eOp_v, eQ_v, eU_v, eIL_v, eLO_v, eLS_v, eLC_v, eGi_v, eGa_v, eZ_w, eAi_v, eAl_v, eAa_v, eAn_v, aN_v, aI_v, aA_v, sInc_v, sB_okw, sB_xw, eS_okw, eS_xw, eB_okw, eB_xw, oE_w, oS_w, kI_iw, kI_xw, kV_w, kV_xw, kP_iw, kP_xw, List.set_cons_zero, List.set_cons_succ, List.cons_append, List.nil_append, List.length_cons, List.length_nil, List.replicate_succ, List.replicate_zero, List.append_nil, bif_and, bif_or, zne_b01, zeq_b01, bif_d, cond_true, cond_false, nar_0, o_iadd, o_isub, o_imul, c_eq, c_ne, c_lt, c_ge, c_gt, c_le, Nat.reduceAdd, Nat.reduceSub, Nat.zero_add, if_true, if_false, eLl_2, eLi_0, eLi_1, eLi_2, eLi_3, eLi_4, eLi_5, eLi_6, eLi_7, eLi_8, eLi_9, eLi_10, eLi_11, eLi_12, eLi_13, eLa_0, eLa_1, eLa_2, eLa_3, eLa_4, eLa_5, eLa_6, eLa_7, nz_add, nz_mul, nz_sub, nz_lt, nz_le, nz_inj, zeq_nz, zne_nz, zge_nz, zgt_nz, zlt_nz, nlit0, nlit1, nlit2, nlit3, nlit4, nlit5, nlit6, nlit7, nlit8, nlit9, nlit10, nlit11, nlit12, nlit16, nlit18, nlit22, nlit31, nlit32, nlit33, nlit34, nlit40, nlit48, nlit60, nlit63, nlit64, nlit66, nlit80, nlit96, nlit114, nlit126, nlit128, nlit512, nlit756, nlit882, nlit1000, nlit1394, nlit1522, nlit1523, nlit10000, (gd_t0 hb), (rf_t0_0 hb), (rf_t0_1 hb), (rf_t0_2 hb), (rf_t0_3 hb), (rf_t0_4 hb), (rf_t0_5 hb), (rd_t0_6 hb), (wr_t0_6 hb), (rd_t0_7 hb), (wr_t0_7 hb), (rf_t0_8 hb), (rf_t0_9 hb), (gd_t1 hb), (rd_t1_0 hb), (wr_t1_0 hb), (rd_t1_1 hb), (wr_t1_1 hb), (rd_t1_2 hb), (wr_t1_2 hb), (rf_t1_3 hb), (rf_t1_4 hb), (ar_t2 hb), (aw_t2 hb), (an_t2 hb), (ar_t3 hb), (aw_t3 hb), (an_t3 hb), (gd_t4 hb), (rd_t4_0 hb), (wr_t4_0 hb), (rf_t4_1 hb), (ar_t5 hb), (aw_t5 hb), (an_t5 hb), (gd_t6 hb), (rd_t6_0 hb), (wr_t6_0 hb), (rd_t6_1 hb), (wr_t6_1 hb), (rf_t6_2 hb), (ar_t7 hb), (aw_t7 hb), (an_t7 hb), (gd_t8 hb), (rf_t8_0 hb), (rf_t8_1 hb), (ar_t9 hb), (aw_t9 hb), (an_t9 hb), (ar_t10 hb), (aw_t10 hb), (an_t10 hb), (ar_t11 hb), (aw_t11 hb), (an_t11 hb), (ar_t12 hb), (aw_t12 hb), (an_t12 hb), (ar_t13 hb), (aw_t13 hb), (an_t13 hb), (ar_t14 hb), (aw_t14 hb), (an_t14 hb), g0]
    · rw [g2]
      have : bt (m (b + 2) (r' * 6 + d)) c' = pq (vS S c' r') d := hP r' hr' d hd c' hc'
      by_cases qr : r' = r
      · rw [if_pos (by omega), bt_and, this, bt_not _ hc', bt_1c hc2 hc']
        by_cases qc : c' = c
        · rw [if_pos ⟨qc, qr⟩, w3 d hd]
          simp [qc]
        · rw [if_neg (fun z => qc z.1)]
          simp [qc]
      · rw [if_neg (by omega), if_neg (fun z => qr z.2), this]
    · rw [g3, hsum, if_neg (by decide), if_pos rfl, hz0, su_self]
    · rw [g4, w5 0 (by decide), w5 1 (by decide)]
      have e0 : sm 6 (fun d => q_al d * -nz (pc (o_iand (m (b + 2) (r * 6 + d)) (o_ishl (nz 1) (nz c))))) = sm 6 (fun d => mo 0 d * -b01 (pq (vS S c r) d)) := sm_congr fun d hd => by rw [hcount d hd]; rfl
      have e1 : sm 6 (fun d => q_ac d * -nz (pc (o_iand (m (b + 2) (r * 6 + d)) (o_ishl (nz 1) (nz c))))) = sm 6 (fun d => mo 1 d * -b01 (pq (vS S c r) d)) := sm_congr fun d hd => by rw [hcount d hd]; rfl
      rw [e0, e1]
end
