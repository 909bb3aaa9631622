/-! CELLS, COUNTED BY ROWS OF BITS AND ONE BY ONE -/
section
variable {S : St} {T b W H r c k x : Nat} {e : Nat → Nat × (Nat → Int32)} {m : Mm} {w : Ml} {h : Hp}
/-- the body of a cell, -1 where there is none -/
def bdV (v : Int32) : Int32 := if z_ge v then -1 else -1 - v
theorem x_bodyAt (hb : TB b) (hw : WF T S) (hT : TR b m S) (hc : c < 32) (hr : r < 16) : f_X1_bodyAt [.ref (b + 1), .int (nz c), .int (nz r)] (HM e m w) = some (HM e m w, .inl (some (.int (bdV (vS S c r))))) := by
  rcases (hw.2.2.2.2.2.2.1 r hr c hc).1 with ⟨n, hn, hq⟩ | ⟨k, hk, hq⟩
  · have hf : ∀ n, n < 64 → ∀ k, k < 6 → bq (nz n) k = false := by decide +kernel
    have hz : bdV (vS S c r) = -1 := by
      unfold bdV
      rw [hq, zge_nz (by omega), if_pos rfl]
    rw [hz]
    exact e_bodyAt_no hb hc hr (fun j hj => by rw [hT.bod hr hj hc, hq, hf n hn j hj])
  · have hf : ∀ j, j < 6 → ∀ i, i < 6 → bq (-1 - nz j) i = decide (i = j) := by decide
    have hg : ∀ k, k < 6 → bdV (-1 - nz k) = nz k := by decide
    rw [hq, hg k hk]
    refine e_bodyAt hb hc hr hk ?_ (fun j hj => ?_)
    · rw [hT.bod hr hk hc, hq, hf k hk k hk, decide_eq_true rfl]
    · rw [hT.bod hr (by omega) hc, hq, hf k hk j (by omega), decide_eq_false (by omega)]
theorem x_particlesAt (hb : TB b) (hw : WF T S) (hT : TR b m S) (hc : c < 32) (hr : r < 16) : f_X1_particlesAt [.ref (b + 1), .int (nz c), .int (nz r)] (HM e m w) = some (HM e m w, .inl (some (.int (nz (nS S c r))))) := by
  rw [e_particlesAt hb hc hr]
  have : paN (fun d => bt (m (b + 2) (r * 6 + d)) c) 6 = nS S c r := tb_ext (paN_lt _ 6) (nS_ok hw hc hr).1 (fun d hd => by
    rw [paN_bit, decide_eq_true hd, Bool.true_and, hT.bits hr hd hc, (nS_ok hw hc hr).2.1 d hd])
  rw [this]
theorem nS_v (hw : WF T S) (hc : c < 32) (hr : r < 16) (hz : z_ge (vS S c r) = true) : nz (nS S c r) = vS S c r := by
  rcases (hw.2.2.2.2.2.2.1 r hr c hc).1 with ⟨n, hn, hq⟩ | ⟨k, hk, hq⟩
  · unfold nS
    rw [hq, zge_nz (by omega), if_pos rfl, nz_cl (by omega)]
  · have hf : ∀ k, k < 6 → z_ge (-1 - nz k) = false := by decide
    rw [hq, hf k hk] at hz
    cases hz
theorem bdV_t {v : Int32} (hz : z_ge v = true) : (bdV v = -nz 1) = True := by
  unfold bdV
  rw [if_pos hz]
  exact eq_true rfl
theorem bdV_f {v : Int32} (hv : okV v) (hz : z_ge v = false) : (bdV v = -nz 1) = False ∧ -nz 1 - bdV v = v := by
  obtain ⟨k, hk, hq⟩ := okV_neg hv hz
  have hf : ∀ k, k < 6 → ¬ bdV (-1 - nz k) = -nz 1 ∧ -nz 1 - bdV (-1 - nz k) = -1 - nz k := by decide
  rw [hq]
  exact ⟨eq_false (hf k hk).1, (hf k hk).2⟩
theorem mul_c {x y z : Int32} (h : y = z) : x * y = x * z := by rw [h]
-- sums over a window
theorem sm_win {c0 l : Nat} (hl : l < 32) (hc : c0 ≤ l) {g : Nat → Int32} : sm 32 (fun c => if c0 ≤ c ∧ c ≤ l then g c else nz 0) = sm (l + 1 - c0) (fun j => g (c0 + j)) := by
  have h1 : sm 32 (fun c => if c0 ≤ c ∧ c ≤ l then g c else nz 0) = sm (l + 1) (fun c => if c0 ≤ c ∧ c ≤ l then g c else nz 0) := sm_cut (by omega) (fun i h1 h2 => by rw [if_neg (by omega)])
  rw [h1, show l + 1 = c0 + (l + 1 - c0) by omega, sm_split, sm_zero (n := c0) (fun i hi => by rw [if_neg (by omega)]), nz0_add, show c0 + (l + 1 - c0) - c0 = l + 1 - c0 by omega]
  exact sm_congr fun j hj => by rw [if_pos (by omega)]
theorem pc_win {y : Int32} {c0 l : Nat} (hl : l < 32) (hc : c0 ≤ l) : nz (pc (o_iand y (cb c0 l))) = sm (l + 1 - c0) (fun j => b01 (bt y (c0 + j))) := by
  rw [pc_sm, ← sm_win (g := fun c => b01 (bt y c)) hl hc]
  refine sm_congr fun c hc' => ?_
  rw [bt_and, bt_cb (by omega) hl hc']
  by_cases h : c0 ≤ c ∧ c ≤ l
  · rw [if_pos h, decide_eq_true h.1, decide_eq_true h.2, Bool.and_true, Bool.and_true]
  · rw [if_neg h]
    have : (decide (c0 ≤ c) && decide (c ≤ l)) = false := by
      simp only [Bool.and_eq_false_iff, decide_eq_false_iff_not]
      omega
    rw [this, Bool.and_false]
    rfl
/-- how many particles, how much momentum: columns c0 .., rows r0 .. -/
def cntS (S : St) (c0 nc r0 nr : Nat) : Int32 := sm nr (fun i => sm 6 (fun d => sm nc (fun j => b01 (pq (vS S (c0 + j) (r0 + i)) d))))
def mntS (S : St) (x c0 nc r0 nr : Nat) : Int32 := sm nr (fun i => sm 6 (fun d => mo x d * sm nc (fun j => b01 (pq (vS S (c0 + j) (r0 + i)) d))))
theorem x_numberIn (hb : TB b) (hw : WF T S) (hT : TR b m S) {c0 l r0 lr : Nat} (hl : l < 32) (hc : c0 ≤ l) (hr : r0 ≤ lr) (hlr : lr < 16) : f_X1_numberIn [.ref (b + 1), .int (cb c0 l), .int (nz r0), .int (nz lr)] (HM e m w) = some (HM e m w, .inl (some (.int (cntS S c0 (l + 1 - c0) r0 (lr + 1 - r0))))) := by
  rw [e_numberIn hb hr hlr, sm_flat]
  have : sm (lr + 1 - r0) (fun i => sm 6 (fun j => nz (pc (o_iand (m (b + 2) (r0 * 6 + (i * 6 + j))) (cb c0 l))))) = cntS S c0 (l + 1 - c0) r0 (lr + 1 - r0) := by
    unfold cntS
    refine sm_congr fun i hi => sm_congr fun d hd => ?_
    rw [pc_win hl hc]
    refine sm_congr fun j hj => ?_
    rw [show r0 * 6 + (i * 6 + d) = (r0 + i) * 6 + d by omega, hT.bits (by omega) hd (by omega)]
  rw [this]
theorem x_momentumIn (he : EO e) (hb : TB b) (hw : WF T S) (hT : TR b m S) (hx : x < 2) {c0 l r0 lr : Nat} (hl : l < 32) (hc : c0 ≤ l) (hr : r0 ≤ lr) (hlr : lr < 16) : f_X1_momentumIn [.ref (b + 1), .int (nz x), .int (cb c0 l), .int (nz r0), .int (nz lr)] (HM e m w) = some (HM e m w, .inl (some (.int (mntS S x c0 (l + 1 - c0) r0 (lr + 1 - r0))))) := by
  rw [e_momentumIn he hb hx hr hlr]
  have : sm (lr + 1 - r0) (fun i => sm 6 (fun d => mo x d * nz (pc (o_iand (m (b + 2) ((r0 + i) * 6 + d)) (cb c0 l))))) = mntS S x c0 (l + 1 - c0) r0 (lr + 1 - r0) := by
    unfold mntS
    refine sm_congr fun i hi => sm_congr fun d hd => ?_
    rw [pc_win hl hc]
    refine mul_c ?_
    refine sm_congr fun j hj => ?_
    rw [hT.bits (by omega) hd (by omega)]
  rw [this]
theorem all_m1 (y : Int32) : nz (pc (o_iand y (-1))) = sm 32 (fun c => b01 (bt y c)) := by
  rw [pc_sm]
  refine sm_congr fun c hc => ?_
  rw [bt_and, bt_m1, decide_eq_true hc, Bool.and_true]
theorem cut_W (hw : WF T S) (hr : r < 16) {d : Nat} (hd : d < 6) : sm 32 (fun c => b01 (pq (vS S c r) d)) = sm (wN S) (fun c => b01 (pq (vS S c r) d)) := sm_cut hw.1.2.1 (fun c h1 h2 => by
  rw [(hw.2.2.2.2.2.2.1 r hr c h2).2 (by omega), pq_nz (by decide) hd]
  simp [b01])
theorem x_numberAll (hb : TB b) (hw : WF T S) (hT : TR b m S) : f_X1_numberIn [.ref (b + 1), .int (-nz 1), .int (nz 0), .int (nz (hN S - 1))] (HM e m w) = some (HM e m w, .inl (some (.int (cntS S 0 (wN S) 0 (hN S))))) := by
  have hH := hw.2.1
  have h1 := e_numberIn (e := e) (w := w) (m := m) (r := 0) (l := hN S - 1) (x := -nz 1) hb (by omega) (by omega)
  rw [h1, sm_flat, show hN S - 1 + 1 - 0 = hN S by omega]
  have : sm (hN S) (fun i => sm 6 (fun j => nz (pc (o_iand (m (b + 2) (0 * 6 + (i * 6 + j))) (-nz 1))))) = cntS S 0 (wN S) 0 (hN S) := by
    unfold cntS
    refine sm_congr fun i hi => sm_congr fun d hd => ?_
    have h2 : nz (pc (o_iand (m (b + 2) (0 * 6 + (i * 6 + d))) (-nz 1))) = sm 32 (fun c => b01 (bt (m (b + 2) (0 * 6 + (i * 6 + d))) c)) := all_m1 _
    rw [h2, show 0 * 6 + (i * 6 + d) = i * 6 + d by omega, Nat.zero_add, ← show sm (wN S) (fun c => b01 (pq (vS S c i) d)) = sm (wN S) (fun j => b01 (pq (vS S (0 + j) i) d)) from sm_congr fun j _ => by rw [Nat.zero_add], ← cut_W hw (by omega) hd]
    exact sm_congr fun c hc => by rw [hT.bits (by omega) hd hc]
  rw [this]
theorem x_momentumAll (he : EO e) (hb : TB b) (hw : WF T S) (hT : TR b m S) (hx : x < 2) : f_X1_momentumIn [.ref (b + 1), .int (nz x), .int (-nz 1), .int (nz 0), .int (nz (hN S - 1))] (HM e m w) = some (HM e m w, .inl (some (.int (mntS S x 0 (wN S) 0 (hN S))))) := by
  have hH := hw.2.1
  have h1 := e_momentumIn (e := e) (w := w) (m := m) (r := 0) (l := hN S - 1) (y := -nz 1) he hb hx (by omega) (by omega)
  rw [h1, show hN S - 1 + 1 - 0 = hN S by omega]
  have : sm (hN S) (fun i => sm 6 (fun d => mo x d * nz (pc (o_iand (m (b + 2) ((0 + i) * 6 + d)) (-nz 1))))) = mntS S x 0 (wN S) 0 (hN S) := by
    unfold mntS
    refine sm_congr fun i hi => sm_congr fun d hd => ?_
    have h2 : nz (pc (o_iand (m (b + 2) ((0 + i) * 6 + d)) (-nz 1))) = sm 32 (fun c => b01 (bt (m (b + 2) ((0 + i) * 6 + d)) c)) := all_m1 _
    rw [h2, Nat.zero_add, ← show sm (wN S) (fun c => b01 (pq (vS S c i) d)) = sm (wN S) (fun j => b01 (pq (vS S (0 + j) i) d)) from sm_congr fun j _ => by rw [Nat.zero_add], ← cut_W hw (by omega) hd]
    refine mul_c ?_
    exact sm_congr fun c hc => by rw [hT.bits (by omega) hd hc]
  rw [this]
-- the model's
def posV (v : Int32) : Int32 := if z_lt v then nz 0 else v
theorem on_pos {v : Int32} (hv : okV v) : on1 (posV v) = sm 6 (fun d => b01 (pq v d)) := by
  rcases hv with ⟨n, hn, hq⟩ | ⟨k, hk, hq⟩
  · have : posV v = nz n := by
      unfold posV
      rw [hq, zlt_nz (by omega), if_neg (by decide)]
    rw [this]
    unfold on1
    exact sm_congr fun d hd => by rw [hq, pq_nz hn hd, bt_nz _ (by omega)]
  · have hf : ∀ k, k < 6 → on1 (posV (-1 - nz k)) = nz 0 := by decide +kernel
    rw [hq, hf k hk, sm_zero]
    intro d hd
    rw [pq_neg hk]
    rfl
theorem pu_pos {v : Int32} (hv : okV v) (hx : x < 2) : pu x (posV v) = sm 6 (fun d => mo x d * b01 (pq v d)) := by
  rcases hv with ⟨n, hn, hq⟩ | ⟨k, hk, hq⟩
  · have : posV v = nz n := by
      unfold posV
      rw [hq, zlt_nz (by omega), if_neg (by decide)]
    rw [this]
    unfold pu
    refine sm_congr fun d hd => ?_
    rw [hq, pq_nz hn hd, bt_nz _ (by omega)]
    cases n.testBit d
    · rw [if_neg (by decide), mb_f]
    · rw [if_pos rfl, mb_t]
  · have hf : ∀ k, k < 6 → ∀ x, x < 2 → pu x (posV (-1 - nz k)) = nz 0 := by decide +kernel
    rw [hq, hf k hk x hx, sm_zero]
    intro d hd
    rw [pq_neg hk, mb_f]
/-- the sum over a window, cell by cell -/
theorem e_sumOfM {z : Int32} {F : Int32 → Int32} {c0 l r0 lr : Nat} (hl : l < 32) (hc : c0 ≤ l + 1) (hr : r0 ≤ lr + 1) (hlr : lr < 16) (hF : ∀ (h : Hp) (v : Int32), (bif z_lt z then kI (f_X8_ones [.int v] h) else kI (f_X8_pushes [.int z, .int v] h)) = some (h, .inl (F v))) :
    f_X8_sumOf [.ref 133, .int z, .int (nz c0), .int (nz r0), .int (nz l), .int (nz lr)] (HM e m w) = some (HM e m w, .inl (some (.int (sm (lr + 1 - r0) (fun i => sm (l + 1 - c0) (fun j => F (posV (vS (m 134) (c0 + j) (r0 + i))))))))) := by
  unfold f_X8_sumOf
  simp (disch := omega) only [mth_w, kR_w, kR_if, sQ_v, sN_v, sTi_v, sTa_v, sTl_v, sR_v, sRv_v, sX_v, sPi_v, sPo_v, sPz_w, zP_b, sRz_w, zR_bw, zR_0w, zR_1w, sPa_v, sAi_v, sAl_v, sAo_v, sAa_v, sM_w, sMp_w, eM_w, sIf_w, eIf_w, cAnd_w, cOr_w, cB_v, cZ_v, cNot_v, eC_v, eI_v, eJ_v, eOp_v, eQ_v, eU_v, eIL_v, eLO_v, eLS_v, eLC_v, eGi_v, eGa_v, eZ_w, eAi_v, eAl_v, eAa_v, eAn_v, aN_v, aI_v, aA_v, sInc_v, sB_okw, sB_xw, eS_okw, eS_xw, eB_okw, eB_xw, oE_w, oS_w, kI_iw, kI_xw, kV_w, kV_xw, kP_iw, kP_xw, List.set_cons_zero, List.set_cons_succ, List.cons_append, List.nil_append, List.length_cons, List.length_nil, List.replicate_succ, List.replicate_zero, List.append_nil, bif_and, bif_or, zne_b01, zeq_b01, bif_d, cond_true, cond_false, nar_0, o_iadd, o_isub, o_imul, c_eq, c_ne, c_lt, c_ge, c_gt, c_le, Nat.reduceAdd, Nat.reduceSub, Nat.zero_add, if_true, if_false, eLl_2, eLi_0, eLi_1, eLi_2, eLi_3, eLi_4, eLi_5, eLi_6, eLi_7, eLi_8, eLi_9, eLi_10, eLi_11, eLi_12, eLi_13, eLa_0, eLa_1, eLa_2, eLa_3, eLa_4, eLa_5, eLa_6, eLa_7, nz_add, nz_mul, nz_sub, nz_lt, nz_le, nz_inj, zeq_nz, zne_nz, zge_nz, zgt_nz, zlt_nz, nlit0, nlit1, nlit2, nlit3, nlit4, nlit5, nlit6, nlit7, nlit8, nlit9, nlit10, nlit11, nlit12, nlit16, nlit18, nlit22, nlit31, nlit32, nlit33, nlit34, nlit40, nlit48, nlit60, nlit63, nlit64, nlit66, nlit80, nlit96, nlit114, nlit126, nlit128, nlit512, nlit756, nlit882, nlit1000, nlit1394, nlit1522, nlit1523, nlit10000]
  generalize hR : sLp _ _ NF _ _ = R
  obtain ⟨_, _, h1, v8, v9, rfl, rfl⟩ := sLp_invR hR (fun i l1 h => ∃ v8 v9, l1 = [.ref 133, .int z, .int (nz c0), .int (nz r0), .int (nz l), .int (nz lr), .int (sm i (fun i => sm (l + 1 - c0) (fun j => F (posV (vS (m 134) (c0 + j) (r0 + i)))))), .int (nz (r0 + i)), v8, v9] ∧ h = HM e m w) (lr + 1 - r0) (NF_lt (by omega)) (fun i l1 h hi hI => by
    obtain ⟨v8, v9, rfl, rfl⟩ := hI
    refine ⟨?_, ?_⟩
    · simp (disch := omega) only [mth_w, kR_w, kR_if, sQ_v, sN_v, sTi_v, sTa_v, sTl_v, sR_v, sRv_v, sX_v, sPi_v, sPo_v, sPz_w, zP_b, sRz_w, zR_bw, zR_0w, zR_1w, sPa_v, sAi_v, sAl_v, sAo_v, sAa_v, sM_w, sMp_w, eM_w, sIf_w, eIf_w, cAnd_w, cOr_w, cB_v, cZ_v, cNot_v, eC_v, eI_v, eJ_v, eOp_v, eQ_v, eU_v, eIL_v, eLO_v, eLS_v, eLC_v, eGi_v, eGa_v, eZ_w, eAi_v, eAl_v, eAa_v, eAn_v, aN_v, aI_v, aA_v, sInc_v, sB_okw, sB_xw, eS_okw, eS_xw, eB_okw, eB_xw, oE_w, oS_w, kI_iw, kI_xw, kV_w, kV_xw, kP_iw, kP_xw, List.set_cons_zero, List.set_cons_succ, List.cons_append, List.nil_append, List.length_cons, List.length_nil, List.replicate_succ, List.replicate_zero, List.append_nil, bif_and, bif_or, zne_b01, zeq_b01, bif_d, cond_true, cond_false, nar_0, o_iadd, o_isub, o_imul, c_eq, c_ne, c_lt, c_ge, c_gt, c_le, Nat.reduceAdd, Nat.reduceSub, Nat.zero_add, if_true, if_false, eLl_2, eLi_0, eLi_1, eLi_2, eLi_3, eLi_4, eLi_5, eLi_6, eLi_7, eLi_8, eLi_9, eLi_10, eLi_11, eLi_12, eLi_13, eLa_0, eLa_1, eLa_2, eLa_3, eLa_4, eLa_5, eLa_6, eLa_7, nz_add, nz_mul, nz_sub, nz_lt, nz_le, nz_inj, zeq_nz, zne_nz, zge_nz, zgt_nz, zlt_nz, nlit0, nlit1, nlit2, nlit3, nlit4, nlit5, nlit6, nlit7, nlit8, nlit9, nlit10, nlit11, nlit12, nlit16, nlit18, nlit22, nlit31, nlit32, nlit33, nlit34, nlit40, nlit48, nlit60, nlit63, nlit64, nlit66, nlit80, nlit96, nlit114, nlit126, nlit128, nlit512, nlit756, nlit882, nlit1000, nlit1394, nlit1522, nlit1523, nlit10000]
      simp
      omega
    · simp (disch := omega) only [mth_w, kR_w, kR_if, sQ_v, sN_v, sTi_v, sTa_v, sTl_v, sR_v, sRv_v, sX_v, sPi_v, sPo_v, sPz_w, zP_b, sRz_w, zR_bw, zR_0w, zR_1w, sPa_v, sAi_v, sAl_v, sAo_v, sAa_v, sM_w, sMp_w, eM_w, sIf_w, eIf_w, cAnd_w, cOr_w, cB_v, cZ_v, cNot_v, eC_v, eI_v, eJ_v, eOp_v, eQ_v, eU_v, eIL_v, eLO_v, eLS_v, eLC_v, eGi_v, eGa_v, eZ_w, eAi_v, eAl_v, eAa_v, eAn_v, aN_v, aI_v, aA_v, sInc_v, sB_okw, sB_xw, eS_okw, eS_xw, eB_okw, eB_xw, oE_w, oS_w, kI_iw, kI_xw, kV_w, kV_xw, kP_iw, kP_xw, List.set_cons_zero, List.set_cons_succ, List.cons_append, List.nil_append, List.length_cons, List.length_nil, List.replicate_succ, List.replicate_zero, List.append_nil, bif_and, bif_or, zne_b01, zeq_b01, bif_d, cond_true, cond_false, nar_0, o_iadd, o_isub, o_imul, c_eq, c_ne, c_lt, c_ge, c_gt, c_le, Nat.reduceAdd, Nat.reduceSub, Nat.zero_add, if_true, if_false, eLl_2, eLi_0, eLi_1, eLi_2, eLi_3, eLi_4, eLi_5, eLi_6, eLi_7, eLi_8, eLi_9, eLi_10, eLi_11, eLi_12, eLi_13, eLa_0, eLa_1, eLa_2, eLa_3, eLa_4, eLa_5, eLa_6, eLa_7, nz_add, nz_mul, nz_sub, nz_lt, nz_le, nz_inj, zeq_nz, zne_nz, zge_nz, zgt_nz, zlt_nz, nlit0, nlit1, nlit2, nlit3, nlit4, nlit5, nlit6, nlit7, nlit8, nlit9, nlit10, nlit11, nlit12, nlit16, nlit18, nlit22, nlit31, nlit32, nlit33, nlit34, nlit40, nlit48, nlit60, nlit63, nlit64, nlit66, nlit80, nlit96, nlit114, nlit126, nlit128, nlit512, nlit756, nlit882, nlit1000, nlit1394, nlit1522, nlit1523, nlit10000]
      generalize hR2 : sLp _ _ NF _ _ = R2
      obtain ⟨_, _, h2, v10, rfl, rfl⟩ := sLp_invR hR2 (fun q l1 h => ∃ v10, l1 = [.ref 133, .int z, .int (nz c0), .int (nz r0), .int (nz l), .int (nz lr), .int (sm i (fun i => sm (l + 1 - c0) (fun j => F (posV (vS (m 134) (c0 + j) (r0 + i))))) + sm q (fun j => F (posV (vS (m 134) (c0 + j) (r0 + i))))), .int (nz (r0 + i)), .int (nz (c0 + q)), v10] ∧ h = HM e m w) (l + 1 - c0) (NF_lt (by omega)) (fun q l1 h hq hI2 => by
        obtain ⟨v10, rfl, rfl⟩ := hI2
        have hif : ∀ (h : Hp) (v : Int32), (bif z_lt v then (some (h, .inl (nz 0)) : RE Int32) else some (h, .inl v)) = some (h, .inl (posV v)) := by
          intro h v
          unfold posV
          cases z_lt v <;> rfl
        refine ⟨?_, ?_⟩
        · simp (disch := omega) only [mth_w, kR_w, kR_if, sQ_v, sN_v, sTi_v, sTa_v, sTl_v, sR_v, sRv_v, sX_v, sPi_v, sPo_v, sPz_w, zP_b, sRz_w, zR_bw, zR_0w, zR_1w, sPa_v, sAi_v, sAl_v, sAo_v, sAa_v, sM_w, sMp_w, eM_w, sIf_w, eIf_w, cAnd_w, cOr_w, cB_v, cZ_v, cNot_v, eC_v, eI_v, eJ_v, eOp_v, eQ_v, eU_v, eIL_v, eLO_v, eLS_v, eLC_v, eGi_v, eGa_v, eZ_w, eAi_v, eAl_v, eAa_v, eAn_v, aN_v, aI_v, aA_v, sInc_v, sB_okw, sB_xw, eS_okw, eS_xw, eB_okw, eB_xw, oE_w, oS_w, kI_iw, kI_xw, kV_w, kV_xw, kP_iw, kP_xw, List.set_cons_zero, List.set_cons_succ, List.cons_append, List.nil_append, List.length_cons, List.length_nil, List.replicate_succ, List.replicate_zero, List.append_nil, bif_and, bif_or, zne_b01, zeq_b01, bif_d, cond_true, cond_false, nar_0, o_iadd, o_isub, o_imul, c_eq, c_ne, c_lt, c_ge, c_gt, c_le, Nat.reduceAdd, Nat.reduceSub, Nat.zero_add, if_true, if_false, eLl_2, eLi_0, eLi_1, eLi_2, eLi_3, eLi_4, eLi_5, eLi_6, eLi_7, eLi_8, eLi_9, eLi_10, eLi_11, eLi_12, eLi_13, eLa_0, eLa_1, eLa_2, eLa_3, eLa_4, eLa_5, eLa_6, eLa_7, nz_add, nz_mul, nz_sub, nz_lt, nz_le, nz_inj, zeq_nz, zne_nz, zge_nz, zgt_nz, zlt_nz, nlit0, nlit1, nlit2, nlit3, nlit4, nlit5, nlit6, nlit7, nlit8, nlit9, nlit10, nlit11, nlit12, nlit16, nlit18, nlit22, nlit31, nlit32, nlit33, nlit34, nlit40, nlit48, nlit60, nlit63, nlit64, nlit66, nlit80, nlit96, nlit114, nlit126, nlit128, nlit512, nlit756, nlit882, nlit1000, nlit1394, nlit1522, nlit1523, nlit10000]
          simp
          omega
        · refine ⟨_, _, ?_, .int (posV (vS (m 134) (c0 + q) (r0 + i))), rfl, rfl⟩
          simp (disch := omega) only [mth_w, kR_w, kR_if, sQ_v, sN_v, sTi_v, sTa_v, sTl_v, sR_v, sRv_v, sX_v, sPi_v, sPo_v, sPz_w, zP_b, sRz_w, zR_bw, zR_0w, zR_1w, sPa_v, sAi_v, sAl_v, sAo_v, sAa_v, sM_w, sMp_w, eM_w, sIf_w, eIf_w, cAnd_w, cOr_w, cB_v, cZ_v, cNot_v, eC_v, eI_v, eJ_v, eOp_v, eQ_v, eU_v, eIL_v, eLO_v, eLS_v, eLC_v, eGi_v, eGa_v, eZ_w, eAi_v, eAl_v, eAa_v, eAn_v, aN_v, aI_v, aA_v, sInc_v, sB_okw, sB_xw, eS_okw, eS_xw, eB_okw, eB_xw, oE_w, oS_w, kI_iw, kI_xw, kV_w, kV_xw, kP_iw, kP_xw, List.set_cons_zero, List.set_cons_succ, List.cons_append, List.nil_append, List.length_cons, List.length_nil, List.replicate_succ, List.replicate_zero, List.append_nil, bif_and, bif_or, zne_b01, zeq_b01, bif_d, cond_true, cond_false, nar_0, o_iadd, o_isub, o_imul, c_eq, c_ne, c_lt, c_ge, c_gt, c_le, Nat.reduceAdd, Nat.reduceSub, Nat.zero_add, if_true, if_false, eLl_2, eLi_0, eLi_1, eLi_2, eLi_3, eLi_4, eLi_5, eLi_6, eLi_7, eLi_8, eLi_9, eLi_10, eLi_11, eLi_12, eLi_13, eLa_0, eLa_1, eLa_2, eLa_3, eLa_4, eLa_5, eLa_6, eLa_7, nz_add, nz_mul, nz_sub, nz_lt, nz_le, nz_inj, zeq_nz, zne_nz, zge_nz, zgt_nz, zlt_nz, nlit0, nlit1, nlit2, nlit3, nlit4, nlit5, nlit6, nlit7, nlit8, nlit9, nlit10, nlit11, nlit12, nlit16, nlit18, nlit22, nlit31, nlit32, nlit33, nlit34, nlit40, nlit48, nlit60, nlit63, nlit64, nlit66, nlit80, nlit96, nlit114, nlit126, nlit128, nlit512, nlit756, nlit882, nlit1000, nlit1394, nlit1522, nlit1523, nlit10000, gd_133, rf_133_0, rf_133_1, rf_133_2, rf_133_3, rf_133_4, rf_133_5, rf_133_6, rf_133_7, rf_133_8, rd_133_9, wr_133_9, rd_133_10, wr_133_10, rf_133_11, rd_133_12, wr_133_12, rd_133_13, wr_133_13, rd_133_14, wr_133_14, rd_133_15, wr_133_15, rd_133_16, wr_133_16, rf_133_17, rf_133_18, ar_134, aw_134, an_134, ar_135, aw_135, an_135, ar_136, aw_136, an_136, ar_137, aw_137, ar_138, aw_138, an_138, ar_139, aw_139, an_139, ar_140, aw_140, an_140, ar_141, aw_141, an_141, ar_142, aw_142, an_142, ar_143, aw_143, an_143, ar_144, aw_144, an_144, ar_145, aw_145, e_had, hif, hF, sm_succ, Int32.add_assoc]
          rfl) (fun l1 h hI2 => by
        obtain ⟨v10, rfl, rfl⟩ := hI2
        simp (disch := omega) only [mth_w, kR_w, kR_if, sQ_v, sN_v, sTi_v, sTa_v, sTl_v, sR_v, sRv_v, sX_v, sPi_v, sPo_v, sPz_w, zP_b, sRz_w, zR_bw, zR_0w, zR_1w, sPa_v, sAi_v, sAl_v, sAo_v, sAa_v, sM_w, sMp_w, eM_w, sIf_w, eIf_w, cAnd_w, cOr_w, cB_v, cZ_v, cNot_v, eC_v, eI_v, eJ_v, eOp_v, eQ_v, eU_v, eIL_v, eLO_v, eLS_v, eLC_v, eGi_v, eGa_v, eZ_w, eAi_v, eAl_v, eAa_v, eAn_v, aN_v, aI_v, aA_v, sInc_v, sB_okw, sB_xw, eS_okw, eS_xw, eB_okw, eB_xw, oE_w, oS_w, kI_iw, kI_xw, kV_w, kV_xw, kP_iw, kP_xw, List.set_cons_zero, List.set_cons_succ, List.cons_append, List.nil_append, List.length_cons, List.length_nil, List.replicate_succ, List.replicate_zero, List.append_nil, bif_and, bif_or, zne_b01, zeq_b01, bif_d, cond_true, cond_false, nar_0, o_iadd, o_isub, o_imul, c_eq, c_ne, c_lt, c_ge, c_gt, c_le, Nat.reduceAdd, Nat.reduceSub, Nat.zero_add, if_true, if_false, eLl_2, eLi_0, eLi_1, eLi_2, eLi_3, eLi_4, eLi_5, eLi_6, eLi_7, eLi_8, eLi_9, eLi_10, eLi_11, eLi_12, eLi_13, eLa_0, eLa_1, eLa_2, eLa_3, eLa_4, eLa_5, eLa_6, eLa_7, nz_add, nz_mul, nz_sub, nz_lt, nz_le, nz_inj, zeq_nz, zne_nz, zge_nz, zgt_nz, zlt_nz, nlit0, nlit1, nlit2, nlit3, nlit4, nlit5, nlit6, nlit7, nlit8, nlit9, nlit10, nlit11, nlit12, nlit16, nlit18, nlit22, nlit31, nlit32, nlit33, nlit34, nlit40, nlit48, nlit60, nlit63, nlit64, nlit66, nlit80, nlit96, nlit114, nlit126, nlit128, nlit512, nlit756, nlit882, nlit1000, nlit1394, nlit1522, nlit1523, nlit10000]
        simp
        omega) ⟨_, by rw [sm_0, add_nz0]; rfl, rfl⟩
      rw [h2]
      refine ⟨_, _, ?_, .int (nz (c0 + (l + 1 - c0))), v10, rfl, rfl⟩
      simp (disch := omega) only [mth_w, kR_w, kR_if, sQ_v, sN_v, sTi_v, sTa_v, sTl_v, sR_v, sRv_v, sX_v, sPi_v, sPo_v, sPz_w, zP_b, sRz_w, zR_bw, zR_0w, zR_1w, sPa_v, sAi_v, sAl_v, sAo_v, sAa_v, sM_w, sMp_w, eM_w, sIf_w, eIf_w, cAnd_w, cOr_w, cB_v, cZ_v, cNot_v, eC_v, eI_v, eJ_v, eOp_v, eQ_v, eU_v, eIL_v, eLO_v, eLS_v, eLC_v, eGi_v, eGa_v, eZ_w, eAi_v, eAl_v, eAa_v, eAn_v, aN_v, aI_v, aA_v, sInc_v, sB_okw, sB_xw, eS_okw, eS_xw, eB_okw, eB_xw, oE_w, oS_w, kI_iw, kI_xw, kV_w, kV_xw, kP_iw, kP_xw, List.set_cons_zero, List.set_cons_succ, List.cons_append, List.nil_append, List.length_cons, List.length_nil, List.replicate_succ, List.replicate_zero, List.append_nil, bif_and, bif_or, zne_b01, zeq_b01, bif_d, cond_true, cond_false, nar_0, o_iadd, o_isub, o_imul, c_eq, c_ne, c_lt, c_ge, c_gt, c_le, Nat.reduceAdd, Nat.reduceSub, Nat.zero_add, if_true, if_false, eLl_2, eLi_0, eLi_1, eLi_2, eLi_3, eLi_4, eLi_5, eLi_6, eLi_7, eLi_8, eLi_9, eLi_10, eLi_11, eLi_12, eLi_13, eLa_0, eLa_1, eLa_2, eLa_3, eLa_4, eLa_5, eLa_6, eLa_7, nz_add, nz_mul, nz_sub, nz_lt, nz_le, nz_inj, zeq_nz, zne_nz, zge_nz, zgt_nz, zlt_nz, nlit0, nlit1, nlit2, nlit3, nlit4, nlit5, nlit6, nlit7, nlit8, nlit9, nlit10, nlit11, nlit12, nlit16, nlit18, nlit22, nlit31, nlit32, nlit33, nlit34, nlit40, nlit48, nlit60, nlit63, nlit64, nlit66, nlit80, nlit96, nlit114, nlit126, nlit128, nlit512, nlit756, nlit882, nlit1000, nlit1394, nlit1522, nlit1523, nlit10000, sm_succ]
      rfl) (fun l1 h hI => by
    obtain ⟨v8, v9, rfl, rfl⟩ := hI
    simp (disch := omega) only [mth_w, kR_w, kR_if, sQ_v, sN_v, sTi_v, sTa_v, sTl_v, sR_v, sRv_v, sX_v, sPi_v, sPo_v, sPz_w, zP_b, sRz_w, zR_bw, zR_0w, zR_1w, sPa_v, sAi_v, sAl_v, sAo_v, sAa_v, sM_w, sMp_w, eM_w, sIf_w, eIf_w, cAnd_w, cOr_w, cB_v, cZ_v, cNot_v, eC_v, eI_v, eJ_v, eOp_v, eQ_v, eU_v, eIL_v, eLO_v, eLS_v, eLC_v, eGi_v, eGa_v, eZ_w, eAi_v, eAl_v, eAa_v, eAn_v, aN_v, aI_v, aA_v, sInc_v, sB_okw, sB_xw, eS_okw, eS_xw, eB_okw, eB_xw, oE_w, oS_w, kI_iw, kI_xw, kV_w, kV_xw, kP_iw, kP_xw, List.set_cons_zero, List.set_cons_succ, List.cons_append, List.nil_append, List.length_cons, List.length_nil, List.replicate_succ, List.replicate_zero, List.append_nil, bif_and, bif_or, zne_b01, zeq_b01, bif_d, cond_true, cond_false, nar_0, o_iadd, o_isub, o_imul, c_eq, c_ne, c_lt, c_ge, c_gt, c_le, Nat.reduceAdd, Nat.reduceSub, Nat.zero_add, if_true, if_false, eLl_2, eLi_0, eLi_1, eLi_2, eLi_3, eLi_4, eLi_5, eLi_6, eLi_7, eLi_8, eLi_9, eLi_10, eLi_11, eLi_12, eLi_13, eLa_0, eLa_1, eLa_2, eLa_3, eLa_4, eLa_5, eLa_6, eLa_7, nz_add, nz_mul, nz_sub, nz_lt, nz_le, nz_inj, zeq_nz, zne_nz, zge_nz, zgt_nz, zlt_nz, nlit0, nlit1, nlit2, nlit3, nlit4, nlit5, nlit6, nlit7, nlit8, nlit9, nlit10, nlit11, nlit12, nlit16, nlit18, nlit22, nlit31, nlit32, nlit33, nlit34, nlit40, nlit48, nlit60, nlit63, nlit64, nlit66, nlit80, nlit96, nlit114, nlit126, nlit128, nlit512, nlit756, nlit882, nlit1000, nlit1394, nlit1522, nlit1523, nlit10000]
    simp
    omega) ⟨_, _, rfl, rfl⟩
  rw [h1]
  simp (disch := omega) only [mth_w, kR_w, kR_if, sQ_v, sN_v, sTi_v, sTa_v, sTl_v, sR_v, sRv_v, sX_v, sPi_v, sPo_v, sPz_w, zP_b, sRz_w, zR_bw, zR_0w, zR_1w, sPa_v, sAi_v, sAl_v, sAo_v, sAa_v, sM_w, sMp_w, eM_w, sIf_w, eIf_w, cAnd_w, cOr_w, cB_v, cZ_v, cNot_v, eC_v, eI_v, eJ_v, eOp_v, eQ_v, eU_v, eIL_v, eLO_v, eLS_v, eLC_v, eGi_v, eGa_v, eZ_w, eAi_v, eAl_v, eAa_v, eAn_v, aN_v, aI_v, aA_v, sInc_v, sB_okw, sB_xw, eS_okw, eS_xw, eB_okw, eB_xw, oE_w, oS_w, kI_iw, kI_xw, kV_w, kV_xw, kP_iw, kP_xw, List.set_cons_zero, List.set_cons_succ, List.cons_append, List.nil_append, List.length_cons, List.length_nil, List.replicate_succ, List.replicate_zero, List.append_nil, bif_and, bif_or, zne_b01, zeq_b01, bif_d, cond_true, cond_false, nar_0, o_iadd, o_isub, o_imul, c_eq, c_ne, c_lt, c_ge, c_gt, c_le, Nat.reduceAdd, Nat.reduceSub, Nat.zero_add, if_true, if_false, eLl_2, eLi_0, eLi_1, eLi_2, eLi_3, eLi_4, eLi_5, eLi_6, eLi_7, eLi_8, eLi_9, eLi_10, eLi_11, eLi_12, eLi_13, eLa_0, eLa_1, eLa_2, eLa_3, eLa_4, eLa_5, eLa_6, eLa_7, nz_add, nz_mul, nz_sub, nz_lt, nz_le, nz_inj, zeq_nz, zne_nz, zge_nz, zgt_nz, zlt_nz, nlit0, nlit1, nlit2, nlit3, nlit4, nlit5, nlit6, nlit7, nlit8, nlit9, nlit10, nlit11, nlit12, nlit16, nlit18, nlit22, nlit31, nlit32, nlit33, nlit34, nlit40, nlit48, nlit60, nlit63, nlit64, nlit66, nlit80, nlit96, nlit114, nlit126, nlit128, nlit512, nlit756, nlit882, nlit1000, nlit1394, nlit1522, nlit1523, nlit10000]
theorem x_density (hw : WF T (m 134)) {c0 l r0 lr : Nat} (hl : l < 32) (hc : c0 ≤ l + 1) (hr : r0 ≤ lr + 1) (hlr : lr < 16) : f_X8_sumOf [.ref 133, .int (-nz 1), .int (nz c0), .int (nz r0), .int (nz l), .int (nz lr)] (HM e m w) = some (HM e m w, .inl (some (.int (cntS (m 134) c0 (l + 1 - c0) r0 (lr + 1 - r0))))) := by
  rw [e_sumOfM (F := on1) hl hc hr hlr (fun h v => by
    have : z_lt (-nz 1) = true := by decide
    simp only [mth_w, kR_w, kR_if, sQ_v, sN_v, sTi_v, sTa_v, sTl_v, sR_v, sRv_v, sX_v, sPi_v, sPo_v, sPz_w, zP_b, sRz_w, zR_bw, zR_0w, zR_1w, sPa_v, sAi_v, sAl_v, sAo_v, sAa_v, sM_w, sMp_w, eM_w, sIf_w, eIf_w, cAnd_w, cOr_w, cB_v, cZ_v, cNot_v, eC_v, eI_v, eJ_v, eOp_v, eQ_v, eU_v, eIL_v, eLO_v, eLS_v, eLC_v, eGi_v, eGa_v, eZ_w, eAi_v, eAl_v, eAa_v, eAn_v, aN_v, aI_v, aA_v, sInc_v, sB_okw, sB_xw, eS_okw, eS_xw, eB_okw, eB_xw, oE_w, oS_w, kI_iw, kI_xw, kV_w, kV_xw, kP_iw, kP_xw, List.set_cons_zero, List.set_cons_succ, List.cons_append, List.nil_append, List.length_cons, List.length_nil, List.replicate_succ, List.replicate_zero, List.append_nil, bif_and, bif_or, zne_b01, zeq_b01, bif_d, cond_true, cond_false, nar_0, o_iadd, o_isub, o_imul, c_eq, c_ne, c_lt, c_ge, c_gt, c_le, Nat.reduceAdd, Nat.reduceSub, Nat.zero_add, if_true, if_false, eLl_2, eLi_0, eLi_1, eLi_2, eLi_3, eLi_4, eLi_5, eLi_6, eLi_7, eLi_8, eLi_9, eLi_10, eLi_11, eLi_12, eLi_13, eLa_0, eLa_1, eLa_2, eLa_3, eLa_4, eLa_5, eLa_6, eLa_7, this, e_ones])]
  have : sm (lr + 1 - r0) (fun i => sm (l + 1 - c0) (fun j => on1 (posV (vS (m 134) (c0 + j) (r0 + i))))) = cntS (m 134) c0 (l + 1 - c0) r0 (lr + 1 - r0) := by
    unfold cntS
    refine sm_congr fun i hi => ?_
    rw [← sm_swap]
    exact sm_congr fun j hj => on_pos (hw.2.2.2.2.2.2.1 _ (by omega) _ (by omega)).1
  rw [this]
theorem x_windM (hw : WF T (m 134)) (hx : x < 2) {c0 l r0 lr : Nat} (hl : l < 32) (hc : c0 ≤ l + 1) (hr : r0 ≤ lr + 1) (hlr : lr < 16) : f_X8_sumOf [.ref 133, .int (nz x), .int (nz c0), .int (nz r0), .int (nz l), .int (nz lr)] (HM e m w) = some (HM e m w, .inl (some (.int (mntS (m 134) x c0 (l + 1 - c0) r0 (lr + 1 - r0))))) := by
  rw [e_sumOfM (F := pu x) hl hc hr hlr (fun h v => by
    simp (disch := omega) only [mth_w, kR_w, kR_if, sQ_v, sN_v, sTi_v, sTa_v, sTl_v, sR_v, sRv_v, sX_v, sPi_v, sPo_v, sPz_w, zP_b, sRz_w, zR_bw, zR_0w, zR_1w, sPa_v, sAi_v, sAl_v, sAo_v, sAa_v, sM_w, sMp_w, eM_w, sIf_w, eIf_w, cAnd_w, cOr_w, cB_v, cZ_v, cNot_v, eC_v, eI_v, eJ_v, eOp_v, eQ_v, eU_v, eIL_v, eLO_v, eLS_v, eLC_v, eGi_v, eGa_v, eZ_w, eAi_v, eAl_v, eAa_v, eAn_v, aN_v, aI_v, aA_v, sInc_v, sB_okw, sB_xw, eS_okw, eS_xw, eB_okw, eB_xw, oE_w, oS_w, kI_iw, kI_xw, kV_w, kV_xw, kP_iw, kP_xw, List.set_cons_zero, List.set_cons_succ, List.cons_append, List.nil_append, List.length_cons, List.length_nil, List.replicate_succ, List.replicate_zero, List.append_nil, bif_and, bif_or, zne_b01, zeq_b01, bif_d, cond_true, cond_false, nar_0, o_iadd, o_isub, o_imul, c_eq, c_ne, c_lt, c_ge, c_gt, c_le, Nat.reduceAdd, Nat.reduceSub, Nat.zero_add, if_true, if_false, eLl_2, eLi_0, eLi_1, eLi_2, eLi_3, eLi_4, eLi_5, eLi_6, eLi_7, eLi_8, eLi_9, eLi_10, eLi_11, eLi_12, eLi_13, eLa_0, eLa_1, eLa_2, eLa_3, eLa_4, eLa_5, eLa_6, eLa_7, nz_add, nz_mul, nz_sub, nz_lt, nz_le, nz_inj, zeq_nz, zne_nz, zge_nz, zgt_nz, zlt_nz, nlit0, nlit1, nlit2, nlit3, nlit4, nlit5, nlit6, nlit7, nlit8, nlit9, nlit10, nlit11, nlit12, nlit16, nlit18, nlit22, nlit31, nlit32, nlit33, nlit34, nlit40, nlit48, nlit60, nlit63, nlit64, nlit66, nlit80, nlit96, nlit114, nlit126, nlit128, nlit512, nlit756, nlit882, nlit1000, nlit1394, nlit1522, nlit1523, nlit10000, e_pushes])]
  have : sm (lr + 1 - r0) (fun i => sm (l + 1 - c0) (fun j => pu x (posV (vS (m 134) (c0 + j) (r0 + i))))) = mntS (m 134) x c0 (l + 1 - c0) r0 (lr + 1 - r0) := by
    unfold mntS
    refine sm_congr fun i hi => ?_
    have : sm 6 (fun d => mo x d * sm (l + 1 - c0) (fun j => b01 (pq (vS (m 134) (c0 + j) (r0 + i)) d))) = sm 6 (fun d => sm (l + 1 - c0) (fun j => mo x d * b01 (pq (vS (m 134) (c0 + j) (r0 + i)) d))) := sm_congr fun d _ => sm_mul.symm
    rw [this, ← sm_swap]
    exact sm_congr fun j hj => pu_pos (hw.2.2.2.2.2.2.1 _ (by omega) _ (by omega)).1 hx
  rw [this]
-- bodies
def szS (S : St) (k : Nat) : Int32 := sm 512 (fun i => b01 (bq (S (882 + i)) k))
theorem sz_rows (hw : WF T S) (hk : k < 6) : szS S k = sm (hN S) (fun r => sm 32 (fun c => b01 (bq (vS S c r) k))) := by
  have hH := hw.2.1.2.1
  have h1 : szS S k = sm 16 (fun r => sm 32 (fun c => b01 (bq (vS S c r) k))) := by
    unfold szS
    rw [show 512 = 16 * 32 from rfl, sm_flat]
    refine sm_congr fun r hr => sm_congr fun c hc => ?_
    unfold vS
    rw [show r * 32 + c = 32 * r + c by omega]
  rw [h1]
  refine sm_cut hH (fun r h1 h2 => sm_zero fun c hc => ?_)
  rw [(hw.2.2.2.2.2.2.1 r h2 c hc).2 (by omega)]
  have hf : ∀ k, k < 6 → b01 (bq (nz 0) k) = nz 0 := by decide
  exact hf k hk
theorem x_sizeOf (hb : TB b) (hw : WF T S) (hT : TR b m S) (hk : k < 6) : f_X1_sizeOf [.ref (b + 1), .int (nz k)] (HM e m w) = some (HM e m w, .inl (some (.int (szS S k)))) := by
  have hH := hw.2.1
  rw [e_sizeOf hb hk hH.2.1 (by rw [hT.ht]; exact hH.2.2), sz_rows hw hk]
  have : sm (hN S) (fun r => nz (pc (m (b + 3) (r * 6 + k)))) = sm (hN S) (fun r => sm 32 (fun c => b01 (bq (vS S c r) k))) := by
    refine sm_congr fun r hr => ?_
    rw [pc_sm]
    exact sm_congr fun c hc => by rw [hT.bod (by omega) hk hc]
  rw [this]
theorem x_cellsOf : f_X8_cellsOf [.ref 133, .int (nz k)] (HM e m w) = some (HM e m w, .inl (some (.int (szS (m 134) k)))) := e_cellsOf
theorem x_solids (hb : TB b) (hw : WF T S) (hT : TR b m S) : f_X1_solidNumber [.ref (b + 1)] (HM e m w) = some (HM e m w, .inl (some (.int (sm 6 (fun k => szS S k))))) := by
  have hH := hw.2.1
  rw [e_solidNumber hb hH.2.1 (by rw [hT.ht]; exact hH.2.2)]
  have h1 : sm 6 (fun k => szS S k) = sm 6 (fun k => sm (hN S) (fun r => sm 32 (fun c => b01 (bq (vS S c r) k)))) := sm_congr fun k hk => sz_rows hw hk
  have h2 : sm (hN S) (fun r => nz (pc (orr (fun k => m (b + 3) (r * 6 + k)) 6))) = sm 6 (fun k => szS S k) := by
    rw [h1, ← sm_swap]
    refine sm_congr fun r hr => ?_
    rw [← sm_swap, pc_sm]
    refine sm_congr fun c hc => ?_
    have hv := (hw.2.2.2.2.2.2.1 r (by omega) c hc).1
    rw [sol_bt hT (by omega) hc hv]
    rcases hv with ⟨n, hn, hq⟩ | ⟨k, hk, hq⟩
    · have hf : ∀ n, n < 64 → b01 (!z_ge (nz n)) = sm 6 (fun k => b01 (bq (nz n) k)) := by decide +kernel
      rw [hq]
      exact hf n hn
    · have hf : ∀ k, k < 6 → b01 (!z_ge (-1 - nz k)) = sm 6 (fun j => b01 (bq (-1 - nz k) j)) := by decide +kernel
      rw [hq]
      exact hf k hk
  rw [h2]
end
