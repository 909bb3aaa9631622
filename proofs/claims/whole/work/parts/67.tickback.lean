section
variable {S : St} {T b : Nat} {e : Nat → Nat × (Nat → Int32)} {m : Mm} {w : Ml}
/-- what moves stays within the width -/
theorem cP_lt {W H q i c : Nat} {ring : Bool} (hW : 4 ≤ W) (hW2 : W ≤ 32) (hA : ∀ c, c < 32 → bt (m (b + 1) 2) c = decide (c < W)) (hx : ∀ c, bt (m 32 q) c = true → c < W) (h : cP m b W H ring q i c = true) : c < W := by
  unfold cP at h
  have hs := stq_3 (q / 6) (q % 6)
  split at h
  · simp only [Bool.and_eq_true] at h
    exact hx c h.2
  · simp only [Bool.or_eq_true, Bool.and_eq_true] at h
    rcases h with ⟨-, h⟩ | ⟨-, h⟩
    · have hc := bt_lt h
      unfold mvA at h
      obtain ⟨c', h1, h2, h3⟩ := (bt_stp hs hW hW2 hA (fun c hc => by
        unfold mvG at hc
        rw [bt_and, bt_and] at hc
        simp only [Bool.and_eq_true] at hc
        exact hx c hc.1.1) hc).mp h
      exact ncol_lt (by omega) h1 h3
    · unfold mvB at h
      rw [bt_and, Bool.and_eq_true] at h
      exact hx c h.1
/-- a tick taken back, as the class does it -/
theorem e_tickBack (he : EO e) (hb : TB b) (hw : WF T S) (hTm : T < 900000) (hT : TR b m S) (ht : 1 ≤ tN S) {iv : Nat → Nat → Nat}
    (hi1 : ∀ p, p < 2 → ∀ k, k < 64 → iv p k < 64 ∧ bkN S (64 * p + iv p k) = k) (hi2 : ∀ p, p < 2 → ∀ s, s < 64 → iv p (bkN S (64 * p + s)) = s) :
    ∃ (m1 m2 m5 m6 m7 : Mm) (R L : Nat) (n : Nat → Nat → Nat), f_X4_tickBack [.ref 31, .ref b] (HM e m w) = some (HM e (mw m7 (b + 14) (fun j => if j < 96 then nz 0 else m7 (b + 14) j)) w, .inl none) ∧
      (∀ a, a ≠ 32 → m1 a = ms m b 7 (nz (tN S - 1)) a) ∧ (∀ r, r < 16 → ∀ d, d < 6 → m1 32 (r * 6 + d) = m (b + 2) (r * 6 + opN d)) ∧
      (R < 2 ∧ S 3 = nz R) ∧ MvI m1 b (wN S) (hN S) (decide (R = 1)) (hN S * 6) m2 ∧
      (∀ r c, n r c < 64) ∧ (∀ r, r < hN S → ∀ d, d < 6 → ∀ c, c < 32 → (n r c).testBit d = bt (m2 (b + 2) (r * 6 + opN d)) c) ∧
      (∀ a, a ≠ 32 → a ≠ b + 2 → m5 a = m2 a) ∧ (∀ r, r < hN S → ∀ d, d < 6 → ∀ c, c < 32 → bt (m5 (b + 2) (r * 6 + d)) c = (iv ((c + r + (tN S - 1)) % 2) (n r c)).testBit d) ∧
      ((∀ a, a ≠ b + 10 → a ≠ b + 13 → m6 a = m5 a) ∧ (∀ i, i < 12 → m6 (b + 13) i = m5 (b + 13) i + -nz 1 * m5 33 i) ∧ (∀ x, x < 2 → m6 (b + 10) (6 + x) = m5 (b + 10) (6 + x) + -nz 1 * m5 34 x) ∧ (∀ x, x < 2 → m6 (b + 10) (4 + x) = m5 (b + 10) (4 + x) + sm 6 (fun k => -nz 1 * m5 33 (k * 2 + x))) ∧ ∀ i, (i < 4 ∨ 8 ≤ i) → m6 (b + 10) i = m5 (b + 10) i) ∧
      (L < 64 ∧ m (b + 6) 1 = nz L ∧ (∀ i, i < rN S → ∀ j, j < 12 → m (b + 7) ((L + 64 - i) % 64 * 12 + j) = S (114 + 12 * (rN S - 1 - i) + j))) ∧
      ((∀ a, a ≠ b + 6 → m7 a = m6 a) ∧ m7 (b + 6) 0 = nz (rN S - 1) ∧ m7 (b + 6) 1 = nz (if 0 < rN S then (L + 63) % 64 else L)) ∧ ∀ i, hN S * 6 ≤ i → i < 96 → m5 (b + 2) i = nz 0 := by
  have n0 := TBne hb (k := 0) (by decide)
  have n1 := TBne hb (k := 1) (by decide)
  have n2 := TBne hb (k := 2) (by decide)
  have n6 := TBne hb (k := 6) (by decide)
  have n11 := TBne hb (k := 11) (by decide)
  have n12 := TBne hb (k := 12) (by decide)
  have n14 := TBne hb (k := 14) (by decide)
  rw [Nat.add_zero] at n0
  have hW := hw.1
  have hH := hw.2.1
  have htT := hw.2.2.1
  have tm : m b 7 = nz (tN S) := by rw [hT.time]; exact htT.2
  obtain ⟨R, hR, hRv⟩ : ∃ R, R < 2 ∧ S 3 = nz R := by
    rcases hw.2.2.2.1 0 (by decide) with q | q
    · exact ⟨0, by decide, q⟩
    · exact ⟨1, by decide, q⟩
  have k32 : (32 : Nat) < RO := by decide
  obtain ⟨m1, e1, f1, g1⟩ := e_turnedRound (e := e) (w := w) (m := ms m b 7 (nz (tN S - 1))) he (kd_t2 hb) kd_32 (by omega) (tRO hb (by decide)) k32
  have x1 : ∀ a, a ≠ 32 → a ≠ b → m1 a = m a := fun a a1 a2 => by rw [f1 a a1, ms_ne a2]
  have b1 : m1 (b + 1) = m (b + 1) := x1 _ (by omega) (by omega)
  have g1' : ∀ r, r < 16 → ∀ d, d < 6 → m1 32 (r * 6 + d) = m (b + 2) (r * 6 + opN d) := fun r hr d hd => by
    rw [g1 r hr d hd, ms_ne (by omega)]
  have aA : ∀ c, c < 32 → bt (m1 (b + 1) 2) c = decide (c < wN S) := fun c hc => by rw [b1, hT.all c hc]
  have a1 : m1 (b + 1) 1 = nz (hN S) := by rw [b1, hT.ht]; exact hH.2.2
  have a0 : m1 (b + 1) 0 = nz (wN S) := by rw [b1, hT.wd]; exact hW.2.2
  obtain ⟨m2, e2, i2⟩ := e_moveReady (e := e) (w := w) (m := m1) (H := hN S) (W := wN S) he hb hH.2.1 a1 hW.1 hW.2.1 a0 aA hR (by rw [x1 _ (by omega) (by omega), hT.fit (by decide)]; exact hRv)
  have y2 : ∀ a, a ≠ b + 2 → a ≠ b + 9 → a ≠ b + 10 → a ≠ b + 14 → a ≠ 33 → a ≠ 34 → m2 a = m1 a := i2.1
  obtain ⟨m3, e3, f3, g3⟩ := e_turnedRound (e := e) (w := w) (m := m2) he (kd_t2 hb) kd_32 (by omega) (tRO hb (by decide)) k32
  have hx : ∀ r, r < 16 → ∀ d, d < 6 → ∀ c, bt (m1 32 (r * 6 + d)) c = true → c < wN S := fun r hr d hd c h => by
    have hc := bt_lt h
    rw [g1' r hr d hd, hT.bits hr (opN_lt d) hc] at h
    rcases Nat.lt_or_ge c (wN S) with z | z
    · exact z
    · have := (hw.2.2.2.2.2.2.1 r hr c hc).2 (by omega)
      rw [this, pq_nz (by decide) (opN_lt d)] at h
      simp at h
  -- the numbers of the cells once they have moved back
  have hnd : ∃ n : Nat → Nat → Nat, n = fun r c => if r < 16 ∧ c < 32 then paN (fun d => bt (m2 (b + 2) (r * 6 + opN d)) c) 6 else 0 := ⟨_, rfl⟩
  obtain ⟨n, hnd⟩ := hnd
  have hn : ∀ r c, n r c < 64 := fun r c => by
    rw [hnd]
    dsimp only
    split
    · exact paN_lt _ 6
    · decide
  have hnb : ∀ r, r < hN S → ∀ d, d < 6 → ∀ c, c < 32 → (n r c).testBit d = bt (m2 (b + 2) (r * 6 + opN d)) c := fun r hr d hd c hc => by
    rw [hnd]
    dsimp only
    rw [if_pos ⟨by omega, hc⟩, paN_bit, decide_eq_true hd, Bool.true_and]
  have hz : ∀ r c, wN S ≤ c → n r c = 0 := fun r c hc => by
    rw [hnd]
    dsimp only
    split
    · rename_i q
      have : ∀ d, d < 6 → bt (m2 (b + 2) (r * 6 + opN d)) c = false := fun d hd => by
        have ho := opN_lt d
        cases h : bt (m2 (b + 2) (r * 6 + opN d)) c with
        | false => rfl
        | true =>
          obtain ⟨k, k1, k2⟩ := (i2.2.1 _ (by omega) c).mp h
          have : c < wN S := cP_lt hW.1 hW.2.1 aA (fun c h => by
            have h' := hx (k / 6) (by have := hH.2.1; omega) (k % 6) (Nat.mod_lt _ (by decide)) c
            rw [show k / 6 * 6 + k % 6 = k by omega] at h'
            exact h' h) k2
          omega
      have := paN_congr (p := fun d => bt (m2 (b + 2) (r * 6 + opN d)) c) (q := fun _ => false) 6 this
      rw [this]
      rfl
    · rfl
  have c4 := e_cpy (e := e) (m := m3) (w := w) (a0 := 32) (a := b + 2) (sp := 0) (dp := 0) (n := 96) kd_32 (kd_t2 hb) (by decide) (by decide) (by decide) (by decide) k32 (tRO hb (by decide))
  have hm4 : ∃ m4, m4 = mw m3 (b + 2) (va_cpy (m3 32) (m3 (b + 2)) 0 0 96) := ⟨_, rfl⟩
  obtain ⟨m4, hm4⟩ := hm4
  rw [← hm4] at c4
  have y4 : ∀ a, a ≠ 32 → a ≠ b + 2 → m4 a = m2 a := fun a a1 a2 => by rw [hm4, mw_ne a2, f3 a a1]
  have y4r : ∀ i, i < 96 → m4 (b + 2) i = m3 32 i ∧ m4 32 i = m3 32 i := fun i hi => by
    rw [hm4, mw_at, va_cpy_lt hi, mw_ne (by omega)]
    exact ⟨rfl, rfl⟩
  have hPB : PB (m3 32) (hN S) n := fun r hr d hd c hc => by
    rw [g3 r (by omega) d hd, hnb r hr d hd c hc]
  have z1 : m4 (b + 1) = m (b + 1) := by rw [y4 _ (by omega) (by omega), y2 _ (by omega) (by omega) (by omega) (by omega) (by omega) (by omega), b1]
  have z12 : m4 (b + 12) = m (b + 12) := by rw [y4 _ (by omega) (by omega), y2 _ (by omega) (by omega) (by omega) (by omega) (by omega) (by omega), x1 _ (by omega) (by omega)]
  have z7 : m4 b 7 = nz (tN S - 1) := by rw [y4 _ (by omega) (by omega), y2 _ (by omega) (by omega) (by omega) (by omega) (by omega) (by omega), f1 _ (by omega), ms_eq]
  obtain ⟨k1, k2, k3⟩ := bkN_ok hw
  obtain ⟨m5, e5, f5, p5, p6⟩ := e_undoCollisions (e := e) (w := w) (m := m4) (H := hN S) (W := wN S) (T := tN S - 1) (n := n) (bk := bkN S) (iv := iv) hb hH.2.1 (by rw [z1, hT.ht]; exact hH.2.2) (by omega) z7 (fun c hc => by rw [z1, hT.all c hc]) hn hz (fun r hr d hd c hc => by rw [(y4r _ (by omega)).1]; exact hPB r hr d hd c hc) (fun k hk => ⟨(k1 k hk).1, by rw [z12, hT.bk hk]; exact (k1 k hk).2⟩) k2 k3 hi1 hi2 (fun r hr d hd c hc => by rw [(y4r _ (by omega)).2]; exact hPB r hr d hd c hc)
  have c6 := e_cpy (e := e) (m := m5) (w := w) (a0 := 32) (a := b + 2) (sp := 0) (dp := 0) (n := 96) kd_32 (kd_t2 hb) (by decide) (by decide) (by decide) (by decide) k32 (tRO hb (by decide))
  have hm6 : ∃ m6, m6 = mw m5 (b + 2) (va_cpy (m5 32) (m5 (b + 2)) 0 0 96) := ⟨_, rfl⟩
  obtain ⟨m6, hm6⟩ := hm6
  rw [← hm6] at c6
  have y6 : ∀ a, a ≠ 32 → a ≠ b + 2 → m6 a = m2 a := fun a a1 a2 => by rw [hm6, mw_ne a2, f5 a a1, y4 a a1 a2]
  obtain ⟨m7, e7, g7⟩ := e_accountTaken (e := e) (w := w) (m := m6) (g := -nz 1) hb
  obtain ⟨r0, L, l1, l2, l3⟩ := hT.rec
  have v6 : m7 (b + 6) = m (b + 6) := by
    rw [g7.1 _ (by omega) (by omega), y6 _ (by omega) (by omega), y2 _ (by omega) (by omega) (by omega) (by omega) (by omega) (by omega), x1 _ (by omega) (by omega)]
  obtain ⟨m8, e8, g8⟩ := e_removeLatest (e := e) (w := w) (m := m7) (s := rN S) hb l1 (by rw [v6]; exact l2) hw.2.2.2.2.2.1.1 (by rw [v6, r0]; exact hw.2.2.2.2.2.1.2)
  have f14 := fill_t (e := e) (m := m8) (w := w) (x := nz 0) 14 96 (by decide) (by decide) (kd_t14 hb) hb
  refine ⟨m1, m2, m6, m7, m8, R, L, n, ?_, f1, g1', ⟨hR, hRv⟩, i2, hn, hnb, y6, fun r hr d hd c hc => ?_, g7, ⟨l1, l2, l3⟩, g8, fun i hi hi2 => ?_⟩
  · unfold f_X4_tickBack
    simp (disch := omega) only [mth_w, kR_w, kR_if, sQ_v, sN_v, sTi_v, sTa_v, sTl_v, sR_v, sRv_v, sX_v, sPi_v, sPo_v, sPz_w, zP_b, sRz_w, zR_bw, zR_0w, zR_1w, sPa_v, sAi_v, sAl_v, sAo_v, sAa_v, sM_w, sMp_w, eM_w, sIf_w, eIf_w, cAnd_w, cOr_w, cB_v, cZ_v, cNot_v, eC_v, eI_v, eJ_v, eOp_v, eQ_v, eU_v, eIL_v, eLO_v, eLS_v, eLC_v, eGi_v, eGa_v, eZ_w, eAi_v, eAl_v, eAa_v, eAn_v, aN_v, aI_v, aA_v, sInc_v, sB_okw, sB_xw, eS_okw, eS_xw, eB_okw, eB_xw, oE_w, oS_w, kI_iw, kI_xw, kV_w, kV_xw, kP_iw, kP_xw, List.set_cons_zero, List.set_cons_succ, List.cons_append, List.nil_append, List.length_cons, List.length_nil, List.replicate_succ, List.replicate_zero, List.append_nil, bif_and, bif_or, zne_b01, zeq_b01, bif_d, cond_true, cond_false, nar_0, o_iadd, o_isub, o_imul, c_eq, c_ne, c_lt, c_ge, c_gt, c_le, Nat.reduceAdd, Nat.reduceSub, Nat.zero_add, if_true, if_false, eLl_2, eLi_0, eLi_1, eLi_2, eLi_3, eLi_4, eLi_5, eLi_6, eLi_7, eLi_8, eLi_9, eLi_10, eLi_11, eLi_12, eLi_13, eLa_0, eLa_1, eLa_2, eLa_3, eLa_4, eLa_5, eLa_6, eLa_7, nz_add, nz_mul, nz_sub, nz_lt, nz_le, nz_inj, zeq_nz, zne_nz, zge_nz, zgt_nz, zlt_nz, nlit0, nlit1, nlit2, nlit3, nlit4, nlit5, nlit6, nlit7, nlit8, nlit9, nlit10, nlit11, nlit12, nlit16, nlit18, nlit22, nlit31, nlit32, nlit33, nlit34, nlit40, nlit48, nlit60, nlit63, nlit64, nlit66, nlit80, nlit96, nlit114, nlit126, nlit128, nlit512, nlit756, nlit882, nlit1000, nlit1394, nlit1522, nlit1523, nlit10000, gd_0, rf_0_0, rf_0_1, rf_0_2, rf_0_3, rf_0_4, rd_0_5, wr_0_5, rd_0_6, wr_0_6, rf_0_7, rf_0_8, rf_0_9, gd_31, rf_31_0, rf_31_1, rf_31_2, ar_32, aw_32, an_32, ar_33, aw_33, an_33, ar_34, aw_34, an_34, gd_35, rf_35_0, rd_35_1, wr_35_1, rf_35_2, rd_35_3, wr_35_3, rd_35_4, wr_35_4, rd_35_5, wr_35_5, rf_35_6, rd_35_7, wr_35_7, rd_35_8, wr_35_8, rd_35_9, wr_35_9, rd_35_10, wr_35_10, rd_35_11, wr_35_11, rd_35_12, wr_35_12, rd_35_13, wr_35_13, ar_36, aw_36, ar_37, aw_37, an_37, ar_38, aw_38, ar_39, ar_40, ar_41, aw_41, ar_42, aw_42, ar_146, aw_146, (gd_t0 hb), (rf_t0_0 hb), (rf_t0_1 hb), (rf_t0_2 hb), (rf_t0_3 hb), (rf_t0_4 hb), (rf_t0_5 hb), (rd_t0_6 hb), (wr_t0_6 hb), (rd_t0_7 hb), (wr_t0_7 hb), (rf_t0_8 hb), (rf_t0_9 hb), (gd_t1 hb), (rd_t1_0 hb), (wr_t1_0 hb), (rd_t1_1 hb), (wr_t1_1 hb), (rd_t1_2 hb), (wr_t1_2 hb), (rf_t1_3 hb), (rf_t1_4 hb), (ar_t2 hb), (aw_t2 hb), (an_t2 hb), (ar_t3 hb), (aw_t3 hb), (an_t3 hb), (gd_t4 hb), (rd_t4_0 hb), (wr_t4_0 hb), (rf_t4_1 hb), (ar_t5 hb), (aw_t5 hb), (an_t5 hb), (gd_t6 hb), (rd_t6_0 hb), (wr_t6_0 hb), (rd_t6_1 hb), (wr_t6_1 hb), (rf_t6_2 hb), (ar_t7 hb), (aw_t7 hb), (an_t7 hb), (gd_t8 hb), (rf_t8_0 hb), (rf_t8_1 hb), (ar_t9 hb), (aw_t9 hb), (an_t9 hb), (ar_t10 hb), (aw_t10 hb), (an_t10 hb), (ar_t11 hb), (aw_t11 hb), (an_t11 hb), (ar_t12 hb), (aw_t12 hb), (an_t12 hb), (ar_t13 hb), (aw_t13 hb), (an_t13 hb), (ar_t14 hb), (aw_t14 hb), (an_t14 hb), tm, e1, e2, e3, c4, e5, c6, e7, e8, f14]
  · have hi96 : r * 6 + d < 96 := by have := hH.2.1; omega
    rw [hm6, mw_at, va_cpy_lt hi96]
    exact p5 r hr d hd c hc
  · have hi6 : i = i / 6 * 6 + i % 6 := by omega
    have ho := opN_lt (i % 6)
    rw [hm6, mw_at, va_cpy_lt hi2, p6 i hi, (y4r i hi2).2, hi6, g3 (i / 6) (by omega) (i % 6) (Nat.mod_lt _ (by decide)), eq0_bt]
    intro c hc
    cases h : bt (m2 (b + 2) (i / 6 * 6 + opN (i % 6))) c with
    | false => rfl
    | true =>
      obtain ⟨k, k1, k2⟩ := (i2.2.1 _ (by omega) c).mp h
      have hk6 : k % 6 < 6 := Nat.mod_lt _ (by decide)
      have hkr : k / 6 < hN S := by omega
      unfold cP at k2
      cases hwl : wlB (hN S) (k / 6) (k % 6) with
      | true =>
        rw [hwl, if_pos rfl] at k2
        simp only [Bool.and_eq_true, decide_eq_true_eq] at k2
        have := tuN_lt (m := m1) (b := b) (k % 6)
        have := k2.1
        omega
      | false =>
        have ht := (tg_row hk6 hkr hH.2.1 hwl).2
        have ho2 := opN_lt (k % 6)
        rw [hwl, if_neg (by decide)] at k2
        simp only [Bool.or_eq_true, Bool.and_eq_true, decide_eq_true_eq] at k2
        rcases k2 with ⟨k2, -⟩ | ⟨k2, -⟩ <;> omega
end
