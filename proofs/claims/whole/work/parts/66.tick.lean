section
variable {S : St} {T b : Nat} {e : Nat → Nat × (Nat → Int32)} {m : Mm} {w : Ml}
/-- the particles of a cell, as a number; 0 where it is solid -/
def nS (S : St) (c r : Nat) : Nat := if z_ge (vS S c r) then (vS S c r).toNatClampNeg else 0
def bkN (S : St) (k : Nat) : Nat := (S (1394 + k)).toNatClampNeg
def rgB (S : St) : Bool := decide (S 3 = nz 1)
theorem nS_ok (hw : WF T S) {c r : Nat} (hc : c < 32) (hr : r < 16) : nS S c r < 64 ∧ (∀ d, d < 6 → pq (vS S c r) d = (nS S c r).testBit d) ∧ (¬ (c < wN S ∧ r < hN S) → nS S c r = 0) := by
  have h7 := hw.2.2.2.2.2.2.1 r hr c hc
  unfold nS
  rcases h7.1 with ⟨n, hn, hv⟩ | ⟨k, hk, hv⟩
  · rw [hv, zge_nz (by omega), if_pos rfl, nz_cl (by omega)]
    refine ⟨hn, fun d hd => pq_nz hn hd, fun h => ?_⟩
    have := h7.2 h
    rw [hv, nz_inj (by omega) (by decide)] at this
    exact this
  · have hf : ∀ k, k < 6 → z_ge (-1 - nz k) = false := by decide
    rw [hv, hf k hk, if_neg (by decide)]
    exact ⟨by decide, fun d hd => by rw [pq_neg hk]; simp, fun _ => rfl⟩
theorem bkN_ok (hw : WF T S) : (∀ k, k < 128 → bkN S k < 64 ∧ S (1394 + k) = nz (bkN S k)) ∧ bkN S 0 = 0 ∧ bkN S 64 = 0 := by
  refine ⟨fun k hk => ?_, ?_, ?_⟩
  · obtain ⟨x, x1, x2⟩ := hw.2.2.2.2.2.2.2.2.1 k hk
    unfold bkN
    rw [x2, nz_cl (by omega)]
    exact ⟨x1, rfl⟩
  · unfold bkN
    rw [show 1394 + 0 = 1394 from rfl, hw.2.2.2.2.2.2.2.2.2.1.1]
    rfl
  · unfold bkN
    rw [show 1394 + 64 = 1458 from rfl, hw.2.2.2.2.2.2.2.2.2.1.2]
    rfl
theorem TR.wd (hT : TR b m S) : m (b + 1) 0 = S 0 := hT.1.1
theorem TR.ht (hT : TR b m S) : m (b + 1) 1 = S 1 := hT.1.2.1
theorem TR.all (hT : TR b m S) : ∀ c, c < 32 → bt (m (b + 1) 2) c = decide (c < wN S) := hT.1.2.2
theorem TR.bits (hT : TR b m S) {r d c : Nat} (hr : r < 16) (hd : d < 6) (hc : c < 32) : bt (m (b + 2) (r * 6 + d)) c = pq (vS S c r) d := hT.2.1 r hr d hd c hc
theorem TR.bod (hT : TR b m S) {r k c : Nat} (hr : r < 16) (hk : k < 6) (hc : c < 32) : bt (m (b + 3) (r * 6 + k)) c = bq (vS S c r) k := hT.2.2.1 r hr k hk c hc
theorem TR.fit (hT : TR b m S) {k : Nat} (hk : k < 3) : m (b + 11) k = S (3 + k) := hT.2.2.2.2.2.2.2.1 k hk
theorem TR.bk (hT : TR b m S) {k : Nat} (hk : k < 128) : m (b + 12) k = S (1394 + k) := hT.2.2.2.2.2.2.2.2.1 k hk
theorem TR.rec (hT : TR b m S) : m (b + 6) 0 = S 7 ∧ ∃ L, L < 64 ∧ m (b + 6) 1 = nz L ∧ ∀ i, i < rN S → ∀ j, j < 12 → m (b + 7) ((L + 64 - i) % 64 * 12 + j) = S (114 + 12 * (rN S - 1 - i) + j) := hT.2.2.2.2.1
theorem blowE_ok (hw : WF T S) : BK S (blowE S) ∧ WF T (blowE S) := blAll_ok hw _ (Nat.le_refl _)
/-- a tick, as the class does it: gusts, collisions, the move, the accounts, the record, the time -/
theorem e_tick (he : EO e) (hb : TB b) (hw : WF T S) (hTm : T < 900000) (hT : TR b m S) :
    ∃ (m1 m2 m3 m4 m5 : Mm) (R L : Nat), f_X4_tick [.ref 31, .ref b] (HM e m w) = some (HM e (ms m5 b 7 (m5 b 7 + nz 1)) w, .inl none) ∧
      (∀ a, a ≠ b + 2 → a ≠ b + 5 → a ≠ b + 9 → a ≠ b + 10 → m1 a = m a) ∧ TR b m1 (blowE S) ∧
      (∀ a, a ≠ 32 → m2 a = m1 a) ∧ PB (m2 32) (hN S) (fun r c => bkN (blowE S) (64 * ((c + r + tN S) % 2) + nS (blowE S) c r)) ∧
      (R < 2 ∧ S 3 = nz R) ∧ MvI m2 b (wN S) (hN S) (decide (R = 1)) (hN S * 6) m3 ∧
      ((∀ a, a ≠ b + 10 → a ≠ b + 13 → m4 a = m3 a) ∧ (∀ i, i < 12 → m4 (b + 13) i = m3 (b + 13) i + nz 1 * m3 33 i) ∧ (∀ x, x < 2 → m4 (b + 10) (6 + x) = m3 (b + 10) (6 + x) + nz 1 * m3 34 x) ∧ (∀ x, x < 2 → m4 (b + 10) (4 + x) = m3 (b + 10) (4 + x) + sm 6 (fun k => nz 1 * m3 33 (k * 2 + x))) ∧ ∀ i, (i < 4 ∨ 8 ≤ i) → m4 (b + 10) i = m3 (b + 10) i) ∧
      (L < 64 ∧ m (b + 6) 1 = nz L ∧ (∀ i, i < rN S → ∀ j, j < 12 → m (b + 7) ((L + 64 - i) % 64 * 12 + j) = S (114 + 12 * (rN S - 1 - i) + j))) ∧
      ((∀ a, a ≠ b + 6 → a ≠ b + 7 → m5 a = m4 a) ∧ m5 (b + 6) 1 = nz ((L + 1) % 64) ∧ m5 (b + 6) 0 = nz (if rN S < 64 then rN S + 1 else 64) ∧ (∀ j, j < 12 → m5 (b + 7) ((L + 1) % 64 * 12 + j) = m4 33 j) ∧ ∀ i, (i < (L + 1) % 64 * 12 ∨ (L + 1) % 64 * 12 + 12 ≤ i) → m5 (b + 7) i = m4 (b + 7) i) := by
  have n0 := TBne hb (k := 0) (by decide)
  have n1 := TBne hb (k := 1) (by decide)
  have n6 := TBne hb (k := 6) (by decide)
  have n11 := TBne hb (k := 11) (by decide)
  have n12 := TBne hb (k := 12) (by decide)
  have n2 := TBne hb (k := 2) (by decide)
  rw [Nat.add_zero] at n0
  obtain ⟨m1, e1, f1, t1⟩ := e_blowGusts (e := e) (w := w) he hb hw hT
  obtain ⟨bk, wf⟩ := blowE_ok hw
  have hW := wf.1
  have hH := wf.2.1
  rw [bk.ew] at hW
  rw [bk.eh] at hH
  have a1 : m1 (b + 1) 1 = nz (hN S) := by rw [t1.ht]; exact hH.2.2
  have a0 : m1 (b + 1) 0 = nz (wN S) := by rw [t1.wd]; exact hW.2.2
  have aA : ∀ c, c < 32 → bt (m1 (b + 1) 2) c = decide (c < wN S) := fun c hc => by rw [t1.all c hc, bk.ew]
  have a7 : m1 b 7 = nz (tN S) := by rw [t1.time, bk 2 (by omega)]; exact hw.2.2.1.2
  obtain ⟨k1, k2, k3⟩ := bkN_ok wf
  -- outside the lattice there is nothing
  have hnn : ∀ r c, (if r < 16 ∧ c < 32 then nS (blowE S) c r else 0) < 64 := fun r c => by
    split
    · rename_i q; exact (nS_ok wf q.2 q.1).1
    · decide
  obtain ⟨m2, e2, f2, p2⟩ := e_collide (e := e) (w := w) (m := m1) (H := hN S) (W := wN S) (T := tN S) (n := fun r c => if r < 16 ∧ c < 32 then nS (blowE S) c r else 0) (bk := bkN (blowE S)) hb hH.2.1 a1 (by have := hw.2.2.1.1; omega) a7 aA hnn (fun r c hc => by
      split
      · rename_i q; exact (nS_ok wf q.2 q.1).2.2 (by rw [bk.ew]; omega)
      · rfl) (fun r hr d hd c hc => by
      have hr2 : r < 16 := by have := hH.2.1; omega
      show _ = (if r < 16 ∧ c < 32 then nS (blowE S) c r else 0).testBit d
      rw [if_pos ⟨hr2, hc⟩, t1.bits hr2 hd hc, (nS_ok wf hc hr2).2.1 d hd]) (fun k hk => ⟨(k1 k hk).1, (t1.bk hk).trans (k1 k hk).2⟩) k2 k3
  obtain ⟨R, hR, hRv⟩ : ∃ R, R < 2 ∧ S 3 = nz R := by
    rcases hw.2.2.2.1 0 (by decide) with q | q
    · exact ⟨0, by decide, q⟩
    · exact ⟨1, by decide, q⟩
  have b11 : m2 (b + 11) 0 = nz R := by
    rw [f2 _ (by omega), t1.fit (by decide), bk _ (by omega)]
    exact hRv
  obtain ⟨m3, e3, i3⟩ := e_moveReady (e := e) (w := w) (m := m2) (H := hN S) (W := wN S) he hb hH.2.1 (by rw [f2 _ (by omega)]; exact a1) hW.1 hW.2.1 (by rw [f2 _ (by omega)]; exact a0) (by rw [f2 _ (by omega)]; exact aA) hR b11
  obtain ⟨m4, e4, g4⟩ := e_accountTaken (e := e) (w := w) (m := m3) (g := nz 1) hb
  obtain ⟨r0, L, l1, l2, l3⟩ := hT.rec
  have c6 : m4 (b + 6) = m (b + 6) := by
    rw [g4.1 _ (by omega) (by omega), i3.1 _ (by omega) (by omega) (by omega) (by omega) (by omega) (by omega), f2 _ (by omega), f1 _ (by omega) (by omega) (by omega) (by omega)]
  obtain ⟨m5, e5, g5⟩ := e_add (e := e) (w := w) (m := m4) (s := rN S) hb l1 (by rw [c6]; exact l2) hw.2.2.2.2.2.1.1 (by rw [c6, r0]; exact hw.2.2.2.2.2.1.2)
  refine ⟨m1, m2, m3, m4, m5, R, L, ?_, f1, t1, f2, fun r hr d hd c hc => ?_, ⟨hR, hRv⟩, i3, g4, ⟨l1, l2, l3⟩, g5⟩
  · unfold f_X4_tick
    simp (disch := omega) only [mth_w, kR_w, kR_if, sQ_v, sN_v, sTi_v, sTa_v, sTl_v, sR_v, sRv_v, sX_v, sPi_v, sPo_v, sPz_w, zP_b, sRz_w, zR_bw, zR_0w, zR_1w, sPa_v, sAi_v, sAl_v, sAo_v, sAa_v, sM_w, sMp_w, eM_w, sIf_w, eIf_w, cAnd_w, cOr_w, cB_v, cZ_v, cNot_v, eC_v, eI_v, eJ_v, eOp_v, eQ_v, eU_v, eIL_v, eLO_v, eLS_v, eLC_v, eGi_v, eGa_v, eZ_w, eAi_v, eAl_v, eAa_v, eAn_v, aN_v, aI_v, aA_v, sInc_v, sB_okw, sB_xw, eS_okw, eS_xw, eB_okw, eB_xw, oE_w, oS_w, kI_iw, kI_xw, kV_w, kV_xw, kP_iw, kP_xw, List.set_cons_zero, List.set_cons_succ, List.cons_append, List.nil_append, List.length_cons, List.length_nil, List.replicate_succ, List.replicate_zero, List.append_nil, bif_and, bif_or, zne_b01, zeq_b01, bif_d, cond_true, cond_false, nar_0, o_iadd, o_isub, o_imul, c_eq, c_ne, c_lt, c_ge, c_gt, c_le, Nat.reduceAdd, Nat.reduceSub, Nat.zero_add, if_true, if_false, eLl_2, eLi_0, eLi_1, eLi_2, eLi_3, eLi_4, eLi_5, eLi_6, eLi_7, eLi_8, eLi_9, eLi_10, eLi_11, eLi_12, eLi_13, eLa_0, eLa_1, eLa_2, eLa_3, eLa_4, eLa_5, eLa_6, eLa_7, nz_add, nz_mul, nz_sub, nz_lt, nz_le, nz_inj, zeq_nz, zne_nz, zge_nz, zgt_nz, zlt_nz, nlit0, nlit1, nlit2, nlit3, nlit4, nlit5, nlit6, nlit7, nlit8, nlit9, nlit10, nlit11, nlit12, nlit16, nlit18, nlit22, nlit31, nlit32, nlit33, nlit34, nlit40, nlit48, nlit60, nlit63, nlit64, nlit66, nlit80, nlit96, nlit114, nlit126, nlit128, nlit512, nlit756, nlit882, nlit1000, nlit1394, nlit1522, nlit1523, nlit10000, gd_0, rf_0_0, rf_0_1, rf_0_2, rf_0_3, rf_0_4, rd_0_5, wr_0_5, rd_0_6, wr_0_6, rf_0_7, rf_0_8, rf_0_9, gd_31, rf_31_0, rf_31_1, rf_31_2, ar_32, aw_32, an_32, ar_33, aw_33, an_33, ar_34, aw_34, an_34, gd_35, rf_35_0, rd_35_1, wr_35_1, rf_35_2, rd_35_3, wr_35_3, rd_35_4, wr_35_4, rd_35_5, wr_35_5, rf_35_6, rd_35_7, wr_35_7, rd_35_8, wr_35_8, rd_35_9, wr_35_9, rd_35_10, wr_35_10, rd_35_11, wr_35_11, rd_35_12, wr_35_12, rd_35_13, wr_35_13, ar_36, aw_36, ar_37, aw_37, an_37, ar_38, aw_38, ar_39, ar_40, ar_41, aw_41, ar_42, aw_42, ar_146, aw_146, (gd_t0 hb), (rf_t0_0 hb), (rf_t0_1 hb), (rf_t0_2 hb), (rf_t0_3 hb), (rf_t0_4 hb), (rf_t0_5 hb), (rd_t0_6 hb), (wr_t0_6 hb), (rd_t0_7 hb), (wr_t0_7 hb), (rf_t0_8 hb), (rf_t0_9 hb), (gd_t1 hb), (rd_t1_0 hb), (wr_t1_0 hb), (rd_t1_1 hb), (wr_t1_1 hb), (rd_t1_2 hb), (wr_t1_2 hb), (rf_t1_3 hb), (rf_t1_4 hb), (ar_t2 hb), (aw_t2 hb), (an_t2 hb), (ar_t3 hb), (aw_t3 hb), (an_t3 hb), (gd_t4 hb), (rd_t4_0 hb), (wr_t4_0 hb), (rf_t4_1 hb), (ar_t5 hb), (aw_t5 hb), (an_t5 hb), (gd_t6 hb), (rd_t6_0 hb), (wr_t6_0 hb), (rd_t6_1 hb), (wr_t6_1 hb), (rf_t6_2 hb), (ar_t7 hb), (aw_t7 hb), (an_t7 hb), (gd_t8 hb), (rf_t8_0 hb), (rf_t8_1 hb), (ar_t9 hb), (aw_t9 hb), (an_t9 hb), (ar_t10 hb), (aw_t10 hb), (an_t10 hb), (ar_t11 hb), (aw_t11 hb), (an_t11 hb), (ar_t12 hb), (aw_t12 hb), (an_t12 hb), (ar_t13 hb), (aw_t13 hb), (an_t13 hb), (ar_t14 hb), (aw_t14 hb), (an_t14 hb), e1, e2, e3, e4, e5]
  · have hr2 : r < 16 := by have := hH.2.1; omega
    have := p2 r hr d hd c hc
    dsimp only at this
    rw [if_pos ⟨hr2, hc⟩] at this
    exact this
end
