/-! A BODY MOVED -/
def hitB (S : St) (k : Nat) (dc dr : Int) (c r : Nat) : Bool := ((decide (0 ≤ (c : Int) - dc) && decide ((c : Int) - dc < 32)) && (decide (0 ≤ (r : Int) - dr) && decide ((r : Int) - dr < 16))) && bq (vS S ((c : Int) - dc).toNat ((r : Int) - dr).toNat) k
def mvS (S : St) (k : Nat) (dc dr : Int) : St := fun j => if 882 ≤ j ∧ j < 1394 then (if hitB S k dc dr ((j - 882) % 32) ((j - 882) / 32) = true then -nz 1 - nz k else if bq (S j) k = true then nz 0 else S j) else S j
def mvJ (S : St) (k : Nat) (off : Int) (n : Nat) : St := fun j => if 882 ≤ j ∧ j < 1394 then (if 0 ≤ (j : Int) - 882 - off ∧ (j : Int) - 882 - off < n ∧ bq (S (882 + ((j : Int) - 882 - off).toNat)) k = true then -nz 1 - nz k else if bq (S j) k = true then nz 0 else S j) else S j
section
variable {S S' : St} {T b c n k : Nat} {dc dr : Int} {e : Nat → Nat × (Nat → Int32)} {m m' m1 : Mm} {w : Ml}
theorem hit_iff {c r : Nat} : hitB S k dc dr c r = true ↔ (0 ≤ (c : Int) - dc ∧ (c : Int) - dc < 32) ∧ (0 ≤ (r : Int) - dr ∧ (r : Int) - dr < 16) ∧ bq (vS S ((c : Int) - dc).toNat ((r : Int) - dr).toNat) k = true := by
  unfold hitB
  simp only [Bool.and_eq_true, decide_eq_true_eq]
  constructor
  · rintro ⟨⟨h1, h2⟩, h3⟩
    exact ⟨h1, h2, h3⟩
  · rintro ⟨h1, h2, h3⟩
    exact ⟨⟨h1, h2⟩, h3⟩
theorem mv_v {c r : Nat} (hc : c < 32) (hr : r < 16) : vS (mvS S k dc dr) c r = if hitB S k dc dr c r = true then -nz 1 - nz k else if bq (vS S c r) k = true then nz 0 else vS S c r := by
  unfold vS mvS
  rw [if_pos (by omega), show (882 + (32 * r + c) - 882) % 32 = c by omega, show (882 + (32 * r + c) - 882) / 32 = r by omega]
theorem mvJ_c {off : Int} {a j j' : Nat} (h : (0 ≤ (a : Int) - 882 - off ∧ (a : Int) - 882 - off < j ∧ bq (S (882 + ((a : Int) - 882 - off).toNat)) k = true) ↔ (0 ≤ (a : Int) - 882 - off ∧ (a : Int) - 882 - off < j' ∧ bq (S (882 + ((a : Int) - 882 - off).toNat)) k = true)) : mvJ S k off j a = mvJ S k off j' a := by
  unfold mvJ
  by_cases ha : 882 ≤ a ∧ a < 1394
  · rw [if_pos ha, if_pos ha]
    by_cases z : 0 ≤ (a : Int) - 882 - off ∧ (a : Int) - 882 - off < j ∧ bq (S (882 + ((a : Int) - 882 - off).toNat)) k = true
    · rw [if_pos z, if_pos (h.mp z)]
    · rw [if_neg z, if_neg (fun y => z (h.mpr y))]
  · rw [if_neg ha, if_neg ha]
theorem mvJ_0 {off : Int} {a : Nat} : mvJ S k off 0 a = if 882 ≤ a ∧ a < 882 + 512 ∧ bq (S a) k = true then nz 0 else S a := by
  unfold mvJ
  by_cases ha : 882 ≤ a ∧ a < 1394
  · have hn : ¬ (0 ≤ (a : Int) - 882 - off ∧ (a : Int) - 882 - off < (0 : Nat) ∧ bq (S (882 + ((a : Int) - 882 - off).toNat)) k = true) := fun z => by omega
    rw [if_pos ha, if_neg hn]
    by_cases q : bq (S a) k = true
    · rw [if_pos q, if_pos ⟨ha.1, by omega, q⟩]
    · rw [if_neg q, if_neg (show ¬ (882 ≤ a ∧ a < 882 + 512 ∧ bq (S a) k = true) from fun z => q z.2.2)]
  · rw [if_neg ha, if_neg (show ¬ (882 ≤ a ∧ a < 882 + 512 ∧ bq (S a) k = true) from fun z => ha ⟨z.1, by omega⟩)]
theorem mvS_ne {j : Nat} (h : ¬ (882 ≤ j ∧ j < 1394)) : mvS S k dc dr j = S j := by
  unfold mvS
  rw [if_neg h]
/-- a cell that is hit was free or the body's -/
theorem hit_ok (hw : WF T S) (hk : k < 6) (hcs : csB S k dc dr = true) {c r : Nat} (h : hitB S k dc dr c r = true) : c < wN S ∧ r < hN S ∧ (vS S c r = nz 0 ∨ bq (vS S c r) k = true) := by
  obtain ⟨h1, h2, h3⟩ := hit_iff.mp h
  have hcl : ((c : Int) - dc).toNat < wN S ∧ ((r : Int) - dr).toNat < hN S := Classical.byContradiction fun y => by
    rw [(hw.2.2.2.2.2.2.1 _ (by omega) _ (by omega)).2 y, bq_0 k hk] at h3
    exact absurd h3 (by decide)
  obtain ⟨z1, z2, z3⟩ := ((cs_iff hw hk).mp hcs).2 _ _ hcl.1 hcl.2 h3
  have hC : ((((c : Int) - dc).toNat : Nat) : Int) + dc = c := by omega
  have hF : ((((r : Int) - dr).toNat : Nat) : Int) + dr = r := by omega
  rw [hC, hF] at z3
  rw [hC] at z1
  rw [hF] at z2
  rw [Int.toNat_natCast, Int.toNat_natCast] at z3
  exact ⟨by omega, by omega, z3⟩
theorem mvJ_S (hw : WF T S) (hk : k < 6) (hcs : csB S k dc dr = true) (c1 : -8 ≤ dc) (c2 : dc ≤ 8) (r1 : -8 ≤ dr) (r2 : dr ≤ 8) : mvJ S k (32 * dr + dc) 512 = mvS S k dc dr := by
  have hW := hw.1.2.1
  have hH := hw.2.1.2.1
  funext j
  unfold mvJ mvS
  by_cases hj : 882 ≤ j ∧ j < 1394
  · rw [if_pos hj, if_pos hj]
    have hiff : (0 ≤ (j : Int) - 882 - (32 * dr + dc) ∧ (j : Int) - 882 - (32 * dr + dc) < (512 : Nat) ∧ bq (S (882 + ((j : Int) - 882 - (32 * dr + dc)).toNat)) k = true) ↔ hitB S k dc dr ((j - 882) % 32) ((j - 882) / 32) = true := by
      rw [hit_iff]
      constructor
      · rintro ⟨h1, h2, h3⟩
        generalize hi : ((j : Int) - 882 - (32 * dr + dc)).toNat = i at h3
        have hv : vS S (i % 32) (i / 32) = S (882 + i) := by
          unfold vS
          rw [show 882 + (32 * (i / 32) + i % 32) = 882 + i by omega]
        rw [← hv] at h3
        have hcl : i % 32 < wN S ∧ i / 32 < hN S := Classical.byContradiction fun y => by
          rw [(hw.2.2.2.2.2.2.1 _ (by omega) _ (by omega)).2 y, bq_0 k hk] at h3
          exact absurd h3 (by decide)
        obtain ⟨z1, z2, z3⟩ := ((cs_iff hw hk).mp hcs).2 _ _ hcl.1 hcl.2 h3
        have a1 : (((j - 882) % 32 : Nat) : Int) - dc = ((i % 32 : Nat) : Int) := by omega
        have a2 : (((j - 882) / 32 : Nat) : Int) - dr = ((i / 32 : Nat) : Int) := by omega
        rw [a1, a2, Int.toNat_natCast, Int.toNat_natCast]
        exact ⟨by omega, by omega, h3⟩
      · rintro ⟨h1, h2, h3⟩
        generalize hcc : ((((j - 882) % 32 : Nat) : Int) - dc).toNat = c' at h3
        generalize hrr : ((((j - 882) / 32 : Nat) : Int) - dr).toNat = r' at h3
        have hi : ((j : Int) - 882 - (32 * dr + dc)).toNat = 32 * r' + c' := by omega
        rw [hi]
        exact ⟨by omega, by omega, h3⟩
    by_cases hh : hitB S k dc dr ((j - 882) % 32) ((j - 882) / 32) = true
    · rw [if_pos hh, if_pos (hiff.mpr hh)]
    · rw [if_neg hh, if_neg (fun z => hh (hiff.mp z))]
  · rw [if_neg hj, if_neg hj]
theorem mv_wf (hw : WF T S) (hk : k < 6) (hcs : csB S k dc dr = true) : WF T (mvS S k dc dr) := by
  refine WF.gen hw (fun j hj => mvS_ne (by omega)) (hw.fit fun k hk => mvS_ne (by omega)) (fun r hr c hc => ?_) (hw.gus fun j hj => mvS_ne (by omega)) (hw.boo fun k hk => mvS_ne (by omega))
  rw [mv_v hc hr]
  have hv := hw.2.2.2.2.2.2.1 r hr c hc
  by_cases hh : hitB S k dc dr c r = true
  · rw [if_pos hh]
    obtain ⟨h1, h2, h3⟩ := hit_ok hw hk hcs hh
    exact ⟨Or.inr ⟨k, hk, rfl⟩, fun z => absurd ⟨h1, h2⟩ z⟩
  · rw [if_neg hh]
    by_cases q : bq (vS S c r) k = true
    · rw [if_pos q]
      exact ⟨okV_z, fun _ => rfl⟩
    · rw [if_neg q]
      exact hv
theorem bq_self (hk : k < 6) {k' : Nat} (hk' : k' < 6) : bq (-nz 1 - nz k) k' = decide (k' = k) := bq_neg k hk k' hk'
theorem pq_self (hk : k < 6) {d : Nat} : pq (-nz 1 - nz k) d = false := pq_neg hk
theorem bq_two {v : Int32} (hk : k < 6) (q : bq v k = true) : v = -nz 1 - nz k := of_decide_eq_true q
theorem mv_tr (hb : TB b) (hw : WF T S) (hT : TR b m S) (hk : k < 6) (hcs : csB S k dc dr = true) (c1 : -8 ≤ dc) (c2 : dc ≤ 8) (hm : ∀ a, a ≠ b + 3 → m' a = m a) (h3 : ∀ i, m' (b + 3) i = if i % 6 = k ∧ i / 6 < hN S then bRow m b (hN S) k dc dr (i / 6) else m (b + 3) i) : TR b m' (mvS S k dc dr) := by
  have hW := hw.1.2.1
  have hH := hw.2.1.2.1
  refine hT.cells hw hm hb (fun j hj => mvS_ne (by omega)) (fun r hr d hd c hc => ?_) (fun r hr k' hk' c hc => ?_)
  · rw [mv_v hc hr]
    by_cases hh : hitB S k dc dr c r = true
    · rw [if_pos hh, pq_self hk]
      obtain ⟨g1, g2, g3⟩ := hit_ok hw hk hcs hh
      rcases g3 with g3 | g3
      · rw [g3, pq_0 hd]
      · rw [bq_two hk g3, pq_self hk]
    · rw [if_neg hh]
      by_cases q : bq (vS S c r) k = true
      · rw [if_pos q, pq_0 hd, bq_two hk q, pq_self hk]
      · rw [if_neg q]
  · rw [mv_v hc hr, h3, show (r * 6 + k') % 6 = k' by omega, show (r * 6 + k') / 6 = r by omega]
    have hv := (hw.2.2.2.2.2.2.1 r hr c hc)
    by_cases hkk : k' = k
    · subst hkk
      by_cases hrH : r < hN S
      · rw [if_pos ⟨rfl, hrH⟩]
        have hbit : bt (bRow m b (hN S) k' dc dr r) c = hitB S k' dc dr c r := by
          rw [Bool.eq_iff_iff, hit_iff]
          unfold bRow
          by_cases hin : 0 ≤ (r : Int) - dr ∧ (r : Int) - dr < hN S
          · rw [if_pos hin, bt_psh (by omega) (by omega) hc]
            constructor
            · rintro ⟨g1, g2⟩
              have hlt : ((c : Int) - dc).toNat < 32 := Classical.byContradiction fun z => by
                have hbig : bt (m (b + 3) (((r : Int) - dr).toNat * 6 + k')) ((c : Int) - dc).toNat = false := by
                  unfold bt
                  exact BitVec.getLsbD_of_ge _ _ (by omega)
                rw [hbig] at g2
                exact absurd g2 (by decide)
              rw [hT.bod (by omega) hk hlt] at g2
              exact ⟨by omega, by omega, g2⟩
            · rintro ⟨g1, g2, g3⟩
              refine ⟨g1.1, ?_⟩
              rw [hT.bod (by omega) hk (by omega)]
              exact g3
          · rw [if_neg hin]
            have h0 : bt (nz 0) c = false := bt_0 c
            rw [h0]
            constructor
            · intro z
              exact absurd z (by decide)
            · rintro ⟨g1, g2, g3⟩
              exfalso
              rw [(hw.2.2.2.2.2.2.1 _ (by omega) _ (by omega)).2 (fun y => hin (by omega)), bq_0 k' hk] at g3
              exact absurd g3 (by decide)
        rw [hbit]
        by_cases hh : hitB S k' dc dr c r = true
        · rw [if_pos hh, hh, bq_self hk hk, decide_eq_true rfl]
        · rw [if_neg hh]
          cases z : hitB S k' dc dr c r with
          | true => exact absurd z hh
          | false =>
            by_cases q : bq (vS S c r) k' = true
            · rw [if_pos q, bq_0 k' hk]
            · rw [if_neg q]
              cases z2 : bq (vS S c r) k' with
              | true => exact absurd z2 q
              | false => rfl
      · rw [if_neg (fun z => hrH z.2), hT.bod hr hk hc]
        have hnh : ¬ hitB S k' dc dr c r = true := fun z => hrH (hit_ok hw hk hcs z).2.1
        have hv0 := hv.2 (fun z => hrH z.2)
        rw [if_neg hnh, hv0, bq_0 k' hk, if_neg (by decide), bq_0 k' hk]
    · rw [if_neg (fun z => hkk z.1), hT.bod hr hk' hc]
      by_cases hh : hitB S k dc dr c r = true
      · rw [if_pos hh, bq_self hk hk', decide_eq_false hkk]
        obtain ⟨g1, g2, g3⟩ := hit_ok hw hk hcs hh
        rcases g3 with g3 | g3
        · rw [g3, bq_0 k' hk']
        · rw [bq_two hk g3, bq_self hk hk', decide_eq_false hkk]
      · rw [if_neg hh]
        by_cases q : bq (vS S c r) k = true
        · rw [if_pos q, bq_0 k' hk', bq_two hk q, bq_self hk hk', decide_eq_false hkk]
        · rw [if_neg q]
/-- the model's shifts -/
theorem e_shifts (hw : WF T (m 134)) (hk : k < 6) (hcs : csB (m 134) k dc dr = true) (c1 : -8 ≤ dc) (c2 : dc ≤ 8) (r1 : -8 ≤ dr) (r2 : dr ≤ 8) : ∃ m', f_X8_shifts [.ref 133, .int (nz k), .int (zz dc), .int (zz dr)] (HM e m w) = some (HM e m' w, .inl none) ∧ m' 134 = mvS (m 134) k dc dr ∧ ∀ a, a ≠ 134 → a ≠ 141 → m' a = m a := by
  have hS : ∃ S, S = m 134 := ⟨_, rfl⟩
  obtain ⟨S, hS⟩ := hS
  rw [← hS] at hw hcs ⊢
  unfold f_X8_shifts
  simp (disch := omega) only [mth_w, kR_w, kR_if, sQ_v, sN_v, sTi_v, sTa_v, sTl_v, sR_v, sRv_v, sX_v, sPi_v, sPo_v, sPz_w, zP_b, sRz_w, zR_bw, zR_0w, zR_1w, sPa_v, sAi_v, sAl_v, sAo_v, sAa_v, sM_w, sMp_w, eM_w, sIf_w, eIf_w, cAnd_w, cOr_w, cB_v, cZ_v, cNot_v, eC_v, eI_v, eJ_v, eOp_v, eQ_v, eU_v, eIL_v, eLO_v, eLS_v, eLC_v, eGi_v, eGa_v, eZ_w, eAi_v, eAl_v, eAa_v, eAn_v, aN_v, aI_v, aA_v, sInc_v, sB_okw, sB_xw, eS_okw, eS_xw, eB_okw, eB_xw, oE_w, oS_w, kI_iw, kI_xw, kV_w, kV_xw, kP_iw, kP_xw, List.set_cons_zero, List.set_cons_succ, List.cons_append, List.nil_append, List.length_cons, List.length_nil, List.replicate_succ, List.replicate_zero, List.append_nil, bif_and, bif_or, zne_b01, zeq_b01, bif_d, cond_true, cond_false, nar_0, o_iadd, o_isub, o_imul, c_eq, c_ne, c_lt, c_ge, c_gt, c_le, Nat.reduceAdd, Nat.reduceSub, Nat.zero_add, if_true, if_false, eLl_2, eLi_0, eLi_1, eLi_2, eLi_3, eLi_4, eLi_5, eLi_6, eLi_7, eLi_8, eLi_9, eLi_10, eLi_11, eLi_12, eLi_13, eLa_0, eLa_1, eLa_2, eLa_3, eLa_4, eLa_5, eLa_6, eLa_7, nz_add, nz_mul, nz_sub, nz_lt, nz_le, nz_inj, zeq_nz, zne_nz, zge_nz, zgt_nz, zlt_nz, nlit0, nlit1, nlit2, nlit3, nlit4, nlit5, nlit6, nlit7, nlit8, nlit9, nlit10, nlit11, nlit12, nlit16, nlit18, nlit22, nlit31, nlit32, nlit33, nlit34, nlit40, nlit48, nlit60, nlit63, nlit64, nlit66, nlit80, nlit96, nlit114, nlit126, nlit128, nlit512, nlit756, nlit882, nlit1000, nlit1394, nlit1522, nlit1523, nlit10000]
  generalize hR : sLp _ _ NF _ _ = R
  obtain ⟨m1, g1, g2, g3, g4⟩ := sLp_mem hR (fun j => [.ref 133, .int (nz k), .int (zz dc), .int (zz dr), .int (nz j)]) (fun j m1 => (∀ i, i < j → m1 141 i = S (882 + i)) ∧ (∀ a, m1 134 a = if 882 ≤ a ∧ a < 882 + j ∧ bq (S a) k = true then nz 0 else S a) ∧ ∀ a, a ≠ 134 → a ≠ 141 → m1 a = m a) 512 (NF_lt (by decide)) (fun j m1 hj hI => by
    obtain ⟨i1, i2, i3⟩ := hI
    have hrd : m1 134 (882 + j) = S (882 + j) := by rw [i2, if_neg (by omega)]
    have hbq : bq (S (882 + j)) k = decide (S (882 + j) = -nz 1 - nz k) := rfl
    refine ⟨by simp (disch := omega) only [mth_w, kR_w, kR_if, sQ_v, sN_v, sTi_v, sTa_v, sTl_v, sR_v, sRv_v, sX_v, sPi_v, sPo_v, sPz_w, zP_b, sRz_w, zR_bw, zR_0w, zR_1w, sPa_v, sAi_v, sAl_v, sAo_v, sAa_v, sM_w, sMp_w, eM_w, sIf_w, eIf_w, cAnd_w, cOr_w, cB_v, cZ_v, cNot_v, eC_v, eI_v, eJ_v, eOp_v, eQ_v, eU_v, eIL_v, eLO_v, eLS_v, eLC_v, eGi_v, eGa_v, eZ_w, eAi_v, eAl_v, eAa_v, eAn_v, aN_v, aI_v, aA_v, sInc_v, sB_okw, sB_xw, eS_okw, eS_xw, eB_okw, eB_xw, oE_w, oS_w, kI_iw, kI_xw, kV_w, kV_xw, kP_iw, kP_xw, List.set_cons_zero, List.set_cons_succ, List.cons_append, List.nil_append, List.length_cons, List.length_nil, List.replicate_succ, List.replicate_zero, List.append_nil, bif_and, bif_or, zne_b01, zeq_b01, bif_d, cond_true, cond_false, nar_0, o_iadd, o_isub, o_imul, c_eq, c_ne, c_lt, c_ge, c_gt, c_le, Nat.reduceAdd, Nat.reduceSub, Nat.zero_add, if_true, if_false, eLl_2, eLi_0, eLi_1, eLi_2, eLi_3, eLi_4, eLi_5, eLi_6, eLi_7, eLi_8, eLi_9, eLi_10, eLi_11, eLi_12, eLi_13, eLa_0, eLa_1, eLa_2, eLa_3, eLa_4, eLa_5, eLa_6, eLa_7, nz_add, nz_mul, nz_sub, nz_lt, nz_le, nz_inj, zeq_nz, zne_nz, zge_nz, zgt_nz, zlt_nz, nlit0, nlit1, nlit2, nlit3, nlit4, nlit5, nlit6, nlit7, nlit8, nlit9, nlit10, nlit11, nlit12, nlit16, nlit18, nlit22, nlit31, nlit32, nlit33, nlit34, nlit40, nlit48, nlit60, nlit63, nlit64, nlit66, nlit80, nlit96, nlit114, nlit126, nlit128, nlit512, nlit756, nlit882, nlit1000, nlit1394, nlit1522, nlit1523, nlit10000, decide_eq_true hj], ms (ms m1 141 j (S (882 + j))) 134 (882 + j) (if bq (S (882 + j)) k = true then nz 0 else S (882 + j)), ?_, fun i hi => ?_, fun a => ?_, fun a a1 a2 => by rw [ms_ne a1, ms_ne a2, i3 a a1 a2]⟩
    · rw [hbq]
      cases q : decide (S (882 + j) = -nz 1 - nz k) <;> simp (disch := omega) only [mth_w, kR_w, kR_if, sQ_v, sN_v, sTi_v, sTa_v, sTl_v, sR_v, sRv_v, sX_v, sPi_v, sPo_v, sPz_w, zP_b, sRz_w, zR_bw, zR_0w, zR_1w, sPa_v, sAi_v, sAl_v, sAo_v, sAa_v, sM_w, sMp_w, eM_w, sIf_w, eIf_w, cAnd_w, cOr_w, cB_v, cZ_v, cNot_v, eC_v, eI_v, eJ_v, eOp_v, eQ_v, eU_v, eIL_v, eLO_v, eLS_v, eLC_v, eGi_v, eGa_v, eZ_w, eAi_v, eAl_v, eAa_v, eAn_v, aN_v, aI_v, aA_v, sInc_v, sB_okw, sB_xw, eS_okw, eS_xw, eB_okw, eB_xw, oE_w, oS_w, kI_iw, kI_xw, kV_w, kV_xw, kP_iw, kP_xw, List.set_cons_zero, List.set_cons_succ, List.cons_append, List.nil_append, List.length_cons, List.length_nil, List.replicate_succ, List.replicate_zero, List.append_nil, bif_and, bif_or, zne_b01, zeq_b01, bif_d, cond_true, cond_false, nar_0, o_iadd, o_isub, o_imul, c_eq, c_ne, c_lt, c_ge, c_gt, c_le, Nat.reduceAdd, Nat.reduceSub, Nat.zero_add, if_true, if_false, eLl_2, eLi_0, eLi_1, eLi_2, eLi_3, eLi_4, eLi_5, eLi_6, eLi_7, eLi_8, eLi_9, eLi_10, eLi_11, eLi_12, eLi_13, eLa_0, eLa_1, eLa_2, eLa_3, eLa_4, eLa_5, eLa_6, eLa_7, nz_add, nz_mul, nz_sub, nz_lt, nz_le, nz_inj, zeq_nz, zne_nz, zge_nz, zgt_nz, zlt_nz, nlit0, nlit1, nlit2, nlit3, nlit4, nlit5, nlit6, nlit7, nlit8, nlit9, nlit10, nlit11, nlit12, nlit16, nlit18, nlit22, nlit31, nlit32, nlit33, nlit34, nlit40, nlit48, nlit60, nlit63, nlit64, nlit66, nlit80, nlit96, nlit114, nlit126, nlit128, nlit512, nlit756, nlit882, nlit1000, nlit1394, nlit1522, nlit1523, nlit10000, gd_133, rf_133_0, rf_133_1, rf_133_2, rf_133_3, rf_133_4, rf_133_5, rf_133_6, rf_133_7, rf_133_8, rd_133_9, wr_133_9, rd_133_10, wr_133_10, rf_133_11, rd_133_12, wr_133_12, rd_133_13, wr_133_13, rd_133_14, wr_133_14, rd_133_15, wr_133_15, rd_133_16, wr_133_16, rf_133_17, rf_133_18, ar_134, aw_134, an_134, ar_135, aw_135, an_135, ar_136, aw_136, an_136, ar_137, aw_137, ar_138, aw_138, an_138, ar_139, aw_139, an_139, ar_140, aw_140, an_140, ar_141, aw_141, an_141, ar_142, aw_142, an_142, ar_143, aw_143, an_143, ar_144, aw_144, an_144, ar_145, aw_145, hrd, ms_ne, q, Bool.false_eq_true]
    · rw [ms_ne (by decide), ms_v]
      by_cases q : i = j
      · rw [if_pos ⟨rfl, q⟩, q]
      · rw [if_neg (fun z => q z.2)]
        exact i1 i (by omega)
    · rw [ms_v]
      by_cases q : a = 882 + j
      · subst q
        rw [if_pos ⟨rfl, rfl⟩]
        by_cases q2 : bq (S (882 + j)) k = true
        · rw [if_pos q2, if_pos ⟨by omega, by omega, q2⟩]
        · rw [if_neg q2, if_neg (fun z => q2 z.2.2)]
      · rw [if_neg (fun z => q z.2), ms_ne (by decide), i2]
        by_cases q2 : 882 ≤ a ∧ a < 882 + j ∧ bq (S a) k = true
        · rw [if_pos q2, if_pos ⟨q2.1, by omega, q2.2.2⟩]
        · rw [if_neg q2, if_neg (fun z => q2 ⟨z.1, by omega, z.2.2⟩)]) (fun m1 _ => by
    simp (disch := omega) only [mth_w, kR_w, kR_if, sQ_v, sN_v, sTi_v, sTa_v, sTl_v, sR_v, sRv_v, sX_v, sPi_v, sPo_v, sPz_w, zP_b, sRz_w, zR_bw, zR_0w, zR_1w, sPa_v, sAi_v, sAl_v, sAo_v, sAa_v, sM_w, sMp_w, eM_w, sIf_w, eIf_w, cAnd_w, cOr_w, cB_v, cZ_v, cNot_v, eC_v, eI_v, eJ_v, eOp_v, eQ_v, eU_v, eIL_v, eLO_v, eLS_v, eLC_v, eGi_v, eGa_v, eZ_w, eAi_v, eAl_v, eAa_v, eAn_v, aN_v, aI_v, aA_v, sInc_v, sB_okw, sB_xw, eS_okw, eS_xw, eB_okw, eB_xw, oE_w, oS_w, kI_iw, kI_xw, kV_w, kV_xw, kP_iw, kP_xw, List.set_cons_zero, List.set_cons_succ, List.cons_append, List.nil_append, List.length_cons, List.length_nil, List.replicate_succ, List.replicate_zero, List.append_nil, bif_and, bif_or, zne_b01, zeq_b01, bif_d, cond_true, cond_false, nar_0, o_iadd, o_isub, o_imul, c_eq, c_ne, c_lt, c_ge, c_gt, c_le, Nat.reduceAdd, Nat.reduceSub, Nat.zero_add, if_true, if_false, eLl_2, eLi_0, eLi_1, eLi_2, eLi_3, eLi_4, eLi_5, eLi_6, eLi_7, eLi_8, eLi_9, eLi_10, eLi_11, eLi_12, eLi_13, eLa_0, eLa_1, eLa_2, eLa_3, eLa_4, eLa_5, eLa_6, eLa_7, nz_add, nz_mul, nz_sub, nz_lt, nz_le, nz_inj, zeq_nz, zne_nz, zge_nz, zgt_nz, zlt_nz, nlit0, nlit1, nlit2, nlit3, nlit4, nlit5, nlit6, nlit7, nlit8, nlit9, nlit10, nlit11, nlit12, nlit16, nlit18, nlit22, nlit31, nlit32, nlit33, nlit34, nlit40, nlit48, nlit60, nlit63, nlit64, nlit66, nlit80, nlit96, nlit114, nlit126, nlit128, nlit512, nlit756, nlit882, nlit1000, nlit1394, nlit1522, nlit1523, nlit10000]
    simp) rfl rfl ⟨fun i hi => absurd hi (Nat.not_lt_zero i), fun a => by rw [if_neg (by omega), hS], fun _ _ _ => rfl⟩
  rw [g1]
  simp (disch := omega) only [mth_w, kR_w, kR_if, sQ_v, sN_v, sTi_v, sTa_v, sTl_v, sR_v, sRv_v, sX_v, sPi_v, sPo_v, sPz_w, zP_b, sRz_w, zR_bw, zR_0w, zR_1w, sPa_v, sAi_v, sAl_v, sAo_v, sAa_v, sM_w, sMp_w, eM_w, sIf_w, eIf_w, cAnd_w, cOr_w, cB_v, cZ_v, cNot_v, eC_v, eI_v, eJ_v, eOp_v, eQ_v, eU_v, eIL_v, eLO_v, eLS_v, eLC_v, eGi_v, eGa_v, eZ_w, eAi_v, eAl_v, eAa_v, eAn_v, aN_v, aI_v, aA_v, sInc_v, sB_okw, sB_xw, eS_okw, eS_xw, eB_okw, eB_xw, oE_w, oS_w, kI_iw, kI_xw, kV_w, kV_xw, kP_iw, kP_xw, List.set_cons_zero, List.set_cons_succ, List.cons_append, List.nil_append, List.length_cons, List.length_nil, List.replicate_succ, List.replicate_zero, List.append_nil, bif_and, bif_or, zne_b01, zeq_b01, bif_d, cond_true, cond_false, nar_0, o_iadd, o_isub, o_imul, c_eq, c_ne, c_lt, c_ge, c_gt, c_le, Nat.reduceAdd, Nat.reduceSub, Nat.zero_add, if_true, if_false, eLl_2, eLi_0, eLi_1, eLi_2, eLi_3, eLi_4, eLi_5, eLi_6, eLi_7, eLi_8, eLi_9, eLi_10, eLi_11, eLi_12, eLi_13, eLa_0, eLa_1, eLa_2, eLa_3, eLa_4, eLa_5, eLa_6, eLa_7, nz_add, nz_mul, nz_sub, nz_lt, nz_le, nz_inj, zeq_nz, zne_nz, zge_nz, zgt_nz, zlt_nz, nlit0, nlit1, nlit2, nlit3, nlit4, nlit5, nlit6, nlit7, nlit8, nlit9, nlit10, nlit11, nlit12, nlit16, nlit18, nlit22, nlit31, nlit32, nlit33, nlit34, nlit40, nlit48, nlit60, nlit63, nlit64, nlit66, nlit80, nlit96, nlit114, nlit126, nlit128, nlit512, nlit756, nlit882, nlit1000, nlit1394, nlit1522, nlit1523, nlit10000]
  generalize hR2 : sLp _ _ NF _ _ = R2
  obtain ⟨m2, f1, f2, f3, f4⟩ := sLp_mem hR2 (fun j => [.ref 133, .int (nz k), .int (zz dc), .int (zz dr), .int (nz j)]) (fun j m2 => (∀ i, i < 512 → m2 141 i = S (882 + i)) ∧ (∀ a, m2 134 a = mvJ S k (32 * dr + dc) j a) ∧ ∀ a, a ≠ 134 → a ≠ 141 → m2 a = m a) 512 (NF_lt (by decide)) (fun j m1 hj hI => by
    obtain ⟨i1, i2, i3⟩ := hI
    have hrd : m1 141 j = S (882 + j) := i1 j hj
    have hbq : bq (S (882 + j)) k = decide (S (882 + j) = -nz 1 - nz k) := rfl
    refine ⟨by simp (disch := omega) only [mth_w, kR_w, kR_if, sQ_v, sN_v, sTi_v, sTa_v, sTl_v, sR_v, sRv_v, sX_v, sPi_v, sPo_v, sPz_w, zP_b, sRz_w, zR_bw, zR_0w, zR_1w, sPa_v, sAi_v, sAl_v, sAo_v, sAa_v, sM_w, sMp_w, eM_w, sIf_w, eIf_w, cAnd_w, cOr_w, cB_v, cZ_v, cNot_v, eC_v, eI_v, eJ_v, eOp_v, eQ_v, eU_v, eIL_v, eLO_v, eLS_v, eLC_v, eGi_v, eGa_v, eZ_w, eAi_v, eAl_v, eAa_v, eAn_v, aN_v, aI_v, aA_v, sInc_v, sB_okw, sB_xw, eS_okw, eS_xw, eB_okw, eB_xw, oE_w, oS_w, kI_iw, kI_xw, kV_w, kV_xw, kP_iw, kP_xw, List.set_cons_zero, List.set_cons_succ, List.cons_append, List.nil_append, List.length_cons, List.length_nil, List.replicate_succ, List.replicate_zero, List.append_nil, bif_and, bif_or, zne_b01, zeq_b01, bif_d, cond_true, cond_false, nar_0, o_iadd, o_isub, o_imul, c_eq, c_ne, c_lt, c_ge, c_gt, c_le, Nat.reduceAdd, Nat.reduceSub, Nat.zero_add, if_true, if_false, eLl_2, eLi_0, eLi_1, eLi_2, eLi_3, eLi_4, eLi_5, eLi_6, eLi_7, eLi_8, eLi_9, eLi_10, eLi_11, eLi_12, eLi_13, eLa_0, eLa_1, eLa_2, eLa_3, eLa_4, eLa_5, eLa_6, eLa_7, nz_add, nz_mul, nz_sub, nz_lt, nz_le, nz_inj, zeq_nz, zne_nz, zge_nz, zgt_nz, zlt_nz, nlit0, nlit1, nlit2, nlit3, nlit4, nlit5, nlit6, nlit7, nlit8, nlit9, nlit10, nlit11, nlit12, nlit16, nlit18, nlit22, nlit31, nlit32, nlit33, nlit34, nlit40, nlit48, nlit60, nlit63, nlit64, nlit66, nlit80, nlit96, nlit114, nlit126, nlit128, nlit512, nlit756, nlit882, nlit1000, nlit1394, nlit1522, nlit1523, nlit10000, decide_eq_true hj], ?_⟩
    cases q : bq (S (882 + j)) k with
    | false =>
      rw [hbq] at q
      refine ⟨m1, by simp (disch := omega) only [mth_w, kR_w, kR_if, sQ_v, sN_v, sTi_v, sTa_v, sTl_v, sR_v, sRv_v, sX_v, sPi_v, sPo_v, sPz_w, zP_b, sRz_w, zR_bw, zR_0w, zR_1w, sPa_v, sAi_v, sAl_v, sAo_v, sAa_v, sM_w, sMp_w, eM_w, sIf_w, eIf_w, cAnd_w, cOr_w, cB_v, cZ_v, cNot_v, eC_v, eI_v, eJ_v, eOp_v, eQ_v, eU_v, eIL_v, eLO_v, eLS_v, eLC_v, eGi_v, eGa_v, eZ_w, eAi_v, eAl_v, eAa_v, eAn_v, aN_v, aI_v, aA_v, sInc_v, sB_okw, sB_xw, eS_okw, eS_xw, eB_okw, eB_xw, oE_w, oS_w, kI_iw, kI_xw, kV_w, kV_xw, kP_iw, kP_xw, List.set_cons_zero, List.set_cons_succ, List.cons_append, List.nil_append, List.length_cons, List.length_nil, List.replicate_succ, List.replicate_zero, List.append_nil, bif_and, bif_or, zne_b01, zeq_b01, bif_d, cond_true, cond_false, nar_0, o_iadd, o_isub, o_imul, c_eq, c_ne, c_lt, c_ge, c_gt, c_le, Nat.reduceAdd, Nat.reduceSub, Nat.zero_add, if_true, if_false, eLl_2, eLi_0, eLi_1, eLi_2, eLi_3, eLi_4, eLi_5, eLi_6, eLi_7, eLi_8, eLi_9, eLi_10, eLi_11, eLi_12, eLi_13, eLa_0, eLa_1, eLa_2, eLa_3, eLa_4, eLa_5, eLa_6, eLa_7, nz_add, nz_mul, nz_sub, nz_lt, nz_le, nz_inj, zeq_nz, zne_nz, zge_nz, zgt_nz, zlt_nz, nlit0, nlit1, nlit2, nlit3, nlit4, nlit5, nlit6, nlit7, nlit8, nlit9, nlit10, nlit11, nlit12, nlit16, nlit18, nlit22, nlit31, nlit32, nlit33, nlit34, nlit40, nlit48, nlit60, nlit63, nlit64, nlit66, nlit80, nlit96, nlit114, nlit126, nlit128, nlit512, nlit756, nlit882, nlit1000, nlit1394, nlit1522, nlit1523, nlit10000, gd_133, rf_133_0, rf_133_1, rf_133_2, rf_133_3, rf_133_4, rf_133_5, rf_133_6, rf_133_7, rf_133_8, rd_133_9, wr_133_9, rd_133_10, wr_133_10, rf_133_11, rd_133_12, wr_133_12, rd_133_13, wr_133_13, rd_133_14, wr_133_14, rd_133_15, wr_133_15, rd_133_16, wr_133_16, rf_133_17, rf_133_18, ar_134, aw_134, an_134, ar_135, aw_135, an_135, ar_136, aw_136, an_136, ar_137, aw_137, ar_138, aw_138, an_138, ar_139, aw_139, an_139, ar_140, aw_140, an_140, ar_141, aw_141, an_141, ar_142, aw_142, an_142, ar_143, aw_143, an_143, ar_144, aw_144, an_144, ar_145, aw_145, hrd, q], i1, fun a => ?_, i3⟩
      rw [i2]
      refine mvJ_c ⟨fun z => ⟨z.1, by omega, z.2.2⟩, fun z => ⟨z.1, ?_, z.2.2⟩⟩
      by_cases z4 : ((a : Int) - 882 - (32 * dr + dc)).toNat = j
      · have := z.2.2
        rw [z4, hbq, q] at this
        exact absurd this (by decide)
      · omega
    | true =>
      have hv : vS S (j % 32) (j / 32) = S (882 + j) := by
        unfold vS
        rw [show 882 + (32 * (j / 32) + j % 32) = 882 + j by omega]
      have q' := q
      rw [← hv] at q'
      have hcl : j % 32 < wN S ∧ j / 32 < hN S := Classical.byContradiction fun y => by
        rw [(hw.2.2.2.2.2.2.1 _ (by omega) _ (by omega)).2 y, bq_0 k hk] at q'
        exact absurd q' (by decide)
      obtain ⟨z1, z2, z3⟩ := ((cs_iff hw hk).mp hcs).2 _ _ hcl.1 hcl.2 q'
      have hW := hw.1.2.1
      have hH := hw.2.1.2.1
      obtain ⟨t, ht⟩ : ∃ t : Nat, (t : Int) = j + (32 * dr + dc) := ⟨((j : Int) + (32 * dr + dc)).toNat, by omega⟩
      have ht512 : t < 512 := by omega
      have hpl : nz (882 + j) + (nz 32 * zz dr + zz dc) = nz (882 + t) := by
        have e32 : nz 32 * zz dr = zz (32 * dr) := by
          rw [nz_zz]
          exact (Int32.ofInt_mul 32 dr).symm
        rw [e32, zz_add, nz_zz, zz_add, nz_zz]
        congr 1
        omega
      have hp : f_X8_place [.int (zz dc), .int (zz dr)] (HM e m1 w) = some (HM e m1 w, .inl (some (.int (nz 32 * zz dr + zz dc)))) := by
        unfold f_X8_place
        simp (disch := omega) only [mth_w, kR_w, kR_if, sQ_v, sN_v, sTi_v, sTa_v, sTl_v, sR_v, sRv_v, sX_v, sPi_v, sPo_v, sPz_w, zP_b, sRz_w, zR_bw, zR_0w, zR_1w, sPa_v, sAi_v, sAl_v, sAo_v, sAa_v, sM_w, sMp_w, eM_w, sIf_w, eIf_w, cAnd_w, cOr_w, cB_v, cZ_v, cNot_v, eC_v, eI_v, eJ_v, eOp_v, eQ_v, eU_v, eIL_v, eLO_v, eLS_v, eLC_v, eGi_v, eGa_v, eZ_w, eAi_v, eAl_v, eAa_v, eAn_v, aN_v, aI_v, aA_v, sInc_v, sB_okw, sB_xw, eS_okw, eS_xw, eB_okw, eB_xw, oE_w, oS_w, kI_iw, kI_xw, kV_w, kV_xw, kP_iw, kP_xw, List.set_cons_zero, List.set_cons_succ, List.cons_append, List.nil_append, List.length_cons, List.length_nil, List.replicate_succ, List.replicate_zero, List.append_nil, bif_and, bif_or, zne_b01, zeq_b01, bif_d, cond_true, cond_false, nar_0, o_iadd, o_isub, o_imul, c_eq, c_ne, c_lt, c_ge, c_gt, c_le, Nat.reduceAdd, Nat.reduceSub, Nat.zero_add, if_true, if_false, eLl_2, eLi_0, eLi_1, eLi_2, eLi_3, eLi_4, eLi_5, eLi_6, eLi_7, eLi_8, eLi_9, eLi_10, eLi_11, eLi_12, eLi_13, eLa_0, eLa_1, eLa_2, eLa_3, eLa_4, eLa_5, eLa_6, eLa_7, nz_add, nz_mul, nz_sub, nz_lt, nz_le, nz_inj, zeq_nz, zne_nz, zge_nz, zgt_nz, zlt_nz, nlit0, nlit1, nlit2, nlit3, nlit4, nlit5, nlit6, nlit7, nlit8, nlit9, nlit10, nlit11, nlit12, nlit16, nlit18, nlit22, nlit31, nlit32, nlit33, nlit34, nlit40, nlit48, nlit60, nlit63, nlit64, nlit66, nlit80, nlit96, nlit114, nlit126, nlit128, nlit512, nlit756, nlit882, nlit1000, nlit1394, nlit1522, nlit1523, nlit10000]
      have qd := q
      rw [hbq] at qd
      refine ⟨ms m1 134 (882 + t) (-nz 1 - nz k), by simp (disch := omega) only [mth_w, kR_w, kR_if, sQ_v, sN_v, sTi_v, sTa_v, sTl_v, sR_v, sRv_v, sX_v, sPi_v, sPo_v, sPz_w, zP_b, sRz_w, zR_bw, zR_0w, zR_1w, sPa_v, sAi_v, sAl_v, sAo_v, sAa_v, sM_w, sMp_w, eM_w, sIf_w, eIf_w, cAnd_w, cOr_w, cB_v, cZ_v, cNot_v, eC_v, eI_v, eJ_v, eOp_v, eQ_v, eU_v, eIL_v, eLO_v, eLS_v, eLC_v, eGi_v, eGa_v, eZ_w, eAi_v, eAl_v, eAa_v, eAn_v, aN_v, aI_v, aA_v, sInc_v, sB_okw, sB_xw, eS_okw, eS_xw, eB_okw, eB_xw, oE_w, oS_w, kI_iw, kI_xw, kV_w, kV_xw, kP_iw, kP_xw, List.set_cons_zero, List.set_cons_succ, List.cons_append, List.nil_append, List.length_cons, List.length_nil, List.replicate_succ, List.replicate_zero, List.append_nil, bif_and, bif_or, zne_b01, zeq_b01, bif_d, cond_true, cond_false, nar_0, o_iadd, o_isub, o_imul, c_eq, c_ne, c_lt, c_ge, c_gt, c_le, Nat.reduceAdd, Nat.reduceSub, Nat.zero_add, if_true, if_false, eLl_2, eLi_0, eLi_1, eLi_2, eLi_3, eLi_4, eLi_5, eLi_6, eLi_7, eLi_8, eLi_9, eLi_10, eLi_11, eLi_12, eLi_13, eLa_0, eLa_1, eLa_2, eLa_3, eLa_4, eLa_5, eLa_6, eLa_7, nz_add, nz_mul, nz_sub, nz_lt, nz_le, nz_inj, zeq_nz, zne_nz, zge_nz, zgt_nz, zlt_nz, nlit0, nlit1, nlit2, nlit3, nlit4, nlit5, nlit6, nlit7, nlit8, nlit9, nlit10, nlit11, nlit12, nlit16, nlit18, nlit22, nlit31, nlit32, nlit33, nlit34, nlit40, nlit48, nlit60, nlit63, nlit64, nlit66, nlit80, nlit96, nlit114, nlit126, nlit128, nlit512, nlit756, nlit882, nlit1000, nlit1394, nlit1522, nlit1523, nlit10000, gd_133, rf_133_0, rf_133_1, rf_133_2, rf_133_3, rf_133_4, rf_133_5, rf_133_6, rf_133_7, rf_133_8, rd_133_9, wr_133_9, rd_133_10, wr_133_10, rf_133_11, rd_133_12, wr_133_12, rd_133_13, wr_133_13, rd_133_14, wr_133_14, rd_133_15, wr_133_15, rd_133_16, wr_133_16, rf_133_17, rf_133_18, ar_134, aw_134, an_134, ar_135, aw_135, an_135, ar_136, aw_136, an_136, ar_137, aw_137, ar_138, aw_138, an_138, ar_139, aw_139, an_139, ar_140, aw_140, an_140, ar_141, aw_141, an_141, ar_142, aw_142, an_142, ar_143, aw_143, an_143, ar_144, aw_144, an_144, ar_145, aw_145, hrd, qd, hp, hpl], fun i hi => by rw [ms_ne (by decide)]; exact i1 i hi, fun a => ?_, fun a a1 a2 => by rw [ms_ne a1, i3 a a1 a2]⟩
      rw [ms_v, i2]
      by_cases qa : a = 882 + t
      · subst qa
        rw [if_pos ⟨rfl, rfl⟩]
        unfold mvJ
        have hi : (((882 + t : Nat) : Int) - 882 - (32 * dr + dc)).toNat = j := by omega
        rw [if_pos (by omega), hi, if_pos ⟨by omega, by omega, q⟩]
      · rw [if_neg (fun z => qa z.2)]
        exact mvJ_c ⟨fun z => ⟨z.1, by omega, z.2.2⟩, fun z => ⟨z.1, by omega, z.2.2⟩⟩) (fun m1 _ => by
    simp (disch := omega) only [mth_w, kR_w, kR_if, sQ_v, sN_v, sTi_v, sTa_v, sTl_v, sR_v, sRv_v, sX_v, sPi_v, sPo_v, sPz_w, zP_b, sRz_w, zR_bw, zR_0w, zR_1w, sPa_v, sAi_v, sAl_v, sAo_v, sAa_v, sM_w, sMp_w, eM_w, sIf_w, eIf_w, cAnd_w, cOr_w, cB_v, cZ_v, cNot_v, eC_v, eI_v, eJ_v, eOp_v, eQ_v, eU_v, eIL_v, eLO_v, eLS_v, eLC_v, eGi_v, eGa_v, eZ_w, eAi_v, eAl_v, eAa_v, eAn_v, aN_v, aI_v, aA_v, sInc_v, sB_okw, sB_xw, eS_okw, eS_xw, eB_okw, eB_xw, oE_w, oS_w, kI_iw, kI_xw, kV_w, kV_xw, kP_iw, kP_xw, List.set_cons_zero, List.set_cons_succ, List.cons_append, List.nil_append, List.length_cons, List.length_nil, List.replicate_succ, List.replicate_zero, List.append_nil, bif_and, bif_or, zne_b01, zeq_b01, bif_d, cond_true, cond_false, nar_0, o_iadd, o_isub, o_imul, c_eq, c_ne, c_lt, c_ge, c_gt, c_le, Nat.reduceAdd, Nat.reduceSub, Nat.zero_add, if_true, if_false, eLl_2, eLi_0, eLi_1, eLi_2, eLi_3, eLi_4, eLi_5, eLi_6, eLi_7, eLi_8, eLi_9, eLi_10, eLi_11, eLi_12, eLi_13, eLa_0, eLa_1, eLa_2, eLa_3, eLa_4, eLa_5, eLa_6, eLa_7, nz_add, nz_mul, nz_sub, nz_lt, nz_le, nz_inj, zeq_nz, zne_nz, zge_nz, zgt_nz, zlt_nz, nlit0, nlit1, nlit2, nlit3, nlit4, nlit5, nlit6, nlit7, nlit8, nlit9, nlit10, nlit11, nlit12, nlit16, nlit18, nlit22, nlit31, nlit32, nlit33, nlit34, nlit40, nlit48, nlit60, nlit63, nlit64, nlit66, nlit80, nlit96, nlit114, nlit126, nlit128, nlit512, nlit756, nlit882, nlit1000, nlit1394, nlit1522, nlit1523, nlit10000]
    simp) rfl rfl ⟨g2, fun a => by
      rw [g3, mvJ_0], g4⟩
  rw [f1]
  refine ⟨m2, by simp (disch := omega) only [mth_w, kR_w, kR_if, sQ_v, sN_v, sTi_v, sTa_v, sTl_v, sR_v, sRv_v, sX_v, sPi_v, sPo_v, sPz_w, zP_b, sRz_w, zR_bw, zR_0w, zR_1w, sPa_v, sAi_v, sAl_v, sAo_v, sAa_v, sM_w, sMp_w, eM_w, sIf_w, eIf_w, cAnd_w, cOr_w, cB_v, cZ_v, cNot_v, eC_v, eI_v, eJ_v, eOp_v, eQ_v, eU_v, eIL_v, eLO_v, eLS_v, eLC_v, eGi_v, eGa_v, eZ_w, eAi_v, eAl_v, eAa_v, eAn_v, aN_v, aI_v, aA_v, sInc_v, sB_okw, sB_xw, eS_okw, eS_xw, eB_okw, eB_xw, oE_w, oS_w, kI_iw, kI_xw, kV_w, kV_xw, kP_iw, kP_xw, List.set_cons_zero, List.set_cons_succ, List.cons_append, List.nil_append, List.length_cons, List.length_nil, List.replicate_succ, List.replicate_zero, List.append_nil, bif_and, bif_or, zne_b01, zeq_b01, bif_d, cond_true, cond_false, nar_0, o_iadd, o_isub, o_imul, c_eq, c_ne, c_lt, c_ge, c_gt, c_le, Nat.reduceAdd, Nat.reduceSub, Nat.zero_add, if_true, if_false, eLl_2, eLi_0, eLi_1, eLi_2, eLi_3, eLi_4, eLi_5, eLi_6, eLi_7, eLi_8, eLi_9, eLi_10, eLi_11, eLi_12, eLi_13, eLa_0, eLa_1, eLa_2, eLa_3, eLa_4, eLa_5, eLa_6, eLa_7, nz_add, nz_mul, nz_sub, nz_lt, nz_le, nz_inj, zeq_nz, zne_nz, zge_nz, zgt_nz, zlt_nz, nlit0, nlit1, nlit2, nlit3, nlit4, nlit5, nlit6, nlit7, nlit8, nlit9, nlit10, nlit11, nlit12, nlit16, nlit18, nlit22, nlit31, nlit32, nlit33, nlit34, nlit40, nlit48, nlit60, nlit63, nlit64, nlit66, nlit80, nlit96, nlit114, nlit126, nlit128, nlit512, nlit756, nlit882, nlit1000, nlit1394, nlit1522, nlit1523, nlit10000], ?_, f4⟩
  rw [← mvJ_S hw hk hcs c1 c2 r1 r2]
  exact funext f3
end
