section
variable {S : St} {T b R W H q : Nat} {ring : Bool} {e : Nat → Nat × (Nat → Int32)} {m n m1 m2 m3 : Mm} {w : Ml}
/-- the move looks at few things -/
def mvC (m : Mm) (b : Nat) (m1 n : Mm) : Mm := fun a => if a = b + 2 ∨ a = b + 9 ∨ a = b + 10 ∨ a = b + 14 ∨ a = 33 ∨ a = 34 then m1 a else n a
theorem MvI.congr (h : MvI m b W H ring q m1) (h1 : n (b + 1) = m (b + 1)) (h3 : n (b + 3) = m (b + 3)) (h11 : n (b + 11) = m (b + 11)) (h32 : n 32 = m 32) (h9 : n (b + 9) = m (b + 9)) (h10 : n (b + 10) = m (b + 10)) : MvI n b W H ring q (mvC m b m1 n) := by
  obtain ⟨i1, i2, i3, i4, i5, i6, i7⟩ := h
  have x1 : ∀ s x t, mvB n b W ring s x t = mvB m b W ring s x t := fun s x t => by unfold mvB; rw [h1, h3]
  have x2 : ∀ s x t, mvG n b W ring s x t = mvG m b W ring s x t := fun s x t => by unfold mvG; rw [x1]
  have x3 : ∀ s x t, mvA n b W ring s x t = mvA m b W ring s x t := fun s x t => by unfold mvA; rw [x2, h1]
  have x4 : ∀ s x t, mvX n b W ring s x t = mvX m b W ring s x t := fun s x t => by unfold mvX; rw [x2, x3]
  have x5 : ∀ x d t s i, gvB n b W ring x d t s i = gvB m b W ring x d t s i := fun x d t s i => by unfold gvB; rw [h1, h3]
  have x6 : ∀ d, tuN n b d = tuN m b d := fun d => by unfold tuN; rw [h11]
  have c1 : ∀ k i c, cP n b W H ring k i c = cP m b W H ring k i c := fun k i c => by unfold cP; rw [x6, h32, x3, x1]
  have c2 : ∀ k, cX n b W H ring k = cX m b W H ring k := fun k => by unfold cX; rw [x4, h32]
  have c3 : cL n W H ring = cL m W H ring := funext fun k => by unfold cL; rw [h32]
  have c4 : cBo n b W H ring = cBo m b W H ring := funext fun i => funext fun k => by unfold cBo; rw [x5, x1, h32]
  have c5 : cWa n b H = cWa m b H := funext fun i => funext fun k => by unfold cWa; rw [x6, h32]
  refine ⟨fun a a2 a9 a10 a14 a33 a34 => ?_, fun i hi c => ?_, fun i hi => ?_, ?_, ?_, fun i hi => ?_, fun i hi => ?_⟩
  · unfold mvC
    rw [if_neg (by omega)]
  · have : mvC m b m1 n (b + 2) = m1 (b + 2) := by unfold mvC; rw [if_pos (by omega)]
    rw [this, i2 i hi c]
    constructor
    · rintro ⟨k, k1, k2⟩; exact ⟨k, k1, by rw [c1]; exact k2⟩
    · rintro ⟨k, k1, k2⟩; exact ⟨k, k1, by rw [← c1]; exact k2⟩
  · have : mvC m b m1 n (b + 14) = m1 (b + 14) := by unfold mvC; rw [if_pos (by omega)]
    rw [this, i3 i hi, c2]
  · have : mvC m b m1 n (b + 9) = m1 (b + 9) := by unfold mvC; rw [if_pos (by omega)]
    rw [this, i4, h9, c3]
  · have : mvC m b m1 n (b + 10) = m1 (b + 10) := by unfold mvC; rw [if_pos (by omega)]
    rw [this, i5, h10, c3]
  · have : mvC m b m1 n 33 = m1 33 := by unfold mvC; rw [if_pos (by omega)]
    rw [this, i6 i hi, c4]
  · have : mvC m b m1 n 34 = m1 34 := by unfold mvC; rw [if_pos (by omega)]
    rw [this, i7 i hi, c5]
theorem lv_ring (h : rgB S = true) {r d c : Nat} : lvS S r d c = false := by
  have : decide (nbS S r d c = none) = false := by
    rw [decide_eq_false_iff_not]
    unfold nbS
    rw [h]
    exact ncol_ring
  unfold lvS
  rw [this, Bool.and_false, Bool.and_false]
theorem lk_ring (h : rgB S = true) : lkS S = nz 0 := by
  unfold lkS
  exact sm_zero fun r _ => sm_zero fun d _ => sm_zero fun c _ => by rw [lv_ring h]; rfl
theorem lm_ring (h : rgB S = true) {x : Nat} : lmS S x = nz 0 := by
  unfold lmS
  refine sm_zero fun r _ => sm_zero fun d _ => ?_
  rw [sm_zero fun c _ => by rw [lv_ring h]; rfl]
  exact Int32.mul_zero
/-- the class's tick taken back -/
theorem e_backC (he : EO e) (hb : TB b) (hw : WF T S) (hTm : T < 900000) (hT : TR b m S) (ht : 1 ≤ tN S) (hv : Rev S) (hrg : rgB S = true) :
    ∃ m', f_X4_tickBack [.ref 31, .ref b] (HM e m w) = some (HM e m' w, .inl none) ∧ TR b m' (backE S) ∧ ∀ a, (a < b ∨ b + 14 < a) → a ≠ 32 → a ≠ 33 → a ≠ 34 → m' a = m a := by
  obtain ⟨m1, m2, m5, m6, m7, R, L, n, e1, f1, g1, ⟨hR0, hR⟩, i2, hn, hnb, y6, p5, g7, ⟨l1, l2, l3⟩, g8, z5⟩ := e_tickBack (e := e) (w := w) he hb hw hTm hT ht (iv_1 hw hv) (iv_2 hw hv)
  have aw := hb.aw
  have hW := hw.1
  have hH := hw.2.1.2.1
  have hr6 := hw.2.2.2.2.2.1.1
  have wv := vir_wf hw
  have x1 : ∀ a, a ≠ 32 → a ≠ b → m1 a = m a := fun a a1 a2 => by rw [f1 a a1, ms_ne a2]
  -- a tunnel that has the state turned round
  have hX : ∃ n1, n1 = mw (mw m (b + 2) (m1 32)) (b + 12) (fun k => nz (k % 64)) := ⟨_, rfl⟩
  obtain ⟨n1, hX⟩ := hX
  have k2 : n1 (b + 2) = m1 32 := by rw [hX, mw_ne (by omega), mw_at]
  have k12 : n1 (b + 12) = fun k => nz (k % 64) := by rw [hX, mw_at]
  have ko : ∀ a, a ≠ b + 2 → a ≠ b + 12 → n1 a = m a := fun a a1 a2 => by rw [hX, mw_ne a2, mw_ne a1]
  have hbits : ∀ r, r < 16 → ∀ d, d < 6 → ∀ c, c < 32 → bt (m1 32 (r * 6 + d)) c = (turnN (nS S c r)).testBit d := fun r hr d hd c hc => by
    rw [g1 r hr d hd, hT.bits hr (opN_lt d) hc, (nS_ok hw hc hr).2.1 _ (opN_lt d), turnN_bit hd]
  have tv : TR b n1 (vir S) := by
    obtain ⟨t1, t2, t3, t4, t5, t6, t7, t8, t9, t10, t11, t12⟩ := hT
    unfold TR TRv
    rw [vir_w, vir_h, vir_g, vir_r]
    refine ⟨⟨?_, ?_, fun c hc => ?_⟩, fun r hr d hd c hc => ?_, fun r hr k hk c hc => ?_, ⟨?_, fun k hk => ?_⟩, ⟨?_, ?_⟩, fun k hk => ?_, fun k hk x hx => ?_, fun k hk => ?_, fun k hk => ?_, ⟨?_, ?_⟩, fun k hk => ?_, fun c hc => ?_⟩
    · show n1 (b + 1) 0 = _
      rw [ko _ (by omega) (by omega), vir_lo (by omega)]; exact t1.1
    · show n1 (b + 1) 1 = _
      rw [ko _ (by omega) (by omega), vir_lo (by omega)]; exact t1.2.1
    · show bt (n1 (b + 1) 2) c = _
      rw [ko _ (by omega) (by omega)]; exact t1.2.2 c hc
    · show bt (n1 (b + 2) (r * 6 + d)) c = _
      rw [k2, hbits r hr d hd c hc, (nS_ok wv hc hr).2.1 d hd, vir_n hw hc hr]
    · show bt (n1 (b + 3) (r * 6 + k)) c = _
      rw [ko _ (by omega) (by omega), vir_v hc hr]
      have h3 : bt (m (b + 3) (r * 6 + k)) c = bq (vS S c r) k := t3 r hr k hk c hc
      rw [h3]
      have hf : ∀ n, n < 64 → ∀ k, k < 6 → bq (nz n) k = false := by decide +kernel
      cases hz : z_ge (vS S c r) with
      | true =>
        rw [if_pos rfl, hf _ (turnN_lt _) k hk]
        cases hq : bq (vS S c r) k with
        | false => rfl
        | true =>
          have := bq_sol hk hq
          rw [hz] at this
          cases this
      | false => rw [if_neg (show ¬ false = true by decide)]
    · show n1 (b + 4) 0 = _
      rw [ko _ (by omega) (by omega), vir_lo (by omega)]; exact t4.1
    · show n1 (b + 5) k = _
      have hg := hw.2.2.2.2.1.1
      rw [ko _ (by omega) (by omega), vir_lo (by omega)]; exact t4.2 k hk
    · show n1 (b + 6) 0 = _
      rw [ko _ (by omega) (by omega), vir_lo (by omega)]; exact t5.1
    · refine ⟨L, l1, ?_, fun i hi j hj => ?_⟩
      · show n1 (b + 6) 1 = _
        rw [ko _ (by omega) (by omega)]; exact l2
      · show n1 (b + 7) _ = _
        rw [ko _ (by omega) (by omega), vir_lo (by omega)]; exact l3 i hi j hj
    · show n1 (b + 9) k = _
      rw [ko _ (by omega) (by omega), vir_lo (by omega)]; exact t6 k hk
    · show n1 (b + 10) _ = _
      rw [ko _ (by omega) (by omega), vir_lo (by omega)]; exact t7 k hk x hx
    · show n1 (b + 11) k = _
      rw [ko _ (by omega) (by omega), vir_lo (by omega)]; exact t8 k hk
    · show n1 (b + 12) k = _
      rw [k12]
      unfold vir
      rw [if_neg (by omega), if_pos (by omega), Nat.add_sub_cancel_left]
    · show n1 b 6 = _
      rw [ko _ (by omega) (by omega), vir_lo (by omega)]; exact t10.1
    · show n1 b 7 = _
      rw [ko _ (by omega) (by omega), vir_lo (by omega)]; exact t10.2
    · show n1 (b + 13) k = _
      rw [ko _ (by omega) (by omega), vir_lo (by omega)]; exact t11 k hk
    · rw [vir_lo (by omega), ← t12 c hc]
      refine sm_congr fun r hr => sm_congr fun d hd => ?_
      show sg d (b01 (bt (n1 (b + 14) _) c)) = _
      rw [ko _ (by omega) (by omega)]
  have hn2 : ∃ n2, n2 = mw n1 32 (m1 32) := ⟨_, rfl⟩
  obtain ⟨n2, hn2⟩ := hn2
  have f2 : ∀ a, a ≠ 32 → n2 a = n1 a := fun a ha => by rw [hn2, mw_ne ha]
  have kk : ∀ a, a ≠ 32 → a ≠ b → a ≠ b + 2 → a ≠ b + 12 → n2 a = m1 a := fun a h1 h2 h3 h4 => by rw [f2 a h1, ko a h3 h4, x1 a h1 h2]
  have i3 := MvI.congr (n := n2) i2 (kk _ (by omega) (by omega) (by omega) (by omega)) (kk _ (by omega) (by omega) (by omega) (by omega)) (kk _ (by omega) (by omega) (by omega) (by omega)) (by rw [hn2, mw_at]) (kk _ (by omega) (by omega) (by omega) (by omega)) (kk _ (by omega) (by omega) (by omega) (by omega))
  have p2 : PB (n2 32) (hN (vir S)) (fun r c => uS (vir S) c r) := fun r hr d hd c hc => by
    rw [vir_h] at hr
    rw [hn2, mw_at, hbits r (by omega) d hd c hc]
    show _ = (uS (vir S) c r).testBit d
    rw [vir_u hw hc (by omega)]
  have hRv : vir S 3 = nz R := by rw [vir_lo (by omega)]; exact hR
  rw [← vir_w, ← vir_h] at i3
  have hmv : ∀ a, (a = b + 2 ∨ a = b + 9 ∨ a = b + 10 ∨ a = b + 14 ∨ a = 33 ∨ a = 34) → mvC m1 b m2 n2 a = m2 a := fun a ha => by unfold mvC; rw [if_pos ha]
  have hpart : ∀ r, r < 16 → ∀ d, d < 6 → ∀ c, c < 32 → (bt (m2 (b + 2) (r * 6 + d)) c = true ↔ c < wN S ∧ EvN (vir S) r d c) := fun r hr d hd c hc => by
    have := mv_part hb wv tv f2 p2 hR0 hRv i3 hr hd hc
    rw [hmv _ (by omega), vir_w] at this
    exact this
  have i3' := i3
  rw [rg_eq hR0 hRv] at i3'
  have sL : sm (hN (vir S) * 6) (cL n2 (wN (vir S)) (hN (vir S)) (rgB (vir S))) = lkS (vir S) := sm_rd (fun r hr d hd => mv_left wv p2 hr hd)
  have sL0 : sm (hN (vir S) * 6) (fun k => q_al (k % 6) * cL n2 (wN (vir S)) (hN (vir S)) (rgB (vir S)) k) = lmS (vir S) 0 := sm_rd (fun r hr d hd => by
    rw [show (r * 6 + d) % 6 = d by omega, mv_left wv p2 hr hd]
    rfl)
  have sL1 : sm (hN (vir S) * 6) (fun k => q_ac (k % 6) * cL n2 (wN (vir S)) (hN (vir S)) (rgB (vir S)) k) = lmS (vir S) 1 := sm_rd (fun r hr d hd => by
    rw [show (r * 6 + d) % 6 = d by omega, mv_left wv p2 hr hd]
    rfl)
  have hrv : rgB (vir S) = true := by rw [vir_rg]; exact hrg
  have v9 : m2 (b + 9) = m (b + 9) := by
    have := i3'.2.2.2.1
    rw [hmv _ (by omega), sL, lk_ring hrv, add_nz0, su_self, f2 _ (by omega), ko _ (by omega) (by omega)] at this
    exact this
  have v10 : m2 (b + 10) = m (b + 10) := by
    have := i3'.2.2.2.2.1
    rw [hmv _ (by omega), sL0, sL1, lm_ring hrv, lm_ring hrv, su_two0, f2 _ (by omega), ko _ (by omega) (by omega)] at this
    exact this
  have sB : ∀ i, i < 12 → m2 33 i = tkS (vir S) i := fun i hi => by
    have := i3'.2.2.2.2.2.1 i hi
    rw [hmv _ (by omega)] at this
    rw [this]
    exact sm_rd (fun r hr d hd => mv_body hb wv tv f2 p2 hi hr hd)
  have sW : ∀ x, x < 2 → m2 34 x = wkS (vir S) x := fun x hx => by
    have := i3'.2.2.2.2.2.2 x hx
    rw [hmv _ (by omega)] at this
    rw [this]
    exact sm_rd (fun r hr d hd => mv_wall hb wv tv f2 p2 hr hd)
  -- what there is ahead of the collisions
  have hnn : ∀ r, r < hN S → ∀ c, c < 32 → n r c = if c < wN S then bkP S r c else 0 := fun r hr c hc => by
    refine tb_ext (hn r c) (by split; exact bkP_lt r c; decide) (fun d hd => ?_)
    rw [hnb r hr d hd c hc, Bool.eq_iff_iff, hpart r (by omega) (opN d) (opN_lt d) c hc]
    by_cases h : c < wN S
    · rw [if_pos h, bkP_bit hd, dB_t]
      exact ⟨fun z => z.2, fun z => ⟨h, z⟩⟩
    · rw [if_neg h]
      exact ⟨fun z => absurd z.1 h, fun z => by simp at z⟩
  have hm8 : ∃ m8, m8 = mw m7 (b + 14) (fun j => if j < 96 then nz 0 else m7 (b + 14) j) := ⟨_, rfl⟩
  obtain ⟨m8, hm8⟩ := hm8
  rw [← hm8] at e1
  have z2 : ∀ a, a ≠ b → a ≠ b + 2 → a ≠ b + 6 → a ≠ b + 9 → a ≠ b + 10 → a ≠ b + 13 → a ≠ b + 14 → a ≠ 32 → a ≠ 33 → a ≠ 34 → m8 a = m a := fun a h0 h2 h6 h9 h10 h13 h14 h32 h33 h34 => by
    rw [hm8, mw_ne h14, g8.1 a h6, g7.1 a h10 h13, y6 a h32 h2, i2.1 a h2 h9 h10 h14 h33 h34, x1 a h32 h0]
  have z5' : ∀ a, a ≠ b + 6 → a ≠ b + 10 → a ≠ b + 13 → a ≠ b + 14 → m8 a = m5 a := fun a h6 h10 h13 h14 => by
    rw [hm8, mw_ne h14, g8.1 a h6, g7.1 a h10 h13]
  have z6 : ∀ a, a ≠ b + 6 → a ≠ b + 14 → m8 a = m6 a := fun a h6 h14 => by
    rw [hm8, mw_ne h14, g8.1 a h6]
  have z7 : m8 (b + 6) = m7 (b + 6) := by rw [hm8, mw_ne (by omega)]
  have w33 : m5 33 = m2 33 := y6 _ (by omega) (by omega)
  have w34 : m5 34 = m2 34 := y6 _ (by omega) (by omega)
  have w10 : m5 (b + 10) = m (b + 10) := by rw [y6 _ (by omega) (by omega), v10]
  have w13 : m5 (b + 13) = m (b + 13) := by rw [y6 _ (by omega) (by omega), i2.1 _ (by omega) (by omega) (by omega) (by omega) (by omega) (by omega), x1 _ (by omega) (by omega)]
  obtain ⟨t1, t2, t3, t4, t5, t6, t7, t8, t9, t10, t11, t12⟩ := hT
  refine ⟨m8, e1, ?_, fun a ha h32 h33 h34 => z2 a (by omega) (by omega) (by omega) (by omega) (by omega) (by omega) (by omega) h32 h33 h34⟩
  unfold TR TRv
  rw [backE_w, backE_h, backE_g, backE_rN hr6]
  refine ⟨⟨?_, ?_, fun c hc => ?_⟩, fun r hr d hd c hc => ?_, fun r hr k hk c hc => ?_, ⟨?_, fun k hk => ?_⟩, ⟨?_, (if 0 < rN S then (L + 63) % 64 else L), by split <;> omega, ?_, fun i hi j hj => ?_⟩, fun k hk => ?_, fun k hk x hx => ?_, fun k hk => ?_, fun k hk => ?_, ⟨?_, ?_⟩, fun k hk => ?_, fun c hc => ?_⟩
  · show m8 (b + 1) 0 = _
    rw [z2 _ (by omega) (by omega) (by omega) (by omega) (by omega) (by omega) (by omega) (by omega) (by omega) (by omega), backE_keep (by omega)]; exact t1.1
  · show m8 (b + 1) 1 = _
    rw [z2 _ (by omega) (by omega) (by omega) (by omega) (by omega) (by omega) (by omega) (by omega) (by omega) (by omega), backE_keep (by omega)]; exact t1.2.1
  · show bt (m8 (b + 1) 2) c = _
    rw [z2 _ (by omega) (by omega) (by omega) (by omega) (by omega) (by omega) (by omega) (by omega) (by omega) (by omega)]; exact t1.2.2 c hc
  · show bt (m8 (b + 2) (r * 6 + d)) c = _
    rw [backE_cell hc hr, bxS_pq hw hv hd hc hr, z5' _ (by omega) (by omega) (by omega) (by omega)]
    by_cases hrH : r < hN S
    · rw [p5 r hrH d hd c hc, hnn r hrH c hc]
      by_cases hcW : c < wN S
      · rw [if_pos hcW]
        cases hz : z_ge (vS S c r) with
        | true => rw [if_pos ⟨hcW, hrH, rfl⟩]
        | false =>
          have h0 : bkP S r c = 0 := tb_ext (bkP_lt r c) (by decide) (fun d hd => by rw [bkP_bit hd, EvN_no hw hc hr hz]; simp)
          rw [if_neg (fun z => by cases z.2.2), h0, iv_0 hw hv _ (Nat.mod_lt _ (by decide))]
          simp
      · rw [if_neg hcW, if_neg (fun z => hcW z.1), iv_0 hw hv _ (Nat.mod_lt _ (by decide))]
        simp
    · rw [z5 _ (by omega) (by omega), if_neg (fun z => hrH z.2.1)]
      exact bt_0 c
  · show bt (m8 (b + 3) (r * 6 + k)) c = _
    rw [backE_cell hc hr, bxS_bq hw hv hk hc hr, z2 _ (by omega) (by omega) (by omega) (by omega) (by omega) (by omega) (by omega) (by omega) (by omega) (by omega)]; exact t3 r hr k hk c hc
  · show m8 (b + 4) 0 = _
    rw [z2 _ (by omega) (by omega) (by omega) (by omega) (by omega) (by omega) (by omega) (by omega) (by omega) (by omega), backE_keep (by omega)]; exact t4.1
  · show m8 (b + 5) k = _
    have hg := hw.2.2.2.2.1.1
    rw [z2 _ (by omega) (by omega) (by omega) (by omega) (by omega) (by omega) (by omega) (by omega) (by omega) (by omega), backE_keep (by omega)]; exact t4.2 k hk
  · show m8 (b + 6) 0 = _
    rw [z7, g8.2.1, backE_rn]
  · show m8 (b + 6) 1 = _
    rw [z7]
    exact g8.2.2
  · show m8 (b + 7) _ = _
    rw [z2 _ (by omega) (by omega) (by omega) (by omega) (by omega) (by omega) (by omega) (by omega) (by omega) (by omega), if_pos (by omega), backE_keep (by omega)]
    have := l3 (i + 1) (by omega) j hj
    rw [show ((L + 63) % 64 + 64 - i) % 64 = (L + 64 - (i + 1)) % 64 by omega, this, show rN S - 1 - (i + 1) = rN S - 1 - 1 - i by omega]
  · show m8 (b + 9) k = _
    rw [z5' _ (by omega) (by omega) (by omega) (by omega), y6 _ (by omega) (by omega), v9, backE_keep (by omega)]; exact t6 k hk
  · show m8 (b + 10) (k * 2 + x) = _
    have h7 : m (b + 10) (k * 2 + x) = S (12 + 5 * x + k) := t7 k hk x hx
    have s6 : sm 6 (fun k => -nz 1 * m5 33 (k * 2 + x)) = sm 6 (fun j => -nz 1 * tkS (vir S) (j * 2 + x)) := sm_congr fun j hj => by rw [w33, sB _ (by omega)]
    rw [z6 _ (by omega) (by omega), backE_mom hx hk, ← h7]
    rcases (show k < 2 ∨ k = 2 ∨ k = 3 ∨ k = 4 by omega) with q | q | q | q
    · rw [if_neg (by omega), if_neg (by omega), g7.2.2.2.2 _ (by omega), w10]
    · subst q
      rw [if_pos rfl, show 2 * 2 + x = 4 + x by omega, g7.2.2.2.1 x hx, w10, s6]
    · subst q
      rw [if_neg (by decide), if_pos rfl, show 3 * 2 + x = 6 + x by omega, g7.2.2.1 x hx, w10, w34, sW x hx]
    · subst q
      rw [if_neg (by decide), if_neg (by decide), g7.2.2.2.2 _ (by omega), w10]
  · show m8 (b + 11) k = _
    rw [z2 _ (by omega) (by omega) (by omega) (by omega) (by omega) (by omega) (by omega) (by omega) (by omega) (by omega), backE_keep (by omega)]; exact t8 k hk
  · show m8 (b + 12) k = _
    rw [z2 _ (by omega) (by omega) (by omega) (by omega) (by omega) (by omega) (by omega) (by omega) (by omega) (by omega), backE_keep (by omega)]; exact t9 k hk
  · show m8 b 6 = _
    rw [z5' _ (by omega) (by omega) (by omega) (by omega), y6 _ (by omega) (by omega), i2.1 _ (by omega) (by omega) (by omega) (by omega) (by omega) (by omega), f1 _ (by omega), ms_nn (by decide), backE_keep (by omega)]; exact t10.1
  · show m8 b 7 = _
    rw [z5' _ (by omega) (by omega) (by omega) (by omega), y6 _ (by omega) (by omega), i2.1 _ (by omega) (by omega) (by omega) (by omega) (by omega) (by omega), f1 _ (by omega), ms_eq, backE_time]
  · show m8 (b + 13) k = _
    have h11 : m (b + 13) k = S (22 + k) := t11 k hk
    rw [z6 _ (by omega) (by omega), g7.2.1 k hk, w13, w33, sB k hk, backE_sum hk, h11]
  · rw [backE_cross (by omega)]
    refine sm_zero fun r hr => sm_zero fun d hd => ?_
    show sg d (b01 (bt (m8 (b + 14) (r * 6 + d)) c)) = _
    rw [hm8, mw_at, if_pos (by omega), show bt (nz 0) c = false from bt_0 c]
    exact sg_z
end
