theorem TB.aw {b : Nat} (h : TB b) : (b + 14 < 31 ∨ 42 < b) ∧ 1 ≤ b ∧ b + 14 < 133 := by
  rcases h with rfl | rfl | rfl | rfl | rfl | rfl | rfl | rfl <;> decide
section
variable {S S0 : St} {T b R : Nat} {e : Nat → Nat × (Nat → Int32)} {m m1 m2 m3 m4 m5 : Mm} {w : Ml}
theorem moveE_w : wN (moveE S) = wN S := by unfold wN; rw [moveE_keep (by omega)]
theorem moveE_h : hN (moveE S) = hN S := by unfold hN; rw [moveE_keep (by omega)]
theorem moveE_g : gN (moveE S) = gN S := by unfold gN; rw [moveE_keep (by omega)]
theorem prS_free (hw : WF T S) {c r d : Nat} (h : prS S c r d = true) : z_ge (vS S c r) = true := by
  cases hz : z_ge (vS S c r) with
  | true => rfl
  | false =>
    have h0 : nS S c r = 0 := by
      unfold nS
      rw [hz, if_neg (by decide)]
    unfold prS at h
    rw [uS_0 hw h0] at h
    simp at h
theorem EvN_ok (hw : WF T S) {r' d' c' : Nat} (h : EvN S r' d' c') : r' < hN S ∧ z_ge (vS S c' r') = true := by
  have hH := hw.2.1.2.1
  obtain ⟨r, hr, d, hd, h⟩ := h
  rcases h with ⟨h1, h2, h3, h4⟩ | ⟨h1, ⟨h2, h3, h4, h5⟩ | ⟨h2, h3, c, h4, h5, h6, h7⟩⟩
  · rw [h2]
    exact ⟨hr, prS_free hw h4⟩
  · rw [h2]
    exact ⟨hr, prS_free hw h4⟩
  · rw [h2]
    refine ⟨(tg_row hd hr hH h1).2, ?_⟩
    unfold solS at h7
    cases hz : z_ge (vS S c' (tgN r d)) with
    | true => rfl
    | false =>
      rw [hz] at h7
      exact absurd h7 (by decide)
theorem okV_neg {v : Int32} (hv : okV v) (hz : z_ge v = false) : ∃ k, k < 6 ∧ v = -1 - nz k := by
  rcases hv with ⟨n, hn, q⟩ | q
  · rw [q, zge_nz (by omega)] at hz
    cases hz
  · exact q
theorem dB_f {p : Prop} (h : ¬ p) : dB p = false := by
  cases q : dB p with
  | false => rfl
  | true => exact absurd (dB_t.mp q) h
theorem nxS_pq (hw : WF T S) {c r d : Nat} (hd : d < 6) (hc : c < 32) (hr : r < 16) : pq (nxS S c r) d = dB (c < wN S ∧ EvN S r d c) := by
  unfold nxS
  by_cases q : c < wN S ∧ r < hN S
  · rw [if_pos q]
    cases hz : z_ge (vS S c r) with
    | true =>
      rw [if_pos rfl, pq_nz (paN_lt _ 6) hd, paN_bit, decide_eq_true hd, Bool.true_and, Bool.eq_iff_iff, dB_t, dB_t]
      exact ⟨fun h => ⟨q.1, h⟩, fun h => h.2⟩
    | false =>
      obtain ⟨k, hk, hv⟩ := okV_neg (hw.2.2.2.2.2.2.1 r hr c hc).1 hz
      rw [if_neg (by decide), hv, pq_neg hk, dB_f]
      intro h
      have := (EvN_ok hw h.2).2
      rw [hz] at this
      cases this
  · rw [if_neg q, pq_nz (by decide) hd, dB_f]
    · simp
    · exact fun h => q ⟨h.1, (EvN_ok hw h.2).1⟩
theorem nxS_bq (hw : WF T S) {c r k : Nat} (hk : k < 6) (hc : c < 32) (hr : r < 16) : bq (nxS S c r) k = bq (vS S c r) k := by
  have hf : ∀ n, n < 64 → ∀ k, k < 6 → bq (nz n) k = false := by decide +kernel
  have h7 := hw.2.2.2.2.2.2.1 r hr c hc
  unfold nxS
  by_cases q : c < wN S ∧ r < hN S
  · rw [if_pos q]
    cases hz : z_ge (vS S c r) with
    | true =>
      rw [if_pos rfl, hf _ (paN_lt _ 6) k hk]
      rcases h7.1 with ⟨n, hn, hv⟩ | ⟨k', hk', hv⟩
      · rw [hv, hf n hn k hk]
      · have hg : ∀ k, k < 6 → z_ge (-1 - nz k) = false := by decide
        rw [hv, hg k' hk'] at hz
        cases hz
    | false => rw [if_neg (by decide)]
  · rw [if_neg q, h7.2 q]
theorem nxS_ok (hw : WF T S) {c r : Nat} (hc : c < 32) (hr : r < 16) : okV (nxS S c r) ∧ (¬ (c < wN S ∧ r < hN S) → nxS S c r = nz 0) := by
  unfold nxS
  refine ⟨?_, fun q => if_neg q⟩
  by_cases q : c < wN S ∧ r < hN S
  · rw [if_pos q]
    cases hz : z_ge (vS S c r) with
    | true =>
      rw [if_pos rfl]
      exact Or.inl ⟨_, paN_lt _ 6, rfl⟩
    | false =>
      rw [if_neg (by decide)]
      exact (hw.2.2.2.2.2.2.1 r hr c hc).1
  · rw [if_neg q]
    exact okV_z
/-- the tunnel has the state behind the move -/
theorem move_TR (hb : TB b) (hw : WF T S) (t1 : TR b m1 S) (f2 : ∀ a, a ≠ 32 → m2 a = m1 a) (p2 : PB (m2 32) (hN S) (fun r c => uS S c r)) (hR0 : R < 2) (hR : S 3 = nz R) (i3 : MvI m2 b (wN S) (hN S) (decide (R = 1)) (hN S * 6) m3) {L : Nat}
    (g4 : (∀ a, a ≠ b + 10 → a ≠ b + 13 → m4 a = m3 a) ∧ (∀ i, i < 12 → m4 (b + 13) i = m3 (b + 13) i + nz 1 * m3 33 i) ∧ (∀ x, x < 2 → m4 (b + 10) (6 + x) = m3 (b + 10) (6 + x) + nz 1 * m3 34 x) ∧ (∀ x, x < 2 → m4 (b + 10) (4 + x) = m3 (b + 10) (4 + x) + sm 6 (fun k => nz 1 * m3 33 (k * 2 + x))) ∧ ∀ i, (i < 4 ∨ 8 ≤ i) → m4 (b + 10) i = m3 (b + 10) i)
    (hL : L < 64) (hr3 : ∀ i, i < rN S → ∀ j, j < 12 → m1 (b + 7) ((L + 64 - i) % 64 * 12 + j) = S (114 + 12 * (rN S - 1 - i) + j))
    (g5 : (∀ a, a ≠ b + 6 → a ≠ b + 7 → m5 a = m4 a) ∧ m5 (b + 6) 1 = nz ((L + 1) % 64) ∧ m5 (b + 6) 0 = nz (if rN S < 64 then rN S + 1 else 64) ∧ (∀ j, j < 12 → m5 (b + 7) ((L + 1) % 64 * 12 + j) = m4 33 j) ∧ ∀ i, (i < (L + 1) % 64 * 12 ∨ (L + 1) % 64 * 12 + 12 ≤ i) → m5 (b + 7) i = m4 (b + 7) i) :
    TR b (ms m5 b 7 (m5 b 7 + nz 1)) (moveE S) := by
  have hW := hw.1
  have hH := hw.2.1.2.1
  have aw := hb.aw
  have i3' := i3
  rw [rg_eq hR0 hR] at i3'
  have one : ∀ y : Int32, nz 1 * y = y := fun y => Int32.one_mul y
  have hm6 : ∃ m6, m6 = ms m5 b 7 (m5 b 7 + nz 1) := ⟨_, rfl⟩
  obtain ⟨m6, hm6⟩ := hm6
  rw [← hm6]
  have z : ∀ a, a ≠ b → a ≠ b + 2 → a ≠ b + 6 → a ≠ b + 7 → a ≠ b + 9 → a ≠ b + 10 → a ≠ b + 13 → a ≠ b + 14 → a ≠ 32 → a ≠ 33 → a ≠ 34 → m6 a = m1 a := fun a h0 h2 h6 h7 h9 h10 h13 h14 h32 h33 h34 => by
    rw [hm6, ms_ne h0, g5.1 a h6 h7, g4.1 a h10 h13, i3.1 a h2 h9 h10 h14 h33 h34, f2 a h32]
  have z3 : ∀ a, a ≠ b → a ≠ b + 6 → a ≠ b + 7 → a ≠ b + 10 → a ≠ b + 13 → m6 a = m3 a := fun a h0 h6 h7 h10 h13 => by
    rw [hm6, ms_ne h0, g5.1 a h6 h7, g4.1 a h10 h13]
  have z4 : ∀ a, a ≠ b → a ≠ b + 6 → a ≠ b + 7 → m6 a = m4 a := fun a h0 h6 h7 => by
    rw [hm6, ms_ne h0, g5.1 a h6 h7]
  have z5 : ∀ a, a ≠ b → m6 a = m5 a := fun a h0 => by rw [hm6, ms_ne h0]
  have z1 : m6 (b + 1) = m1 (b + 1) := z _ (by omega) (by omega) (by omega) (by omega) (by omega) (by omega) (by omega) (by omega) (by omega) (by omega) (by omega)
  have zb : ∀ j, j ≠ 7 → m6 b j = m1 b j := fun j hj => by
    rw [hm6, ms_nn hj, g5.1 _ (by omega) (by omega), g4.1 _ (by omega) (by omega), i3.1 _ (by omega) (by omega) (by omega) (by omega) (by omega) (by omega), f2 _ (by omega)]
  have zb7 : m6 b 7 = m1 b 7 + nz 1 := by
    rw [hm6, ms_eq, g5.1 _ (by omega) (by omega), g4.1 _ (by omega) (by omega), i3.1 _ (by omega) (by omega) (by omega) (by omega) (by omega) (by omega), f2 _ (by omega)]
  have sL : sm (hN S * 6) (cL m2 (wN S) (hN S) (rgB S)) = lkS S := sm_rd (fun r hr d hd => mv_left hw p2 hr hd)
  have sL0 : sm (hN S * 6) (fun k => q_al (k % 6) * cL m2 (wN S) (hN S) (rgB S) k) = lmS S 0 := sm_rd (fun r hr d hd => by
    rw [show (r * 6 + d) % 6 = d by omega, mv_left hw p2 hr hd]
    rfl)
  have sL1 : sm (hN S * 6) (fun k => q_ac (k % 6) * cL m2 (wN S) (hN S) (rgB S) k) = lmS S 1 := sm_rd (fun r hr d hd => by
    rw [show (r * 6 + d) % 6 = d by omega, mv_left hw p2 hr hd]
    rfl)
  have sB : ∀ i, i < 12 → m3 33 i = tkS S i := fun i hi => by
    rw [i3'.2.2.2.2.2.1 i hi]
    exact sm_rd (fun r hr d hd => mv_body hb hw t1 f2 p2 hi hr hd)
  have sW : ∀ x, x < 2 → m3 34 x = wkS S x := fun x hx => by
    rw [i3'.2.2.2.2.2.2 x hx]
    exact sm_rd (fun r hr d hd => mv_wall hb hw t1 f2 p2 hr hd)
  have s6 : ∀ x, x < 2 → sm 6 (fun k => nz 1 * m3 33 (k * 2 + x)) = sm 6 (fun j => tkS S (j * 2 + x)) := fun x hx => sm_congr fun j hj => by rw [one, sB _ (by omega)]
  have t9 : ∀ k, k < 4 → m1 (b + 9) k = S (8 + k) := t1.2.2.2.2.2.1
  have t10 : ∀ k, k < 5 → ∀ x, x < 2 → m1 (b + 10) (k * 2 + x) = S (12 + 5 * x + k) := t1.2.2.2.2.2.2.1
  have t13 : ∀ k, k < 12 → m1 (b + 13) k = S (22 + k) := t1.2.2.2.2.2.2.2.2.2.2.1
  have o13 : m3 (b + 13) = m1 (b + 13) := by rw [i3.1 _ (by omega) (by omega) (by omega) (by omega) (by omega) (by omega), f2 _ (by omega)]
  have o9 : m2 (b + 9) = m1 (b + 9) := f2 _ (by omega)
  have o10 : m2 (b + 10) = m1 (b + 10) := f2 _ (by omega)
  have v10 := i3'.2.2.2.2.1
  rw [o10, sL0, sL1] at v10
  have h0 := hR
  unfold TR TRv
  rw [moveE_w, moveE_h, moveE_g]
  refine ⟨⟨?_, ?_, fun c hc => ?_⟩, fun r hr d hd c hc => ?_, fun r hr k hk c hc => ?_, ⟨?_, fun k hk => ?_⟩, ⟨?_, (L + 1) % 64, Nat.mod_lt _ (by decide), ?_, ?_⟩, fun k hk => ?_, fun k hk x hx => ?_, fun k hk => ?_, fun k hk => ?_, ⟨?_, ?_⟩, fun k hk => ?_, fun c hc => ?_⟩
  · show m6 (b + 1) 0 = _
    rw [z1, t1.wd, moveE_keep (by omega)]
  · show m6 (b + 1) 1 = _
    rw [z1, t1.ht, moveE_keep (by omega)]
  · show bt (m6 (b + 1) 2) c = _
    rw [z1, t1.all c hc]
  · show bt (m6 (b + 2) (r * 6 + d)) c = _
    rw [moveE_cell hc hr, nxS_pq hw hd hc hr, z3 _ (by omega) (by omega) (by omega) (by omega) (by omega), Bool.eq_iff_iff, dB_t]
    exact mv_part hb hw t1 f2 p2 hR0 hR i3 hr hd hc
  · show bt (m6 (b + 3) (r * 6 + k)) c = _
    rw [moveE_cell hc hr, nxS_bq hw hk hc hr, z _ (by omega) (by omega) (by omega) (by omega) (by omega) (by omega) (by omega) (by omega) (by omega) (by omega) (by omega), t1.bod hr hk hc]
  · show m6 (b + 4) 0 = _
    rw [z _ (by omega) (by omega) (by omega) (by omega) (by omega) (by omega) (by omega) (by omega) (by omega) (by omega) (by omega), t1.gsz, moveE_keep (by omega)]
  · show m6 (b + 5) k = _
    have hg := hw.2.2.2.2.1.1
    rw [z _ (by omega) (by omega) (by omega) (by omega) (by omega) (by omega) (by omega) (by omega) (by omega) (by omega) (by omega), t1.num hk, moveE_keep (by omega)]
  · show m6 (b + 6) 0 = _
    rw [z5 _ (by omega), g5.2.2.1, moveE_rn]
  · show m6 (b + 6) 1 = _
    rw [z5 _ (by omega), g5.2.1]
  · show ∀ i, i < rN (moveE S) → ∀ j, j < 12 → m6 (b + 7) (((L + 1) % 64 + 64 - i) % 64 * 12 + j) = _
    rw [z5 _ (by omega)]
    refine rec_next (V := m1 (b + 7)) hL hw.2.2.2.2.2.1.1 hr3 (fun j hj => ?_) (fun i hi => ?_)
    · rw [g5.2.2.2.1 j hj, g4.1 _ (by omega) (by omega), sB j hj]
    · rw [g5.2.2.2.2 i hi, g4.1 _ (by omega) (by omega), i3.1 _ (by omega) (by omega) (by omega) (by omega) (by omega) (by omega), f2 _ (by omega)]
  · show m6 (b + 9) k = _
    rw [z3 _ (by omega) (by omega) (by omega) (by omega) (by omega), i3'.2.2.2.1, o9, sL]
    rcases (show k = 3 ∨ k < 3 by omega) with q | q
    · rw [q, su_at, t9 3 (by decide), show 8 + 3 = 11 from rfl, moveE_left]
    · rw [su_ne (by omega), t9 k hk, moveE_keep (by omega)]
  · show m6 (b + 10) (k * 2 + x) = _
    rw [z4 _ (by omega) (by omega) (by omega), moveE_mom hx hk, ← t10 k hk x hx]
    rcases (show k < 2 ∨ k = 2 ∨ k = 3 ∨ k = 4 by omega) with q | q | q | q
    · rw [if_neg (by omega), if_neg (by omega), if_neg (by omega), g4.2.2.2.2 _ (by omega), v10, su_ne (by omega), su_ne (by omega)]
    · subst q
      rw [if_pos rfl, show 2 * 2 + x = 4 + x by omega, g4.2.2.2.1 x hx, v10, su_ne (by omega), su_ne (by omega), s6 x hx]
    · subst q
      rw [if_neg (by decide), if_pos rfl, show 3 * 2 + x = 6 + x by omega, g4.2.2.1 x hx, v10, su_ne (by omega), su_ne (by omega), one, sW x hx]
    · subst q
      rw [if_neg (by decide), if_neg (by decide), if_pos rfl, g4.2.2.2.2 _ (by omega), v10]
      rcases (show x = 0 ∨ x = 1 by omega) with rfl | rfl
      · rw [su_ne (by decide), show 4 * 2 + 0 = 8 from rfl, su_at]
      · rw [show 4 * 2 + 1 = 9 from rfl, su_at]
  · show m6 (b + 11) k = _
    rw [z _ (by omega) (by omega) (by omega) (by omega) (by omega) (by omega) (by omega) (by omega) (by omega) (by omega) (by omega), t1.fit hk, moveE_keep (by omega)]
  · show m6 (b + 12) k = _
    rw [z _ (by omega) (by omega) (by omega) (by omega) (by omega) (by omega) (by omega) (by omega) (by omega) (by omega) (by omega), t1.bk hk, moveE_keep (by omega)]
  · show m6 b 6 = _
    rw [zb 6 (by decide), moveE_keep (by omega)]
    exact t1.2.2.2.2.2.2.2.2.2.1.1
  · show m6 b 7 = _
    rw [zb7, t1.time, moveE_time]
  · show m6 (b + 13) k = _
    rw [z4 _ (by omega) (by omega) (by omega), g4.2.1 k hk, o13, t13 k hk, one, sB k hk, moveE_sum hk]
  · rw [moveE_cross hc (by omega)]
    refine sm_congr fun r hr => sm_congr fun d hd => ?_
    show sg d (b01 (bt (m6 (b + 14) (r * 6 + d)) c)) = _
    rw [z3 _ (by omega) (by omega) (by omega) (by omega) (by omega), i3'.2.2.1 _ (by omega), if_pos (by omega), mv_cross hb hw t1 f2 p2 hr hd hc]
-- how great a number is
def ab (x : Int32) (B : Nat) : Prop := -(B : Int) ≤ x.toInt ∧ x.toInt ≤ B
theorem ab_mono {x : Int32} {A B : Nat} (h : ab x A) (q : A ≤ B) : ab x B := ⟨by have := h.1; omega, by have := h.2; omega⟩
theorem ab_zz {z : Int} {B : Nat} (h1 : -(B : Int) ≤ z) (h2 : z ≤ B) (hB : B < 2147483648) : ab (zz z) B := by
  unfold ab
  rw [zz_to (by omega) (by omega)]
  exact ⟨h1, h2⟩
theorem zz_of (x : Int32) : x = zz x.toInt := (Int32.ofInt_toInt x).symm
theorem ab_add {x y : Int32} {A B : Nat} (hx : ab x A) (hy : ab y B) (h : A + B < 2147483648) : ab (x + y) (A + B) := by
  rw [zz_of x, zz_of y, zz_add]
  have h1 := hx.1
  have h2 := hx.2
  have h3 := hy.1
  have h4 := hy.2
  exact ab_zz (by omega) (by omega) h
theorem ab_sub {x y : Int32} {A B : Nat} (hx : ab x A) (hy : ab y B) (h : A + B < 2147483648) : ab (x - y) (A + B) := by
  rw [zz_of x, zz_of y, zz_sub]
  have h1 := hx.1
  have h2 := hx.2
  have h3 := hy.1
  have h4 := hy.2
  exact ab_zz (by omega) (by omega) h
theorem ab_0 {B : Nat} : ab (nz 0) B := by
  have h : (nz 0).toInt = 0 := rfl
  unfold ab
  rw [h]
  omega
theorem ab_sm {B : Nat} {f : Nat → Int32} : ∀ (n : Nat), (∀ i, i < n → ab (f i) B) → n * B < 2147483648 → ab (sm n f) (n * B)
  | 0, _, _ => ab_0
  | n + 1, h, q => by
    rw [Nat.succ_mul] at q ⊢
    rw [sm_succ]
    exact ab_add (ab_sm n (fun i hi => h i (by omega)) (by omega)) (h n (by omega)) q
theorem tkS_ab (hw : WF T S) {i : Nat} : ab (tkS S i) 12288 := by
  have hW := hw.1.2.1
  have hH := hw.2.1.2.1
  have hf : ∀ d, d < 6 → ∀ x, x < 2 → ∀ p : Bool, -4 ≤ (nz 2 * mo x d * b01 p).toInt ∧ (nz 2 * mo x d * b01 p).toInt ≤ 4 := by decide
  have h1 : ∀ r d, d < 6 → ab (nz 2 * mo (i % 2) d * sm (wN S) (fun c => b01 (boS S (i / 2) r d c))) 128 := fun r d hd => by
    rw [← sm_mul]
    refine ab_mono (ab_sm (B := 4) (wN S) (fun c _ => ?_) (by omega)) (by omega)
    exact hf d hd (i % 2) (Nat.mod_lt _ (by decide)) _
  unfold tkS
  refine ab_mono (ab_sm (B := 768) (hN S) (fun r _ => ab_sm (B := 128) 6 (fun d hd => h1 r d hd) (by decide)) (by omega)) (by omega)
theorem moveE_wf (hw : WF T S) (hT : T < 900000) : WF (T + 1) (moveE S) := by
  have ht := hw.2.2.1
  have hr := hw.2.2.2.2.2.1
  have hg := hw.2.2.2.2.1
  have hT1 : moveE S 2 = nz (tN S + 1) := by rw [moveE_time, ht.2, nz_add]
  have hT2 : tN (moveE S) = tN S + 1 := by
    have : tN (moveE S) = (moveE S 2).toNatClampNeg := rfl
    rw [this, hT1, nz_cl (by omega)]
  unfold WF
  rw [moveE_w, moveE_h, moveE_g, hT2, moveE_rN hr.1]
  refine ⟨⟨hw.1.1, hw.1.2.1, ?_⟩, ⟨hw.2.1.1, hw.2.1.2.1, ?_⟩, ⟨by omega, hT1⟩, fun k hk => ?_, ⟨hg.1, ?_⟩, ⟨by split <;> omega, moveE_rn⟩, fun r hr' c hc => ?_, fun g hg' => ?_, fun k hk => ?_, ⟨?_, ?_⟩, fun i hi j hj => ?_⟩
  · rw [moveE_keep (by omega)]; exact hw.1.2.2
  · rw [moveE_keep (by omega)]; exact hw.2.1.2.2
  · rw [moveE_keep (by omega)]; exact hw.2.2.2.1 k hk
  · rw [moveE_keep (by omega)]; exact hg.2
  · rw [moveE_cell hc hr']
    exact nxS_ok hw hc hr'
  · have := hw.2.2.2.2.2.2.2.1 g hg'
    unfold gustOK at this ⊢
    rw [moveE_w, moveE_h, moveE_keep (k := 66 + 8 * g) (by omega), moveE_keep (k := 66 + 8 * g + 1) (by omega), moveE_keep (k := 66 + 8 * g + 2) (by omega), moveE_keep (k := 66 + 8 * g + 3) (by omega), moveE_keep (k := 66 + 8 * g + 5) (by omega)]
    exact this
  · rw [moveE_keep (by omega)]; exact hw.2.2.2.2.2.2.2.2.1 k hk
  · rw [moveE_keep (by omega)]; exact hw.2.2.2.2.2.2.2.2.2.1.1
  · rw [moveE_keep (by omega)]; exact hw.2.2.2.2.2.2.2.2.2.1.2
  · have hrec := hw.2.2.2.2.2.2.2.2.2.2
    have htk : recOK (tkS S j) := by
      have := tkS_ab hw (i := j)
      exact ⟨by have := this.1; omega, by have := this.2; omega⟩
    by_cases q : rN S < 64
    · rw [if_pos q] at hi
      rw [moveE_rec (by omega) hj, if_pos q]
      by_cases q2 : i = rN S
      · rw [if_pos q2]; exact htk
      · rw [if_neg q2]; exact hrec i (by omega) j hj
    · rw [if_neg q] at hi
      rw [moveE_rec (by omega) hj, if_neg q]
      by_cases q2 : i < 63
      · rw [if_pos q2]; exact hrec (i + 1) (by omega) j hj
      · rw [if_neg q2]; exact htk
theorem tickE_wf (hw : WF T S) (hT : T < 900000) : WF (T + 1) (tickE S) := moveE_wf (blowE_ok hw).2 hT
/-- the class's tick -/
theorem e_tickC (he : EO e) (hb : TB b) (hw : WF T S) (hTm : T < 900000) (hT : TR b m S) :
    ∃ m', f_X4_tick [.ref 31, .ref b] (HM e m w) = some (HM e m' w, .inl none) ∧ TR b m' (tickE S) ∧ ∀ a, (a < b ∨ b + 14 < a) → a ≠ 32 → a ≠ 33 → a ≠ 34 → m' a = m a := by
  obtain ⟨m1, m2, m3, m4, m5, R, L, e1, f1, t1, f2, p2, ⟨hR0, hR⟩, i3, g4, ⟨l1, l2, l3⟩, g5⟩ := e_tick (e := e) (w := w) he hb hw hTm hT
  obtain ⟨bk, wf⟩ := blowE_ok hw
  have et : tN (blowE S) = tN S := by unfold tN; rw [bk 2 (by omega)]
  have er : rN (blowE S) = rN S := by unfold rN; rw [bk 7 (by omega)]
  have aw := hb.aw
  have hr6 := hw.2.2.2.2.2.1.1
  rw [← bk.ew, ← bk.eh] at i3
  rw [← bk.eh] at p2
  rw [← er] at g5
  refine ⟨_, e1, move_TR hb wf t1 f2 (fun r hr d hd c hc => ?_) hR0 (by rw [bk _ (by omega)]; exact hR) i3 g4 l1 (fun i hi j hj => ?_) g5, fun a ha h32 h33 h34 => ?_⟩
  · have := p2 r hr d hd c hc
    rw [this]
    show _ = (uS (blowE S) c r).testBit d
    unfold uS
    rw [et]
  · rw [er] at hi ⊢
    rw [f1 _ (by omega) (by omega) (by omega) (by omega), l3 i hi j hj, bk _ (by omega)]
  · rw [ms_ne (by omega), g5.1 a (by omega) (by omega), g4.1 a (by omega) (by omega), i3.1 a (by omega) (by omega) (by omega) (by omega) h33 h34, f2 a h32, f1 a (by omega) (by omega) (by omega) (by omega)]
end
