/-! THE MODEL'S TICK: its sums are those of tickE -/
section
variable {S : St} {T : Nat} {r d c k : Nat}
theorem inS_w (h : wlB (hN S) r d = true) : inS S r d c k = if k = 15 then mo 0 d - mo 0 (tuS S d) else if k = 20 then mo 1 d - mo 1 (tuS S d) else nz 0 := by
  unfold inS
  rw [h, if_pos rfl]
theorem inS_n (h : wlB (hN S) r d = false) (hn : nbS S r d c = none) : inS S r d c k = if k = 11 then nz 1 else if k = 16 then mo 0 d else if k = 21 then mo 1 d else if k = 34 + (wN S - 1) ∧ stq r d = 1 then nz 1 else nz 0 := by
  unfold inS
  rw [h, if_neg (by decide), hn]
theorem inS_s {c2 : Nat} (h : wlB (hN S) r d = false) (hn : nbS S r d c = some c2) : inS S r d c k = if z_ge (vS S c2 (tgN r d)) then (if k = 34 + c ∧ stq r d = 1 then nz 1 else if k = 34 + c2 ∧ stq r d = -1 then -nz 1 else nz 0)
      else if 22 ≤ k ∧ k < 34 then (if bq (vS S c2 (tgN r d)) ((k - 22) / 2) then nz 2 * mo ((k - 22) % 2) d else nz 0) else if k = 14 then nz 2 * mo 0 d else if k = 19 then nz 2 * mo 1 d else nz 0 := by
  unfold inS
  rw [h, if_neg (by decide), hn]
def gv (S : St) (r d c k : Nat) : Int32 := if prS S c r d then inS S r d c k else nz 0
theorem gv_f (h : prS S c r d = false) : gv S r d c k = nz 0 := by
  unfold gv
  rw [h, if_neg (by decide)]
theorem gv_t (h : prS S c r d = true) : gv S r d c k = inS S r d c k := by
  unfold gv
  rw [h, if_pos rfl]
def tot (S : St) (k : Nat) : Int32 := sm (hN S * wN S * 6) (gS S k)
theorem tot_v : tot S k = sm (hN S) (fun r => sm 6 (fun d => sm (wN S) (fun c => gv S r d c k))) := by
  unfold tot
  rw [sm_flat, sm_flat]
  refine sm_congr fun r hr => Eq.trans sm_swap (sm_congr fun d hd => sm_congr fun c hc => ?_)
  obtain ⟨d1, d2, d3⟩ := dec_q (r := r) hc hd
  unfold gS gv
  rw [d1, d2, d3]
theorem mb_t (y : Int32) : y * b01 true = y := Int32.mul_one y
theorem mb_f (y : Int32) : y * b01 false = nz 0 := Int32.mul_zero
theorem g_lv : gv S r d c 11 = b01 (lvS S r d c) := by
  cases hp : prS S c r d with
  | false =>
    rw [gv_f hp]
    unfold lvS
    rw [hp, Bool.false_and, Bool.and_false]
    rfl
  | true =>
    rw [gv_t hp]
    unfold lvS
    rw [hp, Bool.true_and]
    cases hwl : wlB (hN S) r d with
    | true =>
      rw [inS_w hwl, if_neg (by decide), if_neg (by decide)]
      rfl
    | false =>
      cases hn : nbS S r d c with
      | none =>
        rw [inS_n hwl hn, if_pos rfl, decide_eq_true rfl]
        rfl
      | some c2 =>
        rw [inS_s hwl hn, decide_eq_false (fun z => by cases z)]
        split
        · rw [if_neg (fun z => by omega), if_neg (fun z => by omega)]
          rfl
        · rw [if_neg (by omega), if_neg (by omega), if_neg (by omega)]
          rfl
theorem g_lm {x : Nat} (hx : x < 2) : gv S r d c (12 + 5 * x + 4) = mo x d * b01 (lvS S r d c) := by
  cases hp : prS S c r d with
  | false =>
    rw [gv_f hp]
    unfold lvS
    rw [hp, Bool.false_and, Bool.and_false, mb_f]
  | true =>
    rw [gv_t hp]
    unfold lvS
    rw [hp, Bool.true_and]
    cases hwl : wlB (hN S) r d with
    | true => rw [inS_w hwl, if_neg (by omega), if_neg (by omega), Bool.not_true, Bool.false_and, mb_f]
    | false =>
      rw [Bool.not_false, Bool.true_and]
      cases hn : nbS S r d c with
      | none =>
        rw [inS_n hwl hn, decide_eq_true rfl, mb_t, if_neg (by omega)]
        rcases (show x = 0 ∨ x = 1 by omega) with rfl | rfl
        · rw [if_pos (by omega)]
        · rw [if_neg (by omega), if_pos (by omega)]
      | some c2 =>
        rw [inS_s hwl hn, decide_eq_false (fun z => by cases z), mb_f]
        split
        · rw [if_neg (fun z => by omega), if_neg (fun z => by omega)]
        · rw [if_neg (by omega), if_neg (by omega), if_neg (by omega)]
theorem g_wa {x : Nat} (hx : x < 2) : gv S r d c (12 + 5 * x + 3) = (mo x d - mo x (tuS S d)) * b01 (waS S r d c) := by
  cases hp : prS S c r d with
  | false =>
    rw [gv_f hp]
    unfold waS
    rw [hp, Bool.and_false, mb_f]
  | true =>
    rw [gv_t hp]
    unfold waS
    rw [hp, Bool.and_true]
    cases hwl : wlB (hN S) r d with
    | true =>
      rw [inS_w hwl, mb_t]
      rcases (show x = 0 ∨ x = 1 by omega) with rfl | rfl
      · rw [if_pos (by omega)]
      · rw [if_neg (by omega), if_pos (by omega)]
    | false =>
      rw [mb_f]
      cases hn : nbS S r d c with
      | none => rw [inS_n hwl hn, if_neg (by omega), if_neg (by omega), if_neg (by omega), if_neg (fun z => by omega)]
      | some c2 =>
        rw [inS_s hwl hn]
        split
        · rw [if_neg (fun z => by omega), if_neg (fun z => by omega)]
        · rw [if_neg (by omega), if_neg (by omega), if_neg (by omega)]
theorem g_bo {i : Nat} (hi : i < 12) : gv S r d c (22 + i) = nz 2 * mo (i % 2) d * b01 (boS S (i / 2) r d c) := by
  cases hp : prS S c r d with
  | false =>
    rw [gv_f hp]
    unfold boS
    rw [hp, Bool.false_and, Bool.and_false, mb_f]
  | true =>
    rw [gv_t hp]
    unfold boS
    rw [hp, Bool.true_and]
    cases hwl : wlB (hN S) r d with
    | true => rw [inS_w hwl, if_neg (by omega), if_neg (by omega), Bool.not_true, Bool.false_and, mb_f]
    | false =>
      rw [Bool.not_false, Bool.true_and]
      cases hn : nbS S r d c with
      | none =>
        rw [inS_n hwl hn, if_neg (by omega), if_neg (by omega), if_neg (by omega), if_neg (fun z => by omega)]
        exact (mb_f _).symm
      | some c2 =>
        rw [inS_s hwl hn]
        show _ = nz 2 * mo (i % 2) d * b01 (bq (vS S c2 (tgN r d)) (i / 2))
        cases hz : z_ge (vS S c2 (tgN r d)) with
        | true =>
          rw [if_pos rfl, if_neg (fun z => by omega), if_neg (fun z => by omega)]
          cases hq : bq (vS S c2 (tgN r d)) (i / 2) with
          | false => exact (mb_f _).symm
          | true =>
            have := bq_sol (by omega) hq
            rw [hz] at this
            cases this
        | false =>
          rw [if_neg (by decide), if_pos (by omega), Nat.add_sub_cancel_left]
          cases hq : bq (vS S c2 (tgN r d)) (i / 2) with
          | false => exact (mb_f _).symm
          | true => exact (mb_t _).symm
theorem g_b2 (hw : WF T S) (hr : r < hN S) (hd : d < 6) (hc : c < wN S) {x : Nat} (hx : x < 2) : gv S r d c (12 + 5 * x + 2) = sm 6 (fun j => nz 2 * mo x d * b01 (boS S j r d c)) := by
  have hW := hw.1.2.1
  have hH := hw.2.1.2.1
  cases hp : prS S c r d with
  | false =>
    rw [gv_f hp, sm_zero]
    intro j hj
    unfold boS
    rw [hp, Bool.false_and, Bool.and_false, mb_f]
  | true =>
    rw [gv_t hp]
    cases hwl : wlB (hN S) r d with
    | true =>
      rw [inS_w hwl, if_neg (by omega), if_neg (by omega), sm_zero]
      intro j hj
      unfold boS
      rw [hwl, Bool.not_true, Bool.false_and, mb_f]
    | false =>
      cases hn : nbS S r d c with
      | none =>
        rw [inS_n hwl hn, if_neg (by omega), if_neg (by omega), if_neg (by omega), if_neg (fun z => by omega), sm_zero]
        intro j hj
        unfold boS
        rw [hn, Bool.and_false, Bool.and_false, mb_f]
      | some c2 =>
        have hc2 : c2 < wN S := ncol_lt (by omega) hc hn
        obtain ⟨t1, t2⟩ := tg_row hd hr hH hwl
        have hbo : ∀ j, boS S j r d c = bq (vS S c2 (tgN r d)) j := fun j => by
          unfold boS
          rw [hwl, hp, hn, Bool.not_false, Bool.true_and, Bool.true_and]
        rw [inS_s hwl hn]
        cases hz : z_ge (vS S c2 (tgN r d)) with
        | true =>
          rw [if_pos rfl, if_neg (fun z => by omega), if_neg (fun z => by omega), sm_zero]
          intro j hj
          rw [hbo]
          cases hq : bq (vS S c2 (tgN r d)) j with
          | false => exact mb_f _
          | true =>
            have := bq_sol hj hq
            rw [hz] at this
            cases this
        | false =>
          obtain ⟨j0, hj0, hv⟩ := okV_neg (hw.2.2.2.2.2.2.1 (tgN r d) (by omega) c2 (by omega)).1 hz
          have hf : ∀ j, j < 6 → ∀ i, i < 6 → bq (-1 - nz j) i = decide (i = j) := by decide
          rw [if_neg (by decide), if_neg (by omega), sm_one hj0 (fun j hj hne => by
            rw [hbo, hv, hf j0 hj0 j hj, decide_eq_false hne, mb_f])]
          rw [hbo, hv, hf j0 hj0 j0 hj0, decide_eq_true rfl, mb_t]
          rcases (show x = 0 ∨ x = 1 by omega) with rfl | rfl
          · rw [if_pos (by omega)]
          · rw [if_neg (by omega), if_pos (by omega)]
theorem stq_p (h : stq r d = 1) : d = 0 ∨ d = 1 ∨ d = 5 := by
  unfold stq at h
  split at h
  · omega
  · split at h
    · omega
    · split at h
      · omega
      · split at h <;> omega
theorem stq_n (hd : d < 6) (h : stq r d = -1) : ¬ (d = 0 ∨ d = 1 ∨ d = 5) := by
  unfold stq at h
  split at h
  · omega
  · split at h
    · omega
    · split at h
      · split at h <;> omega
      · omega
theorem sg_z : sg d (nz 0) = nz 0 := by
  unfold sg
  split <;> rfl
theorem g_cr (hw : WF T S) (hr : r < hN S) (hd : d < 6) {c' : Nat} (hc' : c' < wN S) : sm (wN S) (fun c => gv S r d c (34 + c')) = sg d (b01 (dB (CrS S r d c'))) := by
  have hW := hw.1
  have hs := stq_3 r d
  have hzero : (∀ c, c < wN S → gv S r d c (34 + c') = nz 0) → ¬ CrS S r d c' → sm (wN S) (fun c => gv S r d c (34 + c')) = sg d (b01 (dB (CrS S r d c'))) := fun h1 h2 => by
    rw [sm_zero h1, dB_f h2]
    exact sg_z.symm
  cases hwl : wlB (hN S) r d with
  | true =>
    refine hzero (fun c hc => ?_) (fun z => by have z1 := z.1; rw [hwl] at z1; cases z1)
    cases hp : prS S c r d with
    | false => exact gv_f hp
    | true => rw [gv_t hp, inS_w hwl, if_neg (by omega), if_neg (by omega)]
  | false =>
    rcases hs with q | q | q
    · -- to the west
      have hsg : ∀ y, sg d y = -y := fun y => by
        unfold sg
        rw [if_neg (stq_n hd q)]
      have hv : ∀ c, c < wN S → gv S r d c (34 + c') = if prS S c r d = true ∧ nbS S r d c = some c' ∧ z_ge (vS S c' (tgN r d)) = true then -nz 1 else nz 0 := fun c hc => by
        cases hp : prS S c r d with
        | false => rw [gv_f hp, if_neg (fun z => by cases z.1)]
        | true =>
          rw [gv_t hp]
          cases hn : nbS S r d c with
          | none => rw [inS_n hwl hn, if_neg (by omega), if_neg (by omega), if_neg (by omega), if_neg (fun z => by omega), if_neg (fun z => by cases z.2.1)]
          | some c2 =>
            rw [inS_s hwl hn]
            by_cases h : c2 = c'
            · subst h
              cases hz : z_ge (vS S c2 (tgN r d)) with
              | true => rw [if_pos rfl, if_neg (fun z => by omega), if_pos ⟨rfl, q⟩, if_pos ⟨rfl, rfl, rfl⟩]
              | false => rw [if_neg (by decide), if_neg (by omega), if_neg (by omega), if_neg (by omega), if_neg (fun z => by cases z.2.2)]
            · rw [if_neg (fun z : _ ∧ some c2 = some c' ∧ _ => h (Option.some.inj z.2.1))]
              split
              · rw [if_neg (fun z => by omega), if_neg (fun z => by omega)]
              · rw [if_neg (by omega), if_neg (by omega), if_neg (by omega)]
      by_cases hex : ∃ c0, c0 < wN S ∧ nbS S r d c0 = some c'
      · obtain ⟨c0, h1, h2⟩ := hex
        have huni : ∀ c, c < wN S → nbS S r d c = some c' → c = c0 := fun c hc h => by
          have g1 := (ncol_back (stq_3 r d) hW.1 hc hc').mpr h
          have g2 := (ncol_back (stq_3 r d) hW.1 h1 hc').mpr h2
          rw [g1] at g2
          exact Option.some.inj g2
        rw [sm_one h1 (fun c hc hne => by rw [hv c hc, if_neg (fun z => hne (huni c hc z.2.1))]), hv c0 h1, hsg]
        by_cases hC : prS S c0 r d = true ∧ nbS S r d c0 = some c' ∧ z_ge (vS S c' (tgN r d)) = true
        · rw [if_pos hC, dB_t.mpr ⟨hwl, Or.inr ⟨q, c0, h1, hC.1, h2, by unfold solS; rw [hC.2.2]; rfl⟩⟩]
          rfl
        · rw [if_neg hC, dB_f]
          · rfl
          · rintro ⟨-, ⟨g1, -⟩ | ⟨-, c1, g2, g3, g4, g5⟩⟩
            · omega
            · have := huni c1 g2 g4
              subst this
              refine hC ⟨g3, h2, ?_⟩
              unfold solS at g5
              cases hz : z_ge (vS S c' (tgN r d)) with
              | true => rfl
              | false =>
                rw [hz] at g5
                cases g5
      · refine hzero (fun c hc => ?_) (fun z => ?_)
        · rw [hv c hc, if_neg (fun z => hex ⟨c, hc, z.2.1⟩)]
        · obtain ⟨-, ⟨g1, -⟩ | ⟨-, c1, g2, g3, g4, g5⟩⟩ := z
          · omega
          · exact hex ⟨c1, g2, g4⟩
    · refine hzero (fun c hc => ?_) (fun z => by
        obtain ⟨-, ⟨g1, -⟩ | ⟨g1, -⟩⟩ := z <;> omega)
      cases hp : prS S c r d with
      | false => exact gv_f hp
      | true =>
        rw [gv_t hp]
        cases hn : nbS S r d c with
        | none => rw [inS_n hwl hn, if_neg (by omega), if_neg (by omega), if_neg (by omega), if_neg (fun z => by omega)]
        | some c2 =>
          rw [inS_s hwl hn]
          split
          · rw [if_neg (fun z => by omega), if_neg (fun z => by omega)]
          · rw [if_neg (by omega), if_neg (by omega), if_neg (by omega)]
    · -- to the east
      have hsg : ∀ y, sg d y = y := fun y => by
        unfold sg
        rw [if_pos (stq_p q)]
      rw [sm_one hc' (fun c hc hne => by
        cases hp : prS S c r d with
        | false => exact gv_f hp
        | true =>
          rw [gv_t hp]
          cases hn : nbS S r d c with
          | none =>
            have hno := (ncol_no (stq_3 r d) hc hn).2
            rw [inS_n hwl hn, if_neg (by omega), if_neg (by omega), if_neg (by omega), if_neg (fun z => by omega)]
          | some c2 =>
            rw [inS_s hwl hn]
            split
            · rw [if_neg (fun z => by omega), if_neg (fun z => by omega)]
            · rw [if_neg (by omega), if_neg (by omega), if_neg (by omega)]), hsg]
      cases hp : prS S c' r d with
      | false =>
        rw [gv_f hp, dB_f]
        · rfl
        · rintro ⟨-, ⟨-, g1, -⟩ | ⟨g1, -⟩⟩
          · rw [hp] at g1; cases g1
          · omega
      | true =>
        rw [gv_t hp]
        cases hn : nbS S r d c' with
        | none =>
          have hno := (ncol_no (stq_3 r d) hc' hn).2
          rw [inS_n hwl hn, if_neg (by omega), if_neg (by omega), if_neg (by omega), if_pos ⟨by omega, q⟩, dB_t.mpr ⟨hwl, Or.inl ⟨q, hp, fun c2 z => by rw [hn] at z; cases z⟩⟩]
          rfl
        | some c2 =>
          rw [inS_s hwl hn]
          cases hz : z_ge (vS S c2 (tgN r d)) with
          | true =>
            rw [if_pos rfl, if_pos ⟨rfl, q⟩, dB_t.mpr ⟨hwl, Or.inl ⟨q, hp, fun c3 z => by
              rw [hn] at z
              cases z
              unfold solS
              rw [hz]
              rfl⟩⟩]
            rfl
          | false =>
            rw [if_neg (by decide), if_neg (by omega), if_neg (by omega), if_neg (by omega), dB_f]
            · rfl
            · rintro ⟨-, ⟨-, -, g1⟩ | ⟨g1, -⟩⟩
              · have := g1 c2 hn
                unfold solS at this
                rw [hz] at this
                cases this
              · omega
theorem g_0 (hc : c < wN S) (hW : wN S ≤ 32) (h : k = 12 ∨ k = 13 ∨ k = 17 ∨ k = 18 ∨ (34 + wN S ≤ k ∧ k < 66)) : gv S r d c k = nz 0 := by
  cases hp : prS S c r d with
  | false => exact gv_f hp
  | true =>
    rw [gv_t hp]
    cases hwl : wlB (hN S) r d with
    | true => rw [inS_w hwl, if_neg (by omega), if_neg (by omega)]
    | false =>
      cases hn : nbS S r d c with
      | none => rw [inS_n hwl hn, if_neg (by omega), if_neg (by omega), if_neg (by omega), if_neg (fun z => by omega)]
      | some c2 =>
        have hc2 : c2 < wN S := ncol_lt (by omega) hc hn
        rw [inS_s hwl hn]
        split
        · rw [if_neg (fun z => by omega), if_neg (fun z => by omega)]
        · rw [if_neg (by omega), if_neg (by omega), if_neg (by omega)]
theorem tot_left : tot S 11 = lkS S := by
  rw [tot_v]
  exact sm_congr fun r _ => sm_congr fun d _ => sm_congr fun c _ => g_lv
theorem tot_lm {x : Nat} (hx : x < 2) : tot S (12 + 5 * x + 4) = lmS S x := by
  rw [tot_v]
  refine sm_congr fun r _ => sm_congr fun d _ => ?_
  rw [← sm_mul]
  exact sm_congr fun c _ => g_lm hx
theorem tot_wa {x : Nat} (hx : x < 2) : tot S (12 + 5 * x + 3) = wkS S x := by
  rw [tot_v]
  refine sm_congr fun r _ => sm_congr fun d _ => ?_
  rw [← sm_mul]
  exact sm_congr fun c _ => g_wa hx
theorem tot_bo {i : Nat} (hi : i < 12) : tot S (22 + i) = tkS S i := by
  rw [tot_v]
  refine sm_congr fun r _ => sm_congr fun d _ => ?_
  rw [← sm_mul]
  exact sm_congr fun c _ => g_bo hi
theorem tot_b2 (hw : WF T S) {x : Nat} (hx : x < 2) : tot S (12 + 5 * x + 2) = sm 6 (fun j => tkS S (j * 2 + x)) := by
  rw [tot_v]
  have h1 : ∀ j, tkS S (j * 2 + x) = sm (hN S) (fun r => sm 6 (fun d => sm (wN S) (fun c => nz 2 * mo x d * b01 (boS S j r d c)))) := fun j => by
    unfold tkS
    rw [show (j * 2 + x) % 2 = x by omega, show (j * 2 + x) / 2 = j by omega]
    exact sm_congr fun r _ => sm_congr fun d _ => sm_mul.symm
  have h2 : sm 6 (fun j => tkS S (j * 2 + x)) = sm 6 (fun j => sm (hN S) (fun r => sm 6 (fun d => sm (wN S) (fun c => nz 2 * mo x d * b01 (boS S j r d c))))) := sm_congr fun j _ => h1 j
  rw [h2]
  refine Eq.trans ?_ sm_swap
  refine sm_congr fun r hr => ?_
  refine Eq.trans ?_ sm_swap
  refine sm_congr fun d hd => ?_
  refine Eq.trans ?_ sm_swap
  exact sm_congr fun c hc => g_b2 hw hr hd hc hx
theorem tot_cr (hw : WF T S) {c' : Nat} (hc' : c' < wN S) : tot S (34 + c') = crS S c' := by
  rw [tot_v]
  exact sm_congr fun r hr => sm_congr fun d hd => g_cr hw hr hd hc'
theorem tot_0 (hw : WF T S) (h : k < 11 ∨ 66 ≤ k ∨ k = 12 ∨ k = 13 ∨ k = 17 ∨ k = 18 ∨ (34 + wN S ≤ k ∧ k < 66)) : tot S k = nz 0 := by
  by_cases h1 : k < 11 ∨ 66 ≤ k
  · unfold tot
    exact sm_zero fun q _ => gS_lo hw.1.2.1 hw.1.1 h1
  · rw [tot_v]
    exact sm_zero fun r _ => sm_zero fun d _ => sm_zero fun c hc => g_0 hc hw.1.2.1 (by omega)
/-- the cells, once all have moved -/
theorem tgS_w (h : wlB (hN S) r d = true) : tgS S r d c = some (tuS S d, 32 * r + c) := by
  unfold tgS
  rw [h, if_pos rfl]
theorem tgS_n (h : wlB (hN S) r d = false) (hn : nbS S r d c = none) : tgS S r d c = none := by
  unfold tgS
  rw [h, if_neg (by decide), hn]
theorem tgS_s {c2 : Nat} (h : wlB (hN S) r d = false) (hn : nbS S r d c = some c2) : tgS S r d c = if z_ge (vS S c2 (tgN r d)) then some (d, 32 * tgN r d + c2) else some (opN d, 32 * r + c) := by
  unfold tgS
  rw [h, if_neg (by decide), hn]
theorem tq_in (hw : WF T S) {r0 d0 c0 : Nat} (hr : r0 < hN S) (hd : d0 < 6) (hc : c0 < wN S) (hp : prS S c0 r0 d0 = true) : ∃ q, q < hN S * wN S * 6 ∧ tqS S q = tgS S r0 d0 c0 := by
  obtain ⟨d1, d2, d3⟩ := dec_q (r := r0) hc hd
  have h1 : (r0 + 1) * wN S ≤ hN S * wN S := Nat.mul_le_mul_right _ hr
  rw [Nat.succ_mul] at h1
  refine ⟨(r0 * wN S + c0) * 6 + d0, by omega, ?_⟩
  unfold tqS
  rw [d1, d2, d3, hp, if_pos rfl]
theorem nx_bits (hw : WF T S) {N : Int32} (hc : c < wN S) (hr : r < hN S) (hN' : ∀ j, j < 32 → (bt N j = true ↔ ∃ q, q < hN S * wN S * 6 ∧ tqS S q = some (j, 32 * r + c))) : N = nz (paN (fun d => dB (EvN S r d c)) 6) := by
  have hW := hw.1
  have hH := hw.2.1.2.1
  apply bt_ext
  intro j hj
  rw [bt_nz _ hj, paN_bit, Bool.eq_iff_iff, hN' j hj]
  simp only [Bool.and_eq_true, decide_eq_true_eq, dB_t]
  constructor
  · rintro ⟨q, hq, ht⟩
    have hq2 : q / 6 < hN S * wN S := by omega
    have hr2 : q / 6 / wN S < hN S := (Nat.div_lt_iff_lt_mul (by omega)).mpr hq2
    have hc2 : q / 6 % wN S < wN S := Nat.mod_lt _ (by omega)
    have hd2 : q % 6 < 6 := Nat.mod_lt _ (by decide)
    unfold tqS at ht
    generalize q / 6 / wN S = r0 at *
    generalize q / 6 % wN S = c0 at *
    generalize q % 6 = d0 at *
    cases hp : prS S c0 r0 d0 with
    | false => rw [hp, if_neg (by decide)] at ht; cases ht
    | true =>
      rw [hp, if_pos rfl] at ht
      cases hwl : wlB (hN S) r0 d0 with
      | true =>
        rw [tgS_w hwl] at ht
        have h1 := congrArg Prod.fst (Option.some.inj ht)
        have h2 := congrArg Prod.snd (Option.some.inj ht)
        dsimp only at h1 h2
        obtain rfl : c0 = c := by omega
        obtain rfl : r0 = r := by omega
        have := tuS_lt (S := S) d0
        exact ⟨by omega, r0, hr2, d0, hd2, Or.inl ⟨hwl, rfl, h1.symm, hp⟩⟩
      | false =>
        cases hn : nbS S r0 d0 c0 with
        | none => rw [tgS_n hwl hn] at ht; cases ht
        | some c2 =>
          have hc3 : c2 < wN S := ncol_lt (by omega) hc2 hn
          rw [tgS_s hwl hn] at ht
          cases hz : z_ge (vS S c2 (tgN r0 d0)) with
          | true =>
            rw [hz, if_pos rfl] at ht
            have h1 := congrArg Prod.fst (Option.some.inj ht)
            have h2 := congrArg Prod.snd (Option.some.inj ht)
            dsimp only at h1 h2
            have hr3 : tgN r0 d0 = r := by omega
            obtain rfl : c2 = c := by omega
            refine ⟨by omega, r0, hr2, d0, hd2, Or.inr ⟨hwl, Or.inr ⟨hr3.symm, h1.symm, c0, hc2, hp, hn, ?_⟩⟩⟩
            unfold solS
            rw [hz]
            rfl
          | false =>
            rw [hz, if_neg (by decide)] at ht
            have h1 := congrArg Prod.fst (Option.some.inj ht)
            have h2 := congrArg Prod.snd (Option.some.inj ht)
            dsimp only at h1 h2
            obtain rfl : c0 = c := by omega
            obtain rfl : r0 = r := by omega
            have := opN_lt d0
            refine ⟨by omega, r0, hr2, d0, hd2, Or.inr ⟨hwl, Or.inl ⟨rfl, h1.symm, hp, c2, hn, ?_⟩⟩⟩
            unfold solS
            rw [hz]
            rfl
  · rintro ⟨hj6, r0, hr0, d0, hd0, h⟩
    rcases h with ⟨h1, h2, h3, h4⟩ | ⟨h1, ⟨h2, h3, h4, c2, h5, h6⟩ | ⟨h2, h3, c0, h4, h5, h6, h7⟩⟩
    · obtain ⟨q, q1, q2⟩ := tq_in hw hr0 hd0 hc h4
      exact ⟨q, q1, by rw [q2, tgS_w h1, h2, h3]⟩
    · obtain ⟨q, q1, q2⟩ := tq_in hw hr0 hd0 hc h4
      refine ⟨q, q1, ?_⟩
      unfold solS at h6
      cases hz : z_ge (vS S c2 (tgN r0 d0)) with
      | true => rw [hz] at h6; cases h6
      | false => rw [q2, tgS_s h1 h5, hz, if_neg (by decide), h2, h3]
    · obtain ⟨q, q1, q2⟩ := tq_in hw hr0 hd0 h4 h5
      refine ⟨q, q1, ?_⟩
      rw [h2]
      unfold solS at h7
      cases hz : z_ge (vS S c (tgN r0 d0)) with
      | true => rw [q2, tgS_s h1 h6, hz, if_pos rfl, h3]
      | false => rw [hz] at h7; cases h7
end
