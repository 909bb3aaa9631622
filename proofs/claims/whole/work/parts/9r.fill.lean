/-! FILL -/
def mrF (st v : Int32) : Int32 := if z_lt v = true then nz 0 else o_iand st (o_ixor v (-nz 1))
def gF (st v : Int32) : Int32 := if z_lt v = true then v else o_ior v (o_iand st (o_ixor v (-nz 1)))
def flC (S : St) (st : Int32) (c0 nc r0 : Nat) (x : Nat) (i j : Nat) : Int32 := sm i (fun i => sm nc (fun j => pu x (mrF st (vS S (c0 + j) (r0 + i))))) + sm j (fun j => pu x (mrF st (vS S (c0 + j) (r0 + i))))
def fnC (S : St) (st : Int32) (c0 nc r0 : Nat) (i j : Nat) : Int32 := sm i (fun i => sm nc (fun j => on1 (mrF st (vS S (c0 + j) (r0 + i))))) + sm j (fun j => on1 (mrF st (vS S (c0 + j) (r0 + i))))
def flS (S : St) (st : Int32) (c0 l r0 i j : Nat) : St := fun a => if a = 12 then S 12 + flC S st c0 (l + 1 - c0) r0 0 i j else if a = 17 then S 17 + flC S st c0 (l + 1 - c0) r0 1 i j else if (882 ≤ a ∧ a < 1394) ∧ blkB c0 l r0 i j ((a - 882) % 32) ((a - 882) / 32) = true then gF st (S a) else S a
def flT (S : St) (st : Int32) (c0 l r0 i : Nat) : St := su (flS S st c0 l r0 i 0) 8 (S 8 + fnC S st c0 (l + 1 - c0) r0 i 0)
section
variable {S S' : St} {T b c n k c0 l r0 i j r nc x t : Nat} {st : Int32} {e : Nat → Nat × (Nat → Int32)} {m m' m0 m1 : Mm} {w : Ml}
theorem flC_0 : flC S st c0 nc r0 x 0 0 = nz 0 := nz0_add _
theorem fnC_0 : fnC S st c0 nc r0 0 0 = nz 0 := nz0_add _
theorem flC_row : flC S st c0 nc r0 x i nc = flC S st c0 nc r0 x (i + 1) 0 := by
  unfold flC
  rw [sm_succ (n := i), sm_0, add_z]
theorem fnC_row : fnC S st c0 nc r0 i nc = fnC S st c0 nc r0 (i + 1) 0 := by
  unfold fnC
  rw [sm_succ (n := i), sm_0, add_z]
theorem flC_cell : flC S st c0 nc r0 x i (j + 1) = flC S st c0 nc r0 x i j + pu x (mrF st (vS S (c0 + j) (r0 + i))) := by
  unfold flC
  rw [sm_succ (n := j), Int32.add_assoc]
theorem fnC_cell : fnC S st c0 nc r0 i (j + 1) = fnC S st c0 nc r0 i j + on1 (mrF st (vS S (c0 + j) (r0 + i))) := by
  unfold fnC
  rw [sm_succ (n := j), Int32.add_assoc]
theorem fl_v (hc : c < 32) (hr : r < 16) : vS (flS S st c0 l r0 i j) c r = if blkB c0 l r0 i j c r = true then gF st (vS S c r) else vS S c r := by
  unfold vS flS
  rw [if_neg (by omega), if_neg (by omega), show (882 + (32 * r + c) - 882) % 32 = c by omega, show (882 + (32 * r + c) - 882) / 32 = r by omega]
  by_cases q : blkB c0 l r0 i j c r = true
  · rw [if_pos q, if_pos ⟨by omega, q⟩]
  · rw [if_neg q, if_neg (fun z => q z.2)]
theorem fl_ne {a : Nat} (h : ¬ (882 ≤ a ∧ a < 1394)) (h1 : a ≠ 12) (h2 : a ≠ 17) : flS S st c0 l r0 i j a = S a := by
  unfold flS
  rw [if_neg h1, if_neg h2, if_neg (fun z => h z.1)]
theorem fl_row (hl : l < 32) (hc : c0 ≤ l) : flS S st c0 l r0 i (l + 1 - c0) = flS S st c0 l r0 (i + 1) 0 := by
  funext a
  unfold flS
  have : blkB c0 l r0 i (l + 1 - c0) ((a - 882) % 32) ((a - 882) / 32) = blkB c0 l r0 (i + 1) 0 ((a - 882) % 32) ((a - 882) / 32) := by
    rw [Bool.eq_iff_iff, blkB_iff, blkB_iff]
    constructor
    · rintro ⟨h1, h2⟩
      exact ⟨h1, by omega⟩
    · rintro ⟨h1, h2⟩
      exact ⟨h1, by omega⟩
  rw [this, flC_row, flC_row]
theorem fl_0 : flS S st c0 l r0 0 0 = S := by
  funext a
  unfold flS
  rw [flC_0, flC_0, add_z, add_z]
  by_cases h1 : a = 12
  · rw [if_pos h1, h1]
  · rw [if_neg h1]
    by_cases h2 : a = 17
    · rw [if_pos h2, h2]
    · rw [if_neg h2, if_neg (fun z => by
        have := blkB_iff.mp z.2
        omega)]
theorem fl_cell (hc : c0 + j ≤ l) (hl : l < 32) (hr : r0 + i < 16) : flS S st c0 l r0 i (j + 1) = su (bkS (flS S st c0 l r0 i j) 0 (nz 1 * pu 0 (mrF st (vS S (c0 + j) (r0 + i)))) (nz 1 * pu 1 (mrF st (vS S (c0 + j) (r0 + i))))) (882 + (32 * (r0 + i) + (c0 + j))) (gF st (vS S (c0 + j) (r0 + i))) := by
  have key : ∀ a, 882 ≤ a → a < 1394 → a ≠ 882 + (32 * (r0 + i) + (c0 + j)) → blkB c0 l r0 i (j + 1) ((a - 882) % 32) ((a - 882) / 32) = blkB c0 l r0 i j ((a - 882) % 32) ((a - 882) / 32) := fun a h1 h2 h3 => by
    rw [Bool.eq_iff_iff, blkB_iff, blkB_iff]
    constructor
    · rintro ⟨g1, g2⟩
      exact ⟨g1, by omega⟩
    · rintro ⟨g1, g2⟩
      exact ⟨g1, by omega⟩
  have one : ∀ y : Int32, nz 1 * y = y := fun y => Int32.one_mul y
  have a12 : ∀ j, flS S st c0 l r0 i j 12 = S 12 + flC S st c0 (l + 1 - c0) r0 0 i j := fun j => if_pos rfl
  have a17 : ∀ j, flS S st c0 l r0 i j 17 = S 17 + flC S st c0 (l + 1 - c0) r0 1 i j := fun j => by
    unfold flS
    rw [if_neg (by decide), if_pos rfl]
  rw [one, one]
  funext a
  unfold su
  by_cases ha : a = 882 + (32 * (r0 + i) + (c0 + j))
  · rw [if_pos ha]
    unfold flS
    rw [ha, if_neg (by omega), if_neg (by omega), if_pos ⟨by omega, by rw [show (882 + (32 * (r0 + i) + (c0 + j)) - 882) % 32 = c0 + j by omega, show (882 + (32 * (r0 + i) + (c0 + j)) - 882) / 32 = r0 + i by omega, blkB_iff]; omega⟩]
    rfl
  · rw [if_neg ha, bkS_v]
    by_cases h1 : a = 12
    · subst h1
      rw [if_pos rfl, a12, a12, flC_cell, Int32.add_assoc]
    · rw [if_neg (by omega)]
      by_cases h2 : a = 17
      · subst h2
        rw [if_pos rfl, a17, a17, flC_cell, Int32.add_assoc]
      · rw [if_neg (by omega), add_z]
        by_cases hb : 882 ≤ a ∧ a < 1394
        · unfold flS
          rw [if_neg h1, if_neg h2, if_neg h1, if_neg h2, key a hb.1 hb.2 ha]
        · rw [fl_ne hb h1 h2, fl_ne hb h1 h2]
theorem flT_v (hc : c < 32) (hr : r < 16) : vS (flT S st c0 l r0 i) c r = if blkB c0 l r0 i 0 c r = true then gF st (vS S c r) else vS S c r := by
  have : vS (flT S st c0 l r0 i) c r = vS (flS S st c0 l r0 i 0) c r := by
    unfold vS flT
    exact su_ne (by omega)
  rw [this, fl_v hc hr]
theorem flT_ne {a : Nat} (h : ¬ (882 ≤ a ∧ a < 1394)) (h0 : a ≠ 8) (h1 : a ≠ 12) (h2 : a ≠ 17) : flT S st c0 l r0 i a = S a := by
  unfold flT
  rw [su_ne h0, fl_ne h h1 h2]
theorem or_not : ∀ n, n < 64 → ∀ t, t < 64 → o_ior (nz n) (o_iand (nz t) (o_ixor (nz n) (-nz 1))) = nz (n ||| t) ∧ n ||| t < 64 := by decide +kernel
theorem gF_ok {v : Int32} (hv : okV v) (ht : t < 64) : okV (gF (nz t) v) := by
  unfold gF
  rcases hv with ⟨n, hn, rfl⟩ | ⟨k, hk, rfl⟩
  · have : z_lt (nz n) = false := by rw [zlt_nz (by omega)]
    rw [this, if_neg (by decide), (or_not n hn t ht).1]
    exact Or.inl ⟨_, (or_not n hn t ht).2, rfl⟩
  · have hf : ∀ k, k < 6 → z_lt (-1 - nz k) = true := by decide
    rw [hf k hk, if_pos rfl]
    exact Or.inr ⟨k, hk, rfl⟩
theorem gF_pq {v : Int32} (hv : okV v) (ht : t < 64) {d : Nat} (hd : d < 6) : pq (gF (nz t) v) d = (pq v d || (z_ge v && t.testBit d)) := by
  unfold gF
  rcases hv with ⟨n, hn, rfl⟩ | ⟨k, hk, rfl⟩
  · have : z_lt (nz n) = false := by rw [zlt_nz (by omega)]
    rw [this, if_neg (by decide), (or_not n hn t ht).1, pq_nz (or_not n hn t ht).2 hd, pq_nz hn hd, zge_nz (by omega), Bool.true_and, Nat.testBit_or]
  · have hf : ∀ k, k < 6 → z_lt (-1 - nz k) = true ∧ z_ge (-1 - nz k) = false := by decide
    rw [(hf k hk).1, if_pos rfl, pq_neg hk, (hf k hk).2]
    rfl
theorem gF_bq {v : Int32} (hv : okV v) (ht : t < 64) {k' : Nat} (hk' : k' < 6) : bq (gF (nz t) v) k' = bq v k' := by
  unfold gF
  rcases hv with ⟨n, hn, rfl⟩ | ⟨k, hk, rfl⟩
  · have : z_lt (nz n) = false := by rw [zlt_nz (by omega)]
    have hf : ∀ n, n < 64 → ∀ k, k < 6 → bq (nz n) k = false := by decide +kernel
    rw [this, if_neg (by decide), (or_not n hn t ht).1, hf _ (or_not n hn t ht).2 k' hk', hf n hn k' hk']
  · have hf : ∀ k, k < 6 → z_lt (-1 - nz k) = true := by decide
    rw [hf k hk, if_pos rfl]
theorem mr_bt {v : Int32} (hv : okV v) (ht : t < 64) {d : Nat} (hd : d < 6) : bt (mrF (nz t) v) d = (t.testBit d && (z_ge v && !pq v d)) := by
  unfold mrF
  rcases hv with ⟨n, hn, rfl⟩ | ⟨k, hk, rfl⟩
  · have h1 : z_lt (nz n) = false := by rw [zlt_nz (by omega)]
    have m1 : (-nz 1 : Int32) = -1 := rfl
    have hb : ∀ n, n < 64 → ∀ d, d < 6 → bt (nz n) d = n.testBit d := by decide +kernel
    rw [h1, if_neg (by decide), m1, bt_and, bt_not _ (by omega), pq_nz hn hd, zge_nz (by omega), Bool.true_and, hb t ht d hd, hb n hn d hd]
  · have hf : ∀ k, k < 6 → z_lt (-1 - nz k) = true ∧ z_ge (-1 - nz k) = false := by decide
    have h0 : bt (nz 0) d = false := bt_0 d
    rw [(hf k hk).1, if_pos rfl, (hf k hk).2, h0, Bool.false_and, Bool.and_false]
theorem flT_wf (hw : WF T S) (ht : t < 64) (hl : l < wN S) (hr : r0 + i ≤ hN S) : WF T (flT S (nz t) c0 l r0 i) := by
  refine WF.gen hw (fun j hj => flT_ne (by omega) (by omega) (by omega) (by omega)) (hw.fit fun k hk => flT_ne (by omega) (by omega) (by omega) (by omega)) (fun r hr2 c hc => ?_) (hw.gus fun j hj => flT_ne (by omega) (by omega) (by omega) (by omega)) (hw.boo fun k hk => flT_ne (by omega) (by omega) (by omega) (by omega))
  rw [flT_v hc hr2]
  have hv := hw.2.2.2.2.2.2.1 r hr2 c hc
  by_cases q : blkB c0 l r0 i 0 c r = true
  · rw [if_pos q]
    have := blkB_iff.mp q
    exact ⟨gF_ok hv.1 ht, fun z => absurd (show c < wN S ∧ r < hN S by omega) z⟩
  · rw [if_neg q]
    exact hv
end
