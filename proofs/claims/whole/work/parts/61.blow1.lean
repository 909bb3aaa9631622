/-! ONE ROW OF A GUST -/
/-- what a cell becomes in a gust of the kind k -/
def bwT (k : Nat) (v : Int32) : Int32 := if z_ge v then (if k = 0 then o_ior v (nz 1) else if k = 1 then (if o_iand v (nz 9) = nz 8 then v - nz 7 else v) else nz 0) else v
def blow1 (S : St) (g k c r : Nat) : St := if bwT k (vS S c r) = vS S c r then S else
  su (bkS (bkS (su (su (su S (66 + 8 * g + 7) (S (66 + 8 * g + 7) + (if k = 2 then on1 (vS S c r) else nz 1))) 9 (S 9 + (if k = 0 then nz 1 else nz 0))) 10 (S 10 + (if k = 2 then on1 (vS S c r) else nz 0))) 1 (nz 1 * pu 0 (bwT k (vS S c r))) (nz 1 * pu 1 (bwT k (vS S c r)))) 1 (-nz 1 * pu 0 (vS S c r)) (-nz 1 * pu 1 (vS S c r))) (882 + (32 * r + c)) (bwT k (vS S c r))
section
variable {S S' : St} {V V' : Nat → Nat → Int32} {b r : Nat} {e : Nat → Nat × (Nat → Int32)} {m : Mm} {w : Ml}
def bwn (k : Nat) (v : Int32) : Int32 := if bwT k v = v then nz 0 else if k = 2 then on1 v else nz 1
def bwp (k x : Nat) (v : Int32) : Int32 := if bwT k v = v then nz 0 else nz 1 * pu x (bwT k v) + -nz 1 * pu x v
theorem blow1_f {g k c : Nat} (hg : g < 6) (hc : c < 32) (hr : r < 16) : (∀ j, j ≠ 66 + 8 * g + 7 → j ≠ 9 → j ≠ 10 → j ≠ 13 → j ≠ 18 → j ≠ 882 + (32 * r + c) → blow1 S g k c r j = S j) ∧ blow1 S g k c r (882 + (32 * r + c)) = bwT k (vS S c r) ∧ blow1 S g k c r (66 + 8 * g + 7) = S (66 + 8 * g + 7) + bwn k (vS S c r) ∧
    blow1 S g k c r 9 = S 9 + (if k = 0 then bwn k (vS S c r) else nz 0) ∧ blow1 S g k c r 10 = S 10 + (if k = 2 then bwn k (vS S c r) else nz 0) ∧ blow1 S g k c r 13 = S 13 + bwp k 0 (vS S c r) ∧ blow1 S g k c r 18 = S 18 + bwp k 1 (vS S c r) := by
  unfold blow1 bwn bwp
  by_cases h : bwT k (vS S c r) = vS S c r
  · simp only [if_pos h, ite_self, add_nz0, implies_true, true_and, and_true]
    exact h.symm
  · simp only [if_neg h]
    refine ⟨fun j h1 h2 h3 h4 h5 h6 => ?_, ?_, ?_, ?_, ?_, ?_, ?_⟩
    · simp (disch := omega) only [su_ne, bkS]
    · simp (disch := omega) only [su_at]
    · simp (disch := omega) only [su_ne, su_at, bkS]
    · simp (disch := omega) only [su_ne, su_at, bkS]
      by_cases hk : k = 0
      · simp [hk]
      · simp [hk]
    · simp (disch := omega) only [su_ne, su_at, bkS]
      by_cases hk : k = 2
      · simp [hk]
      · simp [hk]
    · simp (disch := omega) only [su_ne, su_at, bkS, Int32.add_assoc]
    · simp (disch := omega) only [su_ne, su_at, bkS, Int32.add_assoc]
theorem vS_blow1 {g k c c' r' : Nat} (hg : g < 6) (hc : c < 32) (hr : r < 16) (hc' : c' < 32) (hr' : r' < 16) : vS (blow1 S g k c r) c' r' = if c' = c ∧ r' = r then bwT k (vS S c r) else vS S c' r' := by
  obtain ⟨f1, f2, -⟩ := blow1_f (S := S) (k := k) hg hc hr
  by_cases h : c' = c ∧ r' = r
  · rw [if_pos h, h.1, h.2]
    exact f2
  · rw [if_neg h]
    exact f1 _ (by omega) (by omega) (by omega) (by omega) (by omega) (by omega)
/-- cells, numbers of gusts and accounts change; the rest stays -/
theorem TRv.upd (h : TRv V S) (hV : ∀ k, k ≠ 2 → k ≠ 5 → k ≠ 9 → k ≠ 10 → V' k = V k) (hS : ∀ j, (j < 8 ∨ (22 ≤ j ∧ j < 66) ∨ (114 ≤ j ∧ j < 882) ∨ 1394 ≤ j) → S' j = S j) (hw : wN S ≤ 32) (hr : rN S ≤ 64)
    (h2 : ∀ r, r < 16 → ∀ d, d < 6 → ∀ c, c < 32 → bt (V' 2 (r * 6 + d)) c = pq (vS S' c r) d) (h3 : ∀ r, r < 16 → ∀ k, k < 6 → ∀ c, c < 32 → bq (vS S' c r) k = bq (vS S c r) k)
    (h4 : ∀ k, k < 8 * gN S → V' 5 k = S' (66 + k)) (h6 : ∀ k, k < 4 → V' 9 k = S' (8 + k)) (h7 : ∀ k, k < 5 → ∀ x, x < 2 → V' 10 (k * 2 + x) = S' (12 + 5 * x + k)) : TRv V' S' := by
  obtain ⟨t1, t2, t3, t4, t5, t6, t7, t8, t9, t10, t11, t12⟩ := h
  obtain ⟨L, l1, l2, l3⟩ := t5.2
  have ew : wN S' = wN S := by unfold wN; rw [hS 0 (by omega)]
  have eh : hN S' = hN S := by unfold hN; rw [hS 1 (by omega)]
  have eg : gN S' = gN S := by unfold gN; rw [hS 6 (by omega)]
  have er : rN S' = rN S := by unfold rN; rw [hS 7 (by omega)]
  unfold TRv
  rw [ew, eh, eg, er, hV 1 (by decide) (by decide) (by decide) (by decide), hV 3 (by decide) (by decide) (by decide) (by decide), hV 4 (by decide) (by decide) (by decide) (by decide), hV 6 (by decide) (by decide) (by decide) (by decide), hV 7 (by decide) (by decide) (by decide) (by decide), hV 11 (by decide) (by decide) (by decide) (by decide), hV 12 (by decide) (by decide) (by decide) (by decide), hV 0 (by decide) (by decide) (by decide) (by decide), hV 13 (by decide) (by decide) (by decide) (by decide), hV 14 (by decide) (by decide) (by decide) (by decide)]
  refine ⟨⟨t1.1.trans (hS _ (by omega)).symm, t1.2.1.trans (hS _ (by omega)).symm, t1.2.2⟩, h2, fun r hr k hk c hc => by rw [h3 r hr k hk c hc]; exact t3 r hr k hk c hc, ⟨t4.1.trans (hS _ (by omega)).symm, h4⟩, ⟨t5.1.trans (hS _ (by omega)).symm, L, l1, l2, fun i hi j hj => (l3 i hi j hj).trans (hS _ (by omega)).symm⟩, h6, h7, fun k hk => (t8 k hk).trans (hS _ (by omega)).symm, fun k hk => (t9 k hk).trans (hS _ (by omega)).symm, ⟨t10.1.trans (hS _ (by omega)).symm, t10.2.trans (hS _ (by omega)).symm⟩, fun k hk => (t11 k hk).trans (hS _ (by omega)).symm, fun c hc => (t12 c hc).trans (hS _ (by omega)).symm⟩
theorem pq_nz {n d : Nat} (hn : n < 64) (hd : d < 6) : pq (nz n) d = n.testBit d := by
  unfold pq
  rw [decide_eq_true (nz_nn (by omega)), Bool.true_and, bt_nz _ (by omega)]
theorem neg_v {k : Nat} (hk : k < 6) : ¬ (0 : Int32) ≤ -1 - nz k := by
  have : ∀ k, k < 6 → ¬ (0 : Int32) ≤ -1 - nz k := by decide
  exact this k hk
theorem pq_neg {k d : Nat} (hk : k < 6) : pq (-1 - nz k) d = false := by
  unfold pq
  rw [decide_eq_false (neg_v hk), Bool.false_and]
/-- what the kinds of gusts do with a cell, case by case -/
theorem bw0 {v : Int32} (hv : okV v) : okV (bwT 0 v) ∧ (∀ k, bq (bwT 0 v) k = bq v k ∨ 6 ≤ k) ∧ (∀ d, d < 6 → pq (bwT 0 v) d = (pq v d || (decide (d = 0) && (z_ge v && !pq v 0)))) ∧ bwn 0 v = b01 (z_ge v && !pq v 0) ∧ ∀ x, x < 2 → bwp 0 x v = mo x 0 * b01 (z_ge v && !pq v 0) := by
  rcases hv with ⟨n, hn, rfl⟩ | ⟨k, hk, rfl⟩
  · have h1 : ∀ n, n < 64 → bwT 0 (nz n) = nz (n ||| 1) ∧ n ||| 1 < 64 ∧ (∀ d, d < 6 → (n ||| 1).testBit d = (n.testBit d || (decide (d = 0) && !n.testBit 0))) := by decide +kernel
    have h2 : ∀ n, n < 64 → bwn 0 (nz n) = b01 (!n.testBit 0) := by decide +kernel
    have h3 : ∀ n, n < 64 → ∀ x, x < 2 → bwp 0 x (nz n) = mo x 0 * b01 (!n.testBit 0) := by decide +kernel
    have h4 : ∀ n, n < 64 → ∀ k, k < 6 → bq (nz n) k = false := by decide +kernel
    obtain ⟨q1, q2, q3⟩ := h1 n hn
    have z : z_ge (nz n) = true := zge_nz (by omega)
    refine ⟨Or.inl ⟨_, q2, q1⟩, fun k => ?_, fun d hd => ?_, ?_, fun x hx => ?_⟩
    · by_cases hk : k < 6
      · left
        rw [q1, h4 _ q2 k hk, h4 _ hn k hk]
      · right; omega
    · rw [q1, pq_nz q2 hd, pq_nz hn hd, pq_nz hn (by decide), z, q3 d hd, Bool.true_and]
    · rw [h2 n hn, z, pq_nz hn (by decide), Bool.true_and]
    · rw [h3 n hn x hx, z, pq_nz hn (by decide), Bool.true_and]
  · have h1 : ∀ k, k < 6 → bwT 0 (-1 - nz k) = -1 - nz k ∧ z_ge (-1 - nz k) = false := by decide +kernel
    obtain ⟨q1, q2⟩ := h1 k hk
    have q3 : bwn 0 (-1 - nz k) = nz 0 := by unfold bwn; rw [if_pos q1]
    refine ⟨Or.inr ⟨k, hk, q1⟩, fun _ => Or.inl (by rw [q1]), fun d hd => ?_, ?_, fun x hx => ?_⟩
    · rw [q1, q2]; simp
    · rw [q3, q2]; rfl
    · unfold bwp
      rw [if_pos q1, q2]
      exact Int32.mul_zero.symm
theorem bw1 {v : Int32} (hv : okV v) : okV (bwT 1 v) ∧ (∀ k, bq (bwT 1 v) k = bq v k ∨ 6 ≤ k) ∧ (∀ d, d < 6 → pq (bwT 1 v) d = if pq v 3 && !pq v 0 then (if d = 0 then true else if d = 3 then false else pq v d) else pq v d) ∧ bwn 1 v = b01 (pq v 3 && !pq v 0) ∧ ∀ x, x < 2 → bwp 1 x v = (mo x 3 * -nz 1 + mo x 0 * nz 1) * b01 (pq v 3 && !pq v 0) := by
  rcases hv with ⟨n, hn, rfl⟩ | ⟨k, hk, rfl⟩
  · have h1 : ∀ n, n < 64 → bwT 1 (nz n) = nz (if n.testBit 3 && !n.testBit 0 then n - 7 else n) ∧ (if n.testBit 3 && !n.testBit 0 then n - 7 else n) < 64 ∧ (∀ d, d < 6 → (if n.testBit 3 && !n.testBit 0 then n - 7 else n).testBit d = if n.testBit 3 && !n.testBit 0 then (if d = 0 then true else if d = 3 then false else n.testBit d) else n.testBit d) := by decide +kernel
    have h2 : ∀ n, n < 64 → bwn 1 (nz n) = b01 (n.testBit 3 && !n.testBit 0) := by decide +kernel
    have h3 : ∀ n, n < 64 → ∀ x, x < 2 → bwp 1 x (nz n) = (mo x 3 * -nz 1 + mo x 0 * nz 1) * b01 (n.testBit 3 && !n.testBit 0) := by decide +kernel
    have h4 : ∀ n, n < 64 → ∀ k, k < 6 → bq (nz n) k = false := by decide +kernel
    obtain ⟨q1, q2, q3⟩ := h1 n hn
    refine ⟨Or.inl ⟨_, q2, q1⟩, fun k => ?_, fun d hd => ?_, ?_, fun x hx => ?_⟩
    · by_cases hk : k < 6
      · left
        rw [q1, h4 _ q2 k hk, h4 _ hn k hk]
      · right; omega
    · rw [q1, pq_nz q2 hd, pq_nz hn hd, pq_nz hn (by decide), pq_nz hn (by decide), q3 d hd]
    · rw [h2 n hn, pq_nz hn (by decide), pq_nz hn (by decide)]
    · rw [h3 n hn x hx, pq_nz hn (by decide), pq_nz hn (by decide)]
  · have h1 : ∀ k, k < 6 → bwT 1 (-1 - nz k) = -1 - nz k := by decide +kernel
    have q1 := h1 k hk
    have q3 : bwn 1 (-1 - nz k) = nz 0 := by unfold bwn; rw [if_pos q1]
    refine ⟨Or.inr ⟨k, hk, q1⟩, fun _ => Or.inl (by rw [q1]), fun d hd => ?_, ?_, fun x hx => ?_⟩
    · rw [q1, pq_neg hk, pq_neg hk, pq_neg hk]; simp
    · rw [q3, pq_neg hk]; rfl
    · unfold bwp
      rw [if_pos q1, pq_neg hk]
      exact Int32.mul_zero.symm
theorem bw2 {v : Int32} (hv : okV v) : okV (bwT 2 v) ∧ (∀ k, bq (bwT 2 v) k = bq v k ∨ 6 ≤ k) ∧ (∀ d, d < 6 → pq (bwT 2 v) d = false) ∧ bwn 2 v = sm 6 (fun d => b01 (pq v d)) ∧ ∀ x, x < 2 → bwp 2 x v = sm 6 (fun d => mo x d * -b01 (pq v d)) := by
  rcases hv with ⟨n, hn, rfl⟩ | ⟨k, hk, rfl⟩
  · have h1 : ∀ n, n < 64 → bwT 2 (nz n) = nz 0 := by decide +kernel
    have h2 : ∀ n, n < 64 → bwn 2 (nz n) = sm 6 (fun d => b01 (n.testBit d)) := by decide +kernel
    have h3 : ∀ n, n < 64 → ∀ x, x < 2 → bwp 2 x (nz n) = sm 6 (fun d => mo x d * -b01 (n.testBit d)) := by decide +kernel
    have h4 : ∀ n, n < 64 → ∀ k, k < 6 → bq (nz n) k = false := by decide +kernel
    have q1 := h1 n hn
    refine ⟨Or.inl ⟨0, by decide, q1⟩, fun k => ?_, fun d hd => ?_, ?_, fun x hx => ?_⟩
    · by_cases hk : k < 6
      · left
        rw [q1, h4 0 (by decide) k hk, h4 _ hn k hk]
      · right; omega
    · rw [q1, pq_nz (by decide) hd]; simp
    · rw [h2 n hn]
      exact sm_congr fun d hd => by rw [pq_nz hn hd]
    · rw [h3 n hn x hx]
      exact sm_congr fun d hd => by rw [pq_nz hn hd]
  · have h1 : ∀ k, k < 6 → bwT 2 (-1 - nz k) = -1 - nz k := by decide +kernel
    have q1 := h1 k hk
    refine ⟨Or.inr ⟨k, hk, q1⟩, fun _ => Or.inl (by rw [q1]), fun d hd => ?_, ?_, fun x hx => ?_⟩
    · rw [q1, pq_neg hk]
    · unfold bwn
      rw [if_pos q1]
      exact (sm_zero fun d _ => by rw [pq_neg hk]; rfl).symm
    · unfold bwp
      rw [if_pos q1]
      exact (sm_zero fun d _ => by rw [pq_neg hk]; exact Int32.mul_zero).symm
end
