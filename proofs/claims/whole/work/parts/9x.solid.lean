/-! WHAT IS SOLID STAYS SO -/
def SB (S S' : St) : Prop := ∀ c r k, c < 32 → r < 16 → k < 6 → bq (vS S' c r) k = bq (vS S c r) k
section
variable {S S' : St} {T n : Nat}
theorem SB.rf : SB S S := fun _ _ _ _ _ _ => rfl
theorem SB.tr {A B C : St} (h : SB A B) (g : SB B C) : SB A C := fun c r k hc hr hk => (g c r k hc hr hk).trans (h c r k hc hr hk)
theorem bwT_1 : ∀ k, k < 3 → ∀ n, n < 64 → ∀ j, j < 6 → bq (bwT k (nz n)) j = bq (nz n) j := by decide +kernel
theorem bwT_2 : ∀ k, k < 3 → ∀ n, n < 6 → ∀ j, j < 6 → bq (bwT k (-1 - nz n)) j = bq (-1 - nz n) j := by decide +kernel
theorem bwT_bq {v : Int32} {k j : Nat} (hv : okV v) (hk : k < 3) (hj : j < 6) : bq (bwT k v) j = bq v j := by
  rcases hv with ⟨n, hn, rfl⟩ | ⟨n, hn, rfl⟩
  · exact bwT_1 k hk n hn j hj
  · exact bwT_2 k hk n hn j hj
theorem blow1_sb {g k c r : Nat} (hw : WF T S) (hg : g < 6) (hk : k < 3) (hc : c < 32) (hr : r < 16) : SB S (blow1 S g k c r) := fun c' r' j hc' hr' hj => by
  rw [vS_blow1 hg hc hr hc' hr']
  by_cases q : c' = c ∧ r' = r
  · rw [if_pos q, q.1, q.2, bwT_bq (hw.2.2.2.2.2.2.1 r hr c hc).1 hk hj]
  · rw [if_neg q]
theorem blG_sb {g k c f l : Nat} (hw : WF T S) (hg : g < 6) (hk : k < 3) (hc : c < wN S) (hl : l < hN S) (n : Nat) (hn : f + n ≤ l + 1) : SB S (blG S g k c f n) := by
  induction n with
  | zero => exact SB.rf
  | succ n ih =>
    have h2 := (blG_ok (f := f) (l := l) hw hg hk hc hl n (by omega)).2
    have hc2 : c < 32 := Nat.lt_of_lt_of_le hc hw.1.2.1
    have hr2 : f + n < 16 := by have := hw.2.1.2.1; omega
    exact (ih (by omega)).tr (blow1_sb h2 hg hk hc2 hr2)
theorem blS_sb {g : Nat} (hw : WF T S) (hg : g < gN S) : SB S (blS S g) := by
  obtain ⟨k, c, f, l, p, k1, c1, f1, l1, -, -, -, -, -, -, -, e0, e1, e2, e3⟩ := gust_of hw hg
  unfold blS
  split
  · rw [e0, e1, e2, e3]
    exact blG_sb hw (by have := hw.2.2.2.2.1.1; omega) k1 c1 l1 _ (by omega)
  · exact SB.rf
theorem blAll_sb (hw : WF T S) (n : Nat) (hn : n ≤ gN S) : SB S (blAll S n) := by
  induction n with
  | zero => exact SB.rf
  | succ n ih =>
    obtain ⟨h1, h2⟩ := blAll_ok hw n (by omega)
    exact (ih (by omega)).tr (blS_sb h2 (g := n) (by rw [h1.eg]; omega))
theorem tickE_sb (hw : WF T S) : SB S (tickE S) := by
  have h2 := (blowE_ok hw).2
  refine (show SB S (blowE S) from blAll_sb hw _ (Nat.le_refl _)).tr fun c r k hc hr hk => ?_
  show bq (vS (moveE (blowE S)) c r) k = _
  rw [moveE_cell hc hr, nxS_bq h2 hk hc hr]
theorem tkN_sb (hw : WF T S) : ∀ n, T + n < 900000 → SB S (tkN S n)
  | 0, _ => SB.rf
  | n + 1, h => (tkN_sb hw n (by omega)).tr (tickE_sb (T := T + n) (tkN_wf hw n (by omega)))
/-- cells are alike when their particles are -/
theorem alike {A B : St} (hA : WF T A) (hB : WF T B) (h : SB A B) (hp : ∀ c r d, c < 32 → r < 16 → d < 6 → pq (vS A c r) d = pq (vS B c r) d) {c r : Nat} (hc : c < 32) (hr : r < 16) : vS A c r = vS B c r := by
  have hvA := (hA.2.2.2.2.2.2.1 r hr c hc).1
  have hvB := (hB.2.2.2.2.2.2.1 r hr c hc).1
  rcases hvA with ⟨n, hn, e1⟩ | ⟨n, hn, e1⟩ <;> rcases hvB with ⟨k, hk, e2⟩ | ⟨k, hk, e2⟩
  · rw [e1, e2]
    have : n = k := Nat.eq_of_testBit_eq fun d => by
      by_cases hd : d < 6
      · have := hp c r d hc hr hd
        rw [e1, e2, pq_nz hn hd, pq_nz hk hd] at this
        exact this
      · have t1 : n.testBit d = false := Nat.testBit_lt_two_pow (Nat.lt_of_lt_of_le hn (show 2 ^ 6 ≤ 2 ^ d from Nat.pow_le_pow_right (by omega) (by omega)))
        have t2 : k.testBit d = false := Nat.testBit_lt_two_pow (Nat.lt_of_lt_of_le hk (show 2 ^ 6 ≤ 2 ^ d from Nat.pow_le_pow_right (by omega) (by omega)))
        rw [t1, t2]
    rw [this]
  · exfalso
    have hf : ∀ n, n < 64 → ∀ k, k < 6 → bq (nz n) k = false := by decide +kernel
    have := h c r k hc hr hk
    rw [e1, e2, hf n hn k hk, bq_neg k hk k hk, decide_eq_true rfl] at this
    exact absurd this (by decide)
  · exfalso
    have hf : ∀ n, n < 64 → ∀ k, k < 6 → bq (nz n) k = false := by decide +kernel
    have := h c r n hc hr hn
    rw [e1, e2, hf k hk n hn, bq_neg n hn n hn, decide_eq_true rfl] at this
    exact absurd this (by decide)
  · have := h c r k hc hr hk
    rw [e1, e2, bq_neg k hk k hk, bq_neg n hn k hk, decide_eq_true rfl] at this
    have hkn : k = n := of_decide_eq_true this.symm
    rw [e1, e2, hkn]
end
