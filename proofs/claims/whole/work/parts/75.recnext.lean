section
variable {S : St}
theorem moveE_rN (hr : rN S ≤ 64) : rN (moveE S) = if rN S < 64 then rN S + 1 else 64 := by
  have h : rN (moveE S) = (moveE S 7).toNatClampNeg := rfl
  rw [h, moveE_rn, nz_cl (by split <;> omega)]
/-- the ring of records takes one more -/
theorem rec_next {V V' : Nat → Int32} {L : Nat} (hL : L < 64) (hr : rN S ≤ 64) (h : ∀ i, i < rN S → ∀ j, j < 12 → V ((L + 64 - i) % 64 * 12 + j) = S (114 + 12 * (rN S - 1 - i) + j))
    (hn : ∀ j, j < 12 → V' ((L + 1) % 64 * 12 + j) = tkS S j) (ho : ∀ i, (i < (L + 1) % 64 * 12 ∨ (L + 1) % 64 * 12 + 12 ≤ i) → V' i = V i) :
    ∀ i, i < rN (moveE S) → ∀ j, j < 12 → V' (((L + 1) % 64 + 64 - i) % 64 * 12 + j) = moveE S (114 + 12 * (rN (moveE S) - 1 - i) + j) := by
  intro i hi j hj
  rw [moveE_rN hr] at hi ⊢
  have hi64 : i < 64 := by split at hi <;> omega
  rw [moveE_rec (by split <;> omega) hj]
  by_cases h0 : i = 0
  · subst h0
    rw [show ((L + 1) % 64 + 64 - 0) % 64 = (L + 1) % 64 by omega, hn j hj]
    by_cases h6 : rN S < 64
    · rw [if_pos h6, if_pos h6, if_pos (by omega)]
    · rw [if_neg h6, if_neg h6, if_neg (by omega)]
  · have e1 : ((L + 1) % 64 + 64 - i) % 64 = (L + 64 - (i - 1)) % 64 := by omega
    have e2 : (L + 64 - (i - 1)) % 64 ≠ (L + 1) % 64 := by omega
    rw [e1, ho _ (by omega)]
    by_cases h6 : rN S < 64
    · rw [if_pos h6] at hi ⊢
      rw [if_pos h6, if_neg (by omega), h (i - 1) (by omega) j hj]
      congr 1
      omega
    · rw [if_neg h6] at hi ⊢
      rw [if_neg h6, if_pos (by omega), h (i - 1) (by omega) j hj]
      congr 1
      omega
end
