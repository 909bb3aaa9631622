/-! A TICK, as a function of the state -/
/-- what is taken by bodies: at 2 * body + axis -/
noncomputable def tkS (S : St) (i : Nat) : Int32 := sm (hN S) (fun r => sm 6 (fun d => nz 2 * mo (i % 2) d * sm (wN S) (fun c => b01 (boS S (i / 2) r d c))))
noncomputable def wkS (S : St) (x : Nat) : Int32 := sm (hN S) (fun r => sm 6 (fun d => (mo x d - mo x (tuS S d)) * sm (wN S) (fun c => b01 (waS S r d c))))
noncomputable def lkS (S : St) : Int32 := sm (hN S) (fun r => sm 6 (fun d => sm (wN S) (fun c => b01 (lvS S r d c))))
noncomputable def lmS (S : St) (x : Nat) : Int32 := sm (hN S) (fun r => sm 6 (fun d => mo x d * sm (wN S) (fun c => b01 (lvS S r d c))))
noncomputable def crS (S : St) (c : Nat) : Int32 := sm (hN S) (fun r => sm 6 (fun d => sg d (b01 (dB (CrS S r d c)))))
noncomputable def nxS (S : St) (c r : Nat) : Int32 := if c < wN S ∧ r < hN S then (if z_ge (vS S c r) then nz (paN (fun d => dB (EvN S r d c)) 6) else vS S c r) else nz 0
/-- S: when the gusts have blown -/
noncomputable def moveE (S : St) : St := fun k =>
  if k = 2 then S 2 + nz 1
  else if k = 7 then nz (if rN S < 64 then rN S + 1 else 64)
  else if k = 11 then S 11 + lkS S
  else if 12 ≤ k ∧ k < 22 then (if (k - 12) % 5 = 2 then S k + sm 6 (fun j => tkS S (j * 2 + (k - 12) / 5)) else if (k - 12) % 5 = 3 then S k + wkS S ((k - 12) / 5) else if (k - 12) % 5 = 4 then S k + lmS S ((k - 12) / 5) else S k)
  else if 22 ≤ k ∧ k < 34 then S k + tkS S (k - 22)
  else if 34 ≤ k ∧ k < 66 then (if k - 34 < wN S then crS S (k - 34) else nz 0)
  else if 114 ≤ k ∧ k < 882 then (if rN S < 64 then (if (k - 114) / 12 = rN S then tkS S ((k - 114) % 12) else S k) else if k < 870 then S (k + 12) else tkS S (k - 870))
  else if 882 ≤ k ∧ k < 1394 then nxS S ((k - 882) % 32) ((k - 882) / 32)
  else S k
noncomputable def tickE (S : St) : St := moveE (blowE S)
section
variable {S : St} {T : Nat}
theorem moveE_keep {k : Nat} (h : k < 11 ∧ k ≠ 2 ∧ k ≠ 7 ∨ 66 ≤ k ∧ k < 114 ∨ 1394 ≤ k) : moveE S k = S k := by
  unfold moveE
  rw [if_neg (by omega), if_neg (by omega), if_neg (by omega), if_neg (by omega), if_neg (by omega), if_neg (by omega), if_neg (by omega), if_neg (by omega)]
theorem moveE_sum {i : Nat} (h : i < 12) : moveE S (22 + i) = S (22 + i) + tkS S i := by
  unfold moveE
  rw [if_neg (by omega), if_neg (by omega), if_neg (by omega), if_neg (by omega), if_pos (by omega), Nat.add_sub_cancel_left]
theorem moveE_cross {c : Nat} (h : c < wN S) (h2 : c < 32) : moveE S (34 + c) = crS S c := by
  unfold moveE
  rw [if_neg (by omega), if_neg (by omega), if_neg (by omega), if_neg (by omega), if_neg (by omega), if_pos (by omega), Nat.add_sub_cancel_left, if_pos h]
theorem moveE_cell {c r : Nat} (hc : c < 32) (hr : r < 16) : vS (moveE S) c r = nxS S c r := by
  unfold vS moveE
  rw [if_neg (by omega), if_neg (by omega), if_neg (by omega), if_neg (by omega), if_neg (by omega), if_neg (by omega), if_neg (by omega), if_pos (by omega)]
  rw [show (882 + (32 * r + c) - 882) % 32 = c by omega, show (882 + (32 * r + c) - 882) / 32 = r by omega]
theorem moveE_left : moveE S 11 = S 11 + lkS S := by
  unfold moveE
  rw [if_neg (by omega), if_neg (by omega), if_pos rfl]
theorem moveE_mom {x k : Nat} (hx : x < 2) (hk : k < 5) : moveE S (12 + 5 * x + k) = if k = 2 then S (12 + 5 * x + k) + sm 6 (fun j => tkS S (j * 2 + x)) else if k = 3 then S (12 + 5 * x + k) + wkS S x else if k = 4 then S (12 + 5 * x + k) + lmS S x else S (12 + 5 * x + k) := by
  unfold moveE
  rw [if_neg (by omega), if_neg (by omega), if_neg (by omega), if_pos (by omega), show (12 + 5 * x + k - 12) % 5 = k by omega, show (12 + 5 * x + k - 12) / 5 = x by omega]
theorem moveE_time : moveE S 2 = S 2 + nz 1 := by
  unfold moveE
  rw [if_pos rfl]
theorem moveE_rn : moveE S 7 = nz (if rN S < 64 then rN S + 1 else 64) := by
  unfold moveE
  rw [if_neg (by omega), if_pos rfl]
theorem moveE_rec {i j : Nat} (hi : i < 64) (hj : j < 12) : moveE S (114 + 12 * i + j) = if rN S < 64 then (if i = rN S then tkS S j else S (114 + 12 * i + j)) else if i < 63 then S (114 + 12 * (i + 1) + j) else tkS S j := by
  unfold moveE
  rw [if_neg (by omega), if_neg (by omega), if_neg (by omega), if_neg (by omega), if_neg (by omega), if_neg (by omega), if_pos (by omega)]
  rw [show (114 + 12 * i + j - 114) / 12 = i by omega, show (114 + 12 * i + j - 114) % 12 = j by omega]
  by_cases h : rN S < 64
  · rw [if_pos h, if_pos h]
  · rw [if_neg h, if_neg h]
    by_cases h2 : i < 63
    · rw [if_pos (by omega), if_pos h2, show 114 + 12 * i + j + 12 = 114 + 12 * (i + 1) + j by omega]
    · rw [if_neg (by omega), if_neg h2, show 114 + 12 * i + j - 870 = j by omega]
end
