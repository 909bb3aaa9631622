/-! EMPTY -/
def emC (S : St) (c0 nc r0 : Nat) (x : Nat) (i j : Nat) : Int32 := sm i (fun i => sm nc (fun j => -nz 1 * pu x (posV (vS S (c0 + j) (r0 + i))))) + sm j (fun j => -nz 1 * pu x (posV (vS S (c0 + j) (r0 + i))))
def enC (S : St) (c0 nc r0 : Nat) (i j : Nat) : Int32 := sm i (fun i => sm nc (fun j => on1 (posV (vS S (c0 + j) (r0 + i))))) + sm j (fun j => on1 (posV (vS S (c0 + j) (r0 + i))))
def emS (S : St) (c0 l r0 i j : Nat) : St := fun a => if a = 12 then S 12 + emC S c0 (l + 1 - c0) r0 0 i j else if a = 17 then S 17 + emC S c0 (l + 1 - c0) r0 1 i j else if (882 ≤ a ∧ a < 1394) ∧ z_gt (S a) = true ∧ blkB c0 l r0 i j ((a - 882) % 32) ((a - 882) / 32) = true then nz 0 else S a
section
variable {S S' : St} {T b c n k c0 l r0 i j r nc x : Nat} {e : Nat → Nat × (Nat → Int32)} {m m' m0 m1 : Mm} {w : Ml}
theorem emC_0 : emC S c0 nc r0 x 0 0 = nz 0 := nz0_add _
theorem enC_0 : enC S c0 nc r0 0 0 = nz 0 := nz0_add _
theorem add_z (y : Int32) : y + nz 0 = y := Int32.add_zero y
theorem emC_row : emC S c0 nc r0 x i nc = emC S c0 nc r0 x (i + 1) 0 := by
  unfold emC
  rw [sm_succ (n := i), sm_0, add_z]
theorem enC_row : enC S c0 nc r0 i nc = enC S c0 nc r0 (i + 1) 0 := by
  unfold enC
  rw [sm_succ (n := i), sm_0, add_z]
theorem emC_cell : emC S c0 nc r0 x i (j + 1) = emC S c0 nc r0 x i j + -nz 1 * pu x (posV (vS S (c0 + j) (r0 + i))) := by
  unfold emC
  rw [sm_succ (n := j), Int32.add_assoc]
theorem enC_cell : enC S c0 nc r0 i (j + 1) = enC S c0 nc r0 i j + on1 (posV (vS S (c0 + j) (r0 + i))) := by
  unfold enC
  rw [sm_succ (n := j), Int32.add_assoc]
theorem em_v (hc : c < 32) (hr : r < 16) : vS (emS S c0 l r0 i j) c r = if z_gt (vS S c r) = true ∧ blkB c0 l r0 i j c r = true then nz 0 else vS S c r := by
  unfold vS emS
  rw [if_neg (by omega), if_neg (by omega), show (882 + (32 * r + c) - 882) % 32 = c by omega, show (882 + (32 * r + c) - 882) / 32 = r by omega]
  by_cases q : z_gt (S (882 + (32 * r + c))) = true ∧ blkB c0 l r0 i j c r = true
  · rw [if_pos q, if_pos ⟨by omega, q⟩]
  · rw [if_neg q, if_neg (fun z => q z.2)]
theorem em_ne {a : Nat} (h : ¬ (882 ≤ a ∧ a < 1394)) (h1 : a ≠ 12) (h2 : a ≠ 17) : emS S c0 l r0 i j a = S a := by
  unfold emS
  rw [if_neg h1, if_neg h2, if_neg (fun z => h z.1)]
theorem em_row (hl : l < 32) (hc : c0 ≤ l) : emS S c0 l r0 i (l + 1 - c0) = emS S c0 l r0 (i + 1) 0 := by
  funext a
  unfold emS
  have : blkB c0 l r0 i (l + 1 - c0) ((a - 882) % 32) ((a - 882) / 32) = blkB c0 l r0 (i + 1) 0 ((a - 882) % 32) ((a - 882) / 32) := by
    rw [Bool.eq_iff_iff, blkB_iff, blkB_iff]
    constructor
    · rintro ⟨h1, h2⟩
      exact ⟨h1, by omega⟩
    · rintro ⟨h1, h2⟩
      exact ⟨h1, by omega⟩
  rw [this, emC_row, emC_row]
theorem em_0 : emS S c0 l r0 0 0 = S := by
  funext a
  unfold emS
  rw [emC_0, emC_0, add_z, add_z]
  by_cases h1 : a = 12
  · rw [if_pos h1, h1]
  · rw [if_neg h1]
    by_cases h2 : a = 17
    · rw [if_pos h2, h2]
    · rw [if_neg h2, if_neg (fun z => by
        have := blkB_iff.mp z.2.2
        omega)]
theorem pos_gt {v : Int32} (h : z_gt v = true) : posV v = v := by
  unfold posV
  have : z_lt v = false := by
    unfold z_gt at h
    unfold z_lt
    rw [decide_eq_true_eq] at h
    rw [decide_eq_false_iff_not]
    rw [Int32.lt_iff_toInt_lt] at h ⊢
    omega
  rw [this]
  rfl
theorem pos_le {v : Int32} (h : z_gt v = false) : posV v = nz 0 := by
  unfold posV
  cases q : z_lt v with
  | true => rfl
  | false =>
    rw [if_neg (by decide)]
    unfold z_gt at h
    unfold z_lt at q
    rw [decide_eq_false_iff_not, Int32.lt_iff_toInt_lt] at h q
    apply Int32.toInt_inj.mp
    show v.toInt = (0 : Int32).toInt
    omega
theorem em_cell (hc : c0 + j ≤ l) (hl : l < 32) (hr : r0 + i < 16) : emS S c0 l r0 i (j + 1) = if z_gt (vS S (c0 + j) (r0 + i)) = true then su (bkS (emS S c0 l r0 i j) 0 (-nz 1 * pu 0 (vS S (c0 + j) (r0 + i))) (-nz 1 * pu 1 (vS S (c0 + j) (r0 + i)))) (882 + (32 * (r0 + i) + (c0 + j))) (nz 0) else emS S c0 l r0 i j := by
  have key : ∀ a, 882 ≤ a → a < 1394 → a ≠ 882 + (32 * (r0 + i) + (c0 + j)) → blkB c0 l r0 i (j + 1) ((a - 882) % 32) ((a - 882) / 32) = blkB c0 l r0 i j ((a - 882) % 32) ((a - 882) / 32) := fun a h1 h2 h3 => by
    rw [Bool.eq_iff_iff, blkB_iff, blkB_iff]
    constructor
    · rintro ⟨g1, g2⟩
      exact ⟨g1, by omega⟩
    · rintro ⟨g1, g2⟩
      exact ⟨g1, by omega⟩
  have rest : ∀ a, a ≠ 12 → a ≠ 17 → a ≠ 882 + (32 * (r0 + i) + (c0 + j)) → emS S c0 l r0 i (j + 1) a = emS S c0 l r0 i j a := fun a h1 h2 h3 => by
    by_cases hb : 882 ≤ a ∧ a < 1394
    · unfold emS
      rw [if_neg h1, if_neg h2, if_neg h1, if_neg h2, key a hb.1 hb.2 h3]
    · rw [em_ne hb h1 h2, em_ne hb h1 h2]
  have a12 : ∀ j, emS S c0 l r0 i j 12 = S 12 + emC S c0 (l + 1 - c0) r0 0 i j := fun j => if_pos rfl
  have a17 : ∀ j, emS S c0 l r0 i j 17 = S 17 + emC S c0 (l + 1 - c0) r0 1 i j := fun j => by
    unfold emS
    rw [if_neg (by decide), if_pos rfl]
  by_cases q : z_gt (vS S (c0 + j) (r0 + i)) = true
  · rw [if_pos q]
    have hp := pos_gt q
    funext a
    unfold su
    by_cases ha : a = 882 + (32 * (r0 + i) + (c0 + j))
    · rw [if_pos ha]
      unfold emS
      rw [ha, if_neg (by omega), if_neg (by omega), if_pos ⟨by omega, q, by rw [show (882 + (32 * (r0 + i) + (c0 + j)) - 882) % 32 = c0 + j by omega, show (882 + (32 * (r0 + i) + (c0 + j)) - 882) / 32 = r0 + i by omega, blkB_iff]; omega⟩]
    · rw [if_neg ha, bkS_v]
      by_cases h1 : a = 12
      · subst h1
        rw [if_pos rfl, a12, a12, emC_cell, hp, Int32.add_assoc]
      · rw [if_neg (by omega)]
        by_cases h2 : a = 17
        · subst h2
          rw [if_pos rfl, a17, a17, emC_cell, hp, Int32.add_assoc]
        · rw [if_neg (by omega), add_z, rest a h1 h2 ha]
  · rw [if_neg q]
    have hq : z_gt (vS S (c0 + j) (r0 + i)) = false := by
      cases z : z_gt (vS S (c0 + j) (r0 + i)) with
      | false => rfl
      | true => exact absurd z q
    have hp := pos_le hq
    have p0 : -nz 1 * pu 0 (nz 0) = nz 0 := by decide
    have p1 : -nz 1 * pu 1 (nz 0) = nz 0 := by decide
    funext a
    by_cases h1 : a = 12
    · subst h1
      rw [a12, a12, emC_cell, hp, p0, add_z]
    · by_cases h2 : a = 17
      · subst h2
        rw [a17, a17, emC_cell, hp, p1, add_z]
      · by_cases ha : a = 882 + (32 * (r0 + i) + (c0 + j))
        · have q' : ¬ z_gt (S a) = true := by rw [ha]; exact q
          unfold emS
          rw [if_neg h1, if_neg h2, if_neg h1, if_neg h2, if_neg (fun z => q' z.2.1), if_neg (fun z => q' z.2.1)]
        · exact rest a h1 h2 ha
end
