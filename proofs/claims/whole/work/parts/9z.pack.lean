/-- two words in a long -/
def pkL (x y : Int32) : Int64 := o_lor (o_lshl x.toInt64 (nz 32)) (o_land y.toInt64 4294967295)
theorem shl32 (x : Int64) : (o_lshl x (nz 32)).toBitVec = x.toBitVec <<< 32 := rfl
theorem land32 : (4294967295 : Int64).toBitVec = 4294967295#64 := rfl
theorem mask32 : ∀ c, c < 64 → (4294967295#64).getLsbD c = decide (c < 32) := by decide
theorem pk_bit (x y : Int32) {c : Nat} (hc : c < 64) : (pkL x y).toBitVec.getLsbD c = if c < 32 then bt y c else bt x (c - 32) := by
  have h1 : (pkL x y).toBitVec = (x.toInt64.toBitVec <<< 32) ||| (y.toInt64.toBitVec &&& 4294967295#64) := rfl
  rw [h1, BitVec.getLsbD_or, BitVec.getLsbD_shiftLeft, BitVec.getLsbD_and, mask32 c hc, Int32.toBitVec_toInt64, Int32.toBitVec_toInt64, BitVec.getLsbD_signExtend, BitVec.getLsbD_signExtend]
  unfold bt
  by_cases h : c < 32
  · simp [h, hc]
  · have h2 : c - 32 < 32 := by omega
    have h3 : c - 32 < 64 := by omega
    simp [h, hc, h2, h3]
theorem pk_inj {x y x' y' : Int32} : pkL x y = pkL x' y' ↔ x = x' ∧ y = y' := by
  constructor
  · intro h
    have hb : ∀ c, c < 64 → (pkL x y).toBitVec.getLsbD c = (pkL x' y').toBitVec.getLsbD c := fun c _ => by rw [h]
    refine ⟨bt_ext fun c hc => ?_, bt_ext fun c hc => ?_⟩
    · have := hb (c + 32) (by omega)
      rw [pk_bit x y (by omega), pk_bit x' y' (by omega), if_neg (by omega), if_neg (by omega), Nat.add_sub_cancel] at this
      exact this
    · have := hb c (by omega)
      rw [pk_bit x y (by omega), pk_bit x' y' (by omega), if_pos hc, if_pos hc] at this
      exact this
  · rintro ⟨rfl, rfl⟩
    rfl
