section
variable {S S' : St} {T b : Nat} {e : Nat → Nat × (Nat → Int32)} {m m' : Mm} {w : Ml}
theorem adn_bt (hb : TB b) (hw : WF T S) (hT : TR b m S) {c r d : Nat} {x : Int32} (hc : c < 32) (hr : r < 16) (hd : d < 6) : bt (adn m b r d x) c = (bt x c && (z_ge (vS S c r) && !pq (vS S c r) d)) := by
  have hv := (hw.2.2.2.2.2.2.1 r hr c hc).1
  unfold adn
  rw [bt_and, bt_and, bt_not _ hc, bt_not _ hc, sol_bt hT hr hc hv, hT.bits hr hd hc, Bool.not_not, Bool.and_assoc]
/-- a particle is put -/
def putS (S : St) (c r d : Nat) : St := bkS (su (celS S c r (o_ior (vS S c r) (o_ishl (nz 1) (nz d)))) 8 (S 8 + nz 1)) 0 (nz 1 * mo 0 d) (nz 1 * mo 1 d)
theorem or_num {n d : Nat} (hn : n < 64) (hd : d < 6) : o_ior (nz n) (o_ishl (nz 1) (nz d)) = nz (n ||| 2 ^ d) ∧ n ||| 2 ^ d < 64 := by
  rw [nz_shl (by omega), nz_or, Nat.one_mul]
  refine ⟨rfl, ?_⟩
  have h1 : (2 : Nat) ^ d < 2 ^ 6 := Nat.pow_lt_pow_right (by decide) hd
  exact Nat.or_lt_two_pow (n := 6) hn h1
end
