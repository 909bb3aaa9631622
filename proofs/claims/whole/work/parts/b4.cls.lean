/-! THE CLASS AS IT IS MADE -/
def txL : List Nat := [42, 48, 51, 62, 49, 52, 124, 50, 53, 59, 42, 48, 50, 52, 62, 49, 51, 53]
def tx0 (i : Nat) : Nat := txL.getD i 0
theorem tx0_c : ∀ i, i < 18 → bkC (nz i) = nz (tx0 i) ∧ 33 ≤ tx0 i ∧ tx0 i ≤ 126 ∧ nar 3 (nz (tx0 i)) = nz (tx0 i) := by decide +kernel
theorem frst_eq {p : Nat → Bool} {n k : Nat} (hk : k < n) (h0 : ∀ i, i < k → p i = false) (h1 : p k = true) : frst p n = k := by
  obtain ⟨a1, a2, a3⟩ := frst_ok p n
  rcases Nat.lt_trichotomy (frst p n) k with z | z | z
  · have := h0 _ z
    rw [a3 (by omega)] at this
    exact absurd this (by decide)
  · exact z
  · have := a2 k z
    rw [h1] at this
    exact absurd this (by decide)
theorem jj0_a : jjT tx0 18 1 = 2 ∧ jjT tx0 18 4 = 2 ∧ jjT tx0 18 7 = 2 := by decide +kernel
theorem jj0_b : jjT tx0 18 11 = 3 ∧ jjT tx0 18 15 = 3 := by decide +kernel
theorem tk0 : tkT tx0 18 42 0 = true ∧ tkT tx0 18 62 3 = true ∧ tkT tx0 18 124 6 = true ∧ tkT tx0 18 42 10 = true ∧ tkT tx0 18 62 14 = true ∧ tkT tx0 18 124 18 = false := by decide +kernel
theorem st0_v : seT tx0 1 2 = 9 ∧ seT tx0 4 2 = 18 ∧ seT tx0 7 2 = 36 ∧ seT tx0 11 3 = 21 ∧ seT tx0 15 3 = 42 := by decide +kernel
theorem n0_1 : n1T tx0 18 0 = 1 := by
  unfold n1T nxT
  rw [tk0.1, if_pos (show true = true from rfl)]
theorem n0_2 : n2T tx0 18 0 = 3 := by
  unfold n2T
  rw [n0_1, jj0_a.1]
theorem n0_3 : n3T tx0 18 0 = 4 := by
  unfold n3T
  rw [n0_2]
theorem n0_4 : n4T tx0 18 0 = 6 := by
  unfold n4T
  rw [n0_3, jj0_a.2.1]
theorem n0_b : barT tx0 18 0 = true := by
  unfold barT
  rw [n0_4]
  exact tk0.2.2.1
theorem n0_5 : n5T tx0 18 0 = 7 := by
  unfold n5T
  rw [n0_4]
theorem n0_6 : n6T tx0 18 0 = 9 := by
  unfold n6T
  rw [n0_b, if_pos (show true = true from rfl), n0_5, jj0_a.2.2]
theorem n0_fr : frT tx0 18 0 = 9 := by
  unfold frT stT
  rw [n0_1, jj0_a.1]
  exact st0_v.1
theorem n0_ev : evT tx0 18 0 = 18 := by
  unfold evT stT
  rw [n0_3, jj0_a.2.1]
  exact st0_v.2.1
theorem n0_od : odT tx0 18 0 = 36 := by
  unfold odT
  rw [n0_b, if_pos (show true = true from rfl), n0_5]
  unfold stT
  rw [jj0_a.2.2]
  exact st0_v.2.2.1
theorem n0_tn : tnT tx0 18 0 = 6 := by
  unfold tnT
  rw [tk0.1, if_pos (show true = true from rfl)]
theorem n1_1 : n1T tx0 18 10 = 11 := by
  unfold n1T nxT
  rw [tk0.2.2.2.1, if_pos (show true = true from rfl)]
theorem n1_2 : n2T tx0 18 10 = 14 := by
  unfold n2T
  rw [n1_1, jj0_b.1]
theorem n1_3 : n3T tx0 18 10 = 15 := by
  unfold n3T
  rw [n1_2]
theorem n1_4 : n4T tx0 18 10 = 18 := by
  unfold n4T
  rw [n1_3, jj0_b.2]
theorem n1_b : barT tx0 18 10 = false := by
  unfold barT
  rw [n1_4]
  exact tk0.2.2.2.2.2
theorem n1_6 : n6T tx0 18 10 = 18 := by
  unfold n6T
  rw [n1_b, if_neg (show ¬ false = true by decide), n1_4]
theorem n1_fr : frT tx0 18 10 = 21 := by
  unfold frT stT
  rw [n1_1, jj0_b.1]
  exact st0_v.2.2.2.1
theorem n1_ev : evT tx0 18 10 = 42 := by
  unfold evT stT
  rw [n1_3, jj0_b.2]
  exact st0_v.2.2.2.2
theorem n1_od : odT tx0 18 10 = 42 := by
  unfold odT
  rw [n1_b, if_neg (show ¬ false = true by decide), n1_ev]
theorem n1_tn : tnT tx0 18 10 = 6 := by
  unfold tnT
  rw [tk0.2.2.2.1, if_pos (show true = true from rfl)]
theorem pos0_1 : posT tx0 18 1 = 10 := by
  show n6T tx0 18 0 + 1 = 10
  rw [n0_6]
theorem ok0_0 : okT tx0 18 0 = true := by
  unfold okT
  rw [n0_fr, n0_2, tk0.2.1, n0_ev, n0_od, n0_6]
  decide
theorem ok0_1 : okT tx0 18 10 = true := by
  unfold okT
  rw [n1_fr, n1_2, tk0.2.2.2.2.1, n1_ev, n1_od, n1_6]
  decide
theorem bal0 : balT 9 18 = true ∧ balT 9 36 = true ∧ balT 21 42 = true := by decide +kernel
theorem tw0 : twT (NT tx0 18 0) 9 6 = false := by decide +kernel
theorem tw1 : twT (enN 9 (NT tx0 18 0) 6) 21 6 = false := by decide +kernel
theorem NT0_1 : NT tx0 18 1 = enN 9 (NT tx0 18 0) 6 := by
  show enN (frT tx0 18 0) (NT tx0 18 0) (tnT tx0 18 0) = _
  rw [n0_fr, n0_tn]
theorem kd0_0 : kdT tx0 18 (NT tx0 18 0) 0 = 0 := by
  unfold kdT
  rw [ok0_0, n0_fr, n0_tn, n0_ev, n0_od, tw0, bal0.1, bal0.2.1]
  decide
theorem kd0_1 : kdT tx0 18 (NT tx0 18 1) 10 = 0 := by
  unfold kdT
  rw [ok0_1, n1_fr, n1_tn, n1_ev, n1_od, NT0_1, tw1, bal0.2.2]
  decide
theorem la0 : laT tx0 18 = 1 := by
  refine frst_eq (by decide) (fun i hi => ?_) ?_
  · obtain rfl : i = 0 := by omega
    rw [show posT tx0 18 0 = 0 from rfl, kd0_0, n0_6]
    decide
  · rw [pos0_1, kd0_1, n1_6]
    decide
theorem wr0 : wrT tx0 18 = 0 := by
  rw [wr_e (by decide), la0, pos0_1, kd0_1]
theorem nr0 : nrT tx0 18 = 2 := by
  rw [nr_e (by decide), wr0, if_pos (show (0 : Nat) = 0 from rfl), la0]
def B0K : St := enB 21 42 42 (enB 9 18 36 (BT tx0 18 0) 6) 6
theorem BT0 : BT tx0 18 2 = B0K := by
  show enB (frT tx0 18 (posT tx0 18 1)) (evT tx0 18 (posT tx0 18 1)) (odT tx0 18 (posT tx0 18 1)) (enB (frT tx0 18 0) (evT tx0 18 0) (odT tx0 18 0) (BT tx0 18 0) (tnT tx0 18 0)) (tnT tx0 18 (posT tx0 18 1)) = _
  rw [pos0_1, n1_fr, n1_ev, n1_od, n1_tn, n0_fr, n0_ev, n0_od, n0_tn]
  rfl
def S00 : St := bldE (fun _ => nz 0) 16 8
def S0 : St := bkT1 S00 B0K 2
theorem S00_z {k : Nat} (h : 2 ≤ k) : S00 k = nz 0 := by
  unfold S00
  by_cases q : 3 ≤ k ∧ k ≤ 5 ∨ 1394 ≤ k
  · rw [bldE_k q]
  · exact bldE_0 (by omega)
theorem S00_0 : S00 0 = nz 16 := by
  unfold S00 bldE
  rw [if_neg (by omega), if_neg (by omega), if_pos rfl]
theorem S00_1 : S00 1 = nz 8 := by
  unfold S00 bldE
  rw [if_neg (by omega), if_pos rfl]
theorem S00_W : wN S00 = 16 := by unfold wN; rw [S00_0, nz_cl (by omega)]
theorem S00_H : hN S00 = 8 := by unfold hN; rw [S00_1, nz_cl (by omega)]
theorem S00_t : tN S00 = 0 := by unfold tN; rw [S00_z (by omega)]; rfl
theorem S00_g : gN S00 = 0 := by unfold gN; rw [S00_z (by omega)]; rfl
theorem S00_r : rN S00 = 0 := by unfold rN; rw [S00_z (by omega)]; rfl
theorem S00_c {c r : Nat} : vS S00 c r = nz 0 := S00_z (by omega)
theorem S00_wf : WF 0 S00 := by
  unfold WF
  rw [S00_W, S00_H, S00_t, S00_g, S00_r]
  exact ⟨⟨by omega, by omega, S00_0⟩, ⟨by omega, by omega, S00_1⟩, ⟨by omega, S00_z (by omega)⟩, fun k hk => Or.inl (S00_z (by omega)), ⟨by omega, S00_z (by omega)⟩, ⟨by omega, S00_z (by omega)⟩, fun r hr c hc => by rw [S00_c]; exact ⟨okV_z, fun _ => rfl⟩, fun g hg => absurd hg (Nat.not_lt_zero g), fun k hk => ⟨0, by omega, S00_z (by omega)⟩, ⟨S00_z (by omega), S00_z (by omega)⟩, fun i hi => absurd hi (Nat.not_lt_zero i)⟩
theorem S0_wf : WF 0 S0 := by
  have h0 := BT_0 (tx := tx0) (t := 18) (by decide) 2 (fun j hj => by
    rcases (show j = 0 ∨ j = 1 by omega) with rfl | rfl
    · show frT tx0 18 0 ≠ 0
      rw [n0_fr]
      decide
    · rw [pos0_1, n1_fr]
      decide)
  rw [BT0] at h0
  exact bkT1_wf S00_wf (fun k hk => by rw [← BT0]; exact BT_lt 2 k hk) h0.1 h0.2
