/-! BOTH ARE MADE: the class's object and the model's, before the first call -/
section
variable {e : Nat → Nat × (Nat → Int32)} {m : Mm} {w : Ml}
theorem e_start (he : EO e) : ∃ m1 m2, (∀ l, eNw 7 [.null, .null, .null, .null, .null, .int 0, .int 0, .null, .null, .null] f_X7_init l (HM (eN e 0) Zm Zl) = some (HM (eN e 133) m1 Zl, .inl 0)) ∧ (∀ l, eNw 8 [.null, .null, .null, .null, .null, .null, .null, .null, .null, .int 0, .int 0, .null, .int 0, .int 0, .int 0, .int 0, .int 0, .null, .null] f_X8_init l (HM (eN e 133) m1 Zl) = some (HM (eN e 146) m2 Zl, .inl 133)) ∧
    (∀ l, eNl 1 l (HM (eN e 146) m2 Zl) = some (HM (eN e 147) m2 Zl, .inl 146)) ∧ INV 0 m2 := by
  obtain ⟨m1, a1, a2, a3, a4, a5⟩ := e_made he
  obtain ⟨m2, b1, b2, b3⟩ := e_made8 (e := e) (m := m1) (fun a ha => a2 a (by omega) (by omega) (by omega) (by omega) (by omega))
  have k : ∀ a, a < 133 → m2 a = m1 a := fun a ha => b2 a (by omega) (by omega) (by omega)
  have z : ∀ a, 15 < a → a ≠ 35 → a ≠ 36 → a ≠ 37 → a ≠ 38 → a ≠ 134 → a ≠ 144 → a ≠ 145 → m2 a = Zm a := fun a h1 h2 h3 h4 h5 h6 h7 h8 => (b2 a h6 h7 h8).trans (a2 a h1 h2 h3 h4 h5)
  refine ⟨m1, m2, fun l => ?_, fun l => ?_, fun l => ?_, b3.wf S0_wf, TR.of_sq S0_wf (TR.keep S0_wf a5 (fun a x1 x2 => k a (by omega))) b3, ⟨0, 0, ⟨by decide, by decide, ?_, ?_, fun i hi => absurd hi (Nat.not_lt_zero i)⟩, ?_, fun i hi => absurd hi (Nat.not_lt_zero i)⟩, fun j hj => ⟨0, by decide, ?_, ?_, fun q => absurd q (by decide)⟩, 0, by decide, ?_, ?_, fun i hi => absurd hi (Nat.not_lt_zero i)⟩
  · rw [HM_n, HM_n]
    exact eNw_g (by decide) a1
  · rw [HM_n, HM_n]
    exact eNw_g (by decide) b1
  · rw [HM_n, HM_n]
    exact eNl_g (by decide) ((FH_at (by decide) kd_146).trans rfl)
  · exact (congrFun (k 0 (by decide)) 6).trans (congrFun a3 6)
  · exact (congrFun (k 0 (by decide)) 5).trans (congrFun a3 5)
  · exact congrFun (z 133 (by decide) (by decide) (by decide) (by decide) (by decide) (by decide) (by decide) (by decide) ) 9
  · exact congrFun (z 41 (by decide) (by decide) (by decide) (by decide) (by decide) (by decide) (by decide) (by decide) ) j
  · exact congrFun (z 137 (by decide) (by decide) (by decide) (by decide) (by decide) (by decide) (by decide) (by decide) ) j
  · exact (congrFun (k 35 (by decide)) 1).trans a4
  · exact congrFun (z 133 (by decide) (by decide) (by decide) (by decide) (by decide) (by decide) (by decide) (by decide) ) 12
end
