/-! A CALL: the class and the model answer alike -/
section
variable {S S' : St} {T T' b n f k : Nat} {P : Nat → St} {e : Nat → Nat × (Nat → Int32)} {m m' m1 m2 m3 : Mm} {w : Ml} {fX fM : MX} {vs ws : List Value} {hs : List String} {I : Mm → Prop}
def AgI (e : Nat → Nat × (Nat → Int32)) (m : Mm) (w : Ml) (fX fM : MX) (vs ws : List Value) (hs : List String) (I : Mm → Prop) : Prop :=
  (∃ m1 w1 v, fX vs (HM e m w) = some (HM e m1 w1, .inl (some (.int v))) ∧ ∀ w', ∃ m2, fM ws (HM e m1 w') = some (HM e m2 w', .inl (some (.int v))) ∧ m2 133 10 = nz 0 ∧ I m2) ∨
  ∃ E k, fX vs (HM e m w) = some (HM e m w, .inr E) ∧ E ∈ hs ∧ hs.idxOf E + 1 = k ∧ ∀ w', ∃ m2 y, fM ws (HM e m w') = some (HM e m2 w', .inl (some (.int y))) ∧ m2 133 10 = nz k ∧ I m2
theorem Keep.th {x : Int32} : Keep m (ms m 133 10 x) := ⟨fun a ha => ms_ne (by omega), ms_ne (by decide), by rw [ms_ne (by decide)], by rw [ms_nn (by decide)], by rw [ms_nn (by decide)]⟩
theorem Ag_fail (hI : INV T m) (E : String) (k : Nat) (hX : fX vs (HM e m w) = some (HM e m w, .inr E)) (hE : E ∈ hs) (hk : hs.idxOf E + 1 = k) (hM : ∀ w', fM ws (HM e m w') = some (HM e (ms m 133 10 (nz k)) w', .inl (some (.int (nz 0))))) : AgI e m w fX fM vs ws hs (INV T) :=
  Or.inr ⟨E, k, hX, hE, hk, fun w' => ⟨ms m 133 10 (nz k), nz 0, hM w', ms_eq, hI.keep Keep.th⟩⟩
theorem Ag_ask (hI : INV T m) {w1 : Ml} {v : Int32} (hX : fX vs (HM e m w) = some (HM e m1 w1, .inl (some (.int v)))) (hM : ∀ w', ∃ m2, fM ws (HM e m1 w') = some (HM e m2 w', .inl (some (.int v))) ∧ m2 133 10 = nz 0 ∧ Keep m m2) : AgI e m w fX fM vs ws hs (INV T) :=
  Or.inl ⟨m1, w1, v, hX, fun w' => by
    obtain ⟨m2, h1, h2, h3⟩ := hM w'
    exact ⟨m2, h1, h2, hI.keep h3⟩⟩
/-- a question that leaves all as it was -/
theorem Ag_read (hI : INV T m) {v : Int32} (hX : fX vs (HM e m w) = some (HM e m w, .inl (some (.int v)))) (hM : ∀ w', fM ws (HM e m w') = some (HM e (ms m 133 10 (nz 0)) w', .inl (some (.int v)))) : AgI e m w fX fM vs ws hs (INV T) :=
  Ag_ask hI hX fun w' => ⟨_, hM w', ms_eq, Keep.th⟩
theorem INV.tun (hI : INV T m) : ∃ b, b = 1 ∧ TB b ∧ TR b m (m 134) ∧ ∀ (m : Mm) (w : Ml), fga (HM e m w) 0 7 0 = some b := ⟨1, rfl, TB.one, hI.2.1, fun m w => rf_0_0⟩
theorem idx_1 {E : String} {l : List String} : (E :: l).idxOf E = 0 := by simp
theorem row_push {P B : St} {p i k : Nat} (hp : p ≤ 4) (hk : k < 1523) (hi : i < (if p = 4 then 4 else p + 1)) : rowP (pushP P B p) i k = if p = 4 then (if i < 3 then rowP P (i + 1) k else B k) else if i < p then rowP P i k else B k := by
  unfold rowP pushP
  by_cases h4 : p = 4
  · rw [if_pos h4] at hi
    rw [if_pos h4, if_pos h4]
    by_cases h3 : i < 3
    · rw [if_pos h3]
      rw [if_pos (by omega), show 1523 * i + k + 1523 = 1523 * (i + 1) + k by omega]
    · obtain rfl : i = 3 := by omega
      rw [if_neg h3]
      rw [if_neg (by omega), if_pos (by omega), show 1523 * 3 + k - 4569 = k by omega]
  · rw [if_neg h4] at hi
    rw [if_neg h4, if_neg h4]
    by_cases h3 : i < p
    · rw [if_pos h3, if_neg (by omega)]
    · obtain rfl : i = p := by omega
      rw [if_neg h3, if_pos (by omega), show 1523 * i + k - 1523 * i = k by omega]
/-- a change: what the class has recorded, what the model holds and saves -/
def RecX (m m1 : Mm) : Prop := (∀ a, a ≠ 0 → (a < 43 ∨ 102 < a) → m1 a = m a) ∧ (∀ j, j ≠ 5 → j ≠ 6 → m1 0 j = m 0 j)
def heldS (m : Mm) : St := fun j => if j < 1523 then m 134 j else m 138 j
theorem Ag_change (hI : INV T m) (hb1 : b = 1) (hT : T ≤ T') {v : Int32} {S' : St} (hw' : WF T' S')
    (hX : ∀ m1, f_X7_recordChange [.ref 0] (HM e m w) = some (HM e m1 w, .inl none) → RecX m m1 → TR b m1 (m 134) → ∃ m2, fX vs (HM e m w) = some (HM e m2 w, .inl (some (.int v))) ∧ TR b m2 S' ∧ (∀ a, (a = 0 ∨ 35 ≤ a) → a ≠ 35 → m2 a = m1 a) ∧ m2 35 1 = m1 35 1)
    (hM : ∀ m2 w', (∀ a, 133 ≤ a → m2 a = m a) → ∃ m3, fM ws (HM e m2 w') = kR (eS (kI (f_X8_saves [.ref 133, .int v] (HM e m3 w'))) fun x h => some (h, .inr (.inl (some (.int x))))) ∧ (∀ a, a ≠ 134 → a ≠ 138 → a ≠ 141 → a ≠ 142 → m3 a = m2 a) ∧ Sq (m3 138) (m 134) ∧ Sq (m3 134) S') : AgI e m w fX fM vs ws hs (INV T') := by
  subst hb1
  obtain ⟨h1, h2, ⟨n, f, h3, h4⟩, h5, h6⟩ := hI
  obtain ⟨m1, r1, r2, r3, r4⟩ := e_recordChange (e := e) (w := w) h1 h2 h3 (fun i hi => h4.2 i hi)
  have hn := h3.1
  obtain ⟨m2, x1, x2, x3, x4⟩ := hX m1 r1 ⟨r2, r3⟩ (TR.keep h1 h2 (fun a a1 a2 => r2 a (by omega) (by omega)))
  have hk : ∀ a, 133 ≤ a → m2 a = m a := fun a ha => by rw [x3 a (by omega) (by omega), r2 a (by omega) (by omega)]
  have y9 : m2 133 9 = nz n := by rw [hk _ (by decide)]; exact h4.1
  refine Or.inl ⟨m2, w, v, x1, fun w' => ?_⟩
  obtain ⟨m3, z1, z2, z3, z4⟩ := hM m2 w' hk
  obtain ⟨m4, s1, s2, s3, s4, s5, s6⟩ := e_saves (e := e) (w := w') (m := m3) (v := v) hn (by rw [z2 _ (by decide) (by decide) (by decide) (by decide)]; exact y9)
  have y : ∀ a, a ≠ 133 → a ≠ 134 → a ≠ 135 → a ≠ 138 → a ≠ 141 → a ≠ 142 → m4 a = m2 a := fun a a3 a4 a5 a8 a41 a42 => by rw [s2 a a3 a5, z2 a a4 a8 a41 a42]
  have y4 : m4 134 = m3 134 := s2 _ (by decide) (by decide)
  have y5 : m4 135 = pushP (m 135) (m3 138) n := by rw [s3, z2 _ (by decide) (by decide) (by decide) (by decide), hk _ (by decide)]
  have wf4 : WF T' (m4 134) := by rw [y4]; exact z4.sy.wf hw'
  have hP : ∀ i, i < (if n = 4 then 4 else n + 1) → Sq (if n = 4 then (if i < 3 then rowP (m 135) (i + 1) else m 134) else if i < n then rowP (m 135) i else m 134) (rowP (m4 135) i) := fun i hi k hk1 => by
    have hB : m3 138 k = m 134 k := z3 k hk1
    rw [y5, row_push hn hk1 hi, hB]
    split
    · split <;> rfl
    · split <;> rfl
  have hPw : ∀ i, i < (if n = 4 then 4 else n + 1) → WF T (if n = 4 then (if i < 3 then rowP (m 135) (i + 1) else m 134) else if i < n then rowP (m 135) i else m 134) := fun i hi => by
    by_cases q : n = 4
    · rw [if_pos q] at hi ⊢
      by_cases q2 : i < 3
      · rw [if_pos q2]; exact h4.2 _ (by omega)
      · rw [if_neg q2]; exact h1
    · rw [if_neg q] at hi ⊢
      by_cases q2 : i < n
      · rw [if_pos q2]; exact h4.2 _ q2
      · rw [if_neg q2]; exact h1
  refine ⟨m4, by rw [z1, s1]; rfl, s5, wf4, ?_, ⟨_, _, ⟨r4.1, r4.2.1, ?_, ?_, fun i hi => ?_⟩, s4, fun i hi => ?_⟩, ?_, ?_⟩
  · refine TR.of_sq hw' (TR.keep hw' x2 (fun a a1 a2 => y a (by omega) (by omega) (by omega) (by omega) (by omega) (by omega))) ?_
    rw [y4]
    exact z4.sy
  · rw [y 0 (by decide) (by decide) (by decide) (by decide) (by decide) (by decide), x3 0 (by omega) (by decide)]; exact r4.2.2.1
  · rw [y 0 (by decide) (by decide) (by decide) (by decide) (by decide) (by decide), x3 0 (by omega) (by decide)]; exact r4.2.2.2.1
  · have hb := hb4_in (if n = 4 then (f + 1) % 4 else f) i
    exact TR.of_sq (hPw i hi) (TR.keep (hPw i hi) (r4.2.2.2.2 i hi) (fun a a1 a2 => by rw [y a (by omega) (by omega) (by omega) (by omega) (by omega) (by omega), x3 a (by omega) (by omega)])) (hP i hi)
  · exact ((hP i hi).wf (hPw i hi)).mono hT
  · intro j hj
    obtain ⟨v, v1, v2, v3, v4⟩ := h5.keep (m' := m4) (fun a ha => by rw [y a (by omega) (by omega) (by omega) (by omega) (by omega) (by omega), x3 a (by omega) (by omega), r2 a (by omega) (by omega)]) j hj
    exact ⟨v, v1, v2, v3, fun q => ⟨(v4 q).1.mono hT, (v4 q).2⟩⟩
  · refine h6.keep ?_ ?_ ?_ ?_
    · rw [y _ (by decide) (by decide) (by decide) (by decide) (by decide) (by decide), x4, r2 _ (by decide) (by decide)]
    · rw [s6 _ (by decide) (by decide), z2 _ (by decide) (by decide) (by decide) (by decide), hk _ (by decide)]
    · rw [y _ (by decide) (by decide) (by decide) (by decide) (by decide) (by decide), x3 _ (by decide) (by decide), r2 _ (by decide) (by decide)]
    · rw [y _ (by decide) (by decide) (by decide) (by decide) (by decide) (by decide), hk _ (by decide)]
end
