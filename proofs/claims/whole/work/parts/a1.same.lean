section
variable {S : St} {T a b : Nat} {w : Ml}
theorem trl_same (hw : WF T S) (hTa : T + a < 900000) (hTb : T + b < 900000) (hA : TrL S a w) (hB : TrL S b w) : al (fun i => decide (w 42 (a * 48 + i) = w 42 (b * 48 + i))) 48 = al (fun j => decide (tkN S a (882 + j) = tkN S b (882 + j))) 512 := by
  obtain ⟨f, f1, f2⟩ := hA
  obtain ⟨g, g1, g2⟩ := hB
  have wA : WF (T + a + b) (tkN S a) := (tkN_wf hw a hTa).mono (by omega)
  have wB : WF (T + a + b) (tkN S b) := (tkN_wf hw b hTb).mono (by omega)
  have sA := tkN_sb hw a hTa
  have sB := tkN_sb hw b hTb
  have hsb : SB (tkN S a) (tkN S b) := fun c r k hc hr hk => (sB c r k hc hr hk).trans (sA c r k hc hr hk).symm
  rw [Bool.eq_iff_iff, al_iff, al_iff]
  constructor
  · intro h j hj
    have hfg : ∀ x, x < 96 → f x = g x := fun x hx => by
      have := of_decide_eq_true (h (x / 2) (by omega))
      rw [f1 _ (by omega), g1 _ (by omega), pk_inj] at this
      rcases (show x = 2 * (x / 2) ∨ x = 2 * (x / 2) + 1 by omega) with z | z
      · rw [z]; exact this.1
      · rw [z]; exact this.2
    have hv := alike wA wB hsb (fun c r d hc hr hd => by rw [← f2 r hr d hd c hc, ← g2 r hr d hd c hc, hfg _ (by omega)]) (c := j % 32) (r := j / 32) (by omega) (by omega)
    refine decide_eq_true ?_
    unfold vS at hv
    rw [show 882 + (32 * (j / 32) + j % 32) = 882 + j by omega] at hv
    exact hv
  · intro h i hi
    refine decide_eq_true ?_
    have hfg : ∀ x, x < 96 → f x = g x := fun x hx => bt_ext fun c hc => by
      have e1 := f2 (x / 6) (by omega) (x % 6) (by omega) c hc
      have e2 := g2 (x / 6) (by omega) (x % 6) (by omega) c hc
      rw [show x / 6 * 6 + x % 6 = x by omega] at e1 e2
      have hv : vS (tkN S a) c (x / 6) = vS (tkN S b) c (x / 6) := of_decide_eq_true (h (32 * (x / 6) + c) (by omega))
      rw [e1, e2, hv]
    rw [f1 i hi, g1 i hi, hfg _ (by omega), hfg _ (by omega)]
end
