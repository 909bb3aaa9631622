/-! THE ENTRY: what the Statement gives of the start -/
section
variable {s : State} {args : Array Value}
theorem st_wn (hts : ∀ w ∈ lw_tbl, w.before args s = true) : ∀ w ∈ WN, va_Nw w s := fun w hw => by
  obtain ⟨h1, h2⟩ := List.mem_filter.mp hw
  have h3 := hts w (List.mem_append_right _ h1)
  cases w <;> first | exact va_Nw.of rfl h3 | (simp [nestW] at h2)
theorem lnn_of {t : Term} {N : Nat} (h : (Term.length t).eval args s none [] s = some (.int (Int32.ofNat N))) : ∃ a cell, t.eval args s none [] s = some (.ref a) ∧ s.arrayAt? a = some cell ∧ cell.slots.size < 2147483648 ∧ Int32.ofNat N = Int32.ofNat cell.slots.size := by
  obtain ⟨v, hv⟩ : ∃ v, v = Value.int (Int32.ofNat N) := ⟨_, rfl⟩
  rw [← hv] at h
  simp only [Term.eval, Option.bind_eq_bind] at h
  cases ht : t.eval args s none [] s with
  | none => simp [ht] at h
  | some x =>
    cases x <;> simp [ht] at h
    case ref a =>
      obtain ⟨cell, hcell, h⟩ := Option.bind_eq_some_iff.mp h
      by_cases hn : cell.slots.size < 2147483648
      · rw [if_pos hn] at h
        exact ⟨a, cell, rfl, hcell, hn, (Value.int.inj ((Option.some.inj h).trans hv)).symm⟩
      · rw [if_neg hn] at h; cases h
theorem x_of {tm : Term} {N : Nat} {f : Nat → Int32} (hN : N < 2147483648) (harr : (Cond.arrayOf tm .int).before args s = true) (hlen : (Term.length tm).eval args s none [] s = some (.int (Int32.ofNat N))) (hel : ∀ j, j < N → (Term.elem tm (.int (Int32.ofNat j))).eval args s none [] s = some (.int (f j))) :
    ∃ t, tm.eval args s none [] s = some (.ref t) ∧ va_X t N f s s.heap ∧ t < s.heap.size := by
  obtain ⟨t, ht, cell, c1, c2, c3, c4, c5, c6, -⟩ := va_Tof (A := fun _ => False) (f := fun j => .int (f j)) hN harr hlen hel (fun _ _ h => h)
  obtain ⟨a, cell', q1, q2, q3, q4⟩ := lnn_of hlen
  cases ht.symm.trans q1
  obtain ⟨q5, -⟩ := State.arrayAt?_spec q2
  cases c1.symm.trans q5
  have hsz : cell.slots.size = N := ((nz_inj hN q3).mp q4).symm
  exact ⟨t, ht, ⟨cell, c1, c2, c3, hsz, c6⟩, (Array.getElem?_eq_some_iff.mp c1).1⟩
/-- a static table -/
theorem st_tab {C n : String} {N : Nat} {f : Nat → Int32} {A : Nat → Prop} (hl : (Cond.laysStatic C n "[I").before args s = true) (hini : (Cond.initialized C).before args s = true) (hN : N < 2147483648) (harr : (Cond.arrayOf (.static C n "[I") .int).before args s = true) (hlen : (Cond.eq (.length (.static C n "[I")) (.int (Int32.ofNat N))).before args s = true)
    (hel : ∀ j, j < N → (Cond.eq (.elem (.static C n "[I") (.int (Int32.ofNat j))) (.int (f j))).before args s = true) (hA : ∀ a : Nat, a < s.heap.size → ¬ A a) : ∃ t, va_X t N f s s.heap ∧ t < s.heap.size ∧ va_Z C n "[I" (.ref t) A s s.heap := by
  obtain ⟨t, h1, h2, h3⟩ := x_of hN harr (va_eqt hlen) (fun j hj => va_eqt (hel j hj))
  exact ⟨t, h2, h3, va_Zof hl hini h1 hA⟩
theorem st_str {k : Nat} {tx : String} (h1 : (Cond.stringRef RX7 k tx).before args s = true) (h2 : (Cond.exactly (.string RX7 k) "java/lang/String").before args s = true) : ∃ a, vk_R RX7 k tx a s := by
  obtain ⟨a2, c, cA, kA, q1, -⟩ := Cond.exactly_spec (args := args) (first := s) (o := none) (s := s) (idx := []) h2
  exact ⟨a2, vk_R.of h1 q1⟩
def tbEe (k : Nat) : Nat × (Nat → Int32) := match k with
  | 0 => (6, fun d => tAl.getD d 0)
  | 1 => (6, fun d => tAc.getD d 0)
  | 2 => (6, fun d => tOp.getD d 0)
  | 3 => (6, fun d => tMi.getD d 0)
  | 4 => (6, fun d => tRs.getD d 0)
  | 5 => (6, fun d => tCe.getD d 0)
  | 6 => (6, fun d => tCo.getD d 0)
  | _ => (7, fun d => tSh.getD d 0)
def exE (L : Nat) (xs : Nat → Int32) (k : Nat) : Nat × (Nat → Int32) := if k < 8 then tbEe k else (L, xs)
def adE (t : Nat → Nat) (b k : Nat) : Nat := if k < 8 then t k else if k = 999 then t 0 else b
theorem exE_ok {L : Nat} {xs : Nat → Int32} : EO (exE L xs) := ⟨rfl, rfl, rfl, rfl, rfl, rfl, rfl, rfl⟩
theorem exE_9 {L k : Nat} {xs : Nat → Int32} : eZ9 (eN (exE L xs) 0) k = if k < 8 then tbEe k else if k = 999 then tbEe 0 else (L, xs) := by
  unfold eZ9 eN exE
  by_cases h9 : k = 999
  · subst h9; rfl
  · rw [if_neg h9, if_neg h9, if_neg h9]
/-- the parts of what is given -/
abbrev fgT : List Cond := flatC (Jvm.Cond.and given_1 narrow_1)
def tnE : List String := ["ALONG", "ACROSS", "OPPOSITE", "MIRRORED", "ROW_STEP", "COLUMN_STEP_IN_EVEN_ROW", "COLUMN_STEP_IN_ODD_ROW", "SHIFTS_TRIED"]
theorem g_arr : ∀ k, k < 8 → Cond.arrayOf (.static RX7 (tnE.getD k "") "[I") .int ∈ fgT := by decide +kernel
theorem g_len : ∀ k, k < 8 → Cond.eq (.length (.static RX7 (tnE.getD k "") "[I")) (.int (Int32.ofNat (tbEe k).1)) ∈ fgT := by decide +kernel
theorem g_el : ∀ k, k < 8 → ∀ j, j < (tbEe k).1 → Cond.eq (.elem (.static RX7 (tnE.getD k "") "[I") (.int (Int32.ofNat j))) (.int ((tbEe k).2 j)) ∈ fgT := by decide +kernel
theorem g_u : Cond.isRef (.static Bundle.tN "UNASSIGNED_STACK" Bundle.steD) ∈ fgT := by decide +kernel
theorem g_s : Cond.isRef (.static Bundle.tN "SUPPRESSED_SENTINEL" Bundle.listD) ∈ fgT := by decide +kernel
theorem g_f : Cond.isRef (.static "jdk/internal/util/Preconditions" "SIOOBE_FORMATTER" "Ljava/util/function/BiFunction;") ∈ fgT := by decide +kernel
theorem g_c : Cond.eq (.static sN0 "COMPACT_STRINGS" "Z") (.int 1) ∈ fgT := by decide +kernel
theorem g_x : ∀ q ∈ strT, Cond.exactly (.string RX7 q.1) "java/lang/String" ∈ fgT := by decide +kernel
theorem g_cd : Cond.eq (.field (.string RX7 52) sN0 "coder" "B") (.int 0) ∈ fgT := by decide +kernel
theorem g_va : Cond.arrayOf (.field (.string RX7 52) sN0 "value" "[B") .byte ∈ fgT := by decide +kernel
theorem g_vl : Cond.eq (.length (.field (.string RX7 52) sN0 "value" "[B")) (.int (Int32.ofNat 18)) ∈ fgT := by decide +kernel
theorem g_ve : ∀ j, j < 18 → Cond.eq (.elem (.field (.string RX7 52) sN0 "value" "[B") (.int (Int32.ofNat j))) (.int (bkB.getD j 0)) ∈ fgT := by decide +kernel
theorem g_nc : ∀ q ∈ ncT, Cond.not (.castable q.1 q.2) ∈ fgT := by decide +kernel
/-- the tables' words -/
theorem tw_ini : Cond.initialized RX7 ∈ tables_1 := tm1 (List.mem_of_getElem? (i := 1) rfl)
theorem tw_iniS : Cond.initialized sN0 ∈ tables_1 := tm1 (List.mem_of_getElem? (i := 10) rfl)
theorem tw_iniP : Cond.initialized "jdk/internal/util/Preconditions" ∈ tables_1 := tm1 (List.mem_of_getElem? (i := 12) rfl)
theorem tw_iniT : Cond.initialized Bundle.tN ∈ tables_1 := tm1 (List.mem_of_getElem? (i := 17) rfl)
theorem tw_ao : Cond.arrayOver (.object RX6) ∈ tables_1 := tm2 (List.mem_of_getElem? (i := 4) rfl)
theorem tw_lc : Cond.laysStatic sN0 "COMPACT_STRINGS" "Z" ∈ tables_1 := tm2 (List.mem_of_getElem? (i := 39) rfl)
theorem tw_lf : Cond.laysStatic "jdk/internal/util/Preconditions" "SIOOBE_FORMATTER" "Ljava/util/function/BiFunction;" ∈ tables_1 := tm2 (List.mem_of_getElem? (i := 55) rfl)
theorem tw_lu : Cond.laysStatic Bundle.tN "UNASSIGNED_STACK" Bundle.steD ∈ tables_1 := tm2 (List.mem_of_getElem? (i := 236) rfl)
theorem tw_ls : Cond.laysStatic Bundle.tN "SUPPRESSED_SENTINEL" Bundle.listD ∈ tables_1 := tm2 (List.mem_of_getElem? (i := 238) rfl)
theorem tw_l0 : Cond.laysStatic RX7 "ALONG" "[I" ∈ tables_1 := tm2 (List.mem_of_getElem? (i := 130) rfl)
theorem tw_l1 : Cond.laysStatic RX7 "ACROSS" "[I" ∈ tables_1 := tm2 (List.mem_of_getElem? (i := 132) rfl)
theorem tw_l2 : Cond.laysStatic RX7 "OPPOSITE" "[I" ∈ tables_1 := tm4 (List.mem_of_getElem? (i := 147) rfl)
theorem tw_l3 : Cond.laysStatic RX7 "MIRRORED" "[I" ∈ tables_1 := tm4 (List.mem_of_getElem? (i := 145) rfl)
theorem tw_l4 : Cond.laysStatic RX7 "ROW_STEP" "[I" ∈ tables_1 := tm4 (List.mem_of_getElem? (i := 139) rfl)
theorem tw_l5 : Cond.laysStatic RX7 "COLUMN_STEP_IN_EVEN_ROW" "[I" ∈ tables_1 := tm4 (List.mem_of_getElem? (i := 155) rfl)
theorem tw_l6 : Cond.laysStatic RX7 "COLUMN_STEP_IN_ODD_ROW" "[I" ∈ tables_1 := tm4 (List.mem_of_getElem? (i := 157) rfl)
theorem tw_l7 : Cond.laysStatic RX7 "SHIFTS_TRIED" "[I" ∈ tables_1 := tm5 (List.mem_of_getElem? (i := 137) rfl)
theorem tw_s0 : Cond.stringRef RX7 52 "*03>14|25;*024>135" ∈ tables_1 := tm2 (List.mem_of_getElem? (i := 29) rfl)
theorem tw_s1 : Cond.stringRef RX7 309 "an argument is out of its range" ∈ tables_1 := tm3 (List.mem_of_getElem? (i := 10) rfl)
theorem tw_s2 : Cond.stringRef RX7 302 "there is no such column, row, body, gust or slot" ∈ tables_1 := tm3 (List.mem_of_getElem? (i := 95) rfl)
theorem tw_s3 : Cond.stringRef RX7 316 "the call is not possible as things are" ∈ tables_1 := tm3 (List.mem_of_getElem? (i := 126) rfl)
theorem tw_s4 : Cond.stringRef RX7 312 "a second column or row is less than the first one" ∈ tables_1 := tm3 (List.mem_of_getElem? (i := 164) rfl)
theorem tw_lay : ∀ k, k < 8 → Cond.laysStatic RX7 (tnE.getD k "") "[I" ∈ tables_1 := fun k hk => by
  rcases (by omega : k = 0 ∨ k = 1 ∨ k = 2 ∨ k = 3 ∨ k = 4 ∨ k = 5 ∨ k = 6 ∨ k = 7) with rfl | rfl | rfl | rfl | rfl | rfl | rfl | rfl
  · exact tw_l0
  · exact tw_l1
  · exact tw_l2
  · exact tw_l3
  · exact tw_l4
  · exact tw_l5
  · exact tw_l6
  · exact tw_l7
theorem tw_str : ∀ q ∈ strT, Cond.stringRef RX7 q.1 q.2 ∈ tables_1 := List.forall_mem_cons.mpr ⟨tw_s0, List.forall_mem_cons.mpr ⟨tw_s1, List.forall_mem_cons.mpr ⟨tw_s2, List.forall_mem_cons.mpr ⟨tw_s3, List.forall_mem_cons.mpr ⟨tw_s4, fun _ h => absurd h List.not_mem_nil⟩⟩⟩⟩⟩
theorem tab_lt : ∀ k, k < 8 → (tbEe k).1 < 2147483648 := by decide +kernel
/-- the class's numbers and the fields' -/
theorem K_one {C : String} {T : u_T} {N n : Nat} (hW : ∀ w ∈ WS, w.before args s = true) (hin : ∀ w ∈ u_ws C T N, w ∈ WS) (hi : Cond.instantiable C n ∈ WS) : ∃ d : ClassId × (Nat → Nat), ∀ q : vw_C, some (C, T, N) = some q → u_Kn s q.1 q.2.1 q.2.2 d.1 d.2 := by
  obtain ⟨cC, iS, h⟩ := u_known hW hin (hW _ hi)
  exact ⟨(cC, iS), fun q hq => by cases hq; exact h⟩
theorem K_all (hW : ∀ w ∈ WS, w.before args s = true) : ∃ D : va_G, va_K D kls [] s := by
  have h : ∀ c, ∃ d : ClassId × (Nat → Nat), ∀ q : vw_C, kls[c]? = some q → u_Kn s q.1 q.2.1 q.2.2 d.1 d.2 := fun c => match c with
    | 0 => K_one hW Fx0.2.1 w105
    | 1 => K_one hW Fx1.2.1 w39
    | 2 => K_one hW Fx2.2.1 w70
    | 3 => K_one hW Fx3.2.1 w188
    | 4 => K_one hW Fx4.2.1 w172
    | 5 => K_one hW Fx5.2.1 w88
    | 6 => K_one hW Fx6.2.1 w33
    | 7 => K_one hW Fx7.2.1 w25
    | 8 => K_one hW Fx8.2.1 w1127
    | n + 9 => by
      obtain ⟨d, -⟩ := K_one hW Fx8.2.1 w1127
      exact ⟨d, fun q hq => by simp [kls] at hq⟩
  exact ⟨(fun c => (Classical.choose (h c)).1, fun c => (Classical.choose (h c)).2), fun c q hq => Classical.choose_spec (h c) q hq, fun k q hq => by simp at hq⟩
theorem tabs_all {A : Nat → Prop} (hT : ∀ w ∈ tables_1, w.before args s = true) (hg : ∀ c ∈ fgT, c.before args s = true) (hA : ∀ a : Nat, a < s.heap.size → ¬ A a) : ∃ t : Nat → Nat, ∀ k, k < 8 → va_X (t k) (tbEe k).1 (tbEe k).2 s s.heap ∧ t k < s.heap.size ∧ va_Z RX7 (tnE.getD k "") "[I" (.ref (t k)) A s s.heap := by
  have h : ∀ k, ∃ t, k < 8 → va_X t (tbEe k).1 (tbEe k).2 s s.heap ∧ t < s.heap.size ∧ va_Z RX7 (tnE.getD k "") "[I" (.ref t) A s s.heap := fun k => by
    by_cases hk : k < 8
    · obtain ⟨t, h⟩ := st_tab (hT _ (tw_lay k hk)) (hT _ tw_ini) (tab_lt k hk) (hg _ (g_arr k hk)) (hg _ (g_len k hk)) (fun j hj => hg _ (g_el k hk j hj)) hA
      exact ⟨t, fun _ => h⟩
    · exact ⟨0, fun h => absurd h hk⟩
  exact ⟨fun k => Classical.choose (h k), fun k hk => Classical.choose_spec (h k) hk⟩
theorem env_ok {l : Launch} {b L : Nat} {xs : Nat → Int32} (hfl : l.flags = flags0) (hts : ∀ w ∈ lw_tbl, w.before args s = true) (hgv : (Jvm.Cond.and given_1 narrow_1).before args s = true) (hX : va_X b L xs s s.heap) (hb : b < s.heap.size) :
    ∃ (D : va_G) (t : Nat → Nat), EnvOK (D, adE t b, s.heap.size, eZ9 (eN (exE L xs) 0)) l s := by
  have hg : ∀ c ∈ fgT, c.before args s = true := flat_of_before _ hgv
  have hT : ∀ w ∈ tables_1, w.before args s = true := fun w hw => hts w (List.mem_append_right _ hw)
  have hW : ∀ w ∈ WS, w.before args s = true := fun w hw => hts w (List.mem_filter.mp hw).1
  obtain ⟨A, hAe⟩ : ∃ A : Nat → Prop, A = fun q => s.heap.size ≤ q := ⟨_, rfl⟩
  have hA : ∀ a : Nat, a < s.heap.size → ¬ A a := fun a h => by rw [hAe]; exact Nat.not_le.mpr h
  obtain ⟨D, hD⟩ := K_all hW
  obtain ⟨t, ht⟩ := tabs_all hT hg hA
  obtain ⟨aS, hS⟩ := st_str (hT _ tw_s0) (hg _ (g_x (52, bkT) List.mem_cons_self))
  have hse : (Term.string RX7 52).eval args s none [] s = some (.ref aS) := by
    obtain ⟨a2, c, cA, kA, q1, -⟩ := Cond.exactly_spec (args := args) (first := s) (o := none) (s := s) (idx := []) (hg _ (g_x (52, bkT) List.mem_cons_self))
    have h2 : vk_R RX7 52 bkT a2 s := vk_R.of (hT _ tw_s0) q1
    cases hS.2.symm.trans h2.2
    exact q1
  obtain ⟨aV, hV1, hV2⟩ := va_Tof (N := 18) (f := fun j => .int (bkB.getD j 0)) (A := A) (by decide) (hg _ g_va) (va_eqt (hg _ g_vl)) (fun j hj => va_eqt (hg _ (g_ve j hj))) hA
  refine ⟨D, t, Nat.le_refl _, ?_, hD, fun k => ?_, fun q hq => ?_, st_wn hts, ?_, ?_, fun q hq => st_str (hT _ (tw_str q hq)) (hg _ (g_x q hq)), fun q hq => va_Nc.of (hg _ (g_nc q hq)), va_AO.of (hT _ tw_ao), ⟨?_, ?_⟩, aS, aV, hS, ?_, ?_, ?_, ?_⟩
  · unfold Launch.stackTraces
    rw [hfl]
    decide +kernel
  · show va_X (adE t b k) (eZ9 (eN (exE L xs) 0) k).1 (eZ9 (eN (exE L xs) 0) k).2 s s.heap ∧ adE t b k < s.heap.size ∧ ¬ s.heap.size ≤ adE t b k
    rw [exE_9]
    unfold adE
    by_cases h8 : k < 8
    · rw [if_pos h8, if_pos h8]
      exact ⟨(ht k h8).1, (ht k h8).2.1, Nat.not_le.mpr (ht k h8).2.1⟩
    · rw [if_neg h8, if_neg h8]
      by_cases h9 : k = 999
      · rw [if_pos h9, if_pos h9]
        exact ⟨(ht 0 (by decide)).1, (ht 0 (by decide)).2.1, Nat.not_le.mpr (ht 0 (by decide)).2.1⟩
      · rw [if_neg h9, if_neg h9]
        exact ⟨hX, hb, Nat.not_le.mpr hb⟩
  · show va_Z RX7 q.1 "[I" (.ref (adE t b q.2)) (fun q => s.heap.size ≤ q) s s.heap
    rw [← hAe]
    revert q
    exact List.forall_mem_cons.mpr ⟨(ht 0 (by decide)).2.2, List.forall_mem_cons.mpr ⟨(ht 1 (by decide)).2.2, List.forall_mem_cons.mpr ⟨(ht 2 (by decide)).2.2, List.forall_mem_cons.mpr ⟨(ht 3 (by decide)).2.2, List.forall_mem_cons.mpr ⟨(ht 4 (by decide)).2.2, List.forall_mem_cons.mpr ⟨(ht 5 (by decide)).2.2, List.forall_mem_cons.mpr ⟨(ht 6 (by decide)).2.2, List.forall_mem_cons.mpr ⟨(ht 7 (by decide)).2.2, fun _ h => absurd h List.not_mem_nil⟩⟩⟩⟩⟩⟩⟩⟩
  · exact vx_Zqof (hT _ tw_lu) (hT _ tw_iniT) (hg _ g_u) (fun a h => Nat.not_le.mpr h)
  · exact vx_Zqof (hT _ tw_ls) (hT _ tw_iniT) (hg _ g_s) (fun a h => Nat.not_le.mpr h)
  · exact va_Zof (hT _ tw_lc) (hT _ tw_iniS) (va_eqi (hg _ g_c)) (fun a h => Nat.not_le.mpr h)
  · exact (vx_Zqof (hT _ tw_lf) (hT _ tw_iniP) (hg _ g_f) (fun a h => Nat.not_le.mpr h)).1
  · exact va_Oof (hg _ (g_x (52, bkT) List.mem_cons_self)) hse (fun a h => Nat.not_le.mpr h)
  · exact vk_OFof hse (va_eqt (hg _ g_cd)) (fun a h => Nat.not_le.mpr h)
  · exact vk_OFof hse hV1 (fun a h => Nat.not_le.mpr h)
  · show va_T .byte aV 18 (fun j => .int (bkB.getD j 0)) (fun q => s.heap.size ≤ q) s s.heap
    rw [← hAe]
    exact hV2
end
