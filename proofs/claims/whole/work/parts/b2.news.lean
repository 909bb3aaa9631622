/-! WHAT THE CONSTRUCTORS MAKE: a heap (n, G) where G holds from the first what comes to lie at each place -/
def uo (G : Nat → Ob) (a : Nat) (o : Ob) : Nat → Ob := fun j => if j = a then o else G j
def ar0 (t N : Nat) : Ob := .inl (t, N, .inl fun _ => 0)
def al0 (N : Nat) : Ob := .inl (1, N, .inr (.inl fun _ => 0))
def aq0 (N : Nat) (f : Nat → Option Nat) : Ob := .inl (4, N, .inr (.inr (.inr (.inr f))))
section
variable {G : Nat → Ob} {n a b ci k N t : Nat} {o o' : Ob} {l : Lc} {fs : List Value} {v : Value}
theorem uo_at : uo G a o a = o := if_pos rfl
theorem uo_ne {j : Nat} (h : j ≠ a) : uo G a o j = G j := if_neg h
theorem uo_uo : uo (uo G a o) a o' = uo G a o' := by
  funext j
  unfold uo
  by_cases h : j = a
  · rw [if_pos h, if_pos h]
  · rw [if_neg h, if_neg h, if_neg h]
theorem uo_self (h : G a = o) : uo G a o = G := by
  funext j
  unfold uo
  by_cases q : j = a
  · rw [if_pos q, q, h]
  · rw [if_neg q]
theorem uo_comm {o2 : Ob} (h : a ≠ b) : uo (uo G a o) b o2 = uo (uo G b o2) a o := by
  funext j
  unfold uo
  by_cases q : j = a
  · rw [if_neg (show ¬ j = b by omega), if_pos q, if_pos q]
  · rw [if_neg q, if_neg q]
theorem hal_g : hal (n, G) o = (n + 1, uo G n o) := rfl
theorem eNi_g (hn : n < RO) (h : G n = ar0 t N) : eNi t N l (n, G) = some ((n + 1, G), .inl n) := by
  show (if n < RO then (some (hal (n, G) (ar0 t N), .inl n) : RE Nat) else none) = _
  rw [if_pos hn, hal_g, uo_self h]
theorem eNl_g (hn : n < RO) (h : G n = al0 N) : eNl N l (n, G) = some ((n + 1, G), .inl n) := by
  show (if n < RO then (some (hal (n, G) (al0 N), .inl n) : RE Nat) else none) = _
  rw [if_pos hn, hal_g, uo_self h]
theorem eNq_g (hn : n < RO) : eNq N l (n, G) = some ((n + 1, uo G n (aq0 N fun _ => none)), .inl n) := by
  show (if n < RO then (some (hal (n, G) (aq0 N fun _ => none), .inl n) : RE Nat) else none) = _
  rw [if_pos hn, hal_g]
theorem eNw_g {m : MX} (hn : n < RO) {h' : Hp} (hm : m [.ref n] (n + 1, uo G n (.inr (ci, fs))) = some (h', .inl none)) : eNw ci fs m l (n, G) = some (h', .inl n) := by
  show (if n < RO then (match m [.ref n] (n + 1, uo G n (.inr (ci, fs))) with
    | some (h', .inl none) => (some (h', .inl n) : RE Nat)
    | _ => none) else none) = _
  rw [if_pos hn, hm]
theorem fp_g (h : G a = .inr (ci, fs)) (hk : k < fs.length) : fp (n, G) a ci k v = some (n, uo G a (.inr (ci, fs.set k v))) := by
  unfold fp
  show (match G a with
    | .inr (c, fs) => if c = ci ∧ k < fs.length then some (hup (n, G) a (.inr (c, fs.set k v))) else none
    | _ => none) = _
  rw [h]
  show (if ci = ci ∧ k < fs.length then _ else _) = _
  rw [if_pos ⟨rfl, hk⟩]
  rfl
theorem fga_g {x : Nat} (h : G a = .inr (ci, fs)) (hf : fs[k]? = some (.ref x)) : fga (n, G) a ci k = some x := by
  unfold fga
  show (match G a with
    | .inr (c, fs) => if c = ci then (match (fs[k]? : Option Value) with
      | some (Value.ref x) => some x
      | _ => none) else none
    | _ => none) = _
  rw [h]
  show (if ci = ci then (match (fs[k]? : Option Value) with
      | some (Value.ref x) => some x
      | _ => none) else none) = _
  rw [if_pos rfl, hf]
theorem sO_g {p : Nat} {r : List Value} {h : Hp} : sO (.ref p :: r) h = some (h, .inl (.ref p :: r)) := rfl
theorem sPa_g {p x : Nat} {r : List Value} {e : EXa} {i : Nat} (ho : (.ref p :: r)[i]? = some (.ref a)) {n' : Nat} {G' : Nat → Ob} (he : e (.ref p :: r) (n, G) = some ((n', G'), .inl x)) (h : G' a = .inr (ci, fs)) (hk : k < fs.length) : sPa (eLa i) ci k e (.ref p :: r) (n, G) = some ((n', uo G' a (.inr (ci, fs.set k (.ref x)))), .inl (.ref p :: r)) := by
  have h1 : eLa i (.ref p :: r) (n, G) = some ((n, G), .inl a) := by
    unfold eLa
    rw [ho]
  rw [sPa_v, h1, eS_okw, he, eS_okw, fp_g h hk]
  rfl

theorem n_X0 (hn : n + 3 < RO) (h0 : G (n) = .inr (0, [.ref (n + 1), .ref (n + 2)])) (h1 : G (n + 1) = ar0 0 4) (h2 : G (n + 2) = ar0 0 10) : eNw 0 [.null, .null] f_X0_init l (n, G) = some ((n + 3, G), .inl n) := by
  refine eNw_g (by omega) ?_
  have a0 := eNi_g (l := [.ref n]) (n := n + 1) (G := uo G n (.inr (0, [.null, .null]))) (by omega) ((uo_ne (by omega)).trans h1)
  have s0 := sPa_g (p := n) (r := []) (a := n) (i := 0) (ci := 0) (k := 0) rfl a0 uo_at (show 0 < 2 by decide)
  rw [uo_uo] at s0
  simp only [List.set_cons_zero, List.set_cons_succ, Nat.add_assoc, Nat.reduceAdd] at s0
  have a1 := eNi_g (l := [.ref n]) (n := n + 2) (G := uo G n (.inr (0, [.ref (n + 1), .null]))) (by omega) ((uo_ne (by omega)).trans h2)
  have s1 := sPa_g (p := n) (r := []) (a := n) (i := 0) (ci := 0) (k := 1) rfl a1 uo_at (show 1 < 2 by decide)
  rw [uo_uo] at s1
  simp only [List.set_cons_zero, List.set_cons_succ, Nat.add_assoc, Nat.reduceAdd] at s1
  unfold f_X0_init
  show kR (sB (sO [.ref n] _) _) = _
  rw [sO_g, sB_okw, sQ_v, s0, sB_okw, sQ_v, s1, sB_okw, sQ_v, sN_v, sB_okw, sRv_v, kR_w]
  rw [uo_self h0]

theorem n_X1 (hn : n + 3 < RO) (h0 : G (n) = .inr (1, [.int 0, .int 0, .int 0, .ref (n + 1), .ref (n + 2)])) (h1 : G (n + 1) = ar0 0 96) (h2 : G (n + 2) = ar0 0 96) : eNw 1 [.int 0, .int 0, .int 0, .null, .null] f_X1_init l (n, G) = some ((n + 3, G), .inl n) := by
  refine eNw_g (by omega) ?_
  have a0 := eNi_g (l := [.ref n]) (n := n + 1) (G := uo G n (.inr (1, [.int 0, .int 0, .int 0, .null, .null]))) (by omega) ((uo_ne (by omega)).trans h1)
  have s0 := sPa_g (p := n) (r := []) (a := n) (i := 0) (ci := 1) (k := 3) rfl a0 uo_at (show 3 < 5 by decide)
  rw [uo_uo] at s0
  simp only [List.set_cons_zero, List.set_cons_succ, Nat.add_assoc, Nat.reduceAdd] at s0
  have a1 := eNi_g (l := [.ref n]) (n := n + 2) (G := uo G n (.inr (1, [.int 0, .int 0, .int 0, .ref (n + 1), .null]))) (by omega) ((uo_ne (by omega)).trans h2)
  have s1 := sPa_g (p := n) (r := []) (a := n) (i := 0) (ci := 1) (k := 4) rfl a1 uo_at (show 4 < 5 by decide)
  rw [uo_uo] at s1
  simp only [List.set_cons_zero, List.set_cons_succ, Nat.add_assoc, Nat.reduceAdd] at s1
  unfold f_X1_init
  show kR (sB (sO [.ref n] _) _) = _
  rw [sO_g, sB_okw, sQ_v, s0, sB_okw, sQ_v, s1, sB_okw, sQ_v, sN_v, sB_okw, sRv_v, kR_w]
  rw [uo_self h0]

theorem n_X2 (hn : n + 2 < RO) (h0 : G (n) = .inr (2, [.int 0, .ref (n + 1)])) (h1 : G (n + 1) = ar0 0 48) : eNw 2 [.int 0, .null] f_X2_init l (n, G) = some ((n + 2, G), .inl n) := by
  refine eNw_g (by omega) ?_
  have a0 := eNi_g (l := [.ref n]) (n := n + 1) (G := uo G n (.inr (2, [.int 0, .null]))) (by omega) ((uo_ne (by omega)).trans h1)
  have s0 := sPa_g (p := n) (r := []) (a := n) (i := 0) (ci := 2) (k := 1) rfl a0 uo_at (show 1 < 2 by decide)
  rw [uo_uo] at s0
  simp only [List.set_cons_zero, List.set_cons_succ, Nat.add_assoc, Nat.reduceAdd] at s0
  unfold f_X2_init
  show kR (sB (sO [.ref n] _) _) = _
  rw [sO_g, sB_okw, sQ_v, s0, sB_okw, sQ_v, sN_v, sB_okw, sRv_v, kR_w]
  rw [uo_self h0]

theorem n_X5 (hn : n + 2 < RO) (h0 : G (n) = .inr (5, [.int 0, .int 0, .ref (n + 1)])) (h1 : G (n + 1) = ar0 0 768) : eNw 5 [.int 0, .int 0, .null] f_X5_init l (n, G) = some ((n + 2, G), .inl n) := by
  refine eNw_g (by omega) ?_
  have a0 := eNi_g (l := [.ref n]) (n := n + 1) (G := uo G n (.inr (5, [.int 0, .int 0, .null]))) (by omega) ((uo_ne (by omega)).trans h1)
  have s0 := sPa_g (p := n) (r := []) (a := n) (i := 0) (ci := 5) (k := 2) rfl a0 uo_at (show 2 < 3 by decide)
  rw [uo_uo] at s0
  simp only [List.set_cons_zero, List.set_cons_succ, Nat.add_assoc, Nat.reduceAdd] at s0
  unfold f_X5_init
  show kR (sB (sO [.ref n] _) _) = _
  rw [sO_g, sB_okw, sQ_v, s0, sB_okw, sQ_v, sN_v, sB_okw, sRv_v, kR_w]
  rw [uo_self h0]

theorem n_X4 (hn : n + 4 < RO) (h0 : G (n) = .inr (4, [.ref (n + 1), .ref (n + 2), .ref (n + 3)])) (h1 : G (n + 1) = ar0 0 96) (h2 : G (n + 2) = ar0 0 12) (h3 : G (n + 3) = ar0 0 2) : eNw 4 [.null, .null, .null] f_X4_init l (n, G) = some ((n + 4, G), .inl n) := by
  refine eNw_g (by omega) ?_
  have a0 := eNi_g (l := [.ref n]) (n := n + 1) (G := uo G n (.inr (4, [.null, .null, .null]))) (by omega) ((uo_ne (by omega)).trans h1)
  have s0 := sPa_g (p := n) (r := []) (a := n) (i := 0) (ci := 4) (k := 0) rfl a0 uo_at (show 0 < 3 by decide)
  rw [uo_uo] at s0
  simp only [List.set_cons_zero, List.set_cons_succ, Nat.add_assoc, Nat.reduceAdd] at s0
  have a1 := eNi_g (l := [.ref n]) (n := n + 2) (G := uo G n (.inr (4, [.ref (n + 1), .null, .null]))) (by omega) ((uo_ne (by omega)).trans h2)
  have s1 := sPa_g (p := n) (r := []) (a := n) (i := 0) (ci := 4) (k := 1) rfl a1 uo_at (show 1 < 3 by decide)
  rw [uo_uo] at s1
  simp only [List.set_cons_zero, List.set_cons_succ, Nat.add_assoc, Nat.reduceAdd] at s1
  have a2 := eNi_g (l := [.ref n]) (n := n + 3) (G := uo G n (.inr (4, [.ref (n + 1), .ref (n + 2), .null]))) (by omega) ((uo_ne (by omega)).trans h3)
  have s2 := sPa_g (p := n) (r := []) (a := n) (i := 0) (ci := 4) (k := 2) rfl a2 uo_at (show 2 < 3 by decide)
  rw [uo_uo] at s2
  simp only [List.set_cons_zero, List.set_cons_succ, Nat.add_assoc, Nat.reduceAdd] at s2
  unfold f_X4_init
  show kR (sB (sO [.ref n] _) _) = _
  rw [sO_g, sB_okw, sQ_v, s0, sB_okw, sQ_v, s1, sB_okw, sQ_v, s2, sB_okw, sQ_v, sN_v, sB_okw, sRv_v, kR_w]
  rw [uo_self h0]

theorem n_X3 (hn : n + 4 < RO) (h0 : G (n) = .inr (3, [.ref (n + 1), .int 0, .ref (n + 2), .int 0, .int 0, .int 0, .ref (n + 3), .int 0, .int 0, .int 0, .int 0, .int 0, .int 0, .int 0])) (h1 : G (n + 1) = ar0 3 80) (h2 : G (n + 2) = ar0 0 128) (h3 : G (n + 3) = ar0 2 64) : eNw 3 [.null, .int 0, .null, .int 0, .int 0, .int 0, .null, .int 0, .int 0, .int 0, .int 0, .int 0, .int 0, .int 0] f_X3_init l (n, G) = some ((n + 4, G), .inl n) := by
  refine eNw_g (by omega) ?_
  have a0 := eNi_g (l := [.ref n]) (n := n + 1) (G := uo G n (.inr (3, [.null, .int 0, .null, .int 0, .int 0, .int 0, .null, .int 0, .int 0, .int 0, .int 0, .int 0, .int 0, .int 0]))) (by omega) ((uo_ne (by omega)).trans h1)
  have s0 := sPa_g (p := n) (r := []) (a := n) (i := 0) (ci := 3) (k := 0) rfl a0 uo_at (show 0 < 14 by decide)
  rw [uo_uo] at s0
  simp only [List.set_cons_zero, List.set_cons_succ, Nat.add_assoc, Nat.reduceAdd] at s0
  have a1 := eNi_g (l := [.ref n]) (n := n + 2) (G := uo G n (.inr (3, [.ref (n + 1), .int 0, .null, .int 0, .int 0, .int 0, .null, .int 0, .int 0, .int 0, .int 0, .int 0, .int 0, .int 0]))) (by omega) ((uo_ne (by omega)).trans h2)
  have s1 := sPa_g (p := n) (r := []) (a := n) (i := 0) (ci := 3) (k := 2) rfl a1 uo_at (show 2 < 14 by decide)
  rw [uo_uo] at s1
  simp only [List.set_cons_zero, List.set_cons_succ, Nat.add_assoc, Nat.reduceAdd] at s1
  have a2 := eNi_g (l := [.ref n]) (n := n + 3) (G := uo G n (.inr (3, [.ref (n + 1), .int 0, .ref (n + 2), .int 0, .int 0, .int 0, .null, .int 0, .int 0, .int 0, .int 0, .int 0, .int 0, .int 0]))) (by omega) ((uo_ne (by omega)).trans h3)
  have s2 := sPa_g (p := n) (r := []) (a := n) (i := 0) (ci := 3) (k := 6) rfl a2 uo_at (show 6 < 14 by decide)
  rw [uo_uo] at s2
  simp only [List.set_cons_zero, List.set_cons_succ, Nat.add_assoc, Nat.reduceAdd] at s2
  unfold f_X3_init
  show kR (sB (sO [.ref n] _) _) = _
  rw [sO_g, sB_okw, sQ_v, s0, sB_okw, sQ_v, s1, sB_okw, sQ_v, s2, sB_okw, sQ_v, sN_v, sB_okw, sRv_v, kR_w]
  rw [uo_self h0]

theorem n_X6 (hn : n + 15 < RO) (h0 : G (n) = .inr (6, [.ref (n + 1), .ref (n + 4), .ref (n + 6), .ref (n + 8), .ref (n + 11), .ref (n + 12), .int 0, .int 0, .ref (n + 13), .ref (n + 14)])) (h1 : G (n + 1) = .inr (1, [.int 0, .int 0, .int 0, .ref (n + 2), .ref (n + 3)])) (h2 : G (n + 2) = ar0 0 96) (h3 : G (n + 3) = ar0 0 96) (h4 : G (n + 4) = .inr (2, [.int 0, .ref (n + 5)])) (h5 : G (n + 5) = ar0 0 48) (h6 : G (n + 6) = .inr (5, [.int 0, .int 0, .ref (n + 7)])) (h7 : G (n + 7) = ar0 0 768) (h8 : G (n + 8) = .inr (0, [.ref (n + 9), .ref (n + 10)])) (h9 : G (n + 9) = ar0 0 4) (h10 : G (n + 10) = ar0 0 10) (h11 : G (n + 11) = ar0 0 3) (h12 : G (n + 12) = ar0 0 128) (h13 : G (n + 13) = ar0 0 12) (h14 : G (n + 14) = ar0 0 96) : eNw 6 [.null, .null, .null, .null, .null, .null, .int 0, .int 0, .null, .null] f_X6_init l (n, G) = some ((n + 15, G), .inl n) := by
  refine eNw_g (by omega) ?_
  have a0 := n_X1 (l := [.ref n]) (n := n + 1) (G := uo G n (.inr (6, [.null, .null, .null, .null, .null, .null, .int 0, .int 0, .null, .null]))) (by omega) ((uo_ne (by omega)).trans h1) ((uo_ne (by omega)).trans h2) ((uo_ne (by omega)).trans h3)
  have s0 := sPa_g (p := n) (r := []) (a := n) (i := 0) (ci := 6) (k := 0) rfl a0 uo_at (show 0 < 10 by decide)
  rw [uo_uo] at s0
  simp only [List.set_cons_zero, List.set_cons_succ, Nat.add_assoc, Nat.reduceAdd] at s0
  have a1 := n_X2 (l := [.ref n]) (n := n + 4) (G := uo G n (.inr (6, [.ref (n + 1), .null, .null, .null, .null, .null, .int 0, .int 0, .null, .null]))) (by omega) ((uo_ne (by omega)).trans h4) ((uo_ne (by omega)).trans h5)
  have s1 := sPa_g (p := n) (r := []) (a := n) (i := 0) (ci := 6) (k := 1) rfl a1 uo_at (show 1 < 10 by decide)
  rw [uo_uo] at s1
  simp only [List.set_cons_zero, List.set_cons_succ, Nat.add_assoc, Nat.reduceAdd] at s1
  have a2 := n_X5 (l := [.ref n]) (n := n + 6) (G := uo G n (.inr (6, [.ref (n + 1), .ref (n + 4), .null, .null, .null, .null, .int 0, .int 0, .null, .null]))) (by omega) ((uo_ne (by omega)).trans h6) ((uo_ne (by omega)).trans h7)
  have s2 := sPa_g (p := n) (r := []) (a := n) (i := 0) (ci := 6) (k := 2) rfl a2 uo_at (show 2 < 10 by decide)
  rw [uo_uo] at s2
  simp only [List.set_cons_zero, List.set_cons_succ, Nat.add_assoc, Nat.reduceAdd] at s2
  have a3 := n_X0 (l := [.ref n]) (n := n + 8) (G := uo G n (.inr (6, [.ref (n + 1), .ref (n + 4), .ref (n + 6), .null, .null, .null, .int 0, .int 0, .null, .null]))) (by omega) ((uo_ne (by omega)).trans h8) ((uo_ne (by omega)).trans h9) ((uo_ne (by omega)).trans h10)
  have s3 := sPa_g (p := n) (r := []) (a := n) (i := 0) (ci := 6) (k := 3) rfl a3 uo_at (show 3 < 10 by decide)
  rw [uo_uo] at s3
  simp only [List.set_cons_zero, List.set_cons_succ, Nat.add_assoc, Nat.reduceAdd] at s3
  have a4 := eNi_g (l := [.ref n]) (n := n + 11) (G := uo G n (.inr (6, [.ref (n + 1), .ref (n + 4), .ref (n + 6), .ref (n + 8), .null, .null, .int 0, .int 0, .null, .null]))) (by omega) ((uo_ne (by omega)).trans h11)
  have s4 := sPa_g (p := n) (r := []) (a := n) (i := 0) (ci := 6) (k := 4) rfl a4 uo_at (show 4 < 10 by decide)
  rw [uo_uo] at s4
  simp only [List.set_cons_zero, List.set_cons_succ, Nat.add_assoc, Nat.reduceAdd] at s4
  have a5 := eNi_g (l := [.ref n]) (n := n + 12) (G := uo G n (.inr (6, [.ref (n + 1), .ref (n + 4), .ref (n + 6), .ref (n + 8), .ref (n + 11), .null, .int 0, .int 0, .null, .null]))) (by omega) ((uo_ne (by omega)).trans h12)
  have s5 := sPa_g (p := n) (r := []) (a := n) (i := 0) (ci := 6) (k := 5) rfl a5 uo_at (show 5 < 10 by decide)
  rw [uo_uo] at s5
  simp only [List.set_cons_zero, List.set_cons_succ, Nat.add_assoc, Nat.reduceAdd] at s5
  have a6 := eNi_g (l := [.ref n]) (n := n + 13) (G := uo G n (.inr (6, [.ref (n + 1), .ref (n + 4), .ref (n + 6), .ref (n + 8), .ref (n + 11), .ref (n + 12), .int 0, .int 0, .null, .null]))) (by omega) ((uo_ne (by omega)).trans h13)
  have s6 := sPa_g (p := n) (r := []) (a := n) (i := 0) (ci := 6) (k := 8) rfl a6 uo_at (show 8 < 10 by decide)
  rw [uo_uo] at s6
  simp only [List.set_cons_zero, List.set_cons_succ, Nat.add_assoc, Nat.reduceAdd] at s6
  have a7 := eNi_g (l := [.ref n]) (n := n + 14) (G := uo G n (.inr (6, [.ref (n + 1), .ref (n + 4), .ref (n + 6), .ref (n + 8), .ref (n + 11), .ref (n + 12), .int 0, .int 0, .ref (n + 13), .null]))) (by omega) ((uo_ne (by omega)).trans h14)
  have s7 := sPa_g (p := n) (r := []) (a := n) (i := 0) (ci := 6) (k := 9) rfl a7 uo_at (show 9 < 10 by decide)
  rw [uo_uo] at s7
  simp only [List.set_cons_zero, List.set_cons_succ, Nat.add_assoc, Nat.reduceAdd] at s7
  unfold f_X6_init
  show kR (sB (sO [.ref n] _) _) = _
  rw [sO_g, sB_okw, sQ_v, s0, sB_okw, sQ_v, s1, sB_okw, sQ_v, s2, sB_okw, sQ_v, s3, sB_okw, sQ_v, s4, sB_okw, sQ_v, s5, sB_okw, sQ_v, s6, sB_okw, sQ_v, s7, sB_okw, sQ_v, sN_v, sB_okw, sRv_v, kR_w]
  rw [uo_self h0]

end
def Zm : Mm := fun _ _ => 0
def Zl : Ml := fun _ _ => 0
/-- so many things are made -/
def eN (e : Nat → Nat × (Nat → Int32)) (n : Nat) : Nat → Nat × (Nat → Int32) := fun k => if k = 999 then (n, fun _ => 0) else e k
def FH (e : Nat → Nat × (Nat → Int32)) (m : Mm) (w : Ml) : Nat → Ob := (HM e m w).2
theorem HM_n {e : Nat → Nat × (Nat → Int32)} {m : Mm} {w : Ml} {n : Nat} : HM (eN e n) m w = (n, FH e m w) := by
  have hz : ∀ k, eZ9 (eN e n) k = eZ9 e k := fun k => by
    unfold eZ9 eN
    by_cases h : k = 999
    · rw [if_pos h, if_pos h, if_neg (by decide)]
    · rw [if_neg h, if_neg h, if_neg h]
  unfold FH HM HK
  have h1 : eN e n 999 = (n, fun _ => 0) := if_pos rfl
  refine Prod.ext (by show (eN e n 999).1 = n; rw [h1]) (funext fun i => ?_)
  show (if i < RO then _ else Sum.inl (9, (eZ9 (eN e n) (i - RO)).1, Sum.inl (eZ9 (eN e n) (i - RO)).2)) = (if i < RO then _ else Sum.inl (9, (eZ9 e (i - RO)).1, Sum.inl (eZ9 e (i - RO)).2))
  rw [hz]
theorem EO_n {e : Nat → Nat × (Nat → Int32)} {n : Nat} (he : EO e) : EO (eN e n) := he
theorem FH_at {e : Nat → Nat × (Nat → Int32)} {m : Mm} {w : Ml} {a : Nat} (ha : a < RO) {k : Kd} (hk : kdL[a]? = some k) : FH e m w a = obK (m a) (w a) (some k) := HK_at ha hk
theorem fz_t {e : Nat → Nat × (Nat → Int32)} {b : Nat} (hb : TB b) : FH e Zm Zl (b) = .inr (6, [.ref (b + 1), .ref (b + 4), .ref (b + 6), .ref (b + 8), .ref (b + 11), .ref (b + 12), .int 0, .int 0, .ref (b + 13), .ref (b + 14)]) ∧ FH e Zm Zl (b + 1) = .inr (1, [.int 0, .int 0, .int 0, .ref (b + 2), .ref (b + 3)]) ∧ FH e Zm Zl (b + 2) = ar0 0 96 ∧ FH e Zm Zl (b + 3) = ar0 0 96 ∧ FH e Zm Zl (b + 4) = .inr (2, [.int 0, .ref (b + 5)]) ∧ FH e Zm Zl (b + 5) = ar0 0 48 ∧ FH e Zm Zl (b + 6) = .inr (5, [.int 0, .int 0, .ref (b + 7)]) ∧ FH e Zm Zl (b + 7) = ar0 0 768 ∧ FH e Zm Zl (b + 8) = .inr (0, [.ref (b + 9), .ref (b + 10)]) ∧ FH e Zm Zl (b + 9) = ar0 0 4 ∧ FH e Zm Zl (b + 10) = ar0 0 10 ∧ FH e Zm Zl (b + 11) = ar0 0 3 ∧ FH e Zm Zl (b + 12) = ar0 0 128 ∧ FH e Zm Zl (b + 13) = ar0 0 12 ∧ FH e Zm Zl (b + 14) = ar0 0 96 := by
  have := hb.lt
  have hr : ∀ k, k < 15 → b + k < RO := fun k hk => by unfold RO; omega
  exact ⟨(FH_at (hr 0 (by decide)) (kd_t0 hb)).trans rfl, (FH_at (hr 1 (by decide)) (kd_t1 hb)).trans rfl, (FH_at (hr 2 (by decide)) (kd_t2 hb)).trans rfl, (FH_at (hr 3 (by decide)) (kd_t3 hb)).trans rfl, (FH_at (hr 4 (by decide)) (kd_t4 hb)).trans rfl, (FH_at (hr 5 (by decide)) (kd_t5 hb)).trans rfl, (FH_at (hr 6 (by decide)) (kd_t6 hb)).trans rfl, (FH_at (hr 7 (by decide)) (kd_t7 hb)).trans rfl, (FH_at (hr 8 (by decide)) (kd_t8 hb)).trans rfl, (FH_at (hr 9 (by decide)) (kd_t9 hb)).trans rfl, (FH_at (hr 10 (by decide)) (kd_t10 hb)).trans rfl, (FH_at (hr 11 (by decide)) (kd_t11 hb)).trans rfl, (FH_at (hr 12 (by decide)) (kd_t12 hb)).trans rfl, (FH_at (hr 13 (by decide)) (kd_t13 hb)).trans rfl, (FH_at (hr 14 (by decide)) (kd_t14 hb)).trans rfl⟩
theorem fz_31 {e : Nat → Nat × (Nat → Int32)} : FH e Zm Zl 31 = .inr (4, [.ref (32), .ref (33), .ref (34)]) ∧ FH e Zm Zl 32 = ar0 0 96 ∧ FH e Zm Zl 33 = ar0 0 12 ∧ FH e Zm Zl 34 = ar0 0 2 := ⟨(FH_at (by decide) kd_31).trans rfl, (FH_at (by decide) kd_32).trans rfl, (FH_at (by decide) kd_33).trans rfl, (FH_at (by decide) kd_34).trans rfl⟩
theorem fz_35 {e : Nat → Nat × (Nat → Int32)} : FH e Zm Zl 35 = .inr (3, [.ref (36), .int 0, .ref (37), .int 0, .int 0, .int 0, .ref (38), .int 0, .int 0, .int 0, .int 0, .int 0, .int 0, .int 0]) ∧ FH e Zm Zl 36 = ar0 3 80 ∧ FH e Zm Zl 37 = ar0 0 128 ∧ FH e Zm Zl 38 = ar0 2 64 := ⟨(FH_at (by decide) kd_35).trans rfl, (FH_at (by decide) kd_36).trans rfl, (FH_at (by decide) kd_37).trans rfl, (FH_at (by decide) kd_38).trans rfl⟩
def G3 (F : Nat → Ob) (o q1 q2 : Ob) : Nat → Ob := uo (uo (uo F 0 o) 39 q1) 40 q2
section
variable {F : Nat → Ob} {o o' q1 q2 q : Ob} {j : Nat}
theorem G3_0 : G3 F o q1 q2 0 = o := by
  unfold G3
  rw [uo_ne (by decide), uo_ne (by decide), uo_at]
theorem G3_39 : G3 F o q1 q2 39 = q1 := by
  unfold G3
  rw [uo_ne (by decide), uo_at]
theorem G3_40 : G3 F o q1 q2 40 = q2 := by
  unfold G3
  rw [uo_at]
theorem G3_ne (h0 : j ≠ 0) (h1 : j ≠ 39) (h2 : j ≠ 40) : G3 F o q1 q2 j = F j := by
  unfold G3
  rw [uo_ne h2, uo_ne h1, uo_ne h0]
theorem G3_s0 : uo (G3 F o q1 q2) 0 o' = G3 F o' q1 q2 := by
  unfold G3
  rw [uo_comm (a := 40) (b := 0) (by decide), uo_comm (a := 39) (b := 0) (by decide), uo_uo]
theorem G3_s1 : uo (G3 F o q1 q2) 39 q = G3 F o q q2 := by
  unfold G3
  rw [uo_comm (a := 40) (b := 39) (by decide), uo_uo]
theorem G3_s2 : uo (G3 F o q1 q2) 40 q = G3 F o q1 q := by
  unfold G3
  rw [uo_uo]
theorem G3_in : uo F 0 o = G3 F o (F 39) (F 40) := by
  have h1 : uo F 0 o 39 = F 39 := uo_ne (by decide)
  have h2 : uo F 0 o 40 = F 40 := uo_ne (by decide)
  unfold G3
  rw [uo_self h1, uo_self h2]
theorem G3_out (h0 : F 0 = o) (h1 : F 39 = q1) (h2 : F 40 = q2) : G3 F o q1 q2 = F := by
  unfold G3
  rw [uo_self h0, uo_self h1, uo_self h2]
/-- a row of places, as far as it is filled -/
def qhO (N b i : Nat) : Ob := aq0 N fun j => if j < i then some (b + 15 * j) else none
theorem apa_q {n a N b i : Nat} {G : Nat → Ob} {fs : List Value} (ha : G a = qhO N b i) (hi : i < N) (hN : N < 100) (hy : G (b + 15 * i) = .inr (6, fs)) : apa (n, G) a (nz i) (b + 15 * i) 6 = some (n, uo G a (qhO N b (i + 1))) := by
  unfold apa
  show (match G a, G (b + 15 * i) with
    | .inl (t', n', .inr (.inr (.inr (.inr f)))), .inr (c, _) => if t' = 4 ∧ c = 6 ∧ 0 ≤ nz i ∧ (nz i).toNatClampNeg < n' then some (hup (n, G) a (.inl (t', n', .inr (.inr (.inr (.inr (va_up f (nz i).toNatClampNeg (some (b + 15 * i))))))))) else none
    | _, _ => none) = _
  rw [ha, hy]
  show (if 4 = 4 ∧ 6 = 6 ∧ 0 ≤ nz i ∧ (nz i).toNatClampNeg < N then _ else _) = _
  rw [nz_cl (by omega), if_pos ⟨rfl, rfl, nz_nn (by omega), hi⟩]
  have hf : va_up (fun j => if j < i then some (b + 15 * j) else none) i (some (b + 15 * i)) = fun j => if j < i + 1 then some (b + 15 * j) else none := by
    funext j
    unfold va_up
    by_cases h : j = i
    · rw [if_pos h, if_pos (by omega), h]
    · rw [if_neg h]
      show (if j < i then some (b + 15 * j) else none) = if j < i + 1 then some (b + 15 * j) else none
      by_cases h2 : j < i
      · rw [if_pos h2, if_pos (by omega)]
      · rw [if_neg h2, if_neg (by omega)]
  show some (n, uo G a (aq0 N (va_up (fun j => if j < i then some (b + 15 * j) else none) i (some (b + 15 * i))))) = _
  rw [hf]
  rfl
theorem qh_4 : qhO 4 43 4 = obK (fun _ => 0) (fun _ => 0) (some (.inr (.inr [43, 58, 73, 88]))) := by
  have hf : (fun j => if j < 4 then some (43 + 15 * j) else none) = fun j => ([43, 58, 73, 88] : List Nat)[j]? := by
    funext j
    by_cases h : j < 4
    · rw [if_pos h]
      have : ∀ j, j < 4 → some (43 + 15 * j) = ([43, 58, 73, 88] : List Nat)[j]? := by decide
      exact this j h
    · rw [if_neg h]
      exact (List.getElem?_eq_none (by show 4 ≤ j; omega)).symm
  unfold qhO
  rw [hf]
  rfl
theorem qh_2 : qhO 2 103 2 = obK (fun _ => 0) (fun _ => 0) (some (.inr (.inr [103, 118]))) := by
  have hf : (fun j => if j < 2 then some (103 + 15 * j) else none) = fun j => ([103, 118] : List Nat)[j]? := by
    funext j
    by_cases h : j < 2
    · rw [if_pos h]
      have : ∀ j, j < 2 → some (103 + 15 * j) = ([103, 118] : List Nat)[j]? := by decide
      exact this j h
    · rw [if_neg h]
      exact (List.getElem?_eq_none (by show 2 ≤ j; omega)).symm
  unfold qhO
  rw [hf]
  rfl
theorem qh_0 {N b : Nat} : qhO N b 0 = aq0 N fun _ => none := by
  unfold qhO
  have hf : (fun j => if j < 0 then some (b + 15 * j) else none) = fun _ => none := funext fun j => if_neg (Nat.not_lt_zero j)
  rw [hf]
end
