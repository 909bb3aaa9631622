/-! THE TEXT OF THE PAD: what is read of it -/
def tkT (tx : Nat → Nat) (t c p : Nat) : Bool := decide (p < t) && decide (tx p = c)
def nxT (tx : Nat → Nat) (t c p : Nat) : Nat := if tkT tx t c p = true then p + 1 else p
def gdT (tx : Nat → Nat) (t p lo : Nat) : Bool := decide (p < t) && (decide (48 + lo ≤ tx p) && decide (tx p ≤ 53))
def loT (tx : Nat → Nat) (p : Nat) : Nat → Nat
  | 0 => 0
  | j + 1 => tx (p + j) - 47
def seT (tx : Nat → Nat) (p : Nat) : Nat → Nat
  | 0 => 0
  | j + 1 => seT tx p j ||| 2 ^ (tx (p + j) - 48)
def jjT (tx : Nat → Nat) (t p : Nat) : Nat := frst (fun j => !gdT tx t (p + j) (loT tx p j)) 6
def stT (tx : Nat → Nat) (t p : Nat) : Nat := seT tx p (jjT tx t p)
section
variable {tx : Nat → Nat} {t p c j : Nat}
theorem gd_y (h : gdT tx t p c = true) : p < t ∧ 48 + c ≤ tx p ∧ tx p ≤ 53 := by
  unfold gdT at h
  rw [Bool.and_eq_true, Bool.and_eq_true, decide_eq_true_eq, decide_eq_true_eq, decide_eq_true_eq] at h
  exact ⟨h.1, h.2.1, h.2.2⟩
theorem gd_n (h : gdT tx t p c = false) : ¬ (p < t ∧ 48 + c ≤ tx p ∧ tx p ≤ 53) := fun z => by
  unfold gdT at h
  rw [decide_eq_true z.1, decide_eq_true z.2.1, decide_eq_true z.2.2] at h
  exact absurd h (by decide)
theorem tk_y (h : tkT tx t c p = true) : p < t ∧ tx p = c := by
  unfold tkT at h
  rw [Bool.and_eq_true, decide_eq_true_eq, decide_eq_true_eq] at h
  exact h
theorem tk_i (h : p < t) (h2 : tx p = c) : tkT tx t c p = true := by
  unfold tkT
  rw [decide_eq_true h, decide_eq_true h2]
  rfl
theorem tk_n (h : ¬ (p < t ∧ tx p = c)) : tkT tx t c p = false := by
  cases q : tkT tx t c p with
  | false => rfl
  | true => exact absurd (tk_y q) h
theorem se_ok : ∀ j, (∀ i, i < j → gdT tx t (p + i) (loT tx p i) = true) → loT tx p j ≤ 6 ∧ j ≤ loT tx p j ∧ seT tx p j < 2 ^ loT tx p j ∧ (0 < j → 2 ^ (loT tx p j - 1) ≤ seT tx p j)
  | 0, _ => ⟨Nat.zero_le _, Nat.le_refl _, by show (0 : Nat) < 2 ^ 0; decide, fun h => absurd h (Nat.lt_irrefl _)⟩
  | j + 1, h => by
    obtain ⟨h1, h2, h3, h4⟩ := se_ok j (fun i hi => h i (by omega))
    obtain ⟨g1, g2, g3⟩ := gd_y (h j (by omega))
    obtain ⟨d, hd⟩ : ∃ d, tx (p + j) = d + 48 := ⟨tx (p + j) - 48, by omega⟩
    have e1 : loT tx p (j + 1) = d + 1 := by
      show tx (p + j) - 47 = _
      omega
    have e2 : seT tx p (j + 1) = seT tx p j ||| 2 ^ d := by
      show _ ||| 2 ^ (tx (p + j) - 48) = _
      rw [hd, Nat.add_sub_cancel]
    rw [e1, e2, Nat.add_sub_cancel]
    refine ⟨by omega, by omega, ?_, fun _ => Nat.right_le_or⟩
    exact Nat.or_lt_two_pow (Nat.lt_of_lt_of_le h3 (Nat.pow_le_pow_right (by decide) (by omega))) (Nat.pow_lt_pow_right (by decide) (by omega))
theorem jj_ok : jjT tx t p ≤ 6 ∧ (∀ i, i < jjT tx t p → gdT tx t (p + i) (loT tx p i) = true) ∧ gdT tx t (p + jjT tx t p) (loT tx p (jjT tx t p)) = false := by
  obtain ⟨h1, h2, h3⟩ := frst_ok (fun j => !gdT tx t (p + j) (loT tx p j)) 6
  have he : frst (fun j => !gdT tx t (p + j) (loT tx p j)) 6 = jjT tx t p := rfl
  rw [he] at h1 h2 h3
  have h2' : ∀ i, i < jjT tx t p → gdT tx t (p + i) (loT tx p i) = true := fun i hi => by
    have := h2 i hi
    rw [Bool.not_eq_false'] at this
    exact this
  refine ⟨h1, h2', ?_⟩
  by_cases q : jjT tx t p < 6
  · have := h3 q
    rw [Bool.not_eq_true'] at this
    exact this
  · have q6 : jjT tx t p = 6 := by omega
    obtain ⟨-, g2, -, -⟩ := se_ok _ h2'
    cases z : gdT tx t (p + jjT tx t p) (loT tx p (jjT tx t p)) with
    | false => rfl
    | true =>
      have := gd_y z
      omega
theorem jj_le (hp : p ≤ t) : p + jjT tx t p ≤ t := by
  obtain ⟨h1, h2, h3⟩ := jj_ok (tx := tx) (t := t) (p := p)
  rcases Nat.eq_zero_or_pos (jjT tx t p) with q | q
  · omega
  · have := (gd_y (h2 (jjT tx t p - 1) (by omega))).1
    omega
theorem st_lt : stT tx t p < 64 := by
  obtain ⟨h1, h2, h3⟩ := jj_ok (tx := tx) (t := t) (p := p)
  obtain ⟨g1, g2, g3, g4⟩ := se_ok _ h2
  exact Nat.lt_of_lt_of_le g3 (show 2 ^ loT tx p (jjT tx t p) ≤ 2 ^ 6 from Nat.pow_le_pow_right (by decide) g1)
theorem st_0 : stT tx t p = 0 ↔ jjT tx t p = 0 := by
  obtain ⟨h1, h2, h3⟩ := jj_ok (tx := tx) (t := t) (p := p)
  obtain ⟨g1, g2, g3, g4⟩ := se_ok _ h2
  constructor
  · intro h
    rcases Nat.eq_zero_or_pos (jjT tx t p) with q | q
    · exact q
    · have a1 := g4 q
      have a2 : 0 < 2 ^ (loT tx p (jjT tx t p) - 1) := Nat.two_pow_pos _
      unfold stT at h
      omega
  · intro h
    unfold stT
    rw [h]
    rfl
theorem nx_le (hp : p ≤ t) : nxT tx t c p ≤ t := by
  unfold nxT
  split
  · rename_i h
    have := (tk_y h).1
    omega
  · exact hp
end
-- one rule, read from p
def n1T (tx : Nat → Nat) (t p : Nat) : Nat := nxT tx t 42 p
def tnT (tx : Nat → Nat) (t p : Nat) : Nat := if tkT tx t 42 p = true then 6 else 1
def frT (tx : Nat → Nat) (t p : Nat) : Nat := stT tx t (n1T tx t p)
def n2T (tx : Nat → Nat) (t p : Nat) : Nat := n1T tx t p + jjT tx t (n1T tx t p)
def n3T (tx : Nat → Nat) (t p : Nat) : Nat := n2T tx t p + 1
def evT (tx : Nat → Nat) (t p : Nat) : Nat := stT tx t (n3T tx t p)
def n4T (tx : Nat → Nat) (t p : Nat) : Nat := n3T tx t p + jjT tx t (n3T tx t p)
def barT (tx : Nat → Nat) (t p : Nat) : Bool := tkT tx t 124 (n4T tx t p)
def n5T (tx : Nat → Nat) (t p : Nat) : Nat := n4T tx t p + 1
def odT (tx : Nat → Nat) (t p : Nat) : Nat := if barT tx t p = true then stT tx t (n5T tx t p) else evT tx t p
def n6T (tx : Nat → Nat) (t p : Nat) : Nat := if barT tx t p = true then n5T tx t p + jjT tx t (n5T tx t p) else n4T tx t p
def q6T (tx : Nat → Nat) (t p : Nat) : Nat := if barT tx t p = true then n5T tx t p else n3T tx t p
def okT (tx : Nat → Nat) (t p : Nat) : Bool := decide (frT tx t p ≠ 0) && (tkT tx t 62 (n2T tx t p) && (decide (evT tx t p ≠ 0) && (decide (odT tx t p ≠ 0) && decide (t ≤ n6T tx t p ∨ tx (n6T tx t p) = 59))))
def fpT (tx : Nat → Nat) (t p : Nat) : Nat := if frT tx t p = 0 then n1T tx t p else if tkT tx t 62 (n2T tx t p) = false then n2T tx t p else if evT tx t p = 0 then n3T tx t p else if odT tx t p = 0 then n5T tx t p else n6T tx t p
/-- a set turned round -/
def trN (s j : Nat) : Nat := (s * 2 ^ j ||| s / 2 ^ (6 - j)) &&& 63
theorem trN_lt {s j : Nat} : trN s j < 64 := Nat.lt_succ_of_le Nat.and_le_right
theorem trN_0 : ∀ s, s < 64 → s ≠ 0 → ∀ j, j < 6 → trN s j ≠ 0 := by decide +kernel
-- numbers
theorem nlit42 : (42 : Int32) = nz 42 := id rfl
theorem nlit53 : (53 : Int32) = nz 53 := id rfl
theorem nlit59 : (59 : Int32) = nz 59 := id rfl
theorem nlit62 : (62 : Int32) = nz 62 := id rfl
theorem nlit124 : (124 : Int32) = nz 124 := id rfl
theorem su_su {S : St} {k : Nat} {x y : Int32} : su (su S k x) k y = su S k y := by
  funext j
  by_cases h : j = k <;> simp [su, h]
/-- the pad of the class in a memory: its numbers, its book, what is named -/
def PM (m : Mm) (F B N : St) : Mm := mw (mw (mw m 35 F) 37 B) 38 N
section
variable {m : Mm} {F B N : St} {k a : Nat} {x : Int32}
theorem PM_35 : PM m F B N 35 = F := by
  unfold PM
  rw [mw_ne (by decide), mw_ne (by decide), mw_at]
theorem PM_37 : PM m F B N 37 = B := by
  unfold PM
  rw [mw_ne (by decide), mw_at]
theorem PM_38 : PM m F B N 38 = N := by
  unfold PM
  rw [mw_at]
theorem PM_ne (h5 : a ≠ 35) (h7 : a ≠ 37) (h8 : a ≠ 38) : PM m F B N a = m a := by
  unfold PM
  rw [mw_ne h8, mw_ne h7, mw_ne h5]
theorem PM_s5 : ms (PM m F B N) 35 k x = PM m (su F k x) B N := by
  rw [ms_mw, PM_35]
  unfold PM
  rw [mw_comm (a := 38) (b := 35) (by decide), mw_comm (a := 37) (b := 35) (by decide), mw_mw]
theorem PM_s7 : ms (PM m F B N) 37 k x = PM m F (su B k x) N := by
  rw [ms_mw, PM_37]
  unfold PM
  rw [mw_comm (a := 38) (b := 37) (by decide), mw_mw]
theorem PM_s8 : ms (PM m F B N) 38 k x = PM m F B (su N k x) := by
  rw [ms_mw, PM_38]
  unfold PM
  rw [mw_mw]
theorem PM_self : PM m (m 35) (m 37) (m 38) = m := by
  unfold PM
  rw [mw_self, mw_self, mw_self]
end
/-- the model's -/
def MM (m : Mm) (F B N : St) : Mm := mw (mw (mw m 133 F) 144 B) 145 N
section
variable {m : Mm} {F B N : St} {k a : Nat} {x : Int32}
theorem MM_3 : MM m F B N 133 = F := by
  unfold MM
  rw [mw_ne (by decide), mw_ne (by decide), mw_at]
theorem MM_4 : MM m F B N 144 = B := by
  unfold MM
  rw [mw_ne (by decide), mw_at]
theorem MM_5 : MM m F B N 145 = N := by
  unfold MM
  rw [mw_at]
theorem MM_ne (h5 : a ≠ 133) (h7 : a ≠ 144) (h8 : a ≠ 145) : MM m F B N a = m a := by
  unfold MM
  rw [mw_ne h8, mw_ne h7, mw_ne h5]
theorem MM_s3 : ms (MM m F B N) 133 k x = MM m (su F k x) B N := by
  rw [ms_mw, MM_3]
  unfold MM
  rw [mw_comm (a := 145) (b := 133) (by decide), mw_comm (a := 144) (b := 133) (by decide), mw_mw]
theorem MM_s4 : ms (MM m F B N) 144 k x = MM m F (su B k x) N := by
  rw [ms_mw, MM_4]
  unfold MM
  rw [mw_comm (a := 145) (b := 144) (by decide), mw_mw]
theorem MM_s5 : ms (MM m F B N) 145 k x = MM m F B (su N k x) := by
  rw [ms_mw, MM_5]
  unfold MM
  rw [mw_mw]
theorem MM_self : MM m (m 133) (m 144) (m 145) = m := by
  unfold MM
  rw [mw_self, mw_self, mw_self]
end
/-- t numbers of characters lie in G -/
def TxC (tx : Nat → Nat) (t : Nat) (G : St) : Prop := t ≤ 80 ∧ ∀ i, i < t → 33 ≤ tx i ∧ tx i ≤ 126 ∧ G i = nz (tx i)
theorem dig_lt : ∀ k, k < 48 → z_lt (nz k - nz 48) = true := by decide
theorem zne_not {x : Int32} : z_ne x = !z_eq x := by
  unfold z_ne z_eq
  by_cases h : x = 0 <;> simp [h]
/-- alike in weight and momentum -/
def balT (a b : Nat) : Bool := decide (on1 (nz a) = on1 (nz b)) && (decide (pu 0 (nz a) = pu 0 (nz b)) && decide (pu 1 (nz a) = pu 1 (nz b)))
theorem pc_on : ∀ a, a < 64 → nz (pc (nz a)) = on1 (nz a) := by decide +kernel
theorem bit_a : ∀ a, a < 64 → ∀ d, d < 6 → o_iand (o_ishr (nz a) (nz d)) (nz 1) = b01 (bt (nz a) d) := by decide +kernel
def dfT (x a b : Nat) : Nat → Int32 := fun d => mo x d * (b01 (bt (nz a) d) - b01 (bt (nz b) d))
theorem df_1 : ∀ x, x < 2 → ∀ d, d < 6 → ∀ p q : Bool, mo x d * (b01 p - b01 q) = (if p = true then mo x d else nz 0) + -nz 1 * (if q = true then mo x d else nz 0) := by decide +kernel
theorem df_sum {x a b : Nat} (hx : x < 2) : z_eq (sm 6 (dfT x a b)) = decide (pu x (nz a) = pu x (nz b)) := by
  have h1 : sm 6 (dfT x a b) = pu x (nz a) + -nz 1 * pu x (nz b) := by
    unfold pu
    rw [← sm_mul, ← sm_add]
    exact sm_congr fun d hd => df_1 x hx d hd _ _
  rw [h1, neg_mulz]
  generalize pu x (nz a) = A
  generalize pu x (nz b) = B
  unfold z_eq
  rw [decide_eq_decide, ← Int32.sub_eq_add_neg]
  constructor
  · intro h
    have h2 : A - B + B = A := Int32.sub_add_cancel A B
    rw [h, Int32.zero_add] at h2
    exact h2.symm
  · intro h
    rw [h, Int32.sub_self]
-- what is named, what the book is
def twT (N : St) (fr n : Nat) : Bool := !bAll (fun j => z_eq (N (trN fr j))) n
theorem twT_congr {N N' : St} {fr : Nat} (h : ∀ k, k < 64 → N k = N' k) {n : Nat} : twT N fr n = twT N' fr n := by
  have : bAll (fun j => z_eq (N (trN fr j))) n = bAll (fun j => z_eq (N' (trN fr j))) n := bAll_congr n (fun i _ => by rw [h _ trN_lt])
  unfold twT
  rw [this]
def enN (fr : Nat) (N : St) : Nat → St
  | 0 => N
  | j + 1 => su (enN fr N j) (trN fr j) (nz 1)
def enB (fr ev od : Nat) (B : St) : Nat → St
  | 0 => B
  | j + 1 => su (su (enB fr ev od B j) (trN fr j) (nz (trN ev j))) (64 + trN fr j) (nz (trN od j))
theorem enN_congr {fr : Nat} {N N' : St} (h : ∀ k, k < 64 → N k = N' k) : ∀ j k, k < 64 → enN fr N j k = enN fr N' j k
  | 0, k, hk => h k hk
  | j + 1, k, hk => by
    show su _ _ _ k = su _ _ _ k
    rw [su_v, su_v, enN_congr h j k hk]
theorem enB_congr {fr ev od : Nat} {B B' : St} (h : ∀ k, k < 128 → B k = B' k) : ∀ j k, k < 128 → enB fr ev od B j k = enB fr ev od B' j k
  | 0, k, hk => h k hk
  | j + 1, k, hk => by
    show su (su _ _ _) _ _ k = su (su _ _ _) _ _ k
    rw [su_v, su_v, su_v, su_v, enB_congr h j k hk]
def kdT (tx : Nat → Nat) (t : Nat) (N : St) (p : Nat) : Nat := if okT tx t p = false then 1 else if twT N (frT tx t p) (tnT tx t p) = true then 2 else if balT (frT tx t p) (evT tx t p) = false then 3 else if balT (frT tx t p) (odT tx t p) = false then 3 else 0
def psT (tx : Nat → Nat) (t : Nat) (N : St) (p : Nat) : Nat := if okT tx t p = false then fpT tx t p else if twT N (frT tx t p) (tnT tx t p) = true then p else if balT (frT tx t p) (evT tx t p) = false then n3T tx t p else q6T tx t p
theorem kdT_congr {tx : Nat → Nat} {t p : Nat} {N N' : St} (h : ∀ k, k < 64 → N k = N' k) : kdT tx t N p = kdT tx t N' p ∧ psT tx t N p = psT tx t N' p := by
  unfold kdT psT
  rw [twT_congr h]
  exact ⟨rfl, rfl⟩
def posT (tx : Nat → Nat) (t : Nat) : Nat → Nat
  | 0 => 0
  | i + 1 => n6T tx t (posT tx t i) + 1
def NT (tx : Nat → Nat) (t : Nat) : Nat → St
  | 0 => fun _ => nz 0
  | i + 1 => enN (frT tx t (posT tx t i)) (NT tx t i) (tnT tx t (posT tx t i))
def BT (tx : Nat → Nat) (t : Nat) : Nat → St
  | 0 => fun k => if k < 64 then nz k else nz (k - 64)
  | i + 1 => enB (frT tx t (posT tx t i)) (evT tx t (posT tx t i)) (odT tx t (posT tx t i)) (BT tx t i) (tnT tx t (posT tx t i))
/-- the round in which the reading ends -/
def laT (tx : Nat → Nat) (t : Nat) : Nat := frst (fun i => decide (kdT tx t (NT tx t i) (posT tx t i) ≠ 0) || decide (t ≤ n6T tx t (posT tx t i))) 81
def wrT (tx : Nat → Nat) (t : Nat) : Nat := if t = 0 then 0 else kdT tx t (NT tx t (laT tx t)) (posT tx t (laT tx t))
def waT (tx : Nat → Nat) (t : Nat) : Nat := psT tx t (NT tx t (laT tx t)) (posT tx t (laT tx t))
def nrT (tx : Nat → Nat) (t : Nat) : Nat := if t = 0 then 0 else if wrT tx t = 0 then laT tx t + 1 else laT tx t
section
variable {tx : Nat → Nat} {t p : Nat} {N : St}
theorem n6_ge : p ≤ n6T tx t p := by
  unfold n6T n5T n4T n3T n2T n1T nxT
  split <;> split <;> omega
theorem n1_le (hp : p ≤ t) : n1T tx t p ≤ t := nx_le hp
theorem n2_le (hp : p ≤ t) : n2T tx t p ≤ t := jj_le (n1_le hp)
theorem posT_ge : ∀ i, i ≤ posT tx t i
  | 0 => Nat.le_refl _
  | i + 1 => by
    have h1 := posT_ge i
    have h2 := n6_ge (tx := tx) (t := t) (p := posT tx t i)
    show i + 1 ≤ n6T tx t (posT tx t i) + 1
    omega
theorem la_ok (ht : t ≤ 80) : laT tx t ≤ 80 ∧ (∀ i, i < laT tx t → kdT tx t (NT tx t i) (posT tx t i) = 0 ∧ n6T tx t (posT tx t i) < t) ∧ (kdT tx t (NT tx t (laT tx t)) (posT tx t (laT tx t)) ≠ 0 ∨ t ≤ n6T tx t (posT tx t (laT tx t))) := by
  obtain ⟨h1, h2, h3⟩ := frst_ok (fun i => decide (kdT tx t (NT tx t i) (posT tx t i) ≠ 0) || decide (t ≤ n6T tx t (posT tx t i))) 81
  have he : frst (fun i => decide (kdT tx t (NT tx t i) (posT tx t i) ≠ 0) || decide (t ≤ n6T tx t (posT tx t i))) 81 = laT tx t := rfl
  rw [he] at h1 h2 h3
  have h2' : ∀ i, i < laT tx t → kdT tx t (NT tx t i) (posT tx t i) = 0 ∧ n6T tx t (posT tx t i) < t := fun i hi => by
    have := h2 i hi
    rw [Bool.or_eq_false_iff, decide_eq_false_iff_not, decide_eq_false_iff_not] at this
    exact ⟨Decidable.not_not.mp this.1, Nat.lt_of_not_le this.2⟩
  have hl : laT tx t ≤ 80 := by
    by_cases q : laT tx t ≤ 80
    · exact q
    · have a1 := (h2' 80 (by omega)).2
      have a2 := n6_ge (tx := tx) (t := t) (p := posT tx t 80)
      have a3 := posT_ge (tx := tx) (t := t) 80
      omega
  refine ⟨hl, h2', ?_⟩
  have := h3 (by omega)
  rw [Bool.or_eq_true, decide_eq_true_eq, decide_eq_true_eq] at this
  exact this
theorem posT_le (ht : t ≤ 80) (h0 : 0 < t) : ∀ i, i ≤ laT tx t → posT tx t i ≤ t
  | 0, _ => Nat.zero_le _
  | i + 1, hi => by
    have := ((la_ok (tx := tx) ht).2.1 i (by omega)).2
    show n6T tx t (posT tx t i) + 1 ≤ t
    omega
theorem ok_y (h : okT tx t p = true) : frT tx t p ≠ 0 ∧ tkT tx t 62 (n2T tx t p) = true ∧ evT tx t p ≠ 0 ∧ odT tx t p ≠ 0 ∧ (t ≤ n6T tx t p ∨ tx (n6T tx t p) = 59) := by
  unfold okT at h
  rw [Bool.and_eq_true, Bool.and_eq_true, Bool.and_eq_true, Bool.and_eq_true, decide_eq_true_eq, decide_eq_true_eq, decide_eq_true_eq, decide_eq_true_eq] at h
  exact h
theorem kd_ok (h : kdT tx t N p = 0) : okT tx t p = true := by
  unfold kdT at h
  cases q : okT tx t p with
  | true => rfl
  | false =>
    rw [q, if_pos rfl] at h
    exact absurd h (by decide)
theorem n3_le (hp : p ≤ t) (h : tkT tx t 62 (n2T tx t p) = true) : n3T tx t p ≤ t := by
  have := (tk_y h).1
  unfold n3T
  omega
theorem n4_le (hp : p ≤ t) (h : tkT tx t 62 (n2T tx t p) = true) : n4T tx t p ≤ t := jj_le (n3_le hp h)
theorem n6_le (hp : p ≤ t) (h : tkT tx t 62 (n2T tx t p) = true) : n6T tx t p ≤ t := by
  unfold n6T
  split
  · rename_i q
    have h5 : n5T tx t p ≤ t := by
      have := (tk_y q).1
      unfold n5T
      omega
    exact jj_le h5
  · exact n4_le hp h
end
