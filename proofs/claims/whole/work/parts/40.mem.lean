/-! THE PURE PART: the heap as a memory of numbers; rows that reckon the pure semantics out -/
abbrev Mm : Type := Nat → Nat → Int32
abbrev Ml : Type := Nat → Nat → Int64
/-- what lies at a place: an array (kind, length), an object (class; a field is a number, null, or names a place), a row of places -/
abbrev Kd : Type := (Nat × Nat) ⊕ ((Nat × List (Option (Option Nat))) ⊕ List Nat)
def nz (n : Nat) : Int32 := Int32.ofNat n
def ms (m : Mm) (a n : Nat) (x : Int32) : Mm := fun a' n' => if a' = a ∧ n' = n then x else m a' n'
def ml (m : Ml) (a n : Nat) (x : Int64) : Ml := fun a' n' => if a' = a ∧ n' = n then x else m a' n'
def fl (f : Nat → Int32) : Nat → List (Option (Option Nat)) → List Value
  | _, [] => []
  | k, none :: r => .int (f k) :: fl f (k + 1) r
  | k, some none :: r => .null :: fl f (k + 1) r
  | k, some (some p) :: r => .ref p :: fl f (k + 1) r
def obK (m : Nat → Int32) (w : Nat → Int64) : Option Kd → Ob
  | none => .inr (99, [])
  | some (.inl (t, n)) => if t = 1 then .inl (1, n, .inr (.inl w)) else .inl (t, n, .inl m)
  | some (.inr (.inl (c, fs))) => .inr (c, fl m 0 fs)
  | some (.inr (.inr ps)) => .inl (4, ps.length, .inr (.inr (.inr (.inr fun j => ps[j]?))))
/-- the arrays nobody writes; the number 999 is spare: (e 999).1 tells how many things there are (less of them while they are made) -/
def eZ9 (e : Nat → Nat × (Nat → Int32)) (k : Nat) : Nat × (Nat → Int32) := if k = 999 then e 0 else e k
def HK (K : List Kd) (e : Nat → Nat × (Nat → Int32)) (m : Mm) (w : Ml) : Hp := ((e 999).1, fun i => if i < RO then obK (m i) (w i) K[i]? else .inl (9, (eZ9 e (i - RO)).1, .inl (eZ9 e (i - RO)).2))
section
variable {K : List Kd} {e : Nat → Nat × (Nat → Int32)} {m : Mm} {w : Ml} {a : Nat}
theorem HK_at (ha : a < RO) {k : Kd} (hk : K[a]? = some k) : (HK K e m w).2 a = obK (m a) (w a) (some k) := by
  show (if a < RO then obK (m a) (w a) K[a]? else _) = _
  rw [if_pos ha, hk]
theorem fl_len (f : Nat → Int32) : ∀ (fs : List (Option (Option Nat))) (k : Nat), (fl f k fs).length = fs.length
  | [], _ => rfl
  | none :: r, k => by simp [fl, fl_len f r]
  | some none :: r, k => by simp [fl, fl_len f r]
  | some (some p) :: r, k => by simp [fl, fl_len f r]
theorem fl_int (f : Nat → Int32) : ∀ (fs : List (Option (Option Nat))) (k j : Nat), fs[j]? = some none → (fl f k fs)[j]? = some (.int (f (k + j)))
  | [], _, _, h => by simp at h
  | x :: r, k, 0, h => by
    simp at h; subst h; rfl
  | x :: r, k, j + 1, h => by
    have h' : r[j]? = some none := by simpa using h
    have := fl_int f r (k + 1) j h'
    rw [show k + 1 + j = k + (j + 1) by omega] at this
    rcases x with _ | _ | p <;> simpa [fl] using this
theorem fl_ref (f : Nat → Int32) {p : Nat} : ∀ (fs : List (Option (Option Nat))) (k j : Nat), fs[j]? = some (some (some p)) → (fl f k fs)[j]? = some (.ref p)
  | [], _, _, h => by simp at h
  | x :: r, k, 0, h => by
    simp at h; subst h; rfl
  | x :: r, k, j + 1, h => by
    have h' : r[j]? = some (some (some p)) := by simpa using h
    have := fl_ref f r (k + 1) j h'
    rcases x with _ | _ | q <;> simpa [fl] using this
theorem fl_set (f : Nat → Int32) {x : Int32} : ∀ (fs : List (Option (Option Nat))) (k j : Nat), fs[j]? = some none → (fl f k fs).set j (.int x) = fl (fun i => if i = k + j then x else f i) k fs
  | [], _, _, h => by simp at h
  | y :: r, k, 0, h => by
    simp at h; subst h
    have hr : ∀ (r : List (Option (Option Nat))) (q : Nat), k < q → fl (fun i => if i = k + 0 then x else f i) q r = fl f q r := by
      intro r
      induction r with
      | nil => intro q _; rfl
      | cons y r ih =>
        intro q hq
        have := ih (q + 1) (by omega)
        rcases y with _ | _ | p <;> simp only [fl, this]
        rw [if_neg (by omega)]
    show Value.int x :: fl f (k + 1) r = Value.int (if k = k + 0 then x else f k) :: fl _ (k + 1) r
    rw [hr r (k + 1) (by omega)]
    simp
  | y :: r, k, j + 1, h => by
    have h' : r[j]? = some none := by simpa using h
    have := fl_set f (x := x) r (k + 1) j h'
    rw [show k + 1 + j = k + (j + 1) by omega] at this
    rcases y with _ | _ | p <;> simp only [fl, List.set_cons_succ, this]
    rw [if_neg (by omega)]
theorem nz_cl {n : Nat} (h : n < 2147483648) : (nz n).toNatClampNeg = n := Int32.toNatClampNeg_ofNat_of_lt h
theorem nz_nn {n : Nat} (h : n < 2147483648) : 0 ≤ nz n := by
  have := (Int32.ofNat_le_iff_le (a := 0) (b := n) (by decide) h).mpr (Nat.zero_le _)
  exact this
theorem fgi_HK {ci k : Nat} {fs : List (Option (Option Nat))} (hk : K[a]? = some (.inr (.inl (ci, fs)))) (hf : fs[k]? = some none) (ha : a < RO) : fgi (HK K e m w) a ci k = some (m a k) := by
  unfold fgi
  rw [HK_at ha hk]
  simp only [obK, if_true, fl_int (m a) fs 0 k hf, Nat.zero_add]
theorem fga_HK {ci k p : Nat} {fs : List (Option (Option Nat))} (hk : K[a]? = some (.inr (.inl (ci, fs)))) (hf : fs[k]? = some (some (some p))) (ha : a < RO) : fga (HK K e m w) a ci k = some p := by
  unfold fga
  rw [HK_at ha hk]
  simp only [obK, if_true, fl_ref (m a) fs 0 k hf]
theorem gd_HK {ci : Nat} {fs : List (Option (Option Nat))} {f : MX} {vs : List Value} (hk : K[a]? = some (.inr (.inl (ci, fs)))) (ha : a < RO) : gd ci f (.ref a :: vs) (HK K e m w) = f (.ref a :: vs) (HK K e m w) := by
  have h : rcv ci (.ref a :: vs) (HK K e m w) = true := by
    show (match (HK K e m w).2 a with
      | .inr (c, _) => c == ci
      | _ => false) = true
    rw [HK_at ha hk]
    simp [obK]
  unfold gd
  rw [if_pos h]
theorem HK_up {x : Ob} {m' : Mm} {w' : Ml} {k : Kd} (ha : a < RO) (hk : K[a]? = some k) (hx : obK (m' a) (w' a) (some k) = x) (hm : ∀ j, j ≠ a → m' j = m j) (hw : ∀ j, j ≠ a → w' j = w j) : hup (HK K e m w) a x = HK K e m' w' := by
  unfold hup HK
  refine Prod.ext rfl (funext fun j => ?_)
  show (if j = a then x else if j < RO then obK (m j) (w j) K[j]? else _) = (if j < RO then obK (m' j) (w' j) K[j]? else _)
  by_cases h : j = a
  · subst h
    rw [if_pos rfl, if_pos ha, hk, hx]
  · rw [if_neg h, hm j h, hw j h]
theorem ms_at {n : Nat} {x : Int32} : ms m a n x a = fun i => if i = n then x else m a i := by
  funext i
  simp [ms]
theorem ms_ne {n j : Nat} {x : Int32} (h : j ≠ a) : ms m a n x j = m j := by
  funext i
  simp [ms, h]
theorem ml_at {n : Nat} {x : Int64} : ml w a n x a = fun i => if i = n then x else w a i := by
  funext i
  simp [ml]
theorem ml_ne {n j : Nat} {x : Int64} (h : j ≠ a) : ml w a n x j = w j := by
  funext i
  simp [ml, h]
theorem fp_HK {ci k : Nat} {x : Int32} {fs : List (Option (Option Nat))} (hk : K[a]? = some (.inr (.inl (ci, fs)))) (hf : fs[k]? = some none) (ha : a < RO) : fp (HK K e m w) a ci k (.int x) = some (HK K e (ms m a k x) w) := by
  unfold fp
  rw [HK_at ha hk]
  have hl : k < fs.length := (List.getElem?_eq_some_iff.mp hf).1
  simp only [obK, fl_len, hl, and_self, if_true]
  rw [HK_up (k := .inr (.inl (ci, fs))) ha hk _ (fun j h => ms_ne h) (fun j _ => rfl)]
  rw [ms_at]
  simp only [obK, fl_set (m a) fs 0 k hf, Nat.zero_add]
theorem agi_HK {t n N : Nat} (hk : K[a]? = some (.inl (t, N))) (ht : t ≠ 1) (hn : n < N) (hN : N < 100000) (ha : a < RO) : agi t (HK K e m w) a (nz n) = some (m a n) := by
  unfold agi
  rw [HK_at ha hk]
  simp only [obK, if_neg ht, nz_cl (show n < 2147483648 by omega), nz_nn (show n < 2147483648 by omega), hn, true_or, and_self, if_true]
theorem api_HK {t n N : Nat} {x : Int32} (hk : K[a]? = some (.inl (t, N))) (ht : t ≠ 1) (hn : n < N) (hN : N < 100000) (ha : a < RO) : api t (HK K e m w) a (nz n) x = some (HK K e (ms m a n (nar t x)) w) := by
  unfold api
  rw [HK_at ha hk]
  simp only [obK, if_neg ht, nz_cl (show n < 2147483648 by omega), nz_nn (show n < 2147483648 by omega), hn, and_self, if_true]
  rw [HK_up (k := .inl (t, N)) ha hk _ (fun j h => ms_ne h) (fun j _ => rfl)]
  rw [ms_at]
  simp only [obK, if_neg ht]
  rfl
theorem agn_HK {N : Nat} (hk : K[a]? = some (.inl (0, N))) (ha : a < RO) : agn (HK K e m w) a = some (nz N) := by
  unfold agn
  rw [HK_at ha hk]
  simp [obK, nz]
theorem agl_HK {n N : Nat} (hk : K[a]? = some (.inl (1, N))) (hn : n < N) (hN : N < 100000) (ha : a < RO) : agl (HK K e m w) a (nz n) = some (w a n) := by
  unfold agl
  rw [HK_at ha hk]
  simp only [obK, if_true, nz_cl (show n < 2147483648 by omega), nz_nn (show n < 2147483648 by omega), hn, and_self]
theorem apl_HK {n N : Nat} {x : Int64} (hk : K[a]? = some (.inl (1, N))) (hn : n < N) (hN : N < 100000) (ha : a < RO) : apl (HK K e m w) a (nz n) x = some (HK K e m (ml w a n x)) := by
  unfold apl
  rw [HK_at ha hk]
  simp only [obK, if_true, nz_cl (show n < 2147483648 by omega), nz_nn (show n < 2147483648 by omega), hn, and_self]
  rw [HK_up (k := .inl (1, N)) ha hk _ (fun j _ => rfl) (fun j h => ml_ne h)]
  rw [ml_at]
  simp only [obK, if_true]
  rfl
theorem aga_HK {n : Nat} {ps : List Nat} (hk : K[a]? = some (.inr (.inr ps))) (hn : n < ps.length) (hN : ps.length < 100000) (ha : a < RO) : aga (HK K e m w) a (nz n) = some (ps.getD n 0) := by
  unfold aga
  rw [HK_at ha hk]
  simp only [obK, nz_cl (show n < 2147483648 by omega), nz_nn (show n < 2147483648 by omega), hn, and_self, if_true]
  rw [List.getElem?_eq_getElem hn, List.getD_eq_getElem?_getD, List.getElem?_eq_getElem hn]
  rfl
theorem RO_at {k : Nat} (h9 : k ≠ 999) : (HK K e m w).2 (RO + k) = .inl (9, (e k).1, .inl (e k).2) := by
  show (if RO + k < RO then _ else Sum.inl (9, (eZ9 e (RO + k - RO)).1, Sum.inl (eZ9 e (RO + k - RO)).2)) = _
  have hz : eZ9 e k = e k := if_neg h9
  rw [if_neg (by omega), show RO + k - RO = k by omega, hz]
theorem agi_RO {k n : Nat} (hn : n < (e k).1) (hN : n < 2147483648) (h9 : k ≠ 999 := by decide) : agi 0 (HK K e m w) (RO + k) (nz n) = some ((e k).2 n) := by
  unfold agi
  rw [RO_at h9]
  simp only [nz_cl hN, nz_nn hN, hn, and_self, if_true]
  simp
theorem agn_RO {k : Nat} (h9 : k ≠ 999 := by decide) : agn (HK K e m w) (RO + k) = some (nz (e k).1) := by
  unfold agn
  rw [RO_at h9]
  simp [nz]
end
def kdL : List Kd := [.inr (.inl (7, [some (some 1), some (some 16), some (some 31), some (some 35), some (some 39), none, none, some (some 40), some (some 41), some (some 42)])),
  .inr (.inl (6, [some (some 2), some (some 5), some (some 7), some (some 9), some (some 12), some (some 13), none, none, some (some 14), some (some 15)])),
  .inr (.inl (1, [none, none, none, some (some 3), some (some 4)])),
  .inl (0, 96),
  .inl (0, 96),
  .inr (.inl (2, [none, some (some 6)])),
  .inl (0, 48),
  .inr (.inl (5, [none, none, some (some 8)])),
  .inl (0, 768),
  .inr (.inl (0, [some (some 10), some (some 11)])),
  .inl (0, 4),
  .inl (0, 10),
  .inl (0, 3),
  .inl (0, 128),
  .inl (0, 12),
  .inl (0, 96),
  .inr (.inl (6, [some (some 17), some (some 20), some (some 22), some (some 24), some (some 27), some (some 28), none, none, some (some 29), some (some 30)])),
  .inr (.inl (1, [none, none, none, some (some 18), some (some 19)])),
  .inl (0, 96),
  .inl (0, 96),
  .inr (.inl (2, [none, some (some 21)])),
  .inl (0, 48),
  .inr (.inl (5, [none, none, some (some 23)])),
  .inl (0, 768),
  .inr (.inl (0, [some (some 25), some (some 26)])),
  .inl (0, 4),
  .inl (0, 10),
  .inl (0, 3),
  .inl (0, 128),
  .inl (0, 12),
  .inl (0, 96),
  .inr (.inl (4, [some (some 32), some (some 33), some (some 34)])),
  .inl (0, 96),
  .inl (0, 12),
  .inl (0, 2),
  .inr (.inl (3, [some (some 36), none, some (some 37), none, none, none, some (some 38), none, none, none, none, none, none, none])),
  .inl (3, 80),
  .inl (0, 128),
  .inl (2, 64),
  .inr (.inr [43, 58, 73, 88]),
  .inr (.inr [103, 118]),
  .inl (2, 2),
  .inl (1, 2928),
  .inr (.inl (6, [some (some 44), some (some 47), some (some 49), some (some 51), some (some 54), some (some 55), none, none, some (some 56), some (some 57)])),
  .inr (.inl (1, [none, none, none, some (some 45), some (some 46)])),
  .inl (0, 96),
  .inl (0, 96),
  .inr (.inl (2, [none, some (some 48)])),
  .inl (0, 48),
  .inr (.inl (5, [none, none, some (some 50)])),
  .inl (0, 768),
  .inr (.inl (0, [some (some 52), some (some 53)])),
  .inl (0, 4),
  .inl (0, 10),
  .inl (0, 3),
  .inl (0, 128),
  .inl (0, 12),
  .inl (0, 96),
  .inr (.inl (6, [some (some 59), some (some 62), some (some 64), some (some 66), some (some 69), some (some 70), none, none, some (some 71), some (some 72)])),
  .inr (.inl (1, [none, none, none, some (some 60), some (some 61)])),
  .inl (0, 96),
  .inl (0, 96),
  .inr (.inl (2, [none, some (some 63)])),
  .inl (0, 48),
  .inr (.inl (5, [none, none, some (some 65)])),
  .inl (0, 768),
  .inr (.inl (0, [some (some 67), some (some 68)])),
  .inl (0, 4),
  .inl (0, 10),
  .inl (0, 3),
  .inl (0, 128),
  .inl (0, 12),
  .inl (0, 96),
  .inr (.inl (6, [some (some 74), some (some 77), some (some 79), some (some 81), some (some 84), some (some 85), none, none, some (some 86), some (some 87)])),
  .inr (.inl (1, [none, none, none, some (some 75), some (some 76)])),
  .inl (0, 96),
  .inl (0, 96),
  .inr (.inl (2, [none, some (some 78)])),
  .inl (0, 48),
  .inr (.inl (5, [none, none, some (some 80)])),
  .inl (0, 768),
  .inr (.inl (0, [some (some 82), some (some 83)])),
  .inl (0, 4),
  .inl (0, 10),
  .inl (0, 3),
  .inl (0, 128),
  .inl (0, 12),
  .inl (0, 96),
  .inr (.inl (6, [some (some 89), some (some 92), some (some 94), some (some 96), some (some 99), some (some 100), none, none, some (some 101), some (some 102)])),
  .inr (.inl (1, [none, none, none, some (some 90), some (some 91)])),
  .inl (0, 96),
  .inl (0, 96),
  .inr (.inl (2, [none, some (some 93)])),
  .inl (0, 48),
  .inr (.inl (5, [none, none, some (some 95)])),
  .inl (0, 768),
  .inr (.inl (0, [some (some 97), some (some 98)])),
  .inl (0, 4),
  .inl (0, 10),
  .inl (0, 3),
  .inl (0, 128),
  .inl (0, 12),
  .inl (0, 96),
  .inr (.inl (6, [some (some 104), some (some 107), some (some 109), some (some 111), some (some 114), some (some 115), none, none, some (some 116), some (some 117)])),
  .inr (.inl (1, [none, none, none, some (some 105), some (some 106)])),
  .inl (0, 96),
  .inl (0, 96),
  .inr (.inl (2, [none, some (some 108)])),
  .inl (0, 48),
  .inr (.inl (5, [none, none, some (some 110)])),
  .inl (0, 768),
  .inr (.inl (0, [some (some 112), some (some 113)])),
  .inl (0, 4),
  .inl (0, 10),
  .inl (0, 3),
  .inl (0, 128),
  .inl (0, 12),
  .inl (0, 96),
  .inr (.inl (6, [some (some 119), some (some 122), some (some 124), some (some 126), some (some 129), some (some 130), none, none, some (some 131), some (some 132)])),
  .inr (.inl (1, [none, none, none, some (some 120), some (some 121)])),
  .inl (0, 96),
  .inl (0, 96),
  .inr (.inl (2, [none, some (some 123)])),
  .inl (0, 48),
  .inr (.inl (5, [none, none, some (some 125)])),
  .inl (0, 768),
  .inr (.inl (0, [some (some 127), some (some 128)])),
  .inl (0, 4),
  .inl (0, 10),
  .inl (0, 3),
  .inl (0, 128),
  .inl (0, 12),
  .inl (0, 96),
  .inr (.inl (8, [some (some 134), some (some 135), some (some 136), some (some 137), some (some 138), some (some 139), some (some 140), some (some 141), some (some 142), none, none, some (some 143), none, none, none, none, none, some (some 144), some (some 145)])),
  .inl (0, 1523),
  .inl (0, 6092),
  .inl (0, 3046),
  .inl (2, 2),
  .inl (0, 1523),
  .inl (0, 1523),
  .inl (0, 31232),
  .inl (0, 512),
  .inl (0, 12),
  .inl (0, 80),
  .inl (0, 128),
  .inl (2, 64),
  .inl (1, 1)]
abbrev HM (e : Nat → Nat × (Nat → Int32)) (m : Mm) (w : Ml) : Hp := HK kdL e m w
def TB (b : Nat) : Prop := b = 1 ∨ b = 16 ∨ b = 43 ∨ b = 58 ∨ b = 73 ∨ b = 88 ∨ b = 103 ∨ b = 118
theorem TB.lt {b : Nat} (hb : TB b) : b + 14 < 133 := by
  rcases hb with rfl | rfl | rfl | rfl | rfl | rfl | rfl | rfl <;> decide
theorem kd_t0 {b : Nat} (hb : TB b) : kdL[b + 0]? = some (.inr (.inl (6, [some (some (b + 1)), some (some (b + 4)), some (some (b + 6)), some (some (b + 8)), some (some (b + 11)), some (some (b + 12)), none, none, some (some (b + 13)), some (some (b + 14))]))) := by
  rcases hb with rfl | rfl | rfl | rfl | rfl | rfl | rfl | rfl <;> rfl
theorem kd_t1 {b : Nat} (hb : TB b) : kdL[b + 1]? = some (.inr (.inl (1, [none, none, none, some (some (b + 2)), some (some (b + 3))]))) := by
  rcases hb with rfl | rfl | rfl | rfl | rfl | rfl | rfl | rfl <;> rfl
theorem kd_t2 {b : Nat} (hb : TB b) : kdL[b + 2]? = some (.inl (0, 96)) := by
  rcases hb with rfl | rfl | rfl | rfl | rfl | rfl | rfl | rfl <;> rfl
theorem kd_t3 {b : Nat} (hb : TB b) : kdL[b + 3]? = some (.inl (0, 96)) := by
  rcases hb with rfl | rfl | rfl | rfl | rfl | rfl | rfl | rfl <;> rfl
theorem kd_t4 {b : Nat} (hb : TB b) : kdL[b + 4]? = some (.inr (.inl (2, [none, some (some (b + 5))]))) := by
  rcases hb with rfl | rfl | rfl | rfl | rfl | rfl | rfl | rfl <;> rfl
theorem kd_t5 {b : Nat} (hb : TB b) : kdL[b + 5]? = some (.inl (0, 48)) := by
  rcases hb with rfl | rfl | rfl | rfl | rfl | rfl | rfl | rfl <;> rfl
theorem kd_t6 {b : Nat} (hb : TB b) : kdL[b + 6]? = some (.inr (.inl (5, [none, none, some (some (b + 7))]))) := by
  rcases hb with rfl | rfl | rfl | rfl | rfl | rfl | rfl | rfl <;> rfl
theorem kd_t7 {b : Nat} (hb : TB b) : kdL[b + 7]? = some (.inl (0, 768)) := by
  rcases hb with rfl | rfl | rfl | rfl | rfl | rfl | rfl | rfl <;> rfl
theorem kd_t8 {b : Nat} (hb : TB b) : kdL[b + 8]? = some (.inr (.inl (0, [some (some (b + 9)), some (some (b + 10))]))) := by
  rcases hb with rfl | rfl | rfl | rfl | rfl | rfl | rfl | rfl <;> rfl
theorem kd_t9 {b : Nat} (hb : TB b) : kdL[b + 9]? = some (.inl (0, 4)) := by
  rcases hb with rfl | rfl | rfl | rfl | rfl | rfl | rfl | rfl <;> rfl
theorem kd_t10 {b : Nat} (hb : TB b) : kdL[b + 10]? = some (.inl (0, 10)) := by
  rcases hb with rfl | rfl | rfl | rfl | rfl | rfl | rfl | rfl <;> rfl
theorem kd_t11 {b : Nat} (hb : TB b) : kdL[b + 11]? = some (.inl (0, 3)) := by
  rcases hb with rfl | rfl | rfl | rfl | rfl | rfl | rfl | rfl <;> rfl
theorem kd_t12 {b : Nat} (hb : TB b) : kdL[b + 12]? = some (.inl (0, 128)) := by
  rcases hb with rfl | rfl | rfl | rfl | rfl | rfl | rfl | rfl <;> rfl
theorem kd_t13 {b : Nat} (hb : TB b) : kdL[b + 13]? = some (.inl (0, 12)) := by
  rcases hb with rfl | rfl | rfl | rfl | rfl | rfl | rfl | rfl <;> rfl
theorem kd_t14 {b : Nat} (hb : TB b) : kdL[b + 14]? = some (.inl (0, 96)) := by
  rcases hb with rfl | rfl | rfl | rfl | rfl | rfl | rfl | rfl <;> rfl
theorem gd_t0 {b : Nat} (hb : TB b) {e : Nat → Nat × (Nat → Int32)} {m : Mm} {w : Ml} {f : MX} {vs : List Value} : gd 6 f (.ref (b) :: vs) (HM e m w) = f (.ref (b) :: vs) (HM e m w) := gd_HK (kd_t0 hb) (by have := hb.lt; unfold RO; omega)
theorem rf_t0_0 {b : Nat} (hb : TB b) {e : Nat → Nat × (Nat → Int32)} {m : Mm} {w : Ml}  : fga (HM e m w) (b) 6 0 = some (b + 1) := fga_HK (kd_t0 hb) rfl (by have := hb.lt; unfold RO; omega)
theorem rf_t0_1 {b : Nat} (hb : TB b) {e : Nat → Nat × (Nat → Int32)} {m : Mm} {w : Ml}  : fga (HM e m w) (b) 6 1 = some (b + 4) := fga_HK (kd_t0 hb) rfl (by have := hb.lt; unfold RO; omega)
theorem rf_t0_2 {b : Nat} (hb : TB b) {e : Nat → Nat × (Nat → Int32)} {m : Mm} {w : Ml}  : fga (HM e m w) (b) 6 2 = some (b + 6) := fga_HK (kd_t0 hb) rfl (by have := hb.lt; unfold RO; omega)
theorem rf_t0_3 {b : Nat} (hb : TB b) {e : Nat → Nat × (Nat → Int32)} {m : Mm} {w : Ml}  : fga (HM e m w) (b) 6 3 = some (b + 8) := fga_HK (kd_t0 hb) rfl (by have := hb.lt; unfold RO; omega)
theorem rf_t0_4 {b : Nat} (hb : TB b) {e : Nat → Nat × (Nat → Int32)} {m : Mm} {w : Ml}  : fga (HM e m w) (b) 6 4 = some (b + 11) := fga_HK (kd_t0 hb) rfl (by have := hb.lt; unfold RO; omega)
theorem rf_t0_5 {b : Nat} (hb : TB b) {e : Nat → Nat × (Nat → Int32)} {m : Mm} {w : Ml}  : fga (HM e m w) (b) 6 5 = some (b + 12) := fga_HK (kd_t0 hb) rfl (by have := hb.lt; unfold RO; omega)
theorem rd_t0_6 {b : Nat} (hb : TB b) {e : Nat → Nat × (Nat → Int32)} {m : Mm} {w : Ml}  : fgi (HM e m w) (b) 6 6 = some (m (b) 6) := fgi_HK (kd_t0 hb) rfl (by have := hb.lt; unfold RO; omega)
theorem wr_t0_6 {b : Nat} (hb : TB b) {e : Nat → Nat × (Nat → Int32)} {m : Mm} {w : Ml}  {x : Int32} : fp (HM e m w) (b) 6 6 (.int x) = some (HM e (ms m (b) 6 x) w) := fp_HK (kd_t0 hb) rfl (by have := hb.lt; unfold RO; omega)
theorem rd_t0_7 {b : Nat} (hb : TB b) {e : Nat → Nat × (Nat → Int32)} {m : Mm} {w : Ml}  : fgi (HM e m w) (b) 6 7 = some (m (b) 7) := fgi_HK (kd_t0 hb) rfl (by have := hb.lt; unfold RO; omega)
theorem wr_t0_7 {b : Nat} (hb : TB b) {e : Nat → Nat × (Nat → Int32)} {m : Mm} {w : Ml}  {x : Int32} : fp (HM e m w) (b) 6 7 (.int x) = some (HM e (ms m (b) 7 x) w) := fp_HK (kd_t0 hb) rfl (by have := hb.lt; unfold RO; omega)
theorem rf_t0_8 {b : Nat} (hb : TB b) {e : Nat → Nat × (Nat → Int32)} {m : Mm} {w : Ml}  : fga (HM e m w) (b) 6 8 = some (b + 13) := fga_HK (kd_t0 hb) rfl (by have := hb.lt; unfold RO; omega)
theorem rf_t0_9 {b : Nat} (hb : TB b) {e : Nat → Nat × (Nat → Int32)} {m : Mm} {w : Ml}  : fga (HM e m w) (b) 6 9 = some (b + 14) := fga_HK (kd_t0 hb) rfl (by have := hb.lt; unfold RO; omega)
theorem gd_t1 {b : Nat} (hb : TB b) {e : Nat → Nat × (Nat → Int32)} {m : Mm} {w : Ml} {f : MX} {vs : List Value} : gd 1 f (.ref (b + 1) :: vs) (HM e m w) = f (.ref (b + 1) :: vs) (HM e m w) := gd_HK (kd_t1 hb) (by have := hb.lt; unfold RO; omega)
theorem rd_t1_0 {b : Nat} (hb : TB b) {e : Nat → Nat × (Nat → Int32)} {m : Mm} {w : Ml}  : fgi (HM e m w) (b + 1) 1 0 = some (m (b + 1) 0) := fgi_HK (kd_t1 hb) rfl (by have := hb.lt; unfold RO; omega)
theorem wr_t1_0 {b : Nat} (hb : TB b) {e : Nat → Nat × (Nat → Int32)} {m : Mm} {w : Ml}  {x : Int32} : fp (HM e m w) (b + 1) 1 0 (.int x) = some (HM e (ms m (b + 1) 0 x) w) := fp_HK (kd_t1 hb) rfl (by have := hb.lt; unfold RO; omega)
theorem rd_t1_1 {b : Nat} (hb : TB b) {e : Nat → Nat × (Nat → Int32)} {m : Mm} {w : Ml}  : fgi (HM e m w) (b + 1) 1 1 = some (m (b + 1) 1) := fgi_HK (kd_t1 hb) rfl (by have := hb.lt; unfold RO; omega)
theorem wr_t1_1 {b : Nat} (hb : TB b) {e : Nat → Nat × (Nat → Int32)} {m : Mm} {w : Ml}  {x : Int32} : fp (HM e m w) (b + 1) 1 1 (.int x) = some (HM e (ms m (b + 1) 1 x) w) := fp_HK (kd_t1 hb) rfl (by have := hb.lt; unfold RO; omega)
theorem rd_t1_2 {b : Nat} (hb : TB b) {e : Nat → Nat × (Nat → Int32)} {m : Mm} {w : Ml}  : fgi (HM e m w) (b + 1) 1 2 = some (m (b + 1) 2) := fgi_HK (kd_t1 hb) rfl (by have := hb.lt; unfold RO; omega)
theorem wr_t1_2 {b : Nat} (hb : TB b) {e : Nat → Nat × (Nat → Int32)} {m : Mm} {w : Ml}  {x : Int32} : fp (HM e m w) (b + 1) 1 2 (.int x) = some (HM e (ms m (b + 1) 2 x) w) := fp_HK (kd_t1 hb) rfl (by have := hb.lt; unfold RO; omega)
theorem rf_t1_3 {b : Nat} (hb : TB b) {e : Nat → Nat × (Nat → Int32)} {m : Mm} {w : Ml}  : fga (HM e m w) (b + 1) 1 3 = some (b + 2) := fga_HK (kd_t1 hb) rfl (by have := hb.lt; unfold RO; omega)
theorem rf_t1_4 {b : Nat} (hb : TB b) {e : Nat → Nat × (Nat → Int32)} {m : Mm} {w : Ml}  : fga (HM e m w) (b + 1) 1 4 = some (b + 3) := fga_HK (kd_t1 hb) rfl (by have := hb.lt; unfold RO; omega)
theorem ar_t2 {b : Nat} (hb : TB b) {e : Nat → Nat × (Nat → Int32)} {m : Mm} {w : Ml}  {n : Nat} (hn : n < 96) : agi 0 (HM e m w) (b + 2) (nz n) = some (m (b + 2) n) := agi_HK (kd_t2 hb) (by decide) hn (by omega) (by have := hb.lt; unfold RO; omega)
theorem aw_t2 {b : Nat} (hb : TB b) {e : Nat → Nat × (Nat → Int32)} {m : Mm} {w : Ml}  {n : Nat} {x : Int32} (hn : n < 96) : api 0 (HM e m w) (b + 2) (nz n) x = some (HM e (ms m (b + 2) n (nar 0 x)) w) := api_HK (kd_t2 hb) (by decide) hn (by omega) (by have := hb.lt; unfold RO; omega)
theorem an_t2 {b : Nat} (hb : TB b) {e : Nat → Nat × (Nat → Int32)} {m : Mm} {w : Ml}  : agn (HM e m w) (b + 2) = some (nz 96) := agn_HK (kd_t2 hb) (by have := hb.lt; unfold RO; omega)
theorem ar_t3 {b : Nat} (hb : TB b) {e : Nat → Nat × (Nat → Int32)} {m : Mm} {w : Ml}  {n : Nat} (hn : n < 96) : agi 0 (HM e m w) (b + 3) (nz n) = some (m (b + 3) n) := agi_HK (kd_t3 hb) (by decide) hn (by omega) (by have := hb.lt; unfold RO; omega)
theorem aw_t3 {b : Nat} (hb : TB b) {e : Nat → Nat × (Nat → Int32)} {m : Mm} {w : Ml}  {n : Nat} {x : Int32} (hn : n < 96) : api 0 (HM e m w) (b + 3) (nz n) x = some (HM e (ms m (b + 3) n (nar 0 x)) w) := api_HK (kd_t3 hb) (by decide) hn (by omega) (by have := hb.lt; unfold RO; omega)
theorem an_t3 {b : Nat} (hb : TB b) {e : Nat → Nat × (Nat → Int32)} {m : Mm} {w : Ml}  : agn (HM e m w) (b + 3) = some (nz 96) := agn_HK (kd_t3 hb) (by have := hb.lt; unfold RO; omega)
theorem gd_t4 {b : Nat} (hb : TB b) {e : Nat → Nat × (Nat → Int32)} {m : Mm} {w : Ml} {f : MX} {vs : List Value} : gd 2 f (.ref (b + 4) :: vs) (HM e m w) = f (.ref (b + 4) :: vs) (HM e m w) := gd_HK (kd_t4 hb) (by have := hb.lt; unfold RO; omega)
theorem rd_t4_0 {b : Nat} (hb : TB b) {e : Nat → Nat × (Nat → Int32)} {m : Mm} {w : Ml}  : fgi (HM e m w) (b + 4) 2 0 = some (m (b + 4) 0) := fgi_HK (kd_t4 hb) rfl (by have := hb.lt; unfold RO; omega)
theorem wr_t4_0 {b : Nat} (hb : TB b) {e : Nat → Nat × (Nat → Int32)} {m : Mm} {w : Ml}  {x : Int32} : fp (HM e m w) (b + 4) 2 0 (.int x) = some (HM e (ms m (b + 4) 0 x) w) := fp_HK (kd_t4 hb) rfl (by have := hb.lt; unfold RO; omega)
theorem rf_t4_1 {b : Nat} (hb : TB b) {e : Nat → Nat × (Nat → Int32)} {m : Mm} {w : Ml}  : fga (HM e m w) (b + 4) 2 1 = some (b + 5) := fga_HK (kd_t4 hb) rfl (by have := hb.lt; unfold RO; omega)
theorem ar_t5 {b : Nat} (hb : TB b) {e : Nat → Nat × (Nat → Int32)} {m : Mm} {w : Ml}  {n : Nat} (hn : n < 48) : agi 0 (HM e m w) (b + 5) (nz n) = some (m (b + 5) n) := agi_HK (kd_t5 hb) (by decide) hn (by omega) (by have := hb.lt; unfold RO; omega)
theorem aw_t5 {b : Nat} (hb : TB b) {e : Nat → Nat × (Nat → Int32)} {m : Mm} {w : Ml}  {n : Nat} {x : Int32} (hn : n < 48) : api 0 (HM e m w) (b + 5) (nz n) x = some (HM e (ms m (b + 5) n (nar 0 x)) w) := api_HK (kd_t5 hb) (by decide) hn (by omega) (by have := hb.lt; unfold RO; omega)
theorem an_t5 {b : Nat} (hb : TB b) {e : Nat → Nat × (Nat → Int32)} {m : Mm} {w : Ml}  : agn (HM e m w) (b + 5) = some (nz 48) := agn_HK (kd_t5 hb) (by have := hb.lt; unfold RO; omega)
theorem gd_t6 {b : Nat} (hb : TB b) {e : Nat → Nat × (Nat → Int32)} {m : Mm} {w : Ml} {f : MX} {vs : List Value} : gd 5 f (.ref (b + 6) :: vs) (HM e m w) = f (.ref (b + 6) :: vs) (HM e m w) := gd_HK (kd_t6 hb) (by have := hb.lt; unfold RO; omega)
theorem rd_t6_0 {b : Nat} (hb : TB b) {e : Nat → Nat × (Nat → Int32)} {m : Mm} {w : Ml}  : fgi (HM e m w) (b + 6) 5 0 = some (m (b + 6) 0) := fgi_HK (kd_t6 hb) rfl (by have := hb.lt; unfold RO; omega)
theorem wr_t6_0 {b : Nat} (hb : TB b) {e : Nat → Nat × (Nat → Int32)} {m : Mm} {w : Ml}  {x : Int32} : fp (HM e m w) (b + 6) 5 0 (.int x) = some (HM e (ms m (b + 6) 0 x) w) := fp_HK (kd_t6 hb) rfl (by have := hb.lt; unfold RO; omega)
theorem rd_t6_1 {b : Nat} (hb : TB b) {e : Nat → Nat × (Nat → Int32)} {m : Mm} {w : Ml}  : fgi (HM e m w) (b + 6) 5 1 = some (m (b + 6) 1) := fgi_HK (kd_t6 hb) rfl (by have := hb.lt; unfold RO; omega)
theorem wr_t6_1 {b : Nat} (hb : TB b) {e : Nat → Nat × (Nat → Int32)} {m : Mm} {w : Ml}  {x : Int32} : fp (HM e m w) (b + 6) 5 1 (.int x) = some (HM e (ms m (b + 6) 1 x) w) := fp_HK (kd_t6 hb) rfl (by have := hb.lt; unfold RO; omega)
theorem rf_t6_2 {b : Nat} (hb : TB b) {e : Nat → Nat × (Nat → Int32)} {m : Mm} {w : Ml}  : fga (HM e m w) (b + 6) 5 2 = some (b + 7) := fga_HK (kd_t6 hb) rfl (by have := hb.lt; unfold RO; omega)
theorem ar_t7 {b : Nat} (hb : TB b) {e : Nat → Nat × (Nat → Int32)} {m : Mm} {w : Ml}  {n : Nat} (hn : n < 768) : agi 0 (HM e m w) (b + 7) (nz n) = some (m (b + 7) n) := agi_HK (kd_t7 hb) (by decide) hn (by omega) (by have := hb.lt; unfold RO; omega)
theorem aw_t7 {b : Nat} (hb : TB b) {e : Nat → Nat × (Nat → Int32)} {m : Mm} {w : Ml}  {n : Nat} {x : Int32} (hn : n < 768) : api 0 (HM e m w) (b + 7) (nz n) x = some (HM e (ms m (b + 7) n (nar 0 x)) w) := api_HK (kd_t7 hb) (by decide) hn (by omega) (by have := hb.lt; unfold RO; omega)
theorem an_t7 {b : Nat} (hb : TB b) {e : Nat → Nat × (Nat → Int32)} {m : Mm} {w : Ml}  : agn (HM e m w) (b + 7) = some (nz 768) := agn_HK (kd_t7 hb) (by have := hb.lt; unfold RO; omega)
theorem gd_t8 {b : Nat} (hb : TB b) {e : Nat → Nat × (Nat → Int32)} {m : Mm} {w : Ml} {f : MX} {vs : List Value} : gd 0 f (.ref (b + 8) :: vs) (HM e m w) = f (.ref (b + 8) :: vs) (HM e m w) := gd_HK (kd_t8 hb) (by have := hb.lt; unfold RO; omega)
theorem rf_t8_0 {b : Nat} (hb : TB b) {e : Nat → Nat × (Nat → Int32)} {m : Mm} {w : Ml}  : fga (HM e m w) (b + 8) 0 0 = some (b + 9) := fga_HK (kd_t8 hb) rfl (by have := hb.lt; unfold RO; omega)
theorem rf_t8_1 {b : Nat} (hb : TB b) {e : Nat → Nat × (Nat → Int32)} {m : Mm} {w : Ml}  : fga (HM e m w) (b + 8) 0 1 = some (b + 10) := fga_HK (kd_t8 hb) rfl (by have := hb.lt; unfold RO; omega)
theorem ar_t9 {b : Nat} (hb : TB b) {e : Nat → Nat × (Nat → Int32)} {m : Mm} {w : Ml}  {n : Nat} (hn : n < 4) : agi 0 (HM e m w) (b + 9) (nz n) = some (m (b + 9) n) := agi_HK (kd_t9 hb) (by decide) hn (by omega) (by have := hb.lt; unfold RO; omega)
theorem aw_t9 {b : Nat} (hb : TB b) {e : Nat → Nat × (Nat → Int32)} {m : Mm} {w : Ml}  {n : Nat} {x : Int32} (hn : n < 4) : api 0 (HM e m w) (b + 9) (nz n) x = some (HM e (ms m (b + 9) n (nar 0 x)) w) := api_HK (kd_t9 hb) (by decide) hn (by omega) (by have := hb.lt; unfold RO; omega)
theorem an_t9 {b : Nat} (hb : TB b) {e : Nat → Nat × (Nat → Int32)} {m : Mm} {w : Ml}  : agn (HM e m w) (b + 9) = some (nz 4) := agn_HK (kd_t9 hb) (by have := hb.lt; unfold RO; omega)
theorem ar_t10 {b : Nat} (hb : TB b) {e : Nat → Nat × (Nat → Int32)} {m : Mm} {w : Ml}  {n : Nat} (hn : n < 10) : agi 0 (HM e m w) (b + 10) (nz n) = some (m (b + 10) n) := agi_HK (kd_t10 hb) (by decide) hn (by omega) (by have := hb.lt; unfold RO; omega)
theorem aw_t10 {b : Nat} (hb : TB b) {e : Nat → Nat × (Nat → Int32)} {m : Mm} {w : Ml}  {n : Nat} {x : Int32} (hn : n < 10) : api 0 (HM e m w) (b + 10) (nz n) x = some (HM e (ms m (b + 10) n (nar 0 x)) w) := api_HK (kd_t10 hb) (by decide) hn (by omega) (by have := hb.lt; unfold RO; omega)
theorem an_t10 {b : Nat} (hb : TB b) {e : Nat → Nat × (Nat → Int32)} {m : Mm} {w : Ml}  : agn (HM e m w) (b + 10) = some (nz 10) := agn_HK (kd_t10 hb) (by have := hb.lt; unfold RO; omega)
theorem ar_t11 {b : Nat} (hb : TB b) {e : Nat → Nat × (Nat → Int32)} {m : Mm} {w : Ml}  {n : Nat} (hn : n < 3) : agi 0 (HM e m w) (b + 11) (nz n) = some (m (b + 11) n) := agi_HK (kd_t11 hb) (by decide) hn (by omega) (by have := hb.lt; unfold RO; omega)
theorem aw_t11 {b : Nat} (hb : TB b) {e : Nat → Nat × (Nat → Int32)} {m : Mm} {w : Ml}  {n : Nat} {x : Int32} (hn : n < 3) : api 0 (HM e m w) (b + 11) (nz n) x = some (HM e (ms m (b + 11) n (nar 0 x)) w) := api_HK (kd_t11 hb) (by decide) hn (by omega) (by have := hb.lt; unfold RO; omega)
theorem an_t11 {b : Nat} (hb : TB b) {e : Nat → Nat × (Nat → Int32)} {m : Mm} {w : Ml}  : agn (HM e m w) (b + 11) = some (nz 3) := agn_HK (kd_t11 hb) (by have := hb.lt; unfold RO; omega)
theorem ar_t12 {b : Nat} (hb : TB b) {e : Nat → Nat × (Nat → Int32)} {m : Mm} {w : Ml}  {n : Nat} (hn : n < 128) : agi 0 (HM e m w) (b + 12) (nz n) = some (m (b + 12) n) := agi_HK (kd_t12 hb) (by decide) hn (by omega) (by have := hb.lt; unfold RO; omega)
theorem aw_t12 {b : Nat} (hb : TB b) {e : Nat → Nat × (Nat → Int32)} {m : Mm} {w : Ml}  {n : Nat} {x : Int32} (hn : n < 128) : api 0 (HM e m w) (b + 12) (nz n) x = some (HM e (ms m (b + 12) n (nar 0 x)) w) := api_HK (kd_t12 hb) (by decide) hn (by omega) (by have := hb.lt; unfold RO; omega)
theorem an_t12 {b : Nat} (hb : TB b) {e : Nat → Nat × (Nat → Int32)} {m : Mm} {w : Ml}  : agn (HM e m w) (b + 12) = some (nz 128) := agn_HK (kd_t12 hb) (by have := hb.lt; unfold RO; omega)
theorem ar_t13 {b : Nat} (hb : TB b) {e : Nat → Nat × (Nat → Int32)} {m : Mm} {w : Ml}  {n : Nat} (hn : n < 12) : agi 0 (HM e m w) (b + 13) (nz n) = some (m (b + 13) n) := agi_HK (kd_t13 hb) (by decide) hn (by omega) (by have := hb.lt; unfold RO; omega)
theorem aw_t13 {b : Nat} (hb : TB b) {e : Nat → Nat × (Nat → Int32)} {m : Mm} {w : Ml}  {n : Nat} {x : Int32} (hn : n < 12) : api 0 (HM e m w) (b + 13) (nz n) x = some (HM e (ms m (b + 13) n (nar 0 x)) w) := api_HK (kd_t13 hb) (by decide) hn (by omega) (by have := hb.lt; unfold RO; omega)
theorem an_t13 {b : Nat} (hb : TB b) {e : Nat → Nat × (Nat → Int32)} {m : Mm} {w : Ml}  : agn (HM e m w) (b + 13) = some (nz 12) := agn_HK (kd_t13 hb) (by have := hb.lt; unfold RO; omega)
theorem ar_t14 {b : Nat} (hb : TB b) {e : Nat → Nat × (Nat → Int32)} {m : Mm} {w : Ml}  {n : Nat} (hn : n < 96) : agi 0 (HM e m w) (b + 14) (nz n) = some (m (b + 14) n) := agi_HK (kd_t14 hb) (by decide) hn (by omega) (by have := hb.lt; unfold RO; omega)
theorem aw_t14 {b : Nat} (hb : TB b) {e : Nat → Nat × (Nat → Int32)} {m : Mm} {w : Ml}  {n : Nat} {x : Int32} (hn : n < 96) : api 0 (HM e m w) (b + 14) (nz n) x = some (HM e (ms m (b + 14) n (nar 0 x)) w) := api_HK (kd_t14 hb) (by decide) hn (by omega) (by have := hb.lt; unfold RO; omega)
theorem an_t14 {b : Nat} (hb : TB b) {e : Nat → Nat × (Nat → Int32)} {m : Mm} {w : Ml}  : agn (HM e m w) (b + 14) = some (nz 96) := agn_HK (kd_t14 hb) (by have := hb.lt; unfold RO; omega)
theorem kd_0 : kdL[(0 : Nat)]? = some (.inr (.inl (7, [some (some 1), some (some 16), some (some 31), some (some 35), some (some 39), none, none, some (some 40), some (some 41), some (some 42)]))) := rfl
theorem gd_0 {e : Nat → Nat × (Nat → Int32)} {m : Mm} {w : Ml} {f : MX} {vs : List Value} : gd 7 f (.ref (0) :: vs) (HM e m w) = f (.ref (0) :: vs) (HM e m w) := gd_HK (kd_0) (by decide)
theorem rf_0_0 {e : Nat → Nat × (Nat → Int32)} {m : Mm} {w : Ml}  : fga (HM e m w) (0) 7 0 = some (1) := fga_HK (kd_0) rfl (by decide)
theorem rf_0_1 {e : Nat → Nat × (Nat → Int32)} {m : Mm} {w : Ml}  : fga (HM e m w) (0) 7 1 = some (16) := fga_HK (kd_0) rfl (by decide)
theorem rf_0_2 {e : Nat → Nat × (Nat → Int32)} {m : Mm} {w : Ml}  : fga (HM e m w) (0) 7 2 = some (31) := fga_HK (kd_0) rfl (by decide)
theorem rf_0_3 {e : Nat → Nat × (Nat → Int32)} {m : Mm} {w : Ml}  : fga (HM e m w) (0) 7 3 = some (35) := fga_HK (kd_0) rfl (by decide)
theorem rf_0_4 {e : Nat → Nat × (Nat → Int32)} {m : Mm} {w : Ml}  : fga (HM e m w) (0) 7 4 = some (39) := fga_HK (kd_0) rfl (by decide)
theorem rd_0_5 {e : Nat → Nat × (Nat → Int32)} {m : Mm} {w : Ml}  : fgi (HM e m w) (0) 7 5 = some (m (0) 5) := fgi_HK (kd_0) rfl (by decide)
theorem wr_0_5 {e : Nat → Nat × (Nat → Int32)} {m : Mm} {w : Ml}  {x : Int32} : fp (HM e m w) (0) 7 5 (.int x) = some (HM e (ms m (0) 5 x) w) := fp_HK (kd_0) rfl (by decide)
theorem rd_0_6 {e : Nat → Nat × (Nat → Int32)} {m : Mm} {w : Ml}  : fgi (HM e m w) (0) 7 6 = some (m (0) 6) := fgi_HK (kd_0) rfl (by decide)
theorem wr_0_6 {e : Nat → Nat × (Nat → Int32)} {m : Mm} {w : Ml}  {x : Int32} : fp (HM e m w) (0) 7 6 (.int x) = some (HM e (ms m (0) 6 x) w) := fp_HK (kd_0) rfl (by decide)
theorem rf_0_7 {e : Nat → Nat × (Nat → Int32)} {m : Mm} {w : Ml}  : fga (HM e m w) (0) 7 7 = some (40) := fga_HK (kd_0) rfl (by decide)
theorem rf_0_8 {e : Nat → Nat × (Nat → Int32)} {m : Mm} {w : Ml}  : fga (HM e m w) (0) 7 8 = some (41) := fga_HK (kd_0) rfl (by decide)
theorem rf_0_9 {e : Nat → Nat × (Nat → Int32)} {m : Mm} {w : Ml}  : fga (HM e m w) (0) 7 9 = some (42) := fga_HK (kd_0) rfl (by decide)
theorem kd_31 : kdL[(31 : Nat)]? = some (.inr (.inl (4, [some (some 32), some (some 33), some (some 34)]))) := rfl
theorem gd_31 {e : Nat → Nat × (Nat → Int32)} {m : Mm} {w : Ml} {f : MX} {vs : List Value} : gd 4 f (.ref (31) :: vs) (HM e m w) = f (.ref (31) :: vs) (HM e m w) := gd_HK (kd_31) (by decide)
theorem rf_31_0 {e : Nat → Nat × (Nat → Int32)} {m : Mm} {w : Ml}  : fga (HM e m w) (31) 4 0 = some (32) := fga_HK (kd_31) rfl (by decide)
theorem rf_31_1 {e : Nat → Nat × (Nat → Int32)} {m : Mm} {w : Ml}  : fga (HM e m w) (31) 4 1 = some (33) := fga_HK (kd_31) rfl (by decide)
theorem rf_31_2 {e : Nat → Nat × (Nat → Int32)} {m : Mm} {w : Ml}  : fga (HM e m w) (31) 4 2 = some (34) := fga_HK (kd_31) rfl (by decide)
theorem kd_32 : kdL[(32 : Nat)]? = some (.inl (0, 96)) := rfl
theorem ar_32 {e : Nat → Nat × (Nat → Int32)} {m : Mm} {w : Ml}  {n : Nat} (hn : n < 96) : agi 0 (HM e m w) (32) (nz n) = some (m (32) n) := agi_HK (kd_32) (by decide) hn (by omega) (by decide)
theorem aw_32 {e : Nat → Nat × (Nat → Int32)} {m : Mm} {w : Ml}  {n : Nat} {x : Int32} (hn : n < 96) : api 0 (HM e m w) (32) (nz n) x = some (HM e (ms m (32) n (nar 0 x)) w) := api_HK (kd_32) (by decide) hn (by omega) (by decide)
theorem an_32 {e : Nat → Nat × (Nat → Int32)} {m : Mm} {w : Ml}  : agn (HM e m w) (32) = some (nz 96) := agn_HK (kd_32) (by decide)
theorem kd_33 : kdL[(33 : Nat)]? = some (.inl (0, 12)) := rfl
theorem ar_33 {e : Nat → Nat × (Nat → Int32)} {m : Mm} {w : Ml}  {n : Nat} (hn : n < 12) : agi 0 (HM e m w) (33) (nz n) = some (m (33) n) := agi_HK (kd_33) (by decide) hn (by omega) (by decide)
theorem aw_33 {e : Nat → Nat × (Nat → Int32)} {m : Mm} {w : Ml}  {n : Nat} {x : Int32} (hn : n < 12) : api 0 (HM e m w) (33) (nz n) x = some (HM e (ms m (33) n (nar 0 x)) w) := api_HK (kd_33) (by decide) hn (by omega) (by decide)
theorem an_33 {e : Nat → Nat × (Nat → Int32)} {m : Mm} {w : Ml}  : agn (HM e m w) (33) = some (nz 12) := agn_HK (kd_33) (by decide)
theorem kd_34 : kdL[(34 : Nat)]? = some (.inl (0, 2)) := rfl
theorem ar_34 {e : Nat → Nat × (Nat → Int32)} {m : Mm} {w : Ml}  {n : Nat} (hn : n < 2) : agi 0 (HM e m w) (34) (nz n) = some (m (34) n) := agi_HK (kd_34) (by decide) hn (by omega) (by decide)
theorem aw_34 {e : Nat → Nat × (Nat → Int32)} {m : Mm} {w : Ml}  {n : Nat} {x : Int32} (hn : n < 2) : api 0 (HM e m w) (34) (nz n) x = some (HM e (ms m (34) n (nar 0 x)) w) := api_HK (kd_34) (by decide) hn (by omega) (by decide)
theorem an_34 {e : Nat → Nat × (Nat → Int32)} {m : Mm} {w : Ml}  : agn (HM e m w) (34) = some (nz 2) := agn_HK (kd_34) (by decide)
theorem kd_35 : kdL[(35 : Nat)]? = some (.inr (.inl (3, [some (some 36), none, some (some 37), none, none, none, some (some 38), none, none, none, none, none, none, none]))) := rfl
theorem gd_35 {e : Nat → Nat × (Nat → Int32)} {m : Mm} {w : Ml} {f : MX} {vs : List Value} : gd 3 f (.ref (35) :: vs) (HM e m w) = f (.ref (35) :: vs) (HM e m w) := gd_HK (kd_35) (by decide)
theorem rf_35_0 {e : Nat → Nat × (Nat → Int32)} {m : Mm} {w : Ml}  : fga (HM e m w) (35) 3 0 = some (36) := fga_HK (kd_35) rfl (by decide)
theorem rd_35_1 {e : Nat → Nat × (Nat → Int32)} {m : Mm} {w : Ml}  : fgi (HM e m w) (35) 3 1 = some (m (35) 1) := fgi_HK (kd_35) rfl (by decide)
theorem wr_35_1 {e : Nat → Nat × (Nat → Int32)} {m : Mm} {w : Ml}  {x : Int32} : fp (HM e m w) (35) 3 1 (.int x) = some (HM e (ms m (35) 1 x) w) := fp_HK (kd_35) rfl (by decide)
theorem rf_35_2 {e : Nat → Nat × (Nat → Int32)} {m : Mm} {w : Ml}  : fga (HM e m w) (35) 3 2 = some (37) := fga_HK (kd_35) rfl (by decide)
theorem rd_35_3 {e : Nat → Nat × (Nat → Int32)} {m : Mm} {w : Ml}  : fgi (HM e m w) (35) 3 3 = some (m (35) 3) := fgi_HK (kd_35) rfl (by decide)
theorem wr_35_3 {e : Nat → Nat × (Nat → Int32)} {m : Mm} {w : Ml}  {x : Int32} : fp (HM e m w) (35) 3 3 (.int x) = some (HM e (ms m (35) 3 x) w) := fp_HK (kd_35) rfl (by decide)
theorem rd_35_4 {e : Nat → Nat × (Nat → Int32)} {m : Mm} {w : Ml}  : fgi (HM e m w) (35) 3 4 = some (m (35) 4) := fgi_HK (kd_35) rfl (by decide)
theorem wr_35_4 {e : Nat → Nat × (Nat → Int32)} {m : Mm} {w : Ml}  {x : Int32} : fp (HM e m w) (35) 3 4 (.int x) = some (HM e (ms m (35) 4 x) w) := fp_HK (kd_35) rfl (by decide)
theorem rd_35_5 {e : Nat → Nat × (Nat → Int32)} {m : Mm} {w : Ml}  : fgi (HM e m w) (35) 3 5 = some (m (35) 5) := fgi_HK (kd_35) rfl (by decide)
theorem wr_35_5 {e : Nat → Nat × (Nat → Int32)} {m : Mm} {w : Ml}  {x : Int32} : fp (HM e m w) (35) 3 5 (.int x) = some (HM e (ms m (35) 5 x) w) := fp_HK (kd_35) rfl (by decide)
theorem rf_35_6 {e : Nat → Nat × (Nat → Int32)} {m : Mm} {w : Ml}  : fga (HM e m w) (35) 3 6 = some (38) := fga_HK (kd_35) rfl (by decide)
theorem rd_35_7 {e : Nat → Nat × (Nat → Int32)} {m : Mm} {w : Ml}  : fgi (HM e m w) (35) 3 7 = some (m (35) 7) := fgi_HK (kd_35) rfl (by decide)
theorem wr_35_7 {e : Nat → Nat × (Nat → Int32)} {m : Mm} {w : Ml}  {x : Int32} : fp (HM e m w) (35) 3 7 (.int x) = some (HM e (ms m (35) 7 x) w) := fp_HK (kd_35) rfl (by decide)
theorem rd_35_8 {e : Nat → Nat × (Nat → Int32)} {m : Mm} {w : Ml}  : fgi (HM e m w) (35) 3 8 = some (m (35) 8) := fgi_HK (kd_35) rfl (by decide)
theorem wr_35_8 {e : Nat → Nat × (Nat → Int32)} {m : Mm} {w : Ml}  {x : Int32} : fp (HM e m w) (35) 3 8 (.int x) = some (HM e (ms m (35) 8 x) w) := fp_HK (kd_35) rfl (by decide)
theorem rd_35_9 {e : Nat → Nat × (Nat → Int32)} {m : Mm} {w : Ml}  : fgi (HM e m w) (35) 3 9 = some (m (35) 9) := fgi_HK (kd_35) rfl (by decide)
theorem wr_35_9 {e : Nat → Nat × (Nat → Int32)} {m : Mm} {w : Ml}  {x : Int32} : fp (HM e m w) (35) 3 9 (.int x) = some (HM e (ms m (35) 9 x) w) := fp_HK (kd_35) rfl (by decide)
theorem rd_35_10 {e : Nat → Nat × (Nat → Int32)} {m : Mm} {w : Ml}  : fgi (HM e m w) (35) 3 10 = some (m (35) 10) := fgi_HK (kd_35) rfl (by decide)
theorem wr_35_10 {e : Nat → Nat × (Nat → Int32)} {m : Mm} {w : Ml}  {x : Int32} : fp (HM e m w) (35) 3 10 (.int x) = some (HM e (ms m (35) 10 x) w) := fp_HK (kd_35) rfl (by decide)
theorem rd_35_11 {e : Nat → Nat × (Nat → Int32)} {m : Mm} {w : Ml}  : fgi (HM e m w) (35) 3 11 = some (m (35) 11) := fgi_HK (kd_35) rfl (by decide)
theorem wr_35_11 {e : Nat → Nat × (Nat → Int32)} {m : Mm} {w : Ml}  {x : Int32} : fp (HM e m w) (35) 3 11 (.int x) = some (HM e (ms m (35) 11 x) w) := fp_HK (kd_35) rfl (by decide)
theorem rd_35_12 {e : Nat → Nat × (Nat → Int32)} {m : Mm} {w : Ml}  : fgi (HM e m w) (35) 3 12 = some (m (35) 12) := fgi_HK (kd_35) rfl (by decide)
theorem wr_35_12 {e : Nat → Nat × (Nat → Int32)} {m : Mm} {w : Ml}  {x : Int32} : fp (HM e m w) (35) 3 12 (.int x) = some (HM e (ms m (35) 12 x) w) := fp_HK (kd_35) rfl (by decide)
theorem rd_35_13 {e : Nat → Nat × (Nat → Int32)} {m : Mm} {w : Ml}  : fgi (HM e m w) (35) 3 13 = some (m (35) 13) := fgi_HK (kd_35) rfl (by decide)
theorem wr_35_13 {e : Nat → Nat × (Nat → Int32)} {m : Mm} {w : Ml}  {x : Int32} : fp (HM e m w) (35) 3 13 (.int x) = some (HM e (ms m (35) 13 x) w) := fp_HK (kd_35) rfl (by decide)
theorem kd_36 : kdL[(36 : Nat)]? = some (.inl (3, 80)) := rfl
theorem ar_36 {e : Nat → Nat × (Nat → Int32)} {m : Mm} {w : Ml}  {n : Nat} (hn : n < 80) : agi 3 (HM e m w) (36) (nz n) = some (m (36) n) := agi_HK (kd_36) (by decide) hn (by omega) (by decide)
theorem aw_36 {e : Nat → Nat × (Nat → Int32)} {m : Mm} {w : Ml}  {n : Nat} {x : Int32} (hn : n < 80) : api 3 (HM e m w) (36) (nz n) x = some (HM e (ms m (36) n (nar 3 x)) w) := api_HK (kd_36) (by decide) hn (by omega) (by decide)
theorem kd_37 : kdL[(37 : Nat)]? = some (.inl (0, 128)) := rfl
theorem ar_37 {e : Nat → Nat × (Nat → Int32)} {m : Mm} {w : Ml}  {n : Nat} (hn : n < 128) : agi 0 (HM e m w) (37) (nz n) = some (m (37) n) := agi_HK (kd_37) (by decide) hn (by omega) (by decide)
theorem aw_37 {e : Nat → Nat × (Nat → Int32)} {m : Mm} {w : Ml}  {n : Nat} {x : Int32} (hn : n < 128) : api 0 (HM e m w) (37) (nz n) x = some (HM e (ms m (37) n (nar 0 x)) w) := api_HK (kd_37) (by decide) hn (by omega) (by decide)
theorem an_37 {e : Nat → Nat × (Nat → Int32)} {m : Mm} {w : Ml}  : agn (HM e m w) (37) = some (nz 128) := agn_HK (kd_37) (by decide)
theorem kd_38 : kdL[(38 : Nat)]? = some (.inl (2, 64)) := rfl
theorem ar_38 {e : Nat → Nat × (Nat → Int32)} {m : Mm} {w : Ml}  {n : Nat} (hn : n < 64) : agi 2 (HM e m w) (38) (nz n) = some (m (38) n) := agi_HK (kd_38) (by decide) hn (by omega) (by decide)
theorem aw_38 {e : Nat → Nat × (Nat → Int32)} {m : Mm} {w : Ml}  {n : Nat} {x : Int32} (hn : n < 64) : api 2 (HM e m w) (38) (nz n) x = some (HM e (ms m (38) n (nar 2 x)) w) := api_HK (kd_38) (by decide) hn (by omega) (by decide)
theorem kd_39 : kdL[(39 : Nat)]? = some (.inr (.inr [43, 58, 73, 88])) := rfl
theorem ar_39 {e : Nat → Nat × (Nat → Int32)} {m : Mm} {w : Ml}  {n : Nat} (hn : n < 4) : aga (HM e m w) (39) (nz n) = some (([43, 58, 73, 88] : List Nat).getD n 0) := aga_HK (kd_39) hn (by decide) (by decide)
theorem kd_40 : kdL[(40 : Nat)]? = some (.inr (.inr [103, 118])) := rfl
theorem ar_40 {e : Nat → Nat × (Nat → Int32)} {m : Mm} {w : Ml}  {n : Nat} (hn : n < 2) : aga (HM e m w) (40) (nz n) = some (([103, 118] : List Nat).getD n 0) := aga_HK (kd_40) hn (by decide) (by decide)
theorem kd_41 : kdL[(41 : Nat)]? = some (.inl (2, 2)) := rfl
theorem ar_41 {e : Nat → Nat × (Nat → Int32)} {m : Mm} {w : Ml}  {n : Nat} (hn : n < 2) : agi 2 (HM e m w) (41) (nz n) = some (m (41) n) := agi_HK (kd_41) (by decide) hn (by omega) (by decide)
theorem aw_41 {e : Nat → Nat × (Nat → Int32)} {m : Mm} {w : Ml}  {n : Nat} {x : Int32} (hn : n < 2) : api 2 (HM e m w) (41) (nz n) x = some (HM e (ms m (41) n (nar 2 x)) w) := api_HK (kd_41) (by decide) hn (by omega) (by decide)
theorem kd_42 : kdL[(42 : Nat)]? = some (.inl (1, 2928)) := rfl
theorem ar_42 {e : Nat → Nat × (Nat → Int32)} {m : Mm} {w : Ml}  {n : Nat} (hn : n < 2928) : agl (HM e m w) (42) (nz n) = some (w (42) n) := agl_HK (kd_42) hn (by omega) (by decide)
theorem aw_42 {e : Nat → Nat × (Nat → Int32)} {m : Mm} {w : Ml}  {n : Nat} {x : Int64} (hn : n < 2928) : apl (HM e m w) (42) (nz n) x = some (HM e m (ml w (42) n x)) := apl_HK (kd_42) hn (by omega) (by decide)
theorem kd_133 : kdL[(133 : Nat)]? = some (.inr (.inl (8, [some (some 134), some (some 135), some (some 136), some (some 137), some (some 138), some (some 139), some (some 140), some (some 141), some (some 142), none, none, some (some 143), none, none, none, none, none, some (some 144), some (some 145)]))) := rfl
theorem gd_133 {e : Nat → Nat × (Nat → Int32)} {m : Mm} {w : Ml} {f : MX} {vs : List Value} : gd 8 f (.ref (133) :: vs) (HM e m w) = f (.ref (133) :: vs) (HM e m w) := gd_HK (kd_133) (by decide)
theorem rf_133_0 {e : Nat → Nat × (Nat → Int32)} {m : Mm} {w : Ml}  : fga (HM e m w) (133) 8 0 = some (134) := fga_HK (kd_133) rfl (by decide)
theorem rf_133_1 {e : Nat → Nat × (Nat → Int32)} {m : Mm} {w : Ml}  : fga (HM e m w) (133) 8 1 = some (135) := fga_HK (kd_133) rfl (by decide)
theorem rf_133_2 {e : Nat → Nat × (Nat → Int32)} {m : Mm} {w : Ml}  : fga (HM e m w) (133) 8 2 = some (136) := fga_HK (kd_133) rfl (by decide)
theorem rf_133_3 {e : Nat → Nat × (Nat → Int32)} {m : Mm} {w : Ml}  : fga (HM e m w) (133) 8 3 = some (137) := fga_HK (kd_133) rfl (by decide)
theorem rf_133_4 {e : Nat → Nat × (Nat → Int32)} {m : Mm} {w : Ml}  : fga (HM e m w) (133) 8 4 = some (138) := fga_HK (kd_133) rfl (by decide)
theorem rf_133_5 {e : Nat → Nat × (Nat → Int32)} {m : Mm} {w : Ml}  : fga (HM e m w) (133) 8 5 = some (139) := fga_HK (kd_133) rfl (by decide)
theorem rf_133_6 {e : Nat → Nat × (Nat → Int32)} {m : Mm} {w : Ml}  : fga (HM e m w) (133) 8 6 = some (140) := fga_HK (kd_133) rfl (by decide)
theorem rf_133_7 {e : Nat → Nat × (Nat → Int32)} {m : Mm} {w : Ml}  : fga (HM e m w) (133) 8 7 = some (141) := fga_HK (kd_133) rfl (by decide)
theorem rf_133_8 {e : Nat → Nat × (Nat → Int32)} {m : Mm} {w : Ml}  : fga (HM e m w) (133) 8 8 = some (142) := fga_HK (kd_133) rfl (by decide)
theorem rd_133_9 {e : Nat → Nat × (Nat → Int32)} {m : Mm} {w : Ml}  : fgi (HM e m w) (133) 8 9 = some (m (133) 9) := fgi_HK (kd_133) rfl (by decide)
theorem wr_133_9 {e : Nat → Nat × (Nat → Int32)} {m : Mm} {w : Ml}  {x : Int32} : fp (HM e m w) (133) 8 9 (.int x) = some (HM e (ms m (133) 9 x) w) := fp_HK (kd_133) rfl (by decide)
theorem rd_133_10 {e : Nat → Nat × (Nat → Int32)} {m : Mm} {w : Ml}  : fgi (HM e m w) (133) 8 10 = some (m (133) 10) := fgi_HK (kd_133) rfl (by decide)
theorem wr_133_10 {e : Nat → Nat × (Nat → Int32)} {m : Mm} {w : Ml}  {x : Int32} : fp (HM e m w) (133) 8 10 (.int x) = some (HM e (ms m (133) 10 x) w) := fp_HK (kd_133) rfl (by decide)
theorem rf_133_11 {e : Nat → Nat × (Nat → Int32)} {m : Mm} {w : Ml}  : fga (HM e m w) (133) 8 11 = some (143) := fga_HK (kd_133) rfl (by decide)
theorem rd_133_12 {e : Nat → Nat × (Nat → Int32)} {m : Mm} {w : Ml}  : fgi (HM e m w) (133) 8 12 = some (m (133) 12) := fgi_HK (kd_133) rfl (by decide)
theorem wr_133_12 {e : Nat → Nat × (Nat → Int32)} {m : Mm} {w : Ml}  {x : Int32} : fp (HM e m w) (133) 8 12 (.int x) = some (HM e (ms m (133) 12 x) w) := fp_HK (kd_133) rfl (by decide)
theorem rd_133_13 {e : Nat → Nat × (Nat → Int32)} {m : Mm} {w : Ml}  : fgi (HM e m w) (133) 8 13 = some (m (133) 13) := fgi_HK (kd_133) rfl (by decide)
theorem wr_133_13 {e : Nat → Nat × (Nat → Int32)} {m : Mm} {w : Ml}  {x : Int32} : fp (HM e m w) (133) 8 13 (.int x) = some (HM e (ms m (133) 13 x) w) := fp_HK (kd_133) rfl (by decide)
theorem rd_133_14 {e : Nat → Nat × (Nat → Int32)} {m : Mm} {w : Ml}  : fgi (HM e m w) (133) 8 14 = some (m (133) 14) := fgi_HK (kd_133) rfl (by decide)
theorem wr_133_14 {e : Nat → Nat × (Nat → Int32)} {m : Mm} {w : Ml}  {x : Int32} : fp (HM e m w) (133) 8 14 (.int x) = some (HM e (ms m (133) 14 x) w) := fp_HK (kd_133) rfl (by decide)
theorem rd_133_15 {e : Nat → Nat × (Nat → Int32)} {m : Mm} {w : Ml}  : fgi (HM e m w) (133) 8 15 = some (m (133) 15) := fgi_HK (kd_133) rfl (by decide)
theorem wr_133_15 {e : Nat → Nat × (Nat → Int32)} {m : Mm} {w : Ml}  {x : Int32} : fp (HM e m w) (133) 8 15 (.int x) = some (HM e (ms m (133) 15 x) w) := fp_HK (kd_133) rfl (by decide)
theorem rd_133_16 {e : Nat → Nat × (Nat → Int32)} {m : Mm} {w : Ml}  : fgi (HM e m w) (133) 8 16 = some (m (133) 16) := fgi_HK (kd_133) rfl (by decide)
theorem wr_133_16 {e : Nat → Nat × (Nat → Int32)} {m : Mm} {w : Ml}  {x : Int32} : fp (HM e m w) (133) 8 16 (.int x) = some (HM e (ms m (133) 16 x) w) := fp_HK (kd_133) rfl (by decide)
theorem rf_133_17 {e : Nat → Nat × (Nat → Int32)} {m : Mm} {w : Ml}  : fga (HM e m w) (133) 8 17 = some (144) := fga_HK (kd_133) rfl (by decide)
theorem rf_133_18 {e : Nat → Nat × (Nat → Int32)} {m : Mm} {w : Ml}  : fga (HM e m w) (133) 8 18 = some (145) := fga_HK (kd_133) rfl (by decide)
theorem kd_134 : kdL[(134 : Nat)]? = some (.inl (0, 1523)) := rfl
theorem ar_134 {e : Nat → Nat × (Nat → Int32)} {m : Mm} {w : Ml}  {n : Nat} (hn : n < 1523) : agi 0 (HM e m w) (134) (nz n) = some (m (134) n) := agi_HK (kd_134) (by decide) hn (by omega) (by decide)
theorem aw_134 {e : Nat → Nat × (Nat → Int32)} {m : Mm} {w : Ml}  {n : Nat} {x : Int32} (hn : n < 1523) : api 0 (HM e m w) (134) (nz n) x = some (HM e (ms m (134) n (nar 0 x)) w) := api_HK (kd_134) (by decide) hn (by omega) (by decide)
theorem an_134 {e : Nat → Nat × (Nat → Int32)} {m : Mm} {w : Ml}  : agn (HM e m w) (134) = some (nz 1523) := agn_HK (kd_134) (by decide)
theorem kd_135 : kdL[(135 : Nat)]? = some (.inl (0, 6092)) := rfl
theorem ar_135 {e : Nat → Nat × (Nat → Int32)} {m : Mm} {w : Ml}  {n : Nat} (hn : n < 6092) : agi 0 (HM e m w) (135) (nz n) = some (m (135) n) := agi_HK (kd_135) (by decide) hn (by omega) (by decide)
theorem aw_135 {e : Nat → Nat × (Nat → Int32)} {m : Mm} {w : Ml}  {n : Nat} {x : Int32} (hn : n < 6092) : api 0 (HM e m w) (135) (nz n) x = some (HM e (ms m (135) n (nar 0 x)) w) := api_HK (kd_135) (by decide) hn (by omega) (by decide)
theorem an_135 {e : Nat → Nat × (Nat → Int32)} {m : Mm} {w : Ml}  : agn (HM e m w) (135) = some (nz 6092) := agn_HK (kd_135) (by decide)
theorem kd_136 : kdL[(136 : Nat)]? = some (.inl (0, 3046)) := rfl
theorem ar_136 {e : Nat → Nat × (Nat → Int32)} {m : Mm} {w : Ml}  {n : Nat} (hn : n < 3046) : agi 0 (HM e m w) (136) (nz n) = some (m (136) n) := agi_HK (kd_136) (by decide) hn (by omega) (by decide)
theorem aw_136 {e : Nat → Nat × (Nat → Int32)} {m : Mm} {w : Ml}  {n : Nat} {x : Int32} (hn : n < 3046) : api 0 (HM e m w) (136) (nz n) x = some (HM e (ms m (136) n (nar 0 x)) w) := api_HK (kd_136) (by decide) hn (by omega) (by decide)
theorem an_136 {e : Nat → Nat × (Nat → Int32)} {m : Mm} {w : Ml}  : agn (HM e m w) (136) = some (nz 3046) := agn_HK (kd_136) (by decide)
theorem kd_137 : kdL[(137 : Nat)]? = some (.inl (2, 2)) := rfl
theorem ar_137 {e : Nat → Nat × (Nat → Int32)} {m : Mm} {w : Ml}  {n : Nat} (hn : n < 2) : agi 2 (HM e m w) (137) (nz n) = some (m (137) n) := agi_HK (kd_137) (by decide) hn (by omega) (by decide)
theorem aw_137 {e : Nat → Nat × (Nat → Int32)} {m : Mm} {w : Ml}  {n : Nat} {x : Int32} (hn : n < 2) : api 2 (HM e m w) (137) (nz n) x = some (HM e (ms m (137) n (nar 2 x)) w) := api_HK (kd_137) (by decide) hn (by omega) (by decide)
theorem kd_138 : kdL[(138 : Nat)]? = some (.inl (0, 1523)) := rfl
theorem ar_138 {e : Nat → Nat × (Nat → Int32)} {m : Mm} {w : Ml}  {n : Nat} (hn : n < 1523) : agi 0 (HM e m w) (138) (nz n) = some (m (138) n) := agi_HK (kd_138) (by decide) hn (by omega) (by decide)
theorem aw_138 {e : Nat → Nat × (Nat → Int32)} {m : Mm} {w : Ml}  {n : Nat} {x : Int32} (hn : n < 1523) : api 0 (HM e m w) (138) (nz n) x = some (HM e (ms m (138) n (nar 0 x)) w) := api_HK (kd_138) (by decide) hn (by omega) (by decide)
theorem an_138 {e : Nat → Nat × (Nat → Int32)} {m : Mm} {w : Ml}  : agn (HM e m w) (138) = some (nz 1523) := agn_HK (kd_138) (by decide)
theorem kd_139 : kdL[(139 : Nat)]? = some (.inl (0, 1523)) := rfl
theorem ar_139 {e : Nat → Nat × (Nat → Int32)} {m : Mm} {w : Ml}  {n : Nat} (hn : n < 1523) : agi 0 (HM e m w) (139) (nz n) = some (m (139) n) := agi_HK (kd_139) (by decide) hn (by omega) (by decide)
theorem aw_139 {e : Nat → Nat × (Nat → Int32)} {m : Mm} {w : Ml}  {n : Nat} {x : Int32} (hn : n < 1523) : api 0 (HM e m w) (139) (nz n) x = some (HM e (ms m (139) n (nar 0 x)) w) := api_HK (kd_139) (by decide) hn (by omega) (by decide)
theorem an_139 {e : Nat → Nat × (Nat → Int32)} {m : Mm} {w : Ml}  : agn (HM e m w) (139) = some (nz 1523) := agn_HK (kd_139) (by decide)
theorem kd_140 : kdL[(140 : Nat)]? = some (.inl (0, 31232)) := rfl
theorem ar_140 {e : Nat → Nat × (Nat → Int32)} {m : Mm} {w : Ml}  {n : Nat} (hn : n < 31232) : agi 0 (HM e m w) (140) (nz n) = some (m (140) n) := agi_HK (kd_140) (by decide) hn (by omega) (by decide)
theorem aw_140 {e : Nat → Nat × (Nat → Int32)} {m : Mm} {w : Ml}  {n : Nat} {x : Int32} (hn : n < 31232) : api 0 (HM e m w) (140) (nz n) x = some (HM e (ms m (140) n (nar 0 x)) w) := api_HK (kd_140) (by decide) hn (by omega) (by decide)
theorem an_140 {e : Nat → Nat × (Nat → Int32)} {m : Mm} {w : Ml}  : agn (HM e m w) (140) = some (nz 31232) := agn_HK (kd_140) (by decide)
theorem kd_141 : kdL[(141 : Nat)]? = some (.inl (0, 512)) := rfl
theorem ar_141 {e : Nat → Nat × (Nat → Int32)} {m : Mm} {w : Ml}  {n : Nat} (hn : n < 512) : agi 0 (HM e m w) (141) (nz n) = some (m (141) n) := agi_HK (kd_141) (by decide) hn (by omega) (by decide)
theorem aw_141 {e : Nat → Nat × (Nat → Int32)} {m : Mm} {w : Ml}  {n : Nat} {x : Int32} (hn : n < 512) : api 0 (HM e m w) (141) (nz n) x = some (HM e (ms m (141) n (nar 0 x)) w) := api_HK (kd_141) (by decide) hn (by omega) (by decide)
theorem an_141 {e : Nat → Nat × (Nat → Int32)} {m : Mm} {w : Ml}  : agn (HM e m w) (141) = some (nz 512) := agn_HK (kd_141) (by decide)
theorem kd_142 : kdL[(142 : Nat)]? = some (.inl (0, 12)) := rfl
theorem ar_142 {e : Nat → Nat × (Nat → Int32)} {m : Mm} {w : Ml}  {n : Nat} (hn : n < 12) : agi 0 (HM e m w) (142) (nz n) = some (m (142) n) := agi_HK (kd_142) (by decide) hn (by omega) (by decide)
theorem aw_142 {e : Nat → Nat × (Nat → Int32)} {m : Mm} {w : Ml}  {n : Nat} {x : Int32} (hn : n < 12) : api 0 (HM e m w) (142) (nz n) x = some (HM e (ms m (142) n (nar 0 x)) w) := api_HK (kd_142) (by decide) hn (by omega) (by decide)
theorem an_142 {e : Nat → Nat × (Nat → Int32)} {m : Mm} {w : Ml}  : agn (HM e m w) (142) = some (nz 12) := agn_HK (kd_142) (by decide)
theorem kd_143 : kdL[(143 : Nat)]? = some (.inl (0, 80)) := rfl
theorem ar_143 {e : Nat → Nat × (Nat → Int32)} {m : Mm} {w : Ml}  {n : Nat} (hn : n < 80) : agi 0 (HM e m w) (143) (nz n) = some (m (143) n) := agi_HK (kd_143) (by decide) hn (by omega) (by decide)
theorem aw_143 {e : Nat → Nat × (Nat → Int32)} {m : Mm} {w : Ml}  {n : Nat} {x : Int32} (hn : n < 80) : api 0 (HM e m w) (143) (nz n) x = some (HM e (ms m (143) n (nar 0 x)) w) := api_HK (kd_143) (by decide) hn (by omega) (by decide)
theorem an_143 {e : Nat → Nat × (Nat → Int32)} {m : Mm} {w : Ml}  : agn (HM e m w) (143) = some (nz 80) := agn_HK (kd_143) (by decide)
theorem kd_144 : kdL[(144 : Nat)]? = some (.inl (0, 128)) := rfl
theorem ar_144 {e : Nat → Nat × (Nat → Int32)} {m : Mm} {w : Ml}  {n : Nat} (hn : n < 128) : agi 0 (HM e m w) (144) (nz n) = some (m (144) n) := agi_HK (kd_144) (by decide) hn (by omega) (by decide)
theorem aw_144 {e : Nat → Nat × (Nat → Int32)} {m : Mm} {w : Ml}  {n : Nat} {x : Int32} (hn : n < 128) : api 0 (HM e m w) (144) (nz n) x = some (HM e (ms m (144) n (nar 0 x)) w) := api_HK (kd_144) (by decide) hn (by omega) (by decide)
theorem an_144 {e : Nat → Nat × (Nat → Int32)} {m : Mm} {w : Ml}  : agn (HM e m w) (144) = some (nz 128) := agn_HK (kd_144) (by decide)
theorem kd_145 : kdL[(145 : Nat)]? = some (.inl (2, 64)) := rfl
theorem ar_145 {e : Nat → Nat × (Nat → Int32)} {m : Mm} {w : Ml}  {n : Nat} (hn : n < 64) : agi 2 (HM e m w) (145) (nz n) = some (m (145) n) := agi_HK (kd_145) (by decide) hn (by omega) (by decide)
theorem aw_145 {e : Nat → Nat × (Nat → Int32)} {m : Mm} {w : Ml}  {n : Nat} {x : Int32} (hn : n < 64) : api 2 (HM e m w) (145) (nz n) x = some (HM e (ms m (145) n (nar 2 x)) w) := api_HK (kd_145) (by decide) hn (by omega) (by decide)
theorem kd_146 : kdL[(146 : Nat)]? = some (.inl (1, 1)) := rfl
theorem ar_146 {e : Nat → Nat × (Nat → Int32)} {m : Mm} {w : Ml}  {n : Nat} (hn : n < 1) : agl (HM e m w) (146) (nz n) = some (w (146) n) := agl_HK (kd_146) hn (by omega) (by decide)
theorem aw_146 {e : Nat → Nat × (Nat → Int32)} {m : Mm} {w : Ml}  {n : Nat} {x : Int64} (hn : n < 1) : apl (HM e m w) (146) (nz n) x = some (HM e m (ml w (146) n x)) := apl_HK (kd_146) hn (by omega) (by decide)
