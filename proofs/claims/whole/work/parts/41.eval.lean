/-! RECKONING THE COMBINATORS OUT -/
theorem sB_ok {h : Hp} {l : Lc} {k : Lc → Hp → RS} : sB (some (h, .inl l)) k = k l h := rfl
theorem sB_x {h : Hp} {x : Option Value ⊕ String} {k : Lc → Hp → RS} : sB (some (h, .inr x)) k = some (h, .inr x) := rfl
theorem eS_ok {α : Type} {h : Hp} {a : α} {k : α → Hp → RS} : eS (some (h, .inl a)) k = k a h := rfl
theorem eS_x {α : Type} {h : Hp} {x : String} {k : α → Hp → RS} : eS (some (h, .inr x)) k = some (h, .inr (.inr x)) := rfl
theorem eB_ok {α β : Type} {h : Hp} {a : α} {k : α → Hp → RE β} : eB (some (h, .inl a)) k = k a h := rfl
theorem eB_x {α β : Type} {h : Hp} {x : String} {k : α → Hp → RE β} : eB (some (h, .inr x)) k = some (h, .inr x) := rfl
theorem oE_s {α β : Type} {a : α} {k : α → RE β} : oE (some a) k = k a := rfl
theorem oS_s {α : Type} {a : α} {k : α → RS} : oS (some a) k = k a := rfl
theorem eB_if {α β : Type} {p : Prop} [Decidable p] {a b : RE α} {k : α → Hp → RE β} : eB (if p then a else b) k = if p then eB a k else eB b k := by split <;> rfl
theorem eS_if {α : Type} {p : Prop} [Decidable p] {a b : RE α} {k : α → Hp → RS} : eS (if p then a else b) k = if p then eS a k else eS b k := by split <;> rfl
theorem sB_if {p : Prop} [Decidable p] {a b : RS} {k : Lc → Hp → RS} : sB (if p then a else b) k = if p then sB a k else sB b k := by split <;> rfl
-- conditions
theorem sIf_v {c : CX} {a b : SX} {l : Lc} {h : Hp} : sIf c a b l h = eS (c l h) fun t h => bif t then a l h else b l h := rfl
theorem eIf_v {α : Type} {c : CX} {a b : Lc → Hp → RE α} {l : Lc} {h : Hp} : eIf c a b l h = eB (c l h) fun t h => bif t then a l h else b l h := rfl
theorem cAnd_v {a b : CX} {l : Lc} {h : Hp} : cAnd a b l h = eB (a l h) fun t h => bif t then b l h else some (h, .inl false) := rfl
theorem cOr_v {a b : CX} {l : Lc} {h : Hp} : cOr a b l h = eB (a l h) fun t h => bif t then some (h, .inl true) else b l h := rfl
-- calls
def kI (r : RM) : RE Int32 := match r with
  | some (h, .inl (some (.int x))) => some (h, .inl x)
  | some (h, .inr E) => some (h, .inr E)
  | _ => none
def kV (l : Lc) (r : RM) : RS := match r with
  | some (h, .inl none) => some (h, .inl l)
  | some (h, .inr E) => some (h, .inr (.inr E))
  | _ => none
def kP (l : Lc) (r : RM) : RS := match r with
  | some (h, .inl (some (.int _))) => some (h, .inl l)
  | some (h, .inr E) => some (h, .inr (.inr E))
  | _ => none
def kR (r : RS) : RM := match r with
  | some (h, .inr x) => some (h, x)
  | _ => none
theorem eM_v {m : MX} {as : AX} {l : Lc} {h : Hp} : eM m as l h = eB (as l h) fun vs h => kI (m vs h) := rfl
theorem sM_v {m : MX} {as : AX} {l : Lc} {h : Hp} : sM m as l h = eS (as l h) fun vs h => kV l (m vs h) := rfl
theorem sMp_v {m : MX} {as : AX} {l : Lc} {h : Hp} : sMp m as l h = eS (as l h) fun vs h => kP l (m vs h) := rfl
theorem mth_v {n : Nat} {b : SX} {vs : List Value} {h : Hp} : mth n b vs h = kR (b (vs ++ List.replicate (n - vs.length) .null) h) := rfl
theorem kI_i {h : Hp} {x : Int32} : kI (some (h, .inl (some (.int x)))) = some (h, .inl x) := rfl
theorem kI_x {h : Hp} {E : String} : kI (some (h, .inr E)) = some (h, .inr E) := rfl
theorem kV_v {l : Lc} {h : Hp} : kV l (some (h, .inl none)) = some (h, .inl l) := rfl
theorem kV_x {l : Lc} {h : Hp} {E : String} : kV l (some (h, .inr E)) = some (h, .inr (.inr E)) := rfl
theorem kP_i {l : Lc} {h : Hp} {x : Int32} : kP l (some (h, .inl (some (.int x)))) = some (h, .inl l) := rfl
theorem kP_x {l : Lc} {h : Hp} {E : String} : kP l (some (h, .inr E)) = some (h, .inr (.inr E)) := rfl
theorem kR_r {h : Hp} {x : Option Value ⊕ String} : kR (some (h, .inr x)) = some (h, x) := rfl
theorem kI_if {p : Prop} [Decidable p] {a b : RM} : kI (if p then a else b) = if p then kI a else kI b := by split <;> rfl
theorem kV_if {p : Prop} [Decidable p] {l : Lc} {a b : RM} : kV l (if p then a else b) = if p then kV l a else kV l b := by split <;> rfl
theorem kP_if {p : Prop} [Decidable p] {l : Lc} {a b : RM} : kP l (if p then a else b) = if p then kP l a else kP l b := by split <;> rfl
theorem kR_if {p : Prop} [Decidable p] {a b : RS} : kR (if p then a else b) = if p then kR a else kR b := by split <;> rfl
-- locals
theorem eLi_0 {x : Int32} {l : Lc} {h : Hp} : eLi 0 (.int x :: l) h = some (h, .inl x) := rfl
theorem eLi_1 {a0 : Value} {x : Int32} {l : Lc} {h : Hp} : eLi 1 (a0 :: .int x :: l) h = some (h, .inl x) := rfl
theorem eLi_2 {a0 a1 : Value} {x : Int32} {l : Lc} {h : Hp} : eLi 2 (a0 :: a1 :: .int x :: l) h = some (h, .inl x) := rfl
theorem eLi_3 {a0 a1 a2 : Value} {x : Int32} {l : Lc} {h : Hp} : eLi 3 (a0 :: a1 :: a2 :: .int x :: l) h = some (h, .inl x) := rfl
theorem eLi_4 {a0 a1 a2 a3 : Value} {x : Int32} {l : Lc} {h : Hp} : eLi 4 (a0 :: a1 :: a2 :: a3 :: .int x :: l) h = some (h, .inl x) := rfl
theorem eLi_5 {a0 a1 a2 a3 a4 : Value} {x : Int32} {l : Lc} {h : Hp} : eLi 5 (a0 :: a1 :: a2 :: a3 :: a4 :: .int x :: l) h = some (h, .inl x) := rfl
theorem eLi_6 {a0 a1 a2 a3 a4 a5 : Value} {x : Int32} {l : Lc} {h : Hp} : eLi 6 (a0 :: a1 :: a2 :: a3 :: a4 :: a5 :: .int x :: l) h = some (h, .inl x) := rfl
theorem eLi_7 {a0 a1 a2 a3 a4 a5 a6 : Value} {x : Int32} {l : Lc} {h : Hp} : eLi 7 (a0 :: a1 :: a2 :: a3 :: a4 :: a5 :: a6 :: .int x :: l) h = some (h, .inl x) := rfl
theorem eLi_8 {a0 a1 a2 a3 a4 a5 a6 a7 : Value} {x : Int32} {l : Lc} {h : Hp} : eLi 8 (a0 :: a1 :: a2 :: a3 :: a4 :: a5 :: a6 :: a7 :: .int x :: l) h = some (h, .inl x) := rfl
theorem eLi_9 {a0 a1 a2 a3 a4 a5 a6 a7 a8 : Value} {x : Int32} {l : Lc} {h : Hp} : eLi 9 (a0 :: a1 :: a2 :: a3 :: a4 :: a5 :: a6 :: a7 :: a8 :: .int x :: l) h = some (h, .inl x) := rfl
theorem eLi_10 {a0 a1 a2 a3 a4 a5 a6 a7 a8 a9 : Value} {x : Int32} {l : Lc} {h : Hp} : eLi 10 (a0 :: a1 :: a2 :: a3 :: a4 :: a5 :: a6 :: a7 :: a8 :: a9 :: .int x :: l) h = some (h, .inl x) := rfl
theorem eLi_11 {a0 a1 a2 a3 a4 a5 a6 a7 a8 a9 a10 : Value} {x : Int32} {l : Lc} {h : Hp} : eLi 11 (a0 :: a1 :: a2 :: a3 :: a4 :: a5 :: a6 :: a7 :: a8 :: a9 :: a10 :: .int x :: l) h = some (h, .inl x) := rfl
theorem eLi_12 {a0 a1 a2 a3 a4 a5 a6 a7 a8 a9 a10 a11 : Value} {x : Int32} {l : Lc} {h : Hp} : eLi 12 (a0 :: a1 :: a2 :: a3 :: a4 :: a5 :: a6 :: a7 :: a8 :: a9 :: a10 :: a11 :: .int x :: l) h = some (h, .inl x) := rfl
theorem eLi_13 {a0 a1 a2 a3 a4 a5 a6 a7 a8 a9 a10 a11 a12 : Value} {x : Int32} {l : Lc} {h : Hp} : eLi 13 (a0 :: a1 :: a2 :: a3 :: a4 :: a5 :: a6 :: a7 :: a8 :: a9 :: a10 :: a11 :: a12 :: .int x :: l) h = some (h, .inl x) := rfl
theorem eLa_0 {x : Nat} {l : Lc} {h : Hp} : eLa 0 (.ref x :: l) h = some (h, .inl x) := rfl
theorem eLa_1 {a0 : Value} {x : Nat} {l : Lc} {h : Hp} : eLa 1 (a0 :: .ref x :: l) h = some (h, .inl x) := rfl
theorem eLa_2 {a0 a1 : Value} {x : Nat} {l : Lc} {h : Hp} : eLa 2 (a0 :: a1 :: .ref x :: l) h = some (h, .inl x) := rfl
theorem eLa_3 {a0 a1 a2 : Value} {x : Nat} {l : Lc} {h : Hp} : eLa 3 (a0 :: a1 :: a2 :: .ref x :: l) h = some (h, .inl x) := rfl
theorem eLa_4 {a0 a1 a2 a3 : Value} {x : Nat} {l : Lc} {h : Hp} : eLa 4 (a0 :: a1 :: a2 :: a3 :: .ref x :: l) h = some (h, .inl x) := rfl
theorem eLa_5 {a0 a1 a2 a3 a4 : Value} {x : Nat} {l : Lc} {h : Hp} : eLa 5 (a0 :: a1 :: a2 :: a3 :: a4 :: .ref x :: l) h = some (h, .inl x) := rfl
theorem eLa_6 {a0 a1 a2 a3 a4 a5 : Value} {x : Nat} {l : Lc} {h : Hp} : eLa 6 (a0 :: a1 :: a2 :: a3 :: a4 :: a5 :: .ref x :: l) h = some (h, .inl x) := rfl
theorem eLa_7 {a0 a1 a2 a3 a4 a5 a6 : Value} {x : Nat} {l : Lc} {h : Hp} : eLa 7 (a0 :: a1 :: a2 :: a3 :: a4 :: a5 :: a6 :: .ref x :: l) h = some (h, .inl x) := rfl
theorem eLl_2 {a0 a1 : Value} {x : Int64} {l : Lc} {h : Hp} : eLl 2 (a0 :: a1 :: .long x :: l) h = some (h, .inl x) := rfl
theorem eZ_v {k : Nat} {l : Lc} {h : Hp} : eZ k l h = some (h, .inl (RO + k)) := rfl
theorem sInc_v {i : Nat} {n : Int32} {l : Lc} {h : Hp} : sInc i n l h = eS (eLi i l h) fun x h => some (h, .inl (l.set i (.int (x + n)))) := by
  unfold sInc eLi
  split
  · rfl
  · rfl
theorem bif_and {t u : Bool} {h : Hp} : (bif t then (some (h, .inl u) : RE Bool) else some (h, .inl false)) = some (h, .inl (t && u)) := by cases t <;> rfl
theorem bif_or {t u : Bool} {h : Hp} : (bif t then (some (h, .inl true) : RE Bool) else some (h, .inl u)) = some (h, .inl (t || u)) := by cases t <;> rfl
def b01 (p : Bool) : Int32 := if p then nz 1 else nz 0
theorem eC_v {c : CX} {l : Lc} {h : Hp} : eC c l h = eB (c l h) fun t h => some (h, .inl (b01 t)) := by
  unfold eC
  rw [eIf_v]
  congr 1
  funext t h
  cases t <;> rfl
theorem zne_b01 {p : Bool} : z_ne (b01 p) = p := by cases p <;> decide
theorem zeq_b01 {p : Bool} : z_eq (b01 p) = !p := by cases p <;> decide
def zR (x : Int32) (h : Hp) : RS := if x = 0 ∨ x = 1 then some (h, .inr (.inl (some (.int x)))) else none
theorem sRz_v {e : EXi} {l : Lc} {h : Hp} : sRz e l h = eS (e l h) zR := rfl
theorem zR_b {p : Bool} {h : Hp} : zR (b01 p) h = some (h, .inr (.inl (some (.int (b01 p))))) := by cases p <;> rfl
theorem zR_0 {h : Hp} : zR 0 h = some (h, .inr (.inl (some (.int (b01 false))))) := rfl
theorem zR_1 {h : Hp} : zR 1 h = some (h, .inr (.inl (some (.int (b01 true))))) := rfl
theorem zR_n0 {h : Hp} : zR (nz 0) h = some (h, .inr (.inl (some (.int (b01 false))))) := rfl
theorem zR_n1 {h : Hp} : zR (nz 1) h = some (h, .inr (.inl (some (.int (b01 true))))) := rfl
def zP (x : Int32) (r : RS) : RS := if x = 0 ∨ x = 1 then r else none
theorem sPz_v {o : EXa} {ci k : Nat} {e : EXi} {l : Lc} {h : Hp} : sPz o ci k e l h = eS (o l h) fun a h => eS (e l h) fun x h => zP x (oS (fp h a ci k (.int x)) fun h => some (h, .inl l)) := rfl
theorem zP_b {p : Bool} {r : RS} : zP (b01 p) r = r := by cases p <;> rfl
theorem bif_d {α : Type} {p : Prop} [Decidable p] {a b : α} : (bif decide p then a else b) = if p then a else b := by
  by_cases h : p <;> simp [h]
-- numbers
theorem nz_add {a b : Nat} : nz a + nz b = nz (a + b) := (Int32.ofNat_add a b).symm
theorem nz_mul {a b : Nat} : nz a * nz b = nz (a * b) := (Int32.ofNat_mul a b).symm
theorem nz_sub {a b : Nat} (h : b ≤ a) : nz a - nz b = nz (a - b) := (Int32.ofNat_sub a b h).symm
theorem nz_lt {a b : Nat} (ha : a < 2147483648) (hb : b < 2147483648) : (nz a < nz b) = (a < b) := propext (Int32.ofNat_lt_iff_lt ha hb)
theorem nz_le {a b : Nat} (ha : a < 2147483648) (hb : b < 2147483648) : (nz a ≤ nz b) = (a ≤ b) := propext (Int32.ofNat_le_iff_le ha hb)
theorem nz_inj {a b : Nat} (ha : a < 2147483648) (hb : b < 2147483648) : (nz a = nz b) = (a = b) := by
  refine propext ⟨fun h => ?_, fun h => by rw [h]⟩
  rw [← nz_cl ha, ← nz_cl hb, h]
theorem nlit0 : (0 : Int32) = nz 0 := id rfl
theorem nlit1 : (1 : Int32) = nz 1 := id rfl
theorem nlit2 : (2 : Int32) = nz 2 := id rfl
theorem nlit3 : (3 : Int32) = nz 3 := id rfl
theorem nlit4 : (4 : Int32) = nz 4 := id rfl
theorem nlit5 : (5 : Int32) = nz 5 := id rfl
theorem nlit6 : (6 : Int32) = nz 6 := id rfl
theorem nlit7 : (7 : Int32) = nz 7 := id rfl
theorem nlit8 : (8 : Int32) = nz 8 := id rfl
theorem nlit9 : (9 : Int32) = nz 9 := id rfl
theorem nlit10 : (10 : Int32) = nz 10 := id rfl
theorem nlit11 : (11 : Int32) = nz 11 := id rfl
theorem nlit12 : (12 : Int32) = nz 12 := id rfl
theorem nlit16 : (16 : Int32) = nz 16 := id rfl
theorem nlit18 : (18 : Int32) = nz 18 := id rfl
theorem nlit22 : (22 : Int32) = nz 22 := id rfl
theorem nlit31 : (31 : Int32) = nz 31 := id rfl
theorem nlit32 : (32 : Int32) = nz 32 := id rfl
theorem nlit33 : (33 : Int32) = nz 33 := id rfl
theorem nlit34 : (34 : Int32) = nz 34 := id rfl
theorem nlit40 : (40 : Int32) = nz 40 := id rfl
theorem nlit48 : (48 : Int32) = nz 48 := id rfl
theorem nlit60 : (60 : Int32) = nz 60 := id rfl
theorem nlit63 : (63 : Int32) = nz 63 := id rfl
theorem nlit64 : (64 : Int32) = nz 64 := id rfl
theorem nlit66 : (66 : Int32) = nz 66 := id rfl
theorem nlit80 : (80 : Int32) = nz 80 := id rfl
theorem nlit96 : (96 : Int32) = nz 96 := id rfl
theorem nlit114 : (114 : Int32) = nz 114 := id rfl
theorem nlit126 : (126 : Int32) = nz 126 := id rfl
theorem nlit128 : (128 : Int32) = nz 128 := id rfl
theorem nlit512 : (512 : Int32) = nz 512 := id rfl
theorem nlit756 : (756 : Int32) = nz 756 := id rfl
theorem nlit882 : (882 : Int32) = nz 882 := id rfl
theorem nlit1000 : (1000 : Int32) = nz 1000 := id rfl
theorem nlit1394 : (1394 : Int32) = nz 1394 := id rfl
theorem nlit1522 : (1522 : Int32) = nz 1522 := id rfl
theorem nlit1523 : (1523 : Int32) = nz 1523 := id rfl
theorem nlit10000 : (10000 : Int32) = nz 10000 := id rfl
theorem ms_eq {m : Mm} {a n : Nat} {x : Int32} : ms m a n x a n = x := by simp [ms]
theorem ms_v {m : Mm} {a n a' n' : Nat} {x : Int32} : ms m a n x a' n' = if a' = a ∧ n' = n then x else m a' n' := rfl
theorem ms_nn {m : Mm} {a n a' n' : Nat} {x : Int32} (h : n' ≠ n) : ms m a n x a' n' = m a' n' := by simp [ms, h]
theorem ml_v {m : Ml} {a n a' n' : Nat} {x : Int64} : ml m a n x a' n' = if a' = a ∧ n' = n then x else m a' n' := rfl
-- loops
/-- a loop whose states are told: K rounds -/
theorem sLp_fn {c : CX} {b : SX} {k : Lc → Hp → RS} (L : Nat → Lc) (H : Nat → Hp) (K : Nat) (hs : ∀ j, j < K → c (L j) (H j) = some (H j, .inl true) ∧ b (L j) (H j) = some (H (j + 1), .inl (L (j + 1)))) (he : c (L K) (H K) = some (H K, .inl false)) : ∀ (n : Nat) {l : Lc} {h : Hp}, K < n → l = L 0 → h = H 0 → sB (sLp c b n l h) k = k (L K) (H K) := by
  have key : ∀ (d j n : Nat), j + d = K → d < n → sLp c b n (L j) (H j) = some (H K, .inl (L K)) := by
    intro d
    induction d with
    | zero =>
      intro j n hj hn
      obtain ⟨n, rfl⟩ : ∃ n', n = n' + 1 := ⟨n - 1, by omega⟩
      obtain rfl : j = K := by omega
      show eS (c (L j) (H j)) _ = _
      rw [he]
      rfl
    | succ d ih =>
      intro j n hj hn
      obtain ⟨n, rfl⟩ : ∃ n', n = n' + 1 := ⟨n - 1, by omega⟩
      show eS (c (L j) (H j)) _ = _
      rw [(hs j (by omega)).1]
      show sB (b (L j) (H j)) (sLp c b n) = _
      rw [(hs j (by omega)).2]
      exact ih (j + 1) n (by omega) (by omega)
  intro n l h hn hl hh
  subst hl hh
  rw [key K 0 n (by omega) hn]
  rfl
/-- .. that leaves the method at the round K -/
theorem sLp_ex {c : CX} {b : SX} {k : Lc → Hp → RS} {x : Option Value ⊕ String} {h' : Hp} (L : Nat → Lc) (H : Nat → Hp) (K : Nat) (hs : ∀ j, j < K → c (L j) (H j) = some (H j, .inl true) ∧ b (L j) (H j) = some (H (j + 1), .inl (L (j + 1)))) (he : c (L K) (H K) = some (H K, .inl true) ∧ b (L K) (H K) = some (h', .inr x)) : ∀ (n : Nat) {l : Lc} {h : Hp}, K < n → l = L 0 → h = H 0 → sB (sLp c b n l h) k = some (h', .inr x) := by
  have key : ∀ (d j n : Nat), j + d = K → d < n → sLp c b n (L j) (H j) = some (h', .inr x) := by
    intro d
    induction d with
    | zero =>
      intro j n hj hn
      obtain ⟨n, rfl⟩ : ∃ n', n = n' + 1 := ⟨n - 1, by omega⟩
      obtain rfl : j = K := by omega
      show eS (c (L j) (H j)) _ = _
      rw [he.1]
      show sB (b (L j) (H j)) (sLp c b n) = _
      rw [he.2]
      rfl
    | succ d ih =>
      intro j n hj hn
      obtain ⟨n, rfl⟩ : ∃ n', n = n' + 1 := ⟨n - 1, by omega⟩
      show eS (c (L j) (H j)) _ = _
      rw [(hs j (by omega)).1]
      show sB (b (L j) (H j)) (sLp c b n) = _
      rw [(hs j (by omega)).2]
      exact ih (j + 1) n (by omega) (by omega)
  intro n l h hn hl hh
  subst hl hh
  rw [key K 0 n (by omega) hn]
  rfl
/-- a loop by its invariant, that may leave the method at any round -/
theorem sLp_wp {c : CX} {b : SX} (I : Nat → Lc → Hp → Prop) (X : Hp → (Option Value ⊕ String) → Prop) (K : Nat)
    (hs : ∀ j l h, j < K → I j l h → (c l h = some (h, .inl true) ∧ ((∃ l' h', b l h = some (h', .inl l') ∧ I (j + 1) l' h') ∨ ∃ h' x, b l h = some (h', .inr x) ∧ X h' x)))
    (he : ∀ l h, I K l h → c l h = some (h, .inl false)) : ∀ (n : Nat) {l : Lc} {h : Hp}, K < n → I 0 l h → (∃ l' h', sLp c b n l h = some (h', .inl l') ∧ I K l' h') ∨ ∃ h' x, sLp c b n l h = some (h', .inr x) ∧ X h' x := by
  have key : ∀ (d j n : Nat) (l : Lc) (h : Hp), j + d = K → d < n → I j l h → (∃ l' h', sLp c b n l h = some (h', .inl l') ∧ I K l' h') ∨ ∃ h' x, sLp c b n l h = some (h', .inr x) ∧ X h' x := by
    intro d
    induction d with
    | zero =>
      intro j n l h hj hn hi
      obtain ⟨n, rfl⟩ : ∃ n', n = n' + 1 := ⟨n - 1, by omega⟩
      obtain rfl : j = K := by omega
      refine Or.inl ⟨l, h, ?_, hi⟩
      show eS (c l h) _ = _
      rw [he l h hi]
      rfl
    | succ d ih =>
      intro j n l h hj hn hi
      obtain ⟨n, rfl⟩ : ∃ n', n = n' + 1 := ⟨n - 1, by omega⟩
      obtain ⟨h1, h2⟩ := hs j l h (by omega) hi
      have e : sLp c b (n + 1) l h = sB (b l h) (sLp c b n) := by
        show eS (c l h) _ = _
        rw [h1]
        rfl
      rcases h2 with ⟨l', h', h3, h4⟩ | ⟨h', x, h3, h4⟩
      · rw [e, h3]
        exact ih (j + 1) n l' h' (by omega) (by omega) h4
      · refine Or.inr ⟨h', x, ?_, h4⟩
        rw [e, h3]
        rfl
  intro n l h hn hi
  exact key K 0 n l h (by omega) hn hi
/-- .. that leaves the method nowhere -/
theorem sLp_inv {c : CX} {b : SX} (I : Nat → Lc → Hp → Prop) (K : Nat)
    (hs : ∀ j l h, j < K → I j l h → (c l h = some (h, .inl true) ∧ ∃ l' h', b l h = some (h', .inl l') ∧ I (j + 1) l' h'))
    (he : ∀ l h, I K l h → c l h = some (h, .inl false)) (n : Nat) {l : Lc} {h : Hp} (hn : K < n) (h0 : I 0 l h) : ∃ l' h', sLp c b n l h = some (h', .inl l') ∧ I K l' h' := by
  rcases sLp_wp I (fun _ _ => False) K (fun j l h hj hi => ⟨(hs j l h hj hi).1, Or.inl (hs j l h hj hi).2⟩) he n hn h0 with q | ⟨_, _, _, q⟩
  · exact q
  · exact q.elim
theorem sLp_invR {c : CX} {b : SX} {n : Nat} {l : Lc} {h : Hp} {R : RS} (hR : sLp c b n l h = R) (I : Nat → Lc → Hp → Prop) (K : Nat) (hn : K < n)
    (hs : ∀ j l h, j < K → I j l h → (c l h = some (h, .inl true) ∧ ∃ l' h', b l h = some (h', .inl l') ∧ I (j + 1) l' h'))
    (he : ∀ l h, I K l h → c l h = some (h, .inl false)) (h0 : I 0 l h) : ∃ l' h', R = some (h', .inl l') ∧ I K l' h' := by
  subst hR
  exact sLp_inv I K hs he n hn h0
theorem sLp_wpR {c : CX} {b : SX} {n : Nat} {l : Lc} {h : Hp} {R : RS} (hR : sLp c b n l h = R) (I : Nat → Lc → Hp → Prop) (X : Hp → (Option Value ⊕ String) → Prop) (K : Nat) (hn : K < n)
    (hs : ∀ j l h, j < K → I j l h → (c l h = some (h, .inl true) ∧ ((∃ l' h', b l h = some (h', .inl l') ∧ I (j + 1) l' h') ∨ ∃ h' x, b l h = some (h', .inr x) ∧ X h' x)))
    (he : ∀ l h, I K l h → c l h = some (h, .inl false)) (h0 : I 0 l h) : (∃ l' h', R = some (h', .inl l') ∧ I K l' h') ∨ ∃ h' x, R = some (h', .inr x) ∧ X h' x := by
  subst hR
  exact sLp_wp I X K hs he n hn h0
/-- .. over the memory: the locals of each round are told, the memory keeps P -/
theorem sLp_mem {c : CX} {b : SX} {n : Nat} {l : Lc} {h : Hp} {R : RS} (hR : sLp c b n l h = R) {e : Nat → Nat × (Nat → Int32)} {w : Ml} {m : Mm} (L : Nat → Lc) (P : Nat → Mm → Prop) (K : Nat) (hn : K < n)
    (hs : ∀ j m1, j < K → P j m1 → (c (L j) (HM e m1 w) = some (HM e m1 w, .inl true) ∧ ∃ m2, b (L j) (HM e m1 w) = some (HM e m2 w, .inl (L (j + 1))) ∧ P (j + 1) m2))
    (he : ∀ m1, P K m1 → c (L K) (HM e m1 w) = some (HM e m1 w, .inl false)) (hl : l = L 0) (hh : h = HM e m w) (h0 : P 0 m) : ∃ m1, R = some (HM e m1 w, .inl (L K)) ∧ P K m1 := by
  obtain ⟨_, _, h1, m1, rfl, rfl, h2⟩ := sLp_invR hR (fun j l h => ∃ m1, l = L j ∧ h = HM e m1 w ∧ P j m1) K hn (fun j l h hj hI => by
    obtain ⟨m1, rfl, rfl, h2⟩ := hI
    obtain ⟨q1, m2, q2, q3⟩ := hs j m1 hj h2
    exact ⟨q1, _, _, q2, m2, rfl, rfl, q3⟩) (fun l h hI => by
    obtain ⟨m1, rfl, rfl, h2⟩ := hI
    exact he m1 h2) ⟨m, hl, hh, h0⟩
  exact ⟨m1, h1, h2⟩
theorem NF_lt {n : Nat} (h : n < 1000000) : n < NF := h
theorem nar_0 {x : Int32} : nar 0 x = x := rfl
/-- a local that is unset until the first round has set it -/
def nlv (f : Nat → Value) (j : Nat) : Value := match j with
  | 0 => .null
  | k + 1 => f k
