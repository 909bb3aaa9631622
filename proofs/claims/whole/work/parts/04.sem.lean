/-! PURE SEMANTICS: a heap of numbered things, expressions, conditions, statements, methods -/
abbrev Ob : Type := (Nat × vp_A) ⊕ (Nat × List Value)
abbrev Hp : Type := Nat × (Nat → Ob)
abbrev Lc : Type := List Value
abbrev RE (α : Type) : Type := Option (Hp × (α ⊕ String))
abbrev RS : Type := Option (Hp × (Lc ⊕ (Option Value ⊕ String)))
abbrev RM : Type := Option (Hp × (Option Value ⊕ String))
abbrev EXi : Type := Lc → Hp → RE Int32
abbrev EXl : Type := Lc → Hp → RE Int64
abbrev EXa : Type := Lc → Hp → RE Nat
abbrev CX : Type := Lc → Hp → RE Bool
abbrev AX : Type := Lc → Hp → RE (List Value)
abbrev SX : Type := Lc → Hp → RS
abbrev MX : Type := List Value → Hp → RM
/-- numbers from here on are arrays that nobody writes -/
def RO : Nat := 1000000
/-- a change of one thing -/
def hup (h : Hp) (a : Nat) (o : Ob) : Hp := (h.1, fun j => if j = a then o else h.2 j)
def eB {α β : Type} (r : RE α) (k : α → Hp → RE β) : RE β := match r with
  | none => none
  | some (h, .inl a) => k a h
  | some (h, .inr x) => some (h, .inr x)
def eS {α : Type} (r : RE α) (k : α → Hp → RS) : RS := match r with
  | none => none
  | some (h, .inl a) => k a h
  | some (h, .inr x) => some (h, .inr (.inr x))
def sB (r : RS) (k : Lc → Hp → RS) : RS := match r with
  | none => none
  | some (h, .inl l) => k l h
  | some (h, .inr x) => some (h, .inr x)
-- expressions
def eI (n : Int32) : EXi := fun _ h => some (h, .inl n)
def eJ (n : Int64) : EXl := fun _ h => some (h, .inl n)
def eLi (i : Nat) : EXi := fun l h => match l[i]? with
  | some (.int x) => some (h, .inl x)
  | _ => none
def eLl (i : Nat) : EXl := fun l h => match l[i]? with
  | some (.long x) => some (h, .inl x)
  | _ => none
def eLa (i : Nat) : EXa := fun l h => match l[i]? with
  | some (.ref x) => some (h, .inl x)
  | _ => none
def eOp (op : Int32 → Int32 → Int32) (a b : EXi) : EXi := fun l h => eB (a l h) fun x h => eB (b l h) fun y h => some (h, .inl (op x y))
def eQ (op : Int32 → Int32 → Int32) (a b : EXi) : EXi := fun l h => eB (a l h) fun x h => eB (b l h) fun y h => if y = 0 then none else some (h, .inl (op x y))
def eU (op : Int32 → Int32) (a : EXi) : EXi := fun l h => eB (a l h) fun x h => some (h, .inl (op x))
def eIL (op : Int32 → Int64) (a : EXi) : EXl := fun l h => eB (a l h) fun x h => some (h, .inl (op x))
def eLO (op : Int64 → Int64 → Int64) (a b : EXl) : EXl := fun l h => eB (a l h) fun x h => eB (b l h) fun y h => some (h, .inl (op x y))
def eLS (op : Int64 → Int32 → Int64) (a : EXl) (b : EXi) : EXl := fun l h => eB (a l h) fun x h => eB (b l h) fun y h => some (h, .inl (op x y))
def eLC (a b : EXl) : EXi := fun l h => eB (a l h) fun x h => eB (b l h) fun y h => some (h, .inl (lg_cmp x y))
def eIf {α : Type} (c : CX) (a b : Lc → Hp → RE α) : Lc → Hp → RE α := fun l h => eB (c l h) fun t h => match t with
  | true => a l h
  | false => b l h
/-- a field: kind of the object, place of the field -/
def fgi (h : Hp) (a ci k : Nat) : Option Int32 := match h.2 a with
  | .inr (c, fs) => if c = ci then (match fs[k]? with
    | some (.int x) => some x
    | _ => none) else none
  | _ => none
def fga (h : Hp) (a ci k : Nat) : Option Nat := match h.2 a with
  | .inr (c, fs) => if c = ci then (match fs[k]? with
    | some (.ref x) => some x
    | _ => none) else none
  | _ => none
def oE {α β : Type} (o : Option α) (k : α → RE β) : RE β := match o with
  | none => none
  | some x => k x
def oS {α : Type} (o : Option α) (k : α → RS) : RS := match o with
  | none => none
  | some x => k x
def eGi (o : EXa) (ci k : Nat) : EXi := fun l h => eB (o l h) fun a h => oE (fgi h a ci k) fun x => some (h, .inl x)
def eGa (o : EXa) (ci k : Nat) : EXa := fun l h => eB (o l h) fun a h => oE (fga h a ci k) fun x => some (h, .inl x)
/-- a static array -/
def eZ (k : Nat) : EXa := fun _ h => some (h, .inl (RO + k))
/-- an array's places: kind, number of the array, index -/
def agi (t : Nat) (h : Hp) (a : Nat) (x : Int32) : Option Int32 := match h.2 a with
  | .inl (t', n, .inl f) => if (t' = t ∨ (t = 0 ∧ t' = 9)) ∧ 0 ≤ x ∧ x.toNatClampNeg < n then some (f x.toNatClampNeg) else none
  | _ => none
def agl (h : Hp) (a : Nat) (x : Int32) : Option Int64 := match h.2 a with
  | .inl (t', n, .inr (.inl f)) => if t' = 1 ∧ 0 ≤ x ∧ x.toNatClampNeg < n then some (f x.toNatClampNeg) else none
  | _ => none
def aga (h : Hp) (a : Nat) (x : Int32) : Option Nat := match h.2 a with
  | .inl (t', n, .inr (.inr (.inr (.inr f)))) => if t' = 4 ∧ 0 ≤ x ∧ x.toNatClampNeg < n then f x.toNatClampNeg else none
  | _ => none
def agn (h : Hp) (a : Nat) : Option Int32 := match h.2 a with
  | .inl (t', n, .inl _) => if t' = 0 ∨ t' = 9 then some (Int32.ofNat n) else none
  | _ => none
def eAi (t : Nat) (o : EXa) (i : EXi) : EXi := fun l h => eB (o l h) fun a h => eB (i l h) fun x h => oE (agi t h a x) fun y => some (h, .inl y)
def eAl (o : EXa) (i : EXi) : EXl := fun l h => eB (o l h) fun a h => eB (i l h) fun x h => oE (agl h a x) fun y => some (h, .inl y)
def eAa (o : EXa) (i : EXi) : EXa := fun l h => eB (o l h) fun a h => eB (i l h) fun x h => oE (aga h a x) fun y => some (h, .inl y)
def eAn (o : EXa) : EXi := fun l h => eB (o l h) fun a h => oE (agn h a) fun y => some (h, .inl y)
-- arguments
def aN : AX := fun _ h => some (h, .inl [])
def aI (as : AX) (e : EXi) : AX := fun l h => eB (as l h) fun vs h => eB (e l h) fun x h => some (h, .inl (vs ++ [.int x]))
def aA (as : AX) (e : EXa) : AX := fun l h => eB (as l h) fun vs h => eB (e l h) fun x h => some (h, .inl (vs ++ [.ref x]))
def eM (m : MX) (as : AX) : EXi := fun l h => eB (as l h) fun vs h => match m vs h with
  | some (h, .inl (some (.int x))) => some (h, .inl x)
  | some (h, .inr E) => some (h, .inr E)
  | _ => none
-- conditions
def cB (op : Int32 → Int32 → Bool) (a b : EXi) : CX := fun l h => eB (a l h) fun x h => eB (b l h) fun y h => some (h, .inl (op x y))
def cZ (op : Int32 → Bool) (a : EXi) : CX := fun l h => eB (a l h) fun x h => some (h, .inl (op x))
def cAnd (a b : CX) : CX := fun l h => eB (a l h) fun t h => match t with
  | true => b l h
  | false => some (h, .inl false)
def cOr (a b : CX) : CX := fun l h => eB (a l h) fun t h => match t with
  | true => some (h, .inl true)
  | false => b l h
def cNot (a : CX) : CX := fun l h => eB (a l h) fun t h => some (h, .inl (!t))
/-- a condition as a number -/
def eC (c : CX) : EXi := eIf c (eI 1) (eI 0)
-- statements
def sN : SX := fun l h => some (h, .inl l)
def sQ (a b : SX) : SX := fun l h => sB (a l h) b
def sTi (i : Nat) (e : EXi) : SX := fun l h => eS (e l h) fun x h => some (h, .inl (l.set i (.int x)))
def sTl (i : Nat) (e : EXl) : SX := fun l h => eS (e l h) fun x h => some (h, .inl ((l.set i (.long x)).set (i + 1) .null))
def sTa (i : Nat) (e : EXa) : SX := fun l h => eS (e l h) fun x h => some (h, .inl (l.set i (.ref x)))
def sInc (i : Nat) (n : Int32) : SX := fun l h => match l[i]? with
  | some (.int x) => some (h, .inl (l.set i (.int (x + n))))
  | _ => none
def sIf (c : CX) (a b : SX) : SX := fun l h => eS (c l h) fun t h => match t with
  | true => a l h
  | false => b l h
def sLp (c : CX) (b : SX) : Nat → SX
  | 0 => fun _ _ => none
  | n + 1 => fun l h => eS (c l h) fun t h => match t with
    | true => sB (b l h) (sLp c b n)
    | false => some (h, .inl l)
def sSw (e : EXi) (f : Int32 → SX) : SX := fun l h => eS (e l h) fun x h => f x l h
def sR (e : EXi) : SX := fun l h => eS (e l h) fun x h => some (h, .inr (.inl (some (.int x))))
def sRv : SX := fun _ h => some (h, .inr (.inl none))
def sX (E : String) : SX := fun _ h => some (h, .inr (.inr E))
/-- a field is set: the object's kind, the place; what it held is of the kind that it is given -/
def fp (h : Hp) (a ci k : Nat) (v : Value) : Option Hp := match h.2 a with
  | .inr (c, fs) => if c = ci ∧ k < fs.length then some (hup h a (.inr (c, fs.set k v))) else none
  | _ => none
def sPi (o : EXa) (ci k : Nat) (e : EXi) : SX := fun l h => eS (o l h) fun a h => eS (e l h) fun x h => oS (fp h a ci k (.int x)) fun h => some (h, .inl l)
def sPa (o : EXa) (ci k : Nat) (e : EXa) : SX := fun l h => eS (o l h) fun a h => eS (e l h) fun x h => oS (fp h a ci k (.ref x)) fun h => some (h, .inl l)
/-- a field is changed by what it holds -/
def sPo (o : EXa) (ci k : Nat) (op : Int32 → Int32 → Int32) (e : EXi) : SX := fun l h => eS (o l h) fun a h => oS (fgi h a ci k) fun x => eS (e l h) fun y h => oS (fp h a ci k (.int (op x y))) fun h => some (h, .inl l)
/-- what an array of a small kind keeps -/
def nar (t : Nat) (x : Int32) : Int32 := if t = 2 then vp_nar .boolean x else if t = 3 then vp_nar .char x else x
def api (t : Nat) (h : Hp) (a : Nat) (x y : Int32) : Option Hp := match h.2 a with
  | .inl (t', n, .inl f) => if t' = t ∧ 0 ≤ x ∧ x.toNatClampNeg < n then some (hup h a (.inl (t', n, .inl (upd f x.toNatClampNeg (nar t y))))) else none
  | _ => none
def apl (h : Hp) (a : Nat) (x : Int32) (y : Int64) : Option Hp := match h.2 a with
  | .inl (t', n, .inr (.inl f)) => if t' = 1 ∧ 0 ≤ x ∧ x.toNatClampNeg < n then some (hup h a (.inl (t', n, .inr (.inl (vp_updL f x.toNatClampNeg y))))) else none
  | _ => none
def apa (h : Hp) (a : Nat) (x : Int32) (y ci : Nat) : Option Hp := match h.2 a, h.2 y with
  | .inl (t', n, .inr (.inr (.inr (.inr f)))), .inr (c, _) => if t' = 4 ∧ c = ci ∧ 0 ≤ x ∧ x.toNatClampNeg < n then some (hup h a (.inl (t', n, .inr (.inr (.inr (.inr (va_up f x.toNatClampNeg (some y)))))))) else none
  | _, _ => none
def sAi (t : Nat) (o : EXa) (i : EXi) (e : EXi) : SX := fun l h => eS (o l h) fun a h => eS (i l h) fun x h => eS (e l h) fun y h => oS (api t h a x y) fun h => some (h, .inl l)
def sAl (o : EXa) (i : EXi) (e : EXl) : SX := fun l h => eS (o l h) fun a h => eS (i l h) fun x h => eS (e l h) fun y h => oS (apl h a x y) fun h => some (h, .inl l)
def sAa (o : EXa) (i : EXi) (ci : Nat) (e : EXa) : SX := fun l h => eS (o l h) fun a h => eS (i l h) fun x h => eS (e l h) fun y h => oS (apa h a x y ci) fun h => some (h, .inl l)
/-- a[i] op= e -/
def sAo (o : EXa) (i : EXi) (op : Int32 → Int32 → Int32) (e : EXi) : SX := fun l h => eS (o l h) fun a h => eS (i l h) fun x h => oS (agi 0 h a x) fun z => eS (e l h) fun y h => oS (api 0 h a x (op z y)) fun h => some (h, .inl l)
/-- a call for what it does; without an answer, or with one that is dropped -/
def sM (m : MX) (as : AX) : SX := fun l h => eS (as l h) fun vs h => match m vs h with
  | some (h, .inl none) => some (h, .inl l)
  | some (h, .inr E) => some (h, .inr (.inr E))
  | _ => none
def sMp (m : MX) (as : AX) : SX := fun l h => eS (as l h) fun vs h => match m vs h with
  | some (h, .inl (some (.int _))) => some (h, .inl l)
  | some (h, .inr E) => some (h, .inr (.inr E))
  | _ => none
/-- a method: its body over locals of its number, the arguments first -/
def mth (n : Nat) (b : SX) : MX := fun vs h => match b (vs ++ List.replicate (n - vs.length) .null) h with
  | some (h, .inr x) => some (h, x)
  | _ => none
