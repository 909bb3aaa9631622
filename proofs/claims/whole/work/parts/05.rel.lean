/-! THE PURE HEAP AND THE MACHINE'S: by a list of addresses that only grows -/
/-- D; addresses of the read-only arrays; the first own address; what the read-only arrays hold -/
abbrev GE : Type := va_G × (Nat → Nat) × Nat × (Nat → Nat × (Nat → Int32))
def gA (g : GE) : Nat → Prop := fun q => g.2.2.1 ≤ q
def tyOf : Nat → FieldType := fun t => match t with
  | 0 => .int
  | 1 => .long
  | 2 => .boolean
  | 3 => .char
  | _ => .object RX6
def vAd (g : GE) (ad : List Nat) (i : Nat) : Option Nat := if i < RO then ad[i]? else some (g.2.1 (i - RO))
def VR (g : GE) (ad : List Nat) (v v' : Value) : Prop := match v with
  | .null => True
  | .ref i => ∃ a, vAd g ad i = some a ∧ v' = .ref a
  | w => v' = w
def AE (ad ad' : List Nat) : Prop := ∀ (i a : Nat), ad[i]? = some a → ad'[i]? = some a
theorem AE.rf {ad : List Nat} : AE ad ad := fun _ _ h => h
theorem AE.tr {a b c : List Nat} (h : AE a b) (k : AE b c) : AE a c := fun i x q => k i x (h i x q)
theorem vAd.mono {g : GE} {ad ad' : List Nat} (h : AE ad ad') {i a : Nat} (k : vAd g ad i = some a) : vAd g ad' i = some a := by
  unfold vAd at k ⊢
  split
  · rename_i q
    rw [if_pos q] at k
    exact h i a k
  · rename_i q
    rw [if_neg q] at k
    exact k
theorem VR.mono {g : GE} {ad ad' : List Nat} (h : AE ad ad') {v v' : Value} (k : VR g ad v v') : VR g ad' v v' := by
  cases v <;> first | exact k | (obtain ⟨a, k1, k2⟩ := k; exact ⟨a, vAd.mono h k1, k2⟩)
def FR (g : GE) (ad : List Nat) (fs fs' : List Value) : Prop := fs.length = fs'.length ∧ ∀ (k : Nat) (v v' : Value), fs[k]? = some v → fs'[k]? = some v' → VR g ad v v'
theorem FR.mono {g : GE} {ad ad' : List Nat} (h : AE ad ad') {v v' : List Value} (k : FR g ad v v') : FR g ad' v v' := ⟨k.1, fun i x x' h1 h2 => (k.2 i x x' h1 h2).mono h⟩
theorem FR.at {g : GE} {ad : List Nat} {fs fs' : List Value} (h : FR g ad fs fs') {k : Nat} {v : Value} (hk : fs[k]? = some v) : ∃ v', fs'[k]? = some v' ∧ VR g ad v v' := by
  have hl : k < fs'.length := by rw [← h.1]; exact (List.getElem?_eq_some_iff.mp hk).1
  exact ⟨fs'[k], List.getElem?_eq_getElem hl, h.2 k v _ hk (List.getElem?_eq_getElem hl)⟩
theorem FR.set {g : GE} {ad : List Nat} {fs fs' : List Value} (h : FR g ad fs fs') (k : Nat) {v v' : Value} (hv : VR g ad v v') : FR g ad (fs.set k v) (fs'.set k v') := by
  refine ⟨by simp [h.1], fun i x x' h1 h2 => ?_⟩
  by_cases hi : k = i
  · subst hi
    have l1 : k < fs.length := by have := (List.getElem?_eq_some_iff.mp h1).1; simpa using this
    have l2 : k < fs'.length := by rw [← h.1]; exact l1
    rw [List.getElem?_set_self l1] at h1
    rw [List.getElem?_set_self l2] at h2
    cases h1; cases h2
    exact hv
  · rw [List.getElem?_set_ne hi] at h1 h2
    exact h.2 i x x' h1 h2
theorem FR.snoc {g : GE} {ad : List Nat} {fs fs' : List Value} (h : FR g ad fs fs') {v v' : Value} (hv : VR g ad v v') : FR g ad (fs ++ [v]) (fs' ++ [v']) := by
  refine ⟨by simp [h.1], fun i x x' h1 h2 => ?_⟩
  by_cases hi : i < fs.length
  · rw [List.getElem?_append_left hi] at h1
    rw [List.getElem?_append_left (by rw [← h.1]; exact hi)] at h2
    exact h.2 i x x' h1 h2
  · rw [List.getElem?_append_right (by omega)] at h1
    rw [List.getElem?_append_right (by rw [← h.1]; omega)] at h2
    rw [← h.1] at h2
    have hz : i - fs.length < 1 := (List.getElem?_eq_some_iff.mp h1).1
    rw [show i - fs.length = 0 by omega] at h1 h2
    cases h1; cases h2
    exact hv
theorem FR.nil {g : GE} {ad : List Nat} : FR g ad [] [] := ⟨rfl, fun _ _ _ h => by simp at h⟩
/-- one thing of the pure heap, and what lies at its address -/
def OR (g : GE) (s : State) (ad : List Nat) (o : Ob) (e : va_E) : Prop := match o, e with
  | .inl (t, n, .inl f), .inl (cA, x) => x = (n, .inl f) ∧ t < 4 ∧ ArrOfT s cA (tyOf t) ∧ va_RA s cA (tyOf t)
  | .inl (t, n, .inr (.inl f)), .inl (cA, x) => x = (n, .inr (.inl f)) ∧ ArrOfT s cA (tyOf t) ∧ va_RA s cA (tyOf t)
  | .inl (t, n, .inr (.inr (.inr (.inr f)))), .inl (cA, x) => (∃ f', x = (n, .inr (.inr (.inr (.inr f')))) ∧ ∀ (j i : Nat), f j = some i → ∃ a, vAd g ad i = some a ∧ f' j = some a) ∧ ArrOfT s cA (tyOf t) ∧ va_RA s cA (tyOf t)
  | .inr (ci, fs), .inr (ci', fs') => ci = ci' ∧ FR g ad fs fs'
  | _, _ => False
theorem OR.mono {g : GE} {s : State} {ad ad' : List Nat} (h : AE ad ad') {o : Ob} {e : va_E} (k : OR g s ad o e) : OR g s ad' o e := by
  rcases o with ⟨t, n, f | f | f | f | f⟩ | ⟨ci, fs⟩ <;> rcases e with ⟨cA, x⟩ | ⟨ci', fs'⟩ <;> first | exact k | skip
  · obtain ⟨⟨f', h1, h2⟩, h3⟩ := k
    exact ⟨⟨f', h1, fun j i q => by obtain ⟨a, q1, q2⟩ := h2 j i q; exact ⟨a, vAd.mono h q1, q2⟩⟩, h3⟩
  · exact ⟨k.1, k.2.mono h⟩
theorem OR.moved {g : GE} {s U : State} (hvm : s.vm.Alike U.vm) {ad : List Nat} {o : Ob} {e : va_E} (k : OR g s ad o e) : OR g U ad o e := by
  rcases o with ⟨t, n, f | f | f | f | f⟩ | ⟨ci, fs⟩ <;> rcases e with ⟨cA, x⟩ | ⟨ci', fs'⟩ <;> first | exact k | skip
  · exact ⟨k.1, k.2.1, arrOfT_moved hvm k.2.2.1, k.2.2.2.moved hvm⟩
  · exact ⟨k.1, arrOfT_moved hvm k.2.1, k.2.2.moved hvm⟩
  · exact ⟨k.1, arrOfT_moved hvm k.2.1, k.2.2.moved hvm⟩
def roOb (g : GE) (k : Nat) : Ob := .inl (9, (g.2.2.2 k).1, .inl (g.2.2.2 k).2)
def HW (g : GE) (s : State) (ad : List Nat) (hp : Hp) (H : Heap) : Prop := ∃ ws : va_W, va_P g.1 kls ws H ∧ va_D (gA g) ws ∧ ws.map Prod.fst = ad ∧ hp.1 = ad.length ∧ hp.1 ≤ RO ∧ (∀ (i : Nat) (q : Nat × va_E), ws[i]? = some q → OR g s ad (hp.2 i) q.2) ∧ ∀ k, hp.2 (RO + k) = roOb g k
def WR (g : GE) (s : State) (ad : List Nat) (hp : Hp) (H : Heap) (locs : List Loc) : Prop := HW g s ad hp H ∧ va_S (gA g) s.heap H locs
theorem HW.moved {g : GE} {s U : State} (hvm : s.vm.Alike U.vm) {ad : List Nat} {hp : Hp} {H : Heap} (k : HW g s ad hp H) : HW g U ad hp H := by
  obtain ⟨ws, h1, h2, h3, h4, h5, h6, h7⟩ := k
  exact ⟨ws, h1, h2, h3, h4, h5, fun i q hq => (h6 i q hq).moved hvm, h7⟩
/-- the words that every method has; those of nest mates apart -/
def WS : List Cond := lw_tbl.filter goodWord
def nestW : Cond → Bool
  | .fieldLinkNest _ _ _ _ _ _ => true
  | .methodLinkNest _ _ _ _ => true
  | .castable _ _ => true
  | .declares _ => true
  | _ => false
def WN : List Cond := tables_1.filter nestW
theorem ws_in {w : Cond} (h : w ∈ lw_tbl) (hg : goodWord w = true) : w ∈ WS := List.mem_filter.mpr ⟨h, hg⟩
theorem ws_t {w : Cond} (h : w ∈ tables_1) (hg : goodWord w = true) : w ∈ WS := List.mem_filter.mpr ⟨List.mem_append_right _ h, hg⟩
theorem ws_p {w : Cond} (h : w ∈ k2_sels lw_privs) (hg : goodWord w = true) : w ∈ WS := List.mem_filter.mpr ⟨List.mem_append_left _ h, hg⟩
theorem ws_good {w : Cond} (h : w ∈ WS) : (w.onTables && w.keeps) = true ∨ ∃ ty, w = .arrayClass ty := good_of_word (List.mem_filter.mp h).2
theorem ws_GoodIn {x y : Cond} (h : y ∈ WS) : GoodIn (x :: WS) (y :: WS) := fun w hw => (List.mem_cons.mp hw).elim (fun e => ⟨List.mem_cons_of_mem _ (e ▸ h), e ▸ ws_good h⟩) (fun h' => ⟨List.mem_cons_of_mem _ h', ws_good h'⟩)
theorem tm1 {w : Cond} (h : w ∈ tables_1_1) : w ∈ tables_1 := List.mem_append_left _ h
theorem tm2 {w : Cond} (h : w ∈ tables_1_2) : w ∈ tables_1 := List.mem_append_right _ (List.mem_append_left _ h)
theorem tm3 {w : Cond} (h : w ∈ tables_1_3) : w ∈ tables_1 := List.mem_append_right _ (List.mem_append_right _ (List.mem_append_left _ h))
theorem tm4 {w : Cond} (h : w ∈ tables_1_4) : w ∈ tables_1 := List.mem_append_right _ (List.mem_append_right _ (List.mem_append_right _ (List.mem_append_left _ h)))
theorem tm5 {w : Cond} (h : w ∈ tables_1_5) : w ∈ tables_1 := List.mem_append_right _ (List.mem_append_right _ (List.mem_append_right _ (List.mem_append_right _ (List.mem_append_left _ h))))
theorem tm6 {w : Cond} (h : w ∈ tables_1_6) : w ∈ tables_1 := List.mem_append_right _ (List.mem_append_right _ (List.mem_append_right _ (List.mem_append_right _ (List.mem_append_right _ (List.mem_append_left _ h)))))
theorem tm7 {w : Cond} (h : w ∈ tables_1_7) : w ∈ tables_1 := List.mem_append_right _ (List.mem_append_right _ (List.mem_append_right _ (List.mem_append_right _ (List.mem_append_right _ (List.mem_append_right _ h)))))
theorem wn_t {w : Cond} (h : w ∈ tables_1) (hg : nestW w = true) : w ∈ WN := List.mem_filter.mpr ⟨h, hg⟩
/-- the static arrays of the class, and their numbers among the read-only ones -/
def statT : List (String × Nat) := [("ALONG", 0), ("ACROSS", 1), ("OPPOSITE", 2), ("MIRRORED", 3), ("ROW_STEP", 4), ("COLUMN_STEP_IN_EVEN_ROW", 5), ("COLUMN_STEP_IN_ODD_ROW", 6), ("SHIFTS_TRIED", 7)]
/-- texts: where they stand in the class's pool -/
def strT : List (Nat × String) := [(52, "*03>14|25;*024>135"), (309, "an argument is out of its range"), (302, "there is no such column, row, body, gust or slot"), (316, "the call is not possible as things are"), (312, "a second column or row is less than the first one")]
def xI : String := "java/lang/IndexOutOfBoundsException"
def xA : String := "java/lang/IllegalArgumentException"
def xS : String := "java/lang/IllegalStateException"
/-- exceptions that a handler of another doesn't take -/
def ncT : List (String × String) := [(xI, xA), (xI, xS), (xA, xI), (xA, xS), (xS, xI), (xS, xA)]
def bkT : String := "*03>14|25;*024>135"
def bkB : List Int32 := [42, 48, 51, 62, 49, 52, 124, 50, 53, 59, 42, 48, 50, 52, 62, 49, 51, 53]
def sN0 : String := "java/lang/String"
/-- the text of the first book: where it lies, where its bytes lie -/
def StrF (g : GE) (aS aV : Nat) (U : State) : Prop := vk_R RX7 52 bkT aS U ∧ va_O sN0 aS (gA g) U U.heap ∧ va_OF sN0 "coder" "B" (.int 0) aS (gA g) U U.heap ∧ va_OF sN0 "value" "[B" (.ref aV) aS (gA g) U U.heap ∧ va_T .byte aV 18 (fun j => .int (bkB.getD j 0)) (gA g) U U.heap
def StrK (g : GE) (U : State) : Prop := va_Z sN0 "COMPACT_STRINGS" "Z" (.int 1) (gA g) U U.heap ∧ va_Zq "jdk/internal/util/Preconditions" "SIOOBE_FORMATTER" "Ljava/util/function/BiFunction;" (gA g) U U.heap
def EnvOK (g : GE) (l : Launch) (U : State) : Prop :=
  g.2.2.1 ≤ U.heap.size ∧ l.stackTraces = false ∧ va_K g.1 kls [] U ∧
  (∀ k, va_X (g.2.1 k) (g.2.2.2 k).1 (g.2.2.2 k).2 U U.heap ∧ g.2.1 k < U.heap.size ∧ ¬ gA g (g.2.1 k)) ∧
  (∀ q ∈ statT, va_Z RX7 q.1 "[I" (.ref (g.2.1 q.2)) (gA g) U U.heap) ∧
  (∀ w ∈ WN, va_Nw w U) ∧
  vx_Zq Bundle.tN "UNASSIGNED_STACK" Bundle.steD (gA g) U U.heap ∧ vx_Zq Bundle.tN "SUPPRESSED_SENTINEL" Bundle.listD (gA g) U U.heap ∧
  (∀ q ∈ strT, ∃ a, vk_R RX7 q.1 q.2 a U) ∧ (∀ q ∈ ncT, va_Nc q.1 q.2 U) ∧ va_AO RX6 U ∧ StrK g U ∧ ∃ aS aV, StrF g aS aV U
theorem wn_warm {s U : State} (hW : s.WarmedH U.vm) (h : ∀ w ∈ WN, va_Nw w s) : ∀ w ∈ WN, va_Nw w U := by
  intro w hw
  have h1 := h w hw
  have h2 := (List.mem_filter.mp hw).2
  cases w <;> first | exact va_Nw.warmF hW h1 | exact va_Nw.warmM hW h1 | exact va_Nw.warmC hW h1 | exact va_Nw.warmD hW h1 | (simp [nestW] at h2)
theorem StrF.kept {g : GE} {aS aV : Nat} {s U : State} (h : StrF g aS aV s) (hW : s.WarmedH U.vm) (hk : ∀ q : Nat, q < s.heap.size → ¬ gA g q → U.heap[q]? = s.heap[q]?) : StrF g aS aV U := by
  obtain ⟨h1, h2, h3, h4, h5⟩ := h
  have hvm := hW.alike
  exact ⟨h1.warm hW, (va_O.moved hvm h2).kept hk, (va_OF.moved hvm h3).kept hk, (va_OF.moved hvm h4).kept hk, (va_T.moved hvm h5).kept hk⟩
theorem StrK.kept {g : GE} {s U : State} (h : StrK g s) (hW : s.WarmedH U.vm) (hk : ∀ q : Nat, q < s.heap.size → ¬ gA g q → U.heap[q]? = s.heap[q]?) : StrK g U := ⟨(va_Z.moved hW.alike h.1).kept hk, (va_Zq.moved hW.alike h.2).kept hk⟩
theorem EnvOK.kept {g : GE} {l : Launch} {s U : State} (h : EnvOK g l s) (hW : s.WarmedH U.vm) (hz : s.heap.size ≤ U.heap.size) (hk : ∀ q : Nat, q < s.heap.size → ¬ gA g q → U.heap[q]? = s.heap[q]?) : EnvOK g l U := by
  obtain ⟨h1, h2, h3, h4, h5, h6, h7, h8, h9, h10, h11, h12, aS, aV, h13⟩ := h
  have hvm := hW.alike
  exact ⟨Nat.le_trans h1 hz, h2, h3.moved hvm, fun k => ⟨((h4 k).1.moved hvm).kept (hk _ (h4 k).2.1 (h4 k).2.2), Nat.lt_of_lt_of_le (h4 k).2.1 hz, (h4 k).2.2⟩, fun q hq => ((h5 q hq).moved hvm).kept hk, wn_warm hW h6, (h7.moved hvm).kept hk, (h8.moved hvm).kept hk, fun q hq => by obtain ⟨a, z⟩ := h9 q hq; exact ⟨a, z.warm hW⟩, fun q hq => (h10 q hq).moved hvm, va_AO.moved hvm h11, h12.kept hW hk, aS, aV, h13.kept hW hk⟩
theorem EnvOK.at {g : GE} {l : Launch} {s U : State} {H : Heap} {locs : List Loc} (h : EnvOK g l s) (hS : va_S (gA g) s.heap H locs) (hU : U.heap = H) (hW : s.WarmedH U.vm) : EnvOK g l U := h.kept hW (by rw [hU]; exact hS.1) (fun q a b => by rw [hU]; exact hS.2.1 q a b)
theorem EnvOK.own {g : GE} {l : Launch} {s : State} (h : EnvOK g l s) : ∀ q, s.heap.size ≤ q → gA g q := fun q hq => Nat.le_trans h.1 hq
/-- EnvOK doesn't look at frames -/
theorem EnvOK.blind {g : GE} {l : Launch} {U : State} {f : JFrame} {mk : MethodId} {a : Array Value} (h : EnvOK g l U) : EnvOK g l (U.calling f mk a) := h.kept (State.WarmedH.refl U) (Nat.le_refl _) (fun _ _ _ => rfl)
theorem HW.blind {g : GE} {U : State} {f : JFrame} {mk : MethodId} {a : Array Value} {ad : List Nat} {hp : Hp} (h : HW g U ad hp U.heap) : HW g (U.calling f mk a) ad hp (U.calling f mk a).heap := h.moved (Vm.Alike.refl U.vm)
/-- the thing of a number: where it lies -/
theorem HW.find {g : GE} {s : State} {ad : List Nat} {hp : Hp} {H : Heap} (h : HW g s ad hp H) {i a : Nat} (hi : vAd g ad i = some a) (hn : ∀ k, hp.2 i ≠ roOb g k) :
    ∃ (ws : va_W) (e : va_E), va_P g.1 kls ws H ∧ va_D (gA g) ws ∧ ws.map Prod.fst = ad ∧ hp.1 = ad.length ∧ hp.1 ≤ RO ∧ (∀ (i : Nat) (q : Nat × va_E), ws[i]? = some q → OR g s ad (hp.2 i) q.2) ∧ (∀ k, hp.2 (RO + k) = roOb g k) ∧ ws[i]? = some (a, e) ∧ OR g s ad (hp.2 i) e := by
  obtain ⟨ws, h1, h2, h3, h4, h5, h6, h7⟩ := h
  have hlt : i < RO := by
    rcases Nat.lt_or_ge i RO with q | q
    · exact q
    · exact absurd (by have := h7 (i - RO); rwa [show RO + (i - RO) = i by omega] at this) (hn (i - RO))
  unfold vAd at hi
  rw [if_pos hlt, ← h3, List.getElem?_map] at hi
  cases hq : ws[i]? with
  | none => rw [hq] at hi; cases hi
  | some q =>
    rw [hq] at hi
    obtain ⟨a', e⟩ := q
    cases hi
    exact ⟨ws, e, h1, h2, h3, h4, h5, h6, h7, rfl.trans hq, h6 i _ hq⟩
/-- a change of one thing -/
theorem HW.put {g : GE} {s : State} {ad : List Nat} {hp : Hp} {H1 : Heap} {ws : va_W} {i a : Nat} {e e' : va_E} {o : Ob} (h3 : ws.map Prod.fst = ad) (h4 : hp.1 = ad.length) (h5 : hp.1 ≤ RO) (h6 : ∀ (i : Nat) (q : Nat × va_E), ws[i]? = some q → OR g s ad (hp.2 i) q.2) (h7 : ∀ k, hp.2 (RO + k) = roOb g k) (hi : ws[i]? = some (a, e))
    (hP : va_P g.1 kls (ws.set i (a, e')) H1) (hD : va_D (gA g) (ws.set i (a, e'))) (ho : OR g s ad o e') : HW g s ad (hup hp i o) H1 := by
  have hl : i < ws.length := (List.getElem?_eq_some_iff.mp hi).1
  have hw : ws.length = ad.length := by rw [← h3]; simp
  refine ⟨ws.set i (a, e'), hP, hD, ?_, h4, h5, fun j q hq => ?_, fun k => ?_⟩
  · rw [← h3]
    apply List.ext_getElem?
    intro j
    rw [List.getElem?_map, List.getElem?_map]
    by_cases hj : i = j
    · subst hj
      rw [List.getElem?_set_self hl, hi]; rfl
    · rw [List.getElem?_set_ne hj]
  · show OR g s ad (if j = i then o else hp.2 j) q.2
    by_cases hj : j = i
    · subst hj
      rw [List.getElem?_set_self hl] at hq
      cases hq
      rw [if_pos rfl]; exact ho
    · rw [List.getElem?_set_ne (fun z => hj z.symm)] at hq
      rw [if_neg hj]; exact h6 j q hq
  · show (if RO + k = i then o else hp.2 (RO + k)) = _
    rw [if_neg (by omega)]; exact h7 k
