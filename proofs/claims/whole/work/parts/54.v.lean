/-! the rows of part 41 once more, as rewrites that the kernel needn't find again by unfolding (a loop of a million rounds unfolds badly) -/
section
variable {l : Lc} {h : Hp} {i ci k t : Nat} {e e1 e2 : EXi} {o : EXa} {a b : SX}
theorem sQ_v : sQ a b l h = sB (a l h) b := id rfl
theorem sN_v : sN l h = some (h, .inl l) := id rfl
theorem sTi_v : sTi i e l h = eS (e l h) fun x h => some (h, .inl (l.set i (.int x))) := id rfl
theorem sTa_v : sTa i o l h = eS (o l h) fun x h => some (h, .inl (l.set i (.ref x))) := id rfl
theorem sTl_v {e : EXl} : sTl i e l h = eS (e l h) fun x h => some (h, .inl ((l.set i (.long x)).set (i + 1) .null)) := id rfl
theorem sR_v : sR e l h = eS (e l h) fun x h => some (h, .inr (.inl (some (.int x)))) := id rfl
theorem sRv_v : sRv l h = some (h, .inr (.inl none)) := id rfl
theorem sX_v {E : String} : sX E l h = some (h, .inr (.inr E)) := id rfl
theorem sPi_v : sPi o ci k e l h = eS (o l h) fun a h => eS (e l h) fun x h => oS (fp h a ci k (.int x)) fun h => some (h, .inl l) := id rfl
theorem sPa_v {o' : EXa} : sPa o ci k o' l h = eS (o l h) fun a h => eS (o' l h) fun x h => oS (fp h a ci k (.ref x)) fun h => some (h, .inl l) := id rfl
theorem sPo_v {op : Int32 → Int32 → Int32} : sPo o ci k op e l h = eS (o l h) fun a h => oS (fgi h a ci k) fun x => eS (e l h) fun y h => oS (fp h a ci k (.int (op x y))) fun h => some (h, .inl l) := id rfl
theorem sAi_v : sAi t o e1 e2 l h = eS (o l h) fun a h => eS (e1 l h) fun x h => eS (e2 l h) fun y h => oS (api t h a x y) fun h => some (h, .inl l) := id rfl
theorem sAl_v {e3 : EXl} : sAl o e1 e3 l h = eS (o l h) fun a h => eS (e1 l h) fun x h => eS (e3 l h) fun y h => oS (apl h a x y) fun h => some (h, .inl l) := id rfl
theorem sAa_v {o' : EXa} : sAa o e1 ci o' l h = eS (o l h) fun a h => eS (e1 l h) fun x h => eS (o' l h) fun y h => oS (apa h a x y ci) fun h => some (h, .inl l) := id rfl
theorem sAo_v {op : Int32 → Int32 → Int32} : sAo o e1 op e2 l h = eS (o l h) fun a h => eS (e1 l h) fun x h => oS (agi 0 h a x) fun z => eS (e2 l h) fun y h => oS (api 0 h a x (op z y)) fun h => some (h, .inl l) := id rfl
theorem cB_v {op : Int32 → Int32 → Bool} : cB op e1 e2 l h = eB (e1 l h) fun x h => eB (e2 l h) fun y h => some (h, .inl (op x y)) := id rfl
theorem cZ_v {op : Int32 → Bool} : cZ op e l h = eB (e l h) fun x h => some (h, .inl (op x)) := id rfl
theorem cNot_v {c : CX} : cNot c l h = eB (c l h) fun t h => some (h, .inl (!t)) := id rfl
theorem eI_v {n : Int32} : eI n l h = some (h, .inl n) := id rfl
theorem eJ_v {n : Int64} : eJ n l h = some (h, .inl n) := id rfl
theorem eOp_v {op : Int32 → Int32 → Int32} : eOp op e1 e2 l h = eB (e1 l h) fun x h => eB (e2 l h) fun y h => some (h, .inl (op x y)) := id rfl
theorem eQ_v {op : Int32 → Int32 → Int32} : eQ op e1 e2 l h = eB (e1 l h) fun x h => eB (e2 l h) fun y h => if y = 0 then none else some (h, .inl (op x y)) := id rfl
theorem eU_v {op : Int32 → Int32} : eU op e l h = eB (e l h) fun x h => some (h, .inl (op x)) := id rfl
theorem eIL_v {op : Int32 → Int64} : eIL op e l h = eB (e l h) fun x h => some (h, .inl (op x)) := id rfl
theorem eLO_v {op : Int64 → Int64 → Int64} {e3 e4 : EXl} : eLO op e3 e4 l h = eB (e3 l h) fun x h => eB (e4 l h) fun y h => some (h, .inl (op x y)) := id rfl
theorem eLS_v {op : Int64 → Int32 → Int64} {e3 : EXl} : eLS op e3 e l h = eB (e3 l h) fun x h => eB (e l h) fun y h => some (h, .inl (op x y)) := id rfl
theorem eLC_v {e3 e4 : EXl} : eLC e3 e4 l h = eB (e3 l h) fun x h => eB (e4 l h) fun y h => some (h, .inl (lg_cmp x y)) := id rfl
theorem eGi_v : eGi o ci k l h = eB (o l h) fun a h => oE (fgi h a ci k) fun x => some (h, .inl x) := id rfl
theorem eGa_v : eGa o ci k l h = eB (o l h) fun a h => oE (fga h a ci k) fun x => some (h, .inl x) := id rfl
theorem eZ_w : eZ k l h = some (h, .inl (RO + k)) := id rfl
theorem eAi_v : eAi t o e l h = eB (o l h) fun a h => eB (e l h) fun x h => oE (agi t h a x) fun y => some (h, .inl y) := id rfl
theorem eAl_v : eAl o e l h = eB (o l h) fun a h => eB (e l h) fun x h => oE (agl h a x) fun y => some (h, .inl y) := id rfl
theorem eAa_v : eAa o e l h = eB (o l h) fun a h => eB (e l h) fun x h => oE (aga h a x) fun y => some (h, .inl y) := id rfl
theorem eAn_v : eAn o l h = eB (o l h) fun a h => oE (agn h a) fun y => some (h, .inl y) := id rfl
theorem aN_v : aN l h = some (h, .inl []) := id rfl
theorem aI_v {as : AX} : aI as e l h = eB (as l h) fun vs h => eB (e l h) fun x h => some (h, .inl (vs ++ [.int x])) := id rfl
theorem aA_v {as : AX} : aA as o l h = eB (as l h) fun vs h => eB (o l h) fun x h => some (h, .inl (vs ++ [.ref x])) := id rfl
theorem sIf_w {c : CX} : sIf c a b l h = eS (c l h) fun t h => bif t then a l h else b l h := id rfl
theorem eIf_w {α : Type} {c : CX} {x y : Lc → Hp → RE α} : eIf c x y l h = eB (c l h) fun t h => bif t then x l h else y l h := id rfl
theorem cAnd_w {c d : CX} : cAnd c d l h = eB (c l h) fun t h => bif t then d l h else some (h, .inl false) := id rfl
theorem cOr_w {c d : CX} : cOr c d l h = eB (c l h) fun t h => bif t then some (h, .inl true) else d l h := id rfl
theorem eM_w {m : MX} {as : AX} : eM m as l h = eB (as l h) fun vs h => kI (m vs h) := id rfl
theorem sM_w {m : MX} {as : AX} : sM m as l h = eS (as l h) fun vs h => kV l (m vs h) := id rfl
theorem sMp_w {m : MX} {as : AX} : sMp m as l h = eS (as l h) fun vs h => kP l (m vs h) := id rfl
theorem mth_w {n : Nat} {vs : List Value} : mth n b vs h = kR (b (vs ++ List.replicate (n - vs.length) .null) h) := id rfl
theorem sRz_w : sRz e l h = eS (e l h) zR := id rfl
theorem sPz_w : sPz o ci k e l h = eS (o l h) fun a h => eS (e l h) fun x h => zP x (oS (fp h a ci k (.int x)) fun h => some (h, .inl l)) := id rfl
theorem sB_okw {q : Lc → Hp → RS} : sB (some (h, .inl l)) q = q l h := id rfl
theorem sB_xw {x : Option Value ⊕ String} {q : Lc → Hp → RS} : sB (some (h, .inr x)) q = some (h, .inr x) := id rfl
theorem eS_okw {α : Type} {x : α} {q : α → Hp → RS} : eS (some (h, .inl x)) q = q x h := id rfl
theorem eS_xw {α : Type} {x : String} {q : α → Hp → RS} : eS (some (h, .inr x)) q = some (h, .inr (.inr x)) := id rfl
theorem eB_okw {α β : Type} {x : α} {q : α → Hp → RE β} : eB (some (h, .inl x)) q = q x h := id rfl
theorem eB_xw {α β : Type} {x : String} {q : α → Hp → RE β} : eB (some (h, .inr x)) q = some (h, .inr x) := id rfl
theorem oE_w {α β : Type} {x : α} {q : α → RE β} : oE (some x) q = q x := id rfl
theorem oS_w {α : Type} {x : α} {q : α → RS} : oS (some x) q = q x := id rfl
theorem kI_iw {x : Int32} : kI (some (h, .inl (some (.int x)))) = some (h, .inl x) := id rfl
theorem kI_xw {E : String} : kI (some (h, .inr E)) = some (h, .inr E) := id rfl
theorem kV_w : kV l (some (h, .inl none)) = some (h, .inl l) := id rfl
theorem kV_xw {E : String} : kV l (some (h, .inr E)) = some (h, .inr (.inr E)) := id rfl
theorem kP_iw {x : Int32} : kP l (some (h, .inl (some (.int x)))) = some (h, .inl l) := id rfl
theorem kP_xw {E : String} : kP l (some (h, .inr E)) = some (h, .inr (.inr E)) := id rfl
theorem kR_w {x : Option Value ⊕ String} : kR (some (h, .inr x)) = some (h, x) := id rfl
theorem zR_bw {p : Bool} : zR (b01 p) h = some (h, .inr (.inl (some (.int (b01 p))))) := by cases p <;> rfl
theorem zR_0w : zR (nz 0) h = some (h, .inr (.inl (some (.int (b01 false))))) := id rfl
theorem zR_1w : zR (nz 1) h = some (h, .inr (.inl (some (.int (b01 true))))) := id rfl
end
