/-! THE FIRST BOOK'S TEXT: String.length and String.charAt -/
def MetS (l : Launch) (g : GE) (y : MethodName) (cc : ByteArray) (nL : Nat) (ret : Option FieldType) (rm : Room) (as : List Value) (K : State → Prop) (v : Option Value) : Prop := Met l y (Cond.code y cc nL ret :: WS) rm (va_Pc as (fun U => EnvOK g l U ∧ K U)) (fun _ st o t => o = .returned v ∧ t.heap = st.heap) 0 0 (fun _ => False)
section Str
variable {p : Program} {l : Launch} {e : Env} {R : Room} {s : State} {m : MethodId} {args : Array Value} {below : List Frame} {meth : Method} {c : Code} {H : Heap} {locs : List Loc} {cells slots : Nat} {Q : State → Prop}
/-- behind a call that changes nothing -/
theorem runS_go {pc : Nat} {ls : Array Slot} {st0 rest : List Value} {v : Option Value} (hr : va_Run p l e R s m args below meth c H locs cells slots 0 0 (F0 m pc ls st0) rest (fun st o t => o = .returned v ∧ t.heap = st.heap) (fun _ => False))
    (kk : W p l e R s m args below meth c H locs cells slots Q (F0 m (pc + 3) ls (v.toList ++ rest))) : W p l e R s m args below meth c H locs cells slots Q (F0 m pc ls st0) := by
  intro T hT X
  obtain ⟨v', st₀, t, T', L, h0, X', hL, e1, e2, ⟨hv, hh⟩, goes⟩ := hr T hT X
  cases hv
  have hLn : L = [] := by
    cases L with
    | nil => rfl
    | cons q L => exact (hL q List.mem_cons_self).elim
  subst hLn
  rw [List.append_nil] at X'
  obtain ⟨t2, a1, b1⟩ := kk T' (by rw [e1, hh, h0]) X'
  exact ⟨t2, goes t2 a1, b1⟩
end Str
theorem blindS {g : GE} {l : Launch} {K : State → Prop} {vs' : List Value} (hK : ∀ (U : State) (f : JFrame) (mk : MethodId) (a : Array Value), K U → K (U.calling f mk a)) : FrameBlind (va_Pc vs' (fun U => EnvOK g l U ∧ K U)) := fun a U f mk h => ⟨h.1, h.2.1.blind, hK U f mk a h.2.2⟩
theorem StrF.blind {g : GE} {aS aV : Nat} (U : State) (f : JFrame) (mk : MethodId) (a : Array Value) (h : StrF g aS aV U) : StrF g aS aV (U.calling f mk a) := h.kept (State.WarmedH.refl U) (fun _ _ _ => rfl)
-- by program
theorem sw10 : Cond.initialized RJ0 ∈ WS := ws_t (tm1 (List.mem_of_getElem? (i := 10) rfl)) rfl
theorem sw11 : Cond.initialized RJ1 ∈ WS := ws_t (tm1 (List.mem_of_getElem? (i := 11) rfl)) rfl
theorem sw12 : Cond.initialized RJ3 ∈ WS := ws_t (tm1 (List.mem_of_getElem? (i := 12) rfl)) rfl
theorem sw1576 : Cond.fieldLink RJ0 9 RJ0 "value" "[B" ∈ WS := ws_t (tm7 (List.mem_of_getElem? (i := 136) rfl)) rfl
theorem sw1577 : Cond.fieldLink RJ0 15 RJ0 "coder" "B" ∈ WS := ws_t (tm7 (List.mem_of_getElem? (i := 137) rfl)) rfl
theorem sw271 : Cond.instanceMethod yJ0_length_8abf5 ∈ WS := ws_t (tm2 (List.mem_of_getElem? (i := 31) rfl)) rfl
theorem sw272 : Cond.selects RJ0 yJ0_length_8abf5 yJ0_length_8abf5 ∈ WS := ws_t (tm2 (List.mem_of_getElem? (i := 32) rfl)) rfl
theorem sw273 : Cond.code yJ0_length_8abf5 cJ0_length_8abf5 1 (some .int) ∈ WS := ws_t (tm2 (List.mem_of_getElem? (i := 33) rfl)) rfl
theorem sw274 : Cond.methodLink RJ0 335 yJ0_coder_7d493 ∈ WS := ws_t (tm2 (List.mem_of_getElem? (i := 34) rfl)) rfl
theorem sw275 : Cond.instanceMethod yJ0_coder_7d493 ∈ WS := ws_t (tm2 (List.mem_of_getElem? (i := 35) rfl)) rfl
theorem sw276 : Cond.selects RJ0 yJ0_coder_7d493 yJ0_coder_7d493 ∈ WS := ws_t (tm2 (List.mem_of_getElem? (i := 36) rfl)) rfl
theorem sw277 : Cond.code yJ0_coder_7d493 cJ0_coder_7d493 1 (some .byte) ∈ WS := ws_t (tm2 (List.mem_of_getElem? (i := 37) rfl)) rfl
theorem sw278 : Cond.fieldLink RJ0 38 RJ0 "COMPACT_STRINGS" "Z" ∈ WS := ws_t (tm2 (List.mem_of_getElem? (i := 38) rfl)) rfl
theorem sw281 : Cond.instanceMethod yJ0_charAt_5068e ∈ WS := ws_t (tm2 (List.mem_of_getElem? (i := 41) rfl)) rfl
theorem sw282 : Cond.selects RJ0 yJ0_charAt_5068e yJ0_charAt_5068e ∈ WS := ws_t (tm2 (List.mem_of_getElem? (i := 42) rfl)) rfl
theorem sw283 : Cond.code yJ0_charAt_5068e cJ0_charAt_5068e 2 (some .char) ∈ WS := ws_t (tm2 (List.mem_of_getElem? (i := 43) rfl)) rfl
theorem sw284 : Cond.methodLink RJ0 492 yJ0_isLatin1_aae02 ∈ WS := ws_t (tm2 (List.mem_of_getElem? (i := 44) rfl)) rfl
theorem sw285 : Cond.instanceMethod yJ0_isLatin1_aae02 ∈ WS := ws_t (tm2 (List.mem_of_getElem? (i := 45) rfl)) rfl
theorem sw286 : Cond.selects RJ0 yJ0_isLatin1_aae02 yJ0_isLatin1_aae02 ∈ WS := ws_t (tm2 (List.mem_of_getElem? (i := 46) rfl)) rfl
theorem sw287 : Cond.code yJ0_isLatin1_aae02 cJ0_isLatin1_aae02 1 (some .boolean) ∈ WS := ws_t (tm2 (List.mem_of_getElem? (i := 47) rfl)) rfl
theorem sw288 : Cond.methodLink RJ0 495 yJ1_charAt_3b067 ∈ WS := ws_t (tm2 (List.mem_of_getElem? (i := 48) rfl)) rfl
theorem sw289 : Cond.static yJ1_charAt_3b067 ∈ WS := ws_t (tm2 (List.mem_of_getElem? (i := 49) rfl)) rfl
theorem sw290 : Cond.code yJ1_charAt_3b067 cJ1_charAt_3b067 2 (some .char) ∈ WS := ws_t (tm2 (List.mem_of_getElem? (i := 50) rfl)) rfl
theorem sw291 : Cond.methodLink RJ1 9 yJ0_checkIndex_df160 ∈ WS := ws_t (tm2 (List.mem_of_getElem? (i := 51) rfl)) rfl
theorem sw292 : Cond.static yJ0_checkIndex_df160 ∈ WS := ws_t (tm2 (List.mem_of_getElem? (i := 52) rfl)) rfl
theorem sw293 : Cond.code yJ0_checkIndex_df160 cJ0_checkIndex_df160 2 none ∈ WS := ws_t (tm2 (List.mem_of_getElem? (i := 53) rfl)) rfl
theorem sw294 : Cond.fieldLink RJ0 1053 RJ3 "SIOOBE_FORMATTER" "Ljava/util/function/BiFunction;" ∈ WS := ws_t (tm2 (List.mem_of_getElem? (i := 54) rfl)) rfl
theorem sw296 : Cond.methodLink RJ0 1059 yJ3_checkIndex_8e157 ∈ WS := ws_t (tm2 (List.mem_of_getElem? (i := 56) rfl)) rfl
theorem sw297 : Cond.static yJ3_checkIndex_8e157 ∈ WS := ws_t (tm2 (List.mem_of_getElem? (i := 57) rfl)) rfl
theorem sw298 : Cond.code yJ3_checkIndex_8e157 cJ3_checkIndex_8e157 3 (some .int) ∈ WS := ws_t (tm2 (List.mem_of_getElem? (i := 58) rfl)) rfl
theorem dJ0_coder_7d493_0 : decode cJ0_coder_7d493 0 = .ok (.getstatic 38, 3) := by decide +kernel
theorem dJ0_coder_7d493_3 : decode cJ0_coder_7d493 3 = .ok (.ifCond .eq 10, 3) := by decide +kernel
theorem dJ0_coder_7d493_6 : decode cJ0_coder_7d493 6 = .ok (.aload_n 0, 1) := by decide +kernel
theorem dJ0_coder_7d493_7 : decode cJ0_coder_7d493 7 = .ok (.getfield 15, 3) := by decide +kernel
theorem dJ0_coder_7d493_10 : decode cJ0_coder_7d493 10 = .ok (.goto 4, 3) := by decide +kernel
theorem dJ0_coder_7d493_13 : decode cJ0_coder_7d493 13 = .ok (.iconst 1, 1) := by decide +kernel
theorem dJ0_coder_7d493_14 : decode cJ0_coder_7d493 14 = .ok (.ireturn, 1) := by decide +kernel
theorem s_coder (l : Launch) (g : GE) (aS aV : Nat) : MetS l g yJ0_coder_7d493 cJ0_coder_7d493 1 (some .byte) ({ frames := 0, cells := 0, slots := 0, locals := 0 } : Room) [.ref aS] (StrF g aS aV) (some (.int 0)) := by
  refine Met.ofW (cc := cJ0_coder_7d493) (maxL := 1) (ret := (some .byte)) (by decide +kernel) rfl ?_
  intro p e s m args below meth c s₁ B hml hv
  obtain ⟨rfl, henv, hF⟩ := hv
  have hx := B.exec
  have hb := B.bytes
  have hr := B.returns
  have hts0 := atoms_spec (ws := Cond.code yJ0_coder_7d493 cJ0_coder_7d493 1 (some .byte) :: WS) B.pre
  have hts : ∀ w ∈ WS, w.before ([.ref aS] : List Value).toArray s = true := fun w hw => hts0 w (List.mem_cons_of_mem _ hw)
  have hown : s.vm.findClass sN0 = some m.cls := findClass_of_methodNamed B.named
  have hlocks := B.notSynchronized
  have hS : va_S (gA g) s.heap s.heap [] := va_S.rf
  have hl := lv_entry ([.ref aS]) (n := 1) (Nat.le_of_ble_eq_true rfl)
  rw [lg_entry_eq]
  generalize (lg_sl ([.ref aS]) ++ List.replicate (1 - (lg_sl ([.ref aS])).length) Slot.unset).toArray = ls at hl ⊢
  have hl : lv_has ls 1 [(0, .ref aS)] := hl
  have hK := henv.2.2.2.2.2.2.2.2.2.2.2.1
  refine va_gets hx hb hK.1 hS hown (hts _ sw278) (fun _ z => z) dJ0_coder_7d493_0 ?_
  refine lv_if_eq (tgt := 13) hx hb dJ0_coder_7d493_3 (by decide) (fun hz => absurd hz (by decide)) (fun _ => ?_)
  refine lv_aload_n hx hb dJ0_coder_7d493_6 rfl (lv_at hl 0 rfl) ?_
  refine vk_getf hx hb hF.2.2.1 hS hown (hts _ sw1577) (fun _ z => z) dJ0_coder_7d493_7 ?_
  refine lv_goto (tgt := 14) hx hb dJ0_coder_7d493_10 (by decide) ?_
  exact W.zret (ty := .byte) hx hb hr (by decide) (fun t ht hW => ⟨rfl, ht⟩) (fun q h => nomatch h) dJ0_coder_7d493_14
theorem dJ0_isLatin1_aae02_0 : decode cJ0_isLatin1_aae02 0 = .ok (.getstatic 38, 3) := by decide +kernel
theorem dJ0_isLatin1_aae02_3 : decode cJ0_isLatin1_aae02 3 = .ok (.ifCond .eq 14, 3) := by decide +kernel
theorem dJ0_isLatin1_aae02_6 : decode cJ0_isLatin1_aae02 6 = .ok (.aload_n 0, 1) := by decide +kernel
theorem dJ0_isLatin1_aae02_7 : decode cJ0_isLatin1_aae02 7 = .ok (.getfield 15, 3) := by decide +kernel
theorem dJ0_isLatin1_aae02_10 : decode cJ0_isLatin1_aae02 10 = .ok (.ifCond .ne 7, 3) := by decide +kernel
theorem dJ0_isLatin1_aae02_13 : decode cJ0_isLatin1_aae02 13 = .ok (.iconst 1, 1) := by decide +kernel
theorem dJ0_isLatin1_aae02_14 : decode cJ0_isLatin1_aae02 14 = .ok (.goto 4, 3) := by decide +kernel
theorem dJ0_isLatin1_aae02_17 : decode cJ0_isLatin1_aae02 17 = .ok (.iconst 0, 1) := by decide +kernel
theorem dJ0_isLatin1_aae02_18 : decode cJ0_isLatin1_aae02 18 = .ok (.ireturn, 1) := by decide +kernel
theorem s_isl (l : Launch) (g : GE) (aS aV : Nat) : MetS l g yJ0_isLatin1_aae02 cJ0_isLatin1_aae02 1 (some .boolean) ({ frames := 0, cells := 0, slots := 0, locals := 0 } : Room) [.ref aS] (StrF g aS aV) (some (.int 1)) := by
  refine Met.ofW (cc := cJ0_isLatin1_aae02) (maxL := 1) (ret := (some .boolean)) (by decide +kernel) rfl ?_
  intro p e s m args below meth c s₁ B hml hv
  obtain ⟨rfl, henv, hF⟩ := hv
  have hx := B.exec
  have hb := B.bytes
  have hr := B.returns
  have hts0 := atoms_spec (ws := Cond.code yJ0_isLatin1_aae02 cJ0_isLatin1_aae02 1 (some .boolean) :: WS) B.pre
  have hts : ∀ w ∈ WS, w.before ([.ref aS] : List Value).toArray s = true := fun w hw => hts0 w (List.mem_cons_of_mem _ hw)
  have hown : s.vm.findClass sN0 = some m.cls := findClass_of_methodNamed B.named
  have hlocks := B.notSynchronized
  have hS : va_S (gA g) s.heap s.heap [] := va_S.rf
  have hl := lv_entry ([.ref aS]) (n := 1) (Nat.le_of_ble_eq_true rfl)
  rw [lg_entry_eq]
  generalize (lg_sl ([.ref aS]) ++ List.replicate (1 - (lg_sl ([.ref aS])).length) Slot.unset).toArray = ls at hl ⊢
  have hl : lv_has ls 1 [(0, .ref aS)] := hl
  have hK := henv.2.2.2.2.2.2.2.2.2.2.2.1
  refine va_gets hx hb hK.1 hS hown (hts _ sw278) (fun _ z => z) dJ0_isLatin1_aae02_0 ?_
  refine lv_if_eq (tgt := 17) hx hb dJ0_isLatin1_aae02_3 (by decide) (fun hz => absurd hz (by decide)) (fun _ => ?_)
  refine lv_aload_n hx hb dJ0_isLatin1_aae02_6 rfl (lv_at hl 0 rfl) ?_
  refine vk_getf hx hb hF.2.2.1 hS hown (hts _ sw1577) (fun _ z => z) dJ0_isLatin1_aae02_7 ?_
  refine lv_if_ne (tgt := 17) hx hb dJ0_isLatin1_aae02_10 (by decide) (fun hz => absurd rfl hz) (fun _ => ?_)
  refine lv_iconst (v := 1) hx hb dJ0_isLatin1_aae02_13 (by decide) ?_
  refine lv_goto (tgt := 18) hx hb dJ0_isLatin1_aae02_14 (by decide) ?_
  exact W.zret (ty := .boolean) hx hb hr (by decide) (fun t ht hW => ⟨rfl, ht⟩) (fun q h => nomatch h) dJ0_isLatin1_aae02_18
theorem dJ0_length_8abf5_0 : decode cJ0_length_8abf5 0 = .ok (.aload_n 0, 1) := by decide +kernel
theorem dJ0_length_8abf5_1 : decode cJ0_length_8abf5 1 = .ok (.getfield 9, 3) := by decide +kernel
theorem dJ0_length_8abf5_4 : decode cJ0_length_8abf5 4 = .ok (.arraylength, 1) := by decide +kernel
theorem dJ0_length_8abf5_5 : decode cJ0_length_8abf5 5 = .ok (.aload_n 0, 1) := by decide +kernel
theorem dJ0_length_8abf5_6 : decode cJ0_length_8abf5 6 = .ok (.invokevirtual 335, 3) := by decide +kernel
theorem dJ0_length_8abf5_9 : decode cJ0_length_8abf5 9 = .ok (.ishr, 1) := by decide +kernel
theorem dJ0_length_8abf5_10 : decode cJ0_length_8abf5 10 = .ok (.ireturn, 1) := by decide +kernel
theorem s_len (l : Launch) (g : GE) (aS aV : Nat) : MetS l g yJ0_length_8abf5 cJ0_length_8abf5 1 (some .int) ({ frames := 1, cells := 0, slots := 0, locals := 20 } : Room) [.ref aS] (StrF g aS aV) (some (.int 18)) := by
  refine Met.ofW (cc := cJ0_length_8abf5) (maxL := 1) (ret := (some .int)) (by decide +kernel) rfl ?_
  intro p e s m args below meth c s₁ B hml hv
  obtain ⟨rfl, henv, hF⟩ := hv
  have hx := B.exec
  have hb := B.bytes
  have hr := B.returns
  have hts0 := atoms_spec (ws := Cond.code yJ0_length_8abf5 cJ0_length_8abf5 1 (some .int) :: WS) B.pre
  have hts : ∀ w ∈ WS, w.before ([.ref aS] : List Value).toArray s = true := fun w hw => hts0 w (List.mem_cons_of_mem _ hw)
  have hown : s.vm.findClass sN0 = some m.cls := findClass_of_methodNamed B.named
  have hlocks := B.notSynchronized
  have hS : va_S (gA g) s.heap s.heap [] := va_S.rf
  have hl := lv_entry ([.ref aS]) (n := 1) (Nat.le_of_ble_eq_true rfl)
  rw [lg_entry_eq]
  generalize (lg_sl ([.ref aS]) ++ List.replicate (1 - (lg_sl ([.ref aS])).length) Slot.unset).toArray = ls at hl ⊢
  have hl : lv_has ls 1 [(0, .ref aS)] := hl
  have hK := henv.2.2.2.2.2.2.2.2.2.2.2.1
  refine lv_aload_n hx hb dJ0_length_8abf5_0 rfl (lv_at hl 0 rfl) ?_
  refine vk_getf hx hb hF.2.2.2.1 hS hown (hts _ sw1576) (fun _ z => z) dJ0_length_8abf5_1 ?_
  refine va_tlen (v := 18) hx hb hF.2.2.2.2 hS (by decide) dJ0_length_8abf5_4 ?_
  refine lv_aload_n hx hb dJ0_length_8abf5_5 rfl (lv_at hl 0 rfl) ?_
  refine runS_go (v := some (.int 0)) (va_runV (Ts := WS) (own := sN0) (C := sN0) (As := []) (b := aS) (rest := [.int 18]) ⟨hx, hb, hml, hown, hts⟩ (s_coder l g aS aV) ⟨callB_of 0 hts (ws_self sw277) rfl rfl rfl (hts _ sw10) (hts _ sw274) (by decide +kernel) ⟨Nat.le_of_ble_eq_true rfl, Nat.le_of_ble_eq_true rfl⟩, hts _ sw275, hts _ sw276⟩ ⟨blindS (fun U f mk a h => StrF.blind U f mk a h), by obtain ⟨ce, z1, z2, z3, z4⟩ := hF.2.1; exact ⟨ce, z1, z2, z3⟩, fun U hU hW => ⟨rfl, henv.at hS hU hW, hF.kept hW (fun q _ _ => by rw [hU])⟩⟩ rfl rfl hl.1 rfl (Nat.le_of_ble_eq_true rfl) dJ0_length_8abf5_6 ⟨Nat.zero_le _, Nat.zero_le _⟩) ?_
  refine lv_ishr hx hb dJ0_length_8abf5_9 ?_
  exact W.iret (v := (18 : Int32) >>> ((0 : Int32) &&& 31)) hx hb hr (fun t ht hW => ⟨rfl, ht⟩) (fun q h => nomatch h) dJ0_length_8abf5_10
theorem dJ3_checkIndex_8e157_0 : decode cJ3_checkIndex_8e157 0 = .ok (.iload_n 0, 1) := by decide +kernel
theorem dJ3_checkIndex_8e157_1 : decode cJ3_checkIndex_8e157 1 = .ok (.ifCond .lt 8, 3) := by decide +kernel
theorem dJ3_checkIndex_8e157_4 : decode cJ3_checkIndex_8e157 4 = .ok (.iload_n 0, 1) := by decide +kernel
theorem dJ3_checkIndex_8e157_5 : decode cJ3_checkIndex_8e157 5 = .ok (.iload_n 1, 1) := by decide +kernel
theorem dJ3_checkIndex_8e157_6 : decode cJ3_checkIndex_8e157 6 = .ok (.if_icmp .lt 10, 3) := by decide +kernel
theorem dJ3_checkIndex_8e157_9 : decode cJ3_checkIndex_8e157 9 = .ok (.aload_n 2, 1) := by decide +kernel
theorem dJ3_checkIndex_8e157_10 : decode cJ3_checkIndex_8e157 10 = .ok (.iload_n 0, 1) := by decide +kernel
theorem dJ3_checkIndex_8e157_11 : decode cJ3_checkIndex_8e157 11 = .ok (.iload_n 1, 1) := by decide +kernel
theorem dJ3_checkIndex_8e157_12 : decode cJ3_checkIndex_8e157 12 = .ok (.invokestatic 95, 3) := by decide +kernel
theorem dJ3_checkIndex_8e157_15 : decode cJ3_checkIndex_8e157 15 = .ok (.athrow, 1) := by decide +kernel
theorem dJ3_checkIndex_8e157_16 : decode cJ3_checkIndex_8e157 16 = .ok (.iload_n 0, 1) := by decide +kernel
theorem dJ3_checkIndex_8e157_17 : decode cJ3_checkIndex_8e157 17 = .ok (.ireturn, 1) := by decide +kernel
theorem s_pci (l : Launch) (g : GE) (v2 : Value) (k : Int32) (h0 : ¬ k < 0) (h1 : k < 18) (hc : v2 = .null ∨ ∃ t, v2 = .ref t) : MetS l g yJ3_checkIndex_8e157 cJ3_checkIndex_8e157 3 (some .int) ({ frames := 0, cells := 0, slots := 0, locals := 0 } : Room) [.int k, .int 18, v2] (fun _ => True) (some (.int k)) := by
  refine Met.ofW (cc := cJ3_checkIndex_8e157) (maxL := 3) (ret := some .int) (by decide +kernel) rfl ?_
  intro p e s m args below meth c s₁ B hml hv
  obtain ⟨rfl, henv, hF⟩ := hv
  have hx := B.exec
  have hb := B.bytes
  have hr := B.returns
  have hlocks := B.notSynchronized
  have hl := lv_entry ([.int k, .int 18, v2]) (n := 3) (by rcases hc with rfl | ⟨t, rfl⟩ <;> exact Nat.le_of_ble_eq_true rfl)
  rw [lg_entry_eq]
  generalize (lg_sl ([.int k, .int 18, v2]) ++ List.replicate (3 - (lg_sl ([.int k, .int 18, v2])).length) Slot.unset).toArray = ls at hl ⊢
  have hl : lv_has ls 3 [(0, .int k), (1, .int 18)] := lv_sub hl [0, 1] (by rcases hc with rfl | ⟨t, rfl⟩ <;> rfl)
  refine lv_iload_n hx hb dJ3_checkIndex_8e157_0 rfl (lv_at hl 0 rfl) ?_
  refine lv_if_lt (tgt := 9) hx hb dJ3_checkIndex_8e157_1 (by decide) (fun hz => absurd hz h0) (fun _ => ?_)
  refine lv_iload_n hx hb dJ3_checkIndex_8e157_4 rfl (lv_at hl 0 rfl) ?_
  refine lv_iload_n hx hb dJ3_checkIndex_8e157_5 rfl (lv_at hl 1 rfl) ?_
  refine lv_icmp_lt (tgt := 16) hx hb dJ3_checkIndex_8e157_6 (by decide) (fun _ => ?_) (fun hz => absurd h1 hz)
  refine lv_iload_n hx hb dJ3_checkIndex_8e157_16 rfl (lv_at hl 0 rfl) ?_
  exact W.iret (v := k) hx hb hr (fun t ht hW => ⟨rfl, ht⟩) (fun q h => nomatch h) dJ3_checkIndex_8e157_17
theorem dJ0_checkIndex_df160_0 : decode cJ0_checkIndex_df160 0 = .ok (.iload_n 0, 1) := by decide +kernel
theorem dJ0_checkIndex_df160_1 : decode cJ0_checkIndex_df160 1 = .ok (.iload_n 1, 1) := by decide +kernel
theorem dJ0_checkIndex_df160_2 : decode cJ0_checkIndex_df160 2 = .ok (.getstatic 1053, 3) := by decide +kernel
theorem dJ0_checkIndex_df160_5 : decode cJ0_checkIndex_df160 5 = .ok (.invokestatic 1059, 3) := by decide +kernel
theorem dJ0_checkIndex_df160_8 : decode cJ0_checkIndex_df160 8 = .ok (.pop, 1) := by decide +kernel
theorem dJ0_checkIndex_df160_9 : decode cJ0_checkIndex_df160 9 = .ok (.return_, 1) := by decide +kernel
theorem s_ci (l : Launch) (g : GE) (k : Int32) (h0 : ¬ k < 0) (h1 : k < 18) : MetS l g yJ0_checkIndex_df160 cJ0_checkIndex_df160 2 none ({ frames := 1, cells := 0, slots := 0, locals := 22 } : Room) [.int k, .int 18] (fun _ => True) (none) := by
  refine Met.ofW (cc := cJ0_checkIndex_df160) (maxL := 2) (ret := none) (by decide +kernel) rfl ?_
  intro p e s m args below meth c s₁ B hml hv
  obtain ⟨rfl, henv, hF⟩ := hv
  have hx := B.exec
  have hb := B.bytes
  have hr := B.returns
  have hts0 := atoms_spec (ws := Cond.code yJ0_checkIndex_df160 cJ0_checkIndex_df160 2 none :: WS) B.pre
  have hts : ∀ w ∈ WS, w.before ([.int k, .int 18] : List Value).toArray s = true := fun w hw => hts0 w (List.mem_cons_of_mem _ hw)
  have hown : s.vm.findClass sN0 = some m.cls := findClass_of_methodNamed B.named
  have hlocks := B.notSynchronized
  have hS : va_S (gA g) s.heap s.heap [] := va_S.rf
  have hl := lv_entry ([.int k, .int 18]) (n := 2) (Nat.le_of_ble_eq_true rfl)
  rw [lg_entry_eq]
  generalize (lg_sl ([.int k, .int 18]) ++ List.replicate (2 - (lg_sl ([.int k, .int 18])).length) Slot.unset).toArray = ls at hl ⊢
  have hl : lv_has ls 2 [(0, .int k), (1, .int 18)] := hl
  have hK := henv.2.2.2.2.2.2.2.2.2.2.2.1
  refine lv_iload_n hx hb dJ0_checkIndex_df160_0 rfl (lv_at hl 0 rfl) ?_
  refine lv_iload_n hx hb dJ0_checkIndex_df160_1 rfl (lv_at hl 1 rfl) ?_
  have key : ∀ v2 : Value, (v2 = .null ∨ ∃ t, v2 = .ref t) → va_Z "jdk/internal/util/Preconditions" "SIOOBE_FORMATTER" "Ljava/util/function/BiFunction;" v2 (gA g) s s.heap → W p l e ({ frames := 1, cells := 0, slots := 0, locals := 22 } : Room) s m ([.int k, .int 18] : List Value).toArray below meth c s.heap [] 0 0 (MQ below (fun _ st o t => o = .returned none ∧ t.heap = st.heap) ([.int k, .int 18] : List Value).toArray s 0 0 (fun _ => False)) (F0 m 2 ls [.int 18, .int k]) := by
    intro v2 hv2 hZ
    refine va_gets hx hb hZ hS hown (hts _ sw294) (fun _ z => z) dJ0_checkIndex_df160_2 ?_
    refine runS_go (v := some (.int k)) (va_runS (Ts := WS) (own := sN0) (As := [.int k, .int 18, v2]) (rest := []) ⟨hx, hb, hml, hown, hts⟩ (s_pci l g v2 k h0 h1 hv2) ⟨callB_of 3 hts (ws_self sw298) rfl rfl rfl (hts _ sw12) (hts _ sw296) (by decide +kernel) ⟨Nat.le_of_ble_eq_true rfl, Nat.le_of_ble_eq_true rfl⟩, hts _ sw297⟩ ⟨blindS (fun _ _ _ _ h => h), fun U hU hW => ⟨rfl, henv.at hS hU hW, trivial⟩⟩ rfl rfl hl.1 rfl (Nat.le_of_ble_eq_true rfl) dJ0_checkIndex_df160_5 ⟨Nat.zero_le _, Nat.zero_le _⟩) ?_
    refine lv_pop hx hb dJ0_checkIndex_df160_8 rfl ?_
    exact W.vret hx hb hr (fun t ht hW => ⟨rfl, ht⟩) (fun q h => nomatch h) dJ0_checkIndex_df160_9
  rcases hK.2 with hZ | ⟨t, hZ⟩
  · exact key _ (Or.inl rfl) hZ
  · exact key _ (Or.inr ⟨t, rfl⟩) hZ
def bkC (k : Int32) : Int32 := ((bkB.getD k.toNatClampNeg 0 &&& 255).toUInt32 % 65536).toInt32
theorem bkC_nar (k : Int32) (h0 : ¬ k < 0) (h1 : k < 18) : narrow .char (.int (bkC k)) = .int (bkC k) := by
  have h : k.toNatClampNeg < 18 := by
    have a := Int32.lt_iff_toInt_lt.mp h1
    have b : (18 : Int32).toInt = 18 := by decide
    unfold Int32.toNatClampNeg
    omega
  unfold bkC
  revert h
  generalize k.toNatClampNeg = n
  intro h
  have : ∀ n, n < 18 → narrow .char (.int (((bkB.getD n 0 &&& 255).toUInt32 % 65536).toInt32)) = .int (((bkB.getD n 0 &&& 255).toUInt32 % 65536).toInt32) := by decide +kernel
  exact this n h
theorem dJ1_charAt_3b067_0 : decode cJ1_charAt_3b067 0 = .ok (.iload_n 1, 1) := by decide +kernel
theorem dJ1_charAt_3b067_1 : decode cJ1_charAt_3b067 1 = .ok (.aload_n 0, 1) := by decide +kernel
theorem dJ1_charAt_3b067_2 : decode cJ1_charAt_3b067 2 = .ok (.arraylength, 1) := by decide +kernel
theorem dJ1_charAt_3b067_3 : decode cJ1_charAt_3b067 3 = .ok (.invokestatic 9, 3) := by decide +kernel
theorem dJ1_charAt_3b067_6 : decode cJ1_charAt_3b067 6 = .ok (.aload_n 0, 1) := by decide +kernel
theorem dJ1_charAt_3b067_7 : decode cJ1_charAt_3b067 7 = .ok (.iload_n 1, 1) := by decide +kernel
theorem dJ1_charAt_3b067_8 : decode cJ1_charAt_3b067 8 = .ok (.baload, 1) := by decide +kernel
theorem dJ1_charAt_3b067_9 : decode cJ1_charAt_3b067 9 = .ok (.sipush 255, 3) := by decide +kernel
theorem dJ1_charAt_3b067_12 : decode cJ1_charAt_3b067 12 = .ok (.iand, 1) := by decide +kernel
theorem dJ1_charAt_3b067_13 : decode cJ1_charAt_3b067 13 = .ok (.i2c, 1) := by decide +kernel
theorem dJ1_charAt_3b067_14 : decode cJ1_charAt_3b067 14 = .ok (.ireturn, 1) := by decide +kernel
theorem s_lcat (l : Launch) (g : GE) (aS aV : Nat) (k : Int32) (h0 : ¬ k < 0) (h1 : k < 18) (hin : vp_in k 18) : MetS l g yJ1_charAt_3b067 cJ1_charAt_3b067 2 (some .char) ({ frames := 2, cells := 0, slots := 0, locals := 44 } : Room) [.ref aV, .int k] (StrF g aS aV) (some (.int (bkC k))) := by
  refine Met.ofW (cc := cJ1_charAt_3b067) (maxL := 2) (ret := (some .char)) (by decide +kernel) rfl ?_
  intro p e s m args below meth c s₁ B hml hv
  obtain ⟨rfl, henv, hF⟩ := hv
  have hx := B.exec
  have hb := B.bytes
  have hr := B.returns
  have hts0 := atoms_spec (ws := Cond.code yJ1_charAt_3b067 cJ1_charAt_3b067 2 (some .char) :: WS) B.pre
  have hts : ∀ w ∈ WS, w.before ([.ref aV, .int k] : List Value).toArray s = true := fun w hw => hts0 w (List.mem_cons_of_mem _ hw)
  have hown : s.vm.findClass RJ1 = some m.cls := findClass_of_methodNamed B.named
  have hlocks := B.notSynchronized
  have hS : va_S (gA g) s.heap s.heap [] := va_S.rf
  have hl := lv_entry ([.ref aV, .int k]) (n := 2) (Nat.le_of_ble_eq_true rfl)
  rw [lg_entry_eq]
  generalize (lg_sl ([.ref aV, .int k]) ++ List.replicate (2 - (lg_sl ([.ref aV, .int k])).length) Slot.unset).toArray = ls at hl ⊢
  have hl : lv_has ls 2 [(0, .ref aV), (1, .int k)] := hl
  have hK := henv.2.2.2.2.2.2.2.2.2.2.2.1
  refine lv_iload_n hx hb dJ1_charAt_3b067_0 rfl (lv_at hl 1 rfl) ?_
  refine lv_aload_n hx hb dJ1_charAt_3b067_1 rfl (lv_at hl 0 rfl) ?_
  refine va_tlen (v := 18) hx hb hF.2.2.2.2 hS (by decide) dJ1_charAt_3b067_2 ?_
  refine runS_go (v := none) (va_runS (Ts := WS) (own := RJ1) (As := [.int k, .int 18]) (rest := []) ⟨hx, hb, hml, hown, hts⟩ (s_ci l g k h0 h1) ⟨callB_of 2 hts (ws_self sw293) rfl rfl rfl (hts _ sw10) (hts _ sw291) (by decide +kernel) ⟨Nat.le_of_ble_eq_true rfl, Nat.le_of_ble_eq_true rfl⟩, hts _ sw292⟩ ⟨blindS (fun _ _ _ _ h => h), fun U hU hW => ⟨rfl, henv.at hS hU hW, trivial⟩⟩ rfl rfl hl.1 rfl (Nat.le_of_ble_eq_true rfl) dJ1_charAt_3b067_3 ⟨Nat.zero_le _, Nat.zero_le _⟩) ?_
  refine lv_aload_n hx hb dJ1_charAt_3b067_6 rfl (lv_at hl 0 rfl) ?_
  refine lv_iload_n hx hb dJ1_charAt_3b067_7 rfl (lv_at hl 1 rfl) ?_
  refine va_tb (v := .int (bkB.getD k.toNatClampNeg 0)) hx hb hF.2.2.2.2 hS hin rfl dJ1_charAt_3b067_8 ?_
  refine lv_sipush (v := 255) hx hb dJ1_charAt_3b067_9 (by decide) ?_
  refine lv_iand hx hb dJ1_charAt_3b067_12 ?_
  refine lv_i2c (v := bkC k) hx hb dJ1_charAt_3b067_13 rfl ?_
  exact W.zret (ty := .char) hx hb hr (bkC_nar k h0 h1) (fun t ht hW => ⟨rfl, ht⟩) (fun q h => nomatch h) dJ1_charAt_3b067_14
theorem dJ0_charAt_5068e_0 : decode cJ0_charAt_5068e 0 = .ok (.aload_n 0, 1) := by decide +kernel
theorem dJ0_charAt_5068e_1 : decode cJ0_charAt_5068e 1 = .ok (.invokevirtual 492, 3) := by decide +kernel
theorem dJ0_charAt_5068e_4 : decode cJ0_charAt_5068e 4 = .ok (.ifCond .eq 12, 3) := by decide +kernel
theorem dJ0_charAt_5068e_7 : decode cJ0_charAt_5068e 7 = .ok (.aload_n 0, 1) := by decide +kernel
theorem dJ0_charAt_5068e_8 : decode cJ0_charAt_5068e 8 = .ok (.getfield 9, 3) := by decide +kernel
theorem dJ0_charAt_5068e_11 : decode cJ0_charAt_5068e 11 = .ok (.iload_n 1, 1) := by decide +kernel
theorem dJ0_charAt_5068e_12 : decode cJ0_charAt_5068e 12 = .ok (.invokestatic 495, 3) := by decide +kernel
theorem dJ0_charAt_5068e_15 : decode cJ0_charAt_5068e 15 = .ok (.ireturn, 1) := by decide +kernel
theorem dJ0_charAt_5068e_16 : decode cJ0_charAt_5068e 16 = .ok (.aload_n 0, 1) := by decide +kernel
theorem dJ0_charAt_5068e_17 : decode cJ0_charAt_5068e 17 = .ok (.getfield 9, 3) := by decide +kernel
theorem dJ0_charAt_5068e_20 : decode cJ0_charAt_5068e 20 = .ok (.iload_n 1, 1) := by decide +kernel
theorem dJ0_charAt_5068e_21 : decode cJ0_charAt_5068e 21 = .ok (.invokestatic 498, 3) := by decide +kernel
theorem dJ0_charAt_5068e_24 : decode cJ0_charAt_5068e 24 = .ok (.ireturn, 1) := by decide +kernel
theorem s_cat (l : Launch) (g : GE) (aS aV : Nat) (k : Int32) (h0 : ¬ k < 0) (h1 : k < 18) (hin : vp_in k 18) : MetS l g yJ0_charAt_5068e cJ0_charAt_5068e 2 (some .char) ({ frames := 3, cells := 0, slots := 0, locals := 66 } : Room) [.ref aS, .int k] (StrF g aS aV) (some (.int (bkC k))) := by
  refine Met.ofW (cc := cJ0_charAt_5068e) (maxL := 2) (ret := (some .char)) (by decide +kernel) rfl ?_
  intro p e s m args below meth c s₁ B hml hv
  obtain ⟨rfl, henv, hF⟩ := hv
  have hx := B.exec
  have hb := B.bytes
  have hr := B.returns
  have hts0 := atoms_spec (ws := Cond.code yJ0_charAt_5068e cJ0_charAt_5068e 2 (some .char) :: WS) B.pre
  have hts : ∀ w ∈ WS, w.before ([.ref aS, .int k] : List Value).toArray s = true := fun w hw => hts0 w (List.mem_cons_of_mem _ hw)
  have hown : s.vm.findClass sN0 = some m.cls := findClass_of_methodNamed B.named
  have hlocks := B.notSynchronized
  have hS : va_S (gA g) s.heap s.heap [] := va_S.rf
  have hl := lv_entry ([.ref aS, .int k]) (n := 2) (Nat.le_of_ble_eq_true rfl)
  rw [lg_entry_eq]
  generalize (lg_sl ([.ref aS, .int k]) ++ List.replicate (2 - (lg_sl ([.ref aS, .int k])).length) Slot.unset).toArray = ls at hl ⊢
  have hl : lv_has ls 2 [(0, .ref aS), (1, .int k)] := hl
  have hK := henv.2.2.2.2.2.2.2.2.2.2.2.1
  refine lv_aload_n hx hb dJ0_charAt_5068e_0 rfl (lv_at hl 0 rfl) ?_
  refine runS_go (v := some (.int 1)) (va_runV (Ts := WS) (own := sN0) (C := sN0) (As := []) (b := aS) (rest := []) ⟨hx, hb, hml, hown, hts⟩ (s_isl l g aS aV) ⟨callB_of 0 hts (ws_self sw287) rfl rfl rfl (hts _ sw10) (hts _ sw284) (by decide +kernel) ⟨Nat.le_of_ble_eq_true rfl, Nat.le_of_ble_eq_true rfl⟩, hts _ sw285, hts _ sw286⟩ ⟨blindS (fun U f mk a h => StrF.blind U f mk a h), by obtain ⟨ce, z1, z2, z3, z4⟩ := hF.2.1; exact ⟨ce, z1, z2, z3⟩, fun U hU hW => ⟨rfl, henv.at hS hU hW, hF.kept hW (fun q _ _ => by rw [hU])⟩⟩ rfl rfl hl.1 rfl (Nat.le_of_ble_eq_true rfl) dJ0_charAt_5068e_1 ⟨Nat.zero_le _, Nat.zero_le _⟩) ?_
  refine lv_if_eq (tgt := 16) hx hb dJ0_charAt_5068e_4 (by decide) (fun hz => absurd hz (by decide)) (fun _ => ?_)
  refine lv_aload_n hx hb dJ0_charAt_5068e_7 rfl (lv_at hl 0 rfl) ?_
  refine vk_getf hx hb hF.2.2.2.1 hS hown (hts _ sw1576) (fun _ z => z) dJ0_charAt_5068e_8 ?_
  refine lv_iload_n hx hb dJ0_charAt_5068e_11 rfl (lv_at hl 1 rfl) ?_
  refine runS_go (v := some (.int (bkC k))) (va_runS (Ts := WS) (own := sN0) (As := [.ref aV, .int k]) (rest := []) ⟨hx, hb, hml, hown, hts⟩ (s_lcat l g aS aV k h0 h1 hin) ⟨callB_of 2 hts (ws_self sw290) rfl rfl rfl (hts _ sw11) (hts _ sw288) (by decide +kernel) ⟨Nat.le_of_ble_eq_true rfl, Nat.le_of_ble_eq_true rfl⟩, hts _ sw289⟩ ⟨blindS (fun U f mk a h => StrF.blind U f mk a h), fun U hU hW => ⟨rfl, henv.at hS hU hW, hF.kept hW (fun q _ _ => by rw [hU])⟩⟩ rfl rfl hl.1 rfl (Nat.le_of_ble_eq_true rfl) dJ0_charAt_5068e_12 ⟨Nat.zero_le _, Nat.zero_le _⟩) ?_
  exact W.zret (ty := .char) hx hb hr (bkC_nar k h0 h1) (fun t ht hW => ⟨rfl, ht⟩) (fun q h => nomatch h) dJ0_charAt_5068e_15
section StrLeaves
variable {Γ : Ct} {cc : ByteArray} {pc p1 w k1 n1 : Nat}
theorem Ev_strlen {idx : Nat} (ho : Γ.2.2.2.1 = RX7) (hl : Cond.methodLink RX7 idx yJ0_length_8abf5 ∈ WS) (d0 : decode cc pc = .ok (.ldc 52, 2)) (d2 : decode cc (pc + 2) = .ok (.invokevirtual idx, 3)) (hR1 : 2 ≤ (Rm Γ).frames) (hR2 : 40 ≤ (Rm Γ).locals) (hw8 : w ≤ 8) : Ev Γ cc Value.int pc (pc + 5) w 0 0 (eI 18) := by
  intro hok ls lc st hp H locs cells slots c1 s1 ad hL hR hw b1 b2 b3 b4 hp' r hf hk
  obtain ⟨⟨p, l, e, R, s⟩, ⟨m, args, below, meth, c⟩, g, own, ⟨nL, jl⟩, Fin, ad0⟩ := Γ
  obtain ⟨hx, hb, hml, hown, hts, henv, hlk, htb⟩ := hok
  cases hf
  have ho : own = RX7 := ho
  subst ho
  obtain ⟨aS, aV, hF⟩ := henv.2.2.2.2.2.2.2.2.2.2.2.2
  refine W.widen (k := c1) (n := s1) (by omega) (by omega) (va_ldcS hx hb hown hF.1 d0 ?_)
  have hrv : ∃ cellB : Cell, H[aS]? = some cellB ∧ cellB.vm.isStatics = false ∧ s.vm.findClass sN0 = some cellB.cls := by
    obtain ⟨ce, z1, z2, z3, z4⟩ := hF.2.1
    exact ⟨ce, by rw [hR.1.2.2.1 aS (Array.getElem?_eq_some_iff.mp z1).1 z4]; exact z1, z2, z3⟩
  refine runS_go (v := some (.int 18)) (va_runV (Ts := WS) (own := RX7) (C := sN0) (As := []) (b := aS) (rest := st) ⟨hx, hb, hml, hown, hts⟩ (s_len l g aS aV) ⟨callB_of 0 hts (ws_self sw273) rfl rfl rfl (hts _ sw10) (hts _ hl) (by decide +kernel) ⟨hR1, hR2⟩, hts _ sw271, hts _ sw272⟩ ⟨blindS (fun U f mk a h => StrF.blind U f mk a h), hrv, fun U hU hW => ⟨rfl, henv.at hR.1.2 hU hW, hF.kept hW (fun q u1 u2 => by rw [hU]; exact hR.1.2.2.1 q u1 u2)⟩⟩ rfl rfl hL.1 rfl (show 2 * 0 + _ ≤ 8 from by have : stW st ≤ w := hw; unfold stW at this; omega) d2 ⟨b2, b4⟩) ?_
  exact hk ad _ H locs AE.rf rfl hR
def eSt (i : EXi) : EXi := fun l h => eB (i l h) fun x h => if 0 ≤ x ∧ x < 18 then some (h, .inl (bkC x)) else none
theorem Ev_strch {idx : Nat} {a : EXi} (ho : Γ.2.2.2.1 = RX7) (hl : Cond.methodLink RX7 idx yJ0_charAt_5068e ∈ WS) (d0 : decode cc pc = .ok (.ldc 52, 2)) (ha : Ev Γ cc Value.int (pc + 2) p1 (w + 1) 0 0 a) (d2 : decode cc p1 = .ok (.invokevirtual idx, 3)) (hR1 : 4 ≤ (Rm Γ).frames) (hR2 : 87 ≤ (Rm Γ).locals) (hw8 : w ≤ 8) : Ev Γ cc Value.int pc (p1 + 3) w 0 0 (eSt a) := by
  intro hok ls lc st hp H locs cells slots c1 s1 ad hL hR hw b1 b2 b3 b4 hp' r hf hk
  have hE : ∀ E, r = .inr E → GF Γ hp' (.inr E) := fun E h => by subst h; exact hk
  obtain ⟨aS, aV, hF⟩ : ∃ aS aV, StrF Γ.2.2.1 aS aV Γ.1.2.2.2.2 := hok.2.2.2.2.2.1.2.2.2.2.2.2.2.2.2.2.2.2
  have key : GW Γ H locs cells slots (pc + 2) ls (.ref aS :: st) := by
    refine ha.go hok hL hR (stW_a hw) (by omega) (by omega) hf hE fun g1 x ad1 v1 H1 locs1 e1 q1 q2 q3 => ?_
    cases q2
    split at e1
    rotate_left
    · cases e1
    rename_i hx18
    cases e1
    obtain ⟨⟨p, l, e, R, s⟩, ⟨m, args, below, meth, c⟩, g, own, ⟨nL, jl⟩, Fin, ad0⟩ := Γ
    obtain ⟨hx, hb, hml, hown, hts, henv, hlk, htb⟩ := hok
    have ho : own = RX7 := ho
    subst ho
    have hrv : ∃ cellB : Cell, H1[aS]? = some cellB ∧ cellB.vm.isStatics = false ∧ s.vm.findClass sN0 = some cellB.cls := by
      obtain ⟨ce, z1, z2, z3, z4⟩ := hF.2.1
      exact ⟨ce, by rw [q3.1.2.2.1 aS (Array.getElem?_eq_some_iff.mp z1).1 z4]; exact z1, z2, z3⟩
    have hin : vp_in x 18 := fun z => z.elim (fun z => i_len hx18.1 z) (fun z => by
      have a := Int32.lt_iff_toInt_lt.mp hx18.2
      have b : (18 : Int32).toInt = 18 := by decide
      unfold Int32.toNatClampNeg at z
      omega)
    refine W.widen (k := c1) (n := s1) (by omega) (by omega) (runS_go (v := some (.int (bkC x))) (va_runV (Ts := WS) (own := RX7) (C := sN0) (As := [.int x]) (b := aS) (rest := st) ⟨hx, hb, hml, hown, hts⟩ (s_cat l g aS aV x (i_len hx18.1) hx18.2 hin) ⟨callB_of 1 hts (ws_self sw283) rfl rfl rfl (hts _ sw10) (hts _ hl) (by decide +kernel) ⟨hR1, hR2⟩, hts _ sw281, hts _ sw282⟩ ⟨blindS (fun U f mk a h => StrF.blind U f mk a h), hrv, fun U hU hW => ⟨rfl, henv.at q3.1.2 hU hW, hF.kept hW (fun q u1 u2 => by rw [hU]; exact q3.1.2.2.1 q u1 u2)⟩⟩ rfl rfl hL.1 rfl (show 2 * 0 + _ ≤ 8 from by have : stW st ≤ w := hw; unfold stW at this; omega) d2 ⟨b2, b4⟩) ?_)
    exact hk ad1 _ H1 locs1 q1 rfl q3
  obtain ⟨⟨p, l, e, R, s⟩, ⟨m, args, below, meth, c⟩, g, own, ⟨nL, jl⟩, Fin, ad0⟩ := Γ
  have ho : own = RX7 := ho
  subst ho
  exact va_ldcS hok.1 hok.2.1 hok.2.2.2.1 hF.1 d0 key
end StrLeaves
