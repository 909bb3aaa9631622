theorem dX3_init_0 : decode cX3_init 0 = .ok (.aload_n 0, 1) := by decide +kernel
theorem dX3_init_1 : decode cX3_init 1 = .ok (.invokespecial 3, 3) := by decide +kernel
theorem dX3_init_4 : decode cX3_init 4 = .ok (.aload_n 0, 1) := by decide +kernel
theorem dX3_init_5 : decode cX3_init 5 = .ok (.bipush 80, 2) := by decide +kernel
theorem dX3_init_7 : decode cX3_init 7 = .ok (.newarray .char, 2) := by decide +kernel
theorem dX3_init_9 : decode cX3_init 9 = .ok (.putfield 9, 3) := by decide +kernel
theorem dX3_init_12 : decode cX3_init 12 = .ok (.aload_n 0, 1) := by decide +kernel
theorem dX3_init_13 : decode cX3_init 13 = .ok (.sipush 128, 3) := by decide +kernel
theorem dX3_init_16 : decode cX3_init 16 = .ok (.newarray .int, 2) := by decide +kernel
theorem dX3_init_18 : decode cX3_init 18 = .ok (.putfield 15, 3) := by decide +kernel
theorem dX3_init_21 : decode cX3_init 21 = .ok (.aload_n 0, 1) := by decide +kernel
theorem dX3_init_22 : decode cX3_init 22 = .ok (.bipush 64, 2) := by decide +kernel
theorem dX3_init_24 : decode cX3_init 24 = .ok (.newarray .boolean, 2) := by decide +kernel
theorem dX3_init_26 : decode cX3_init 26 = .ok (.putfield 19, 3) := by decide +kernel
theorem dX3_init_29 : decode cX3_init 29 = .ok (.return_, 1) := by decide +kernel
def f_X3_init : MX := mth 1 (sQ (sO) (sQ (sPa (eLa 0) 3 0 (eNi 3 80)) (sQ (sPa (eLa 0) 3 2 (eNi 0 128)) (sQ (sPa (eLa 0) 3 6 (eNi 2 64)) (sQ (sN) (sRv))))))
theorem Y_X3_init : Yk yX3_init cX3_init 1 none 0 := ⟨w191, w8, by decide +kernel, by decide +kernel, by decide +kernel⟩
set_option maxRecDepth 20000 in
theorem k_X3_init (l : Launch) (g : GE) : MetX l g yX3_init cX3_init 1 none 1 ({ frames := 1, cells := 3, slots := 272, locals := 12 } : Room) f_X3_init := by
  unfold f_X3_init
  exact MetX.of (own := RX3) 100 0 rfl (by decide +kernel) (by decide) (fun p e s m args below meth c Fin ad0 hr hn => ⟨_, _, Sv_seq (Sv_oinit w192 w30 wOc dX3_init_0 dX3_init_1 (Nat.le_of_ble_eq_true rfl) (Nat.le_of_ble_eq_true rfl)) (Sv_seq (Sv_putA Fx3 (Ev_aload_n dX3_init_4 rfl) (Ev_newa_char (N := 80) (v := 80) (Ev_bipush dX3_init_5 (by decide)) (by decide) (by decide +kernel) (by decide) w242 dX3_init_7) (k := 0) (by decide) rfl rfl hn rfl w193 dX3_init_9) (Sv_seq (Sv_putA Fx3 (Ev_aload_n dX3_init_12 rfl) (Ev_newa_int (N := 128) (v := 128) (Ev_sipush dX3_init_13 (by decide)) (by decide) (by decide +kernel) (by decide) w68 dX3_init_16) (k := 2) (by decide) rfl rfl hn rfl w196 dX3_init_18) (Sv_seq (Sv_putA Fx3 (Ev_aload_n dX3_init_21 rfl) (Ev_newa_boolean (N := 64) (v := 64) (Ev_bipush dX3_init_22 (by decide)) (by decide) (by decide +kernel) (by decide) w243 dX3_init_24) (k := 6) (by decide) rfl rfl hn rfl w205 dX3_init_26) (Sv_seq (Sv_nop) (Sv_retv hr dX3_init_29))))), Nat.le_of_ble_eq_true rfl, Nat.le_of_ble_eq_true rfl⟩)
theorem dX3_append_0 : decode cX3_append 0 = .ok (.aload_n 0, 1) := by decide +kernel
theorem dX3_append_1 : decode cX3_append 1 = .ok (.getfield 23, 3) := by decide +kernel
theorem dX3_append_4 : decode cX3_append 4 = .ok (.bipush 80, 2) := by decide +kernel
theorem dX3_append_6 : decode cX3_append 6 = .ok (.if_icmp .ge 23, 3) := by decide +kernel
theorem dX3_append_9 : decode cX3_append 9 = .ok (.aload_n 0, 1) := by decide +kernel
theorem dX3_append_10 : decode cX3_append 10 = .ok (.getfield 9, 3) := by decide +kernel
theorem dX3_append_13 : decode cX3_append 13 = .ok (.aload_n 0, 1) := by decide +kernel
theorem dX3_append_14 : decode cX3_append 14 = .ok (.getfield 23, 3) := by decide +kernel
theorem dX3_append_17 : decode cX3_append 17 = .ok (.iload_n 1, 1) := by decide +kernel
theorem dX3_append_18 : decode cX3_append 18 = .ok (.castore, 1) := by decide +kernel
theorem dX3_append_19 : decode cX3_append 19 = .ok (.aload_n 0, 1) := by decide +kernel
theorem dX3_append_20 : decode cX3_append 20 = .ok (.dup, 1) := by decide +kernel
theorem dX3_append_21 : decode cX3_append 21 = .ok (.getfield 23, 3) := by decide +kernel
theorem dX3_append_24 : decode cX3_append 24 = .ok (.iconst 1, 1) := by decide +kernel
theorem dX3_append_25 : decode cX3_append 25 = .ok (.iadd, 1) := by decide +kernel
theorem dX3_append_26 : decode cX3_append 26 = .ok (.putfield 23, 3) := by decide +kernel
theorem dX3_append_29 : decode cX3_append 29 = .ok (.return_, 1) := by decide +kernel
def f_X3_append : MX := mth 2 (sQ (sIf (cB c_lt (eGi (eLa 0) 3 1) (eI (80))) (sQ (sAi 3 (eGa (eLa 0) 3 0) (eGi (eLa 0) 3 1) (eLi 1)) (sPo (eLa 0) 3 1 o_iadd (eI (1)))) sN) (sRv))
theorem Y_X3_append : Yk yX3_append cX3_append 2 none 1 := ⟨w321, w8, by decide +kernel, by decide +kernel, by decide +kernel⟩
set_option maxRecDepth 20000 in
theorem k_X3_append (l : Launch) (g : GE) : MetX l g yX3_append cX3_append 2 none 2 ({ frames := 0, cells := 0, slots := 0, locals := 0 } : Room) f_X3_append := by
  unfold f_X3_append
  exact MetX.of (own := RX3) 100 0 rfl (by decide +kernel) (by decide) (fun p e s m args below meth c Fin ad0 hr hn => ⟨_, _, Sv_seq (Sv_if (Cv_icmp_ge_n (Ev_getI Fx3 (Ev_aload_n dX3_append_0 rfl) (k := 1) (by decide) w195 dX3_append_1) (Ev_bipush dX3_append_4 (by decide)) (t := 29) dX3_append_6 (by decide)) (Sv_seq (Sv_castore (Ev_getA Fx3 (Ev_aload_n dX3_append_9 rfl) (k := 0) (by decide) w193 dX3_append_10) (Ev_getI Fx3 (Ev_aload_n dX3_append_13 rfl) (k := 1) (by decide) w195 dX3_append_14) (Ev_iload_n dX3_append_17 rfl) dX3_append_18) (Sv_fop_iadd (idx2 := 0) Fx3 (Ev_aload_n dX3_append_19 rfl) dX3_append_20 dX3_append_21 (Ev_iconst dX3_append_24 (by decide)) dX3_append_25 (k := 1) (by decide) rfl rfl w195 dX3_append_26)) Sv_nop) (Sv_retv hr dX3_append_29), Nat.le_of_ble_eq_true rfl, Nat.le_of_ble_eq_true rfl⟩)
theorem dX3_skip_0 : decode cX3_skip 0 = .ok (.aload_n 0, 1) := by decide +kernel
theorem dX3_skip_1 : decode cX3_skip 1 = .ok (.getfield 33, 3) := by decide +kernel
theorem dX3_skip_4 : decode cX3_skip 4 = .ok (.aload_n 0, 1) := by decide +kernel
theorem dX3_skip_5 : decode cX3_skip 5 = .ok (.getfield 23, 3) := by decide +kernel
theorem dX3_skip_8 : decode cX3_skip 8 = .ok (.if_icmp .ge 28, 3) := by decide +kernel
theorem dX3_skip_11 : decode cX3_skip 11 = .ok (.aload_n 0, 1) := by decide +kernel
theorem dX3_skip_12 : decode cX3_skip 12 = .ok (.getfield 9, 3) := by decide +kernel
theorem dX3_skip_15 : decode cX3_skip 15 = .ok (.aload_n 0, 1) := by decide +kernel
theorem dX3_skip_16 : decode cX3_skip 16 = .ok (.getfield 33, 3) := by decide +kernel
theorem dX3_skip_19 : decode cX3_skip 19 = .ok (.caload, 1) := by decide +kernel
theorem dX3_skip_20 : decode cX3_skip 20 = .ok (.iload_n 1, 1) := by decide +kernel
theorem dX3_skip_21 : decode cX3_skip 21 = .ok (.if_icmp .ne 15, 3) := by decide +kernel
theorem dX3_skip_24 : decode cX3_skip 24 = .ok (.aload_n 0, 1) := by decide +kernel
theorem dX3_skip_25 : decode cX3_skip 25 = .ok (.dup, 1) := by decide +kernel
theorem dX3_skip_26 : decode cX3_skip 26 = .ok (.getfield 33, 3) := by decide +kernel
theorem dX3_skip_29 : decode cX3_skip 29 = .ok (.iconst 1, 1) := by decide +kernel
theorem dX3_skip_30 : decode cX3_skip 30 = .ok (.iadd, 1) := by decide +kernel
theorem dX3_skip_31 : decode cX3_skip 31 = .ok (.putfield 33, 3) := by decide +kernel
theorem dX3_skip_34 : decode cX3_skip 34 = .ok (.iconst 1, 1) := by decide +kernel
theorem dX3_skip_35 : decode cX3_skip 35 = .ok (.ireturn, 1) := by decide +kernel
theorem dX3_skip_36 : decode cX3_skip 36 = .ok (.iconst 0, 1) := by decide +kernel
theorem dX3_skip_37 : decode cX3_skip 37 = .ok (.ireturn, 1) := by decide +kernel
def f_X3_skip : MX := mth 2 (sQ (sIf (cAnd (cB c_lt (eGi (eLa 0) 3 7) (eGi (eLa 0) 3 1)) (cB c_eq (eAi 3 (eGa (eLa 0) 3 0) (eGi (eLa 0) 3 7)) (eLi 1))) (sQ (sPo (eLa 0) 3 7 o_iadd (eI (1))) (sRz (eI (1)))) sN) (sRz (eI (0))))
theorem Y_X3_skip : Yk yX3_skip cX3_skip 2 (some .boolean) 1 := ⟨w337, w8, by decide +kernel, by decide +kernel, by decide +kernel⟩
set_option maxRecDepth 20000 in
theorem k_X3_skip (l : Launch) (g : GE) : MetX l g yX3_skip cX3_skip 2 (some .boolean) 2 ({ frames := 0, cells := 0, slots := 0, locals := 0 } : Room) f_X3_skip := by
  unfold f_X3_skip
  exact MetX.of (own := RX3) 100 0 rfl (by decide +kernel) (by decide) (fun p e s m args below meth c Fin ad0 hr hn => ⟨_, _, Sv_seq (Sv_if (Cv_and (Cv_icmp_ge_n (Ev_getI Fx3 (Ev_aload_n dX3_skip_0 rfl) (k := 7) (by decide) w206 dX3_skip_1) (Ev_getI Fx3 (Ev_aload_n dX3_skip_4 rfl) (k := 1) (by decide) w195 dX3_skip_5) (t := 36) dX3_skip_8 (by decide)) (Cv_icmp_ne_n (Ev_caload (Ev_getA Fx3 (Ev_aload_n dX3_skip_11 rfl) (k := 0) (by decide) w193 dX3_skip_12) (Ev_getI Fx3 (Ev_aload_n dX3_skip_15 rfl) (k := 7) (by decide) w206 dX3_skip_16) dX3_skip_19) (Ev_iload_n dX3_skip_20 rfl) (t := 36) dX3_skip_21 (by decide))) (Sv_seq (Sv_fop_iadd (idx2 := 0) Fx3 (Ev_aload_n dX3_skip_24 rfl) dX3_skip_25 dX3_skip_26 (Ev_iconst dX3_skip_29 (by decide)) dX3_skip_30 (k := 7) (by decide) rfl rfl w206 dX3_skip_31) (Sv_retz (Ev_iconst dX3_skip_34 (by decide)) hr dX3_skip_35)) Sv_nop) (Sv_retz (Ev_iconst dX3_skip_36 (by decide)) hr dX3_skip_37), Nat.le_of_ble_eq_true rfl, Nat.le_of_ble_eq_true rfl⟩)
theorem dX3_readState_0 : decode cX3_readState 0 = .ok (.iconst 0, 1) := by decide +kernel
theorem dX3_readState_1 : decode cX3_readState 1 = .ok (.istore_n 1, 1) := by decide +kernel
theorem dX3_readState_2 : decode cX3_readState 2 = .ok (.iconst 0, 1) := by decide +kernel
theorem dX3_readState_3 : decode cX3_readState 3 = .ok (.istore_n 2, 1) := by decide +kernel
theorem dX3_readState_4 : decode cX3_readState 4 = .ok (.iload_n 2, 1) := by decide +kernel
theorem dX3_readState_5 : decode cX3_readState 5 = .ok (.bipush 6, 2) := by decide +kernel
theorem dX3_readState_7 : decode cX3_readState 7 = .ok (.if_icmp .ge 68, 3) := by decide +kernel
theorem dX3_readState_10 : decode cX3_readState 10 = .ok (.aload_n 0, 1) := by decide +kernel
theorem dX3_readState_11 : decode cX3_readState 11 = .ok (.getfield 33, 3) := by decide +kernel
theorem dX3_readState_14 : decode cX3_readState 14 = .ok (.aload_n 0, 1) := by decide +kernel
theorem dX3_readState_15 : decode cX3_readState 15 = .ok (.getfield 23, 3) := by decide +kernel
theorem dX3_readState_18 : decode cX3_readState 18 = .ok (.if_icmp .ge 57, 3) := by decide +kernel
theorem dX3_readState_21 : decode cX3_readState 21 = .ok (.aload_n 0, 1) := by decide +kernel
theorem dX3_readState_22 : decode cX3_readState 22 = .ok (.getfield 9, 3) := by decide +kernel
theorem dX3_readState_25 : decode cX3_readState 25 = .ok (.aload_n 0, 1) := by decide +kernel
theorem dX3_readState_26 : decode cX3_readState 26 = .ok (.getfield 33, 3) := by decide +kernel
theorem dX3_readState_29 : decode cX3_readState 29 = .ok (.caload, 1) := by decide +kernel
theorem dX3_readState_30 : decode cX3_readState 30 = .ok (.bipush 48, 2) := by decide +kernel
theorem dX3_readState_32 : decode cX3_readState 32 = .ok (.isub, 1) := by decide +kernel
theorem dX3_readState_33 : decode cX3_readState 33 = .ok (.istore_n 3, 1) := by decide +kernel
theorem dX3_readState_34 : decode cX3_readState 34 = .ok (.iload_n 3, 1) := by decide +kernel
theorem dX3_readState_35 : decode cX3_readState 35 = .ok (.ifCond .lt 16, 3) := by decide +kernel
theorem dX3_readState_38 : decode cX3_readState 38 = .ok (.iload_n 3, 1) := by decide +kernel
theorem dX3_readState_39 : decode cX3_readState 39 = .ok (.bipush 6, 2) := by decide +kernel
theorem dX3_readState_41 : decode cX3_readState 41 = .ok (.if_icmp .ge 10, 3) := by decide +kernel
theorem dX3_readState_44 : decode cX3_readState 44 = .ok (.iconst 1, 1) := by decide +kernel
theorem dX3_readState_45 : decode cX3_readState 45 = .ok (.iload_n 3, 1) := by decide +kernel
theorem dX3_readState_46 : decode cX3_readState 46 = .ok (.ishl, 1) := by decide +kernel
theorem dX3_readState_47 : decode cX3_readState 47 = .ok (.iload_n 1, 1) := by decide +kernel
theorem dX3_readState_48 : decode cX3_readState 48 = .ok (.if_icmp .gt 5, 3) := by decide +kernel
theorem dX3_readState_51 : decode cX3_readState 51 = .ok (.iload_n 1, 1) := by decide +kernel
theorem dX3_readState_52 : decode cX3_readState 52 = .ok (.ireturn, 1) := by decide +kernel
theorem dX3_readState_53 : decode cX3_readState 53 = .ok (.iload_n 1, 1) := by decide +kernel
theorem dX3_readState_54 : decode cX3_readState 54 = .ok (.iconst 1, 1) := by decide +kernel
theorem dX3_readState_55 : decode cX3_readState 55 = .ok (.iload_n 3, 1) := by decide +kernel
theorem dX3_readState_56 : decode cX3_readState 56 = .ok (.ishl, 1) := by decide +kernel
theorem dX3_readState_57 : decode cX3_readState 57 = .ok (.ior, 1) := by decide +kernel
theorem dX3_readState_58 : decode cX3_readState 58 = .ok (.istore_n 1, 1) := by decide +kernel
theorem dX3_readState_59 : decode cX3_readState 59 = .ok (.aload_n 0, 1) := by decide +kernel
theorem dX3_readState_60 : decode cX3_readState 60 = .ok (.dup, 1) := by decide +kernel
theorem dX3_readState_61 : decode cX3_readState 61 = .ok (.getfield 33, 3) := by decide +kernel
theorem dX3_readState_64 : decode cX3_readState 64 = .ok (.iconst 1, 1) := by decide +kernel
theorem dX3_readState_65 : decode cX3_readState 65 = .ok (.iadd, 1) := by decide +kernel
theorem dX3_readState_66 : decode cX3_readState 66 = .ok (.putfield 33, 3) := by decide +kernel
theorem dX3_readState_69 : decode cX3_readState 69 = .ok (.iinc 2 1, 3) := by decide +kernel
theorem dX3_readState_72 : decode cX3_readState 72 = .ok (.goto (-68), 3) := by decide +kernel
theorem dX3_readState_75 : decode cX3_readState 75 = .ok (.iload_n 1, 1) := by decide +kernel
theorem dX3_readState_76 : decode cX3_readState 76 = .ok (.ireturn, 1) := by decide +kernel
def f_X3_readState : MX := mth 4 (sQ (sTi 1 (eI (0))) (sQ (sQ (sTi 2 (eI (0))) (sLp (cAnd (cB c_lt (eLi 2) (eI (6))) (cB c_lt (eGi (eLa 0) 3 7) (eGi (eLa 0) 3 1))) (sQ (sQ (sTi 3 (eOp o_isub (eAi 3 (eGa (eLa 0) 3 0) (eGi (eLa 0) 3 7)) (eI (48)))) (sQ (sIf (cOr (cOr (cZ z_lt (eLi 3)) (cB c_ge (eLi 3) (eI (6)))) (cB c_le (eOp o_ishl (eI (1)) (eLi 3)) (eLi 1))) (sR (eLi 1)) sN) (sQ (sTi 1 (eOp o_ior (eLi 1) (eOp o_ishl (eI (1)) (eLi 3)))) (sPo (eLa 0) 3 7 o_iadd (eI (1)))))) (sInc 2 (1))) NF)) (sR (eLi 1))))
theorem Y_X3_readState : Yk yX3_readState cX3_readState 4 (some .int) 0 := ⟨w341, w8, by decide +kernel, by decide +kernel, by decide +kernel⟩
set_option maxRecDepth 20000 in
theorem k_X3_readState (l : Launch) (g : GE) : MetX l g yX3_readState cX3_readState 4 (some .int) 1 ({ frames := 0, cells := 0, slots := 0, locals := 0 } : Room) f_X3_readState := by
  unfold f_X3_readState
  exact MetX.of (own := RX3) 100 0 rfl (by decide +kernel) (by decide) (fun p e s m args below meth c Fin ad0 hr hn => ⟨_, _, Sv_seq (Sv_istore_n (Ev_iconst dX3_readState_0 (by decide)) dX3_readState_1 rfl (Nat.le_of_ble_eq_true rfl) (Nat.ne_of_beq_eq_false rfl)) (Sv_seq (Sv_seq (Sv_istore_n (Ev_iconst dX3_readState_2 (by decide)) dX3_readState_3 rfl (Nat.le_of_ble_eq_true rfl) (Nat.ne_of_beq_eq_false rfl)) (Sv_loop0 NF (Cv_and (Cv_icmp_ge_n (Ev_iload_n dX3_readState_4 rfl) (Ev_bipush dX3_readState_5 (by decide)) (t := 75) dX3_readState_7 (by decide)) (Cv_icmp_ge_n (Ev_getI Fx3 (Ev_aload_n dX3_readState_10 rfl) (k := 7) (by decide) w206 dX3_readState_11) (Ev_getI Fx3 (Ev_aload_n dX3_readState_14 rfl) (k := 1) (by decide) w195 dX3_readState_15) (t := 75) dX3_readState_18 (by decide))) (Sv_goto (pE := 4) (Sv_seq (Sv_seq (Sv_istore_n (Ev_isub (Ev_caload (Ev_getA Fx3 (Ev_aload_n dX3_readState_21 rfl) (k := 0) (by decide) w193 dX3_readState_22) (Ev_getI Fx3 (Ev_aload_n dX3_readState_25 rfl) (k := 7) (by decide) w206 dX3_readState_26) dX3_readState_29) (Ev_bipush dX3_readState_30 (by decide)) dX3_readState_32) dX3_readState_33 rfl (Nat.le_of_ble_eq_true rfl) (Nat.ne_of_beq_eq_false rfl)) (Sv_seq (Sv_if (Cv_or (Cv_or (Cv_if_lt_j (Ev_iload_n dX3_readState_34 rfl) (t := 51) dX3_readState_35 (by decide)) (Cv_icmp_ge_j (Ev_iload_n dX3_readState_38 rfl) (Ev_bipush dX3_readState_39 (by decide)) (t := 51) dX3_readState_41 (by decide))) (Cv_icmp_gt_n (Ev_ishl (Ev_iconst dX3_readState_44 (by decide)) (Ev_iload_n dX3_readState_45 rfl) dX3_readState_46) (Ev_iload_n dX3_readState_47 rfl) (t := 53) dX3_readState_48 (by decide))) (Sv_ret (Ev_iload_n dX3_readState_51 rfl) hr dX3_readState_52) Sv_nop) (Sv_seq (Sv_istore_n (Ev_ior (Ev_iload_n dX3_readState_53 rfl) (Ev_ishl (Ev_iconst dX3_readState_54 (by decide)) (Ev_iload_n dX3_readState_55 rfl) dX3_readState_56) dX3_readState_57) dX3_readState_58 rfl (Nat.le_of_ble_eq_true rfl) (Nat.ne_of_beq_eq_false rfl)) (Sv_fop_iadd (idx2 := 0) Fx3 (Ev_aload_n dX3_readState_59 rfl) dX3_readState_60 dX3_readState_61 (Ev_iconst dX3_readState_64 (by decide)) dX3_readState_65 (k := 7) (by decide) rfl rfl w206 dX3_readState_66)))) (Sv_iinc dX3_readState_69 (by decide) (Nat.le_of_ble_eq_true rfl) (Nat.ne_of_beq_eq_false rfl))) dX3_readState_72 (by decide)))) (Sv_ret (Ev_iload_n dX3_readState_75 rfl) hr dX3_readState_76)), Nat.le_of_ble_eq_true rfl, Nat.le_of_ble_eq_true rfl⟩)
theorem dX3_readForm_0 : decode cX3_readForm 0 = .ok (.aload_n 0, 1) := by decide +kernel
theorem dX3_readForm_1 : decode cX3_readForm 1 = .ok (.aload_n 0, 1) := by decide +kernel
theorem dX3_readForm_2 : decode cX3_readForm 2 = .ok (.bipush 42, 2) := by decide +kernel
theorem dX3_readForm_4 : decode cX3_readForm 4 = .ok (.invokevirtual 75, 3) := by decide +kernel
theorem dX3_readForm_7 : decode cX3_readForm 7 = .ok (.putfield 79, 3) := by decide +kernel
theorem dX3_readForm_10 : decode cX3_readForm 10 = .ok (.aload_n 0, 1) := by decide +kernel
theorem dX3_readForm_11 : decode cX3_readForm 11 = .ok (.aload_n 0, 1) := by decide +kernel
theorem dX3_readForm_12 : decode cX3_readForm 12 = .ok (.invokevirtual 83, 3) := by decide +kernel
theorem dX3_readForm_15 : decode cX3_readForm 15 = .ok (.putfield 53, 3) := by decide +kernel
theorem dX3_readForm_18 : decode cX3_readForm 18 = .ok (.aload_n 0, 1) := by decide +kernel
theorem dX3_readForm_19 : decode cX3_readForm 19 = .ok (.getfield 53, 3) := by decide +kernel
theorem dX3_readForm_22 : decode cX3_readForm 22 = .ok (.ifCond .eq 12, 3) := by decide +kernel
theorem dX3_readForm_25 : decode cX3_readForm 25 = .ok (.aload_n 0, 1) := by decide +kernel
theorem dX3_readForm_26 : decode cX3_readForm 26 = .ok (.bipush 62, 2) := by decide +kernel
theorem dX3_readForm_28 : decode cX3_readForm 28 = .ok (.invokevirtual 75, 3) := by decide +kernel
theorem dX3_readForm_31 : decode cX3_readForm 31 = .ok (.ifCond .ne 5, 3) := by decide +kernel
theorem dX3_readForm_34 : decode cX3_readForm 34 = .ok (.iconst 0, 1) := by decide +kernel
theorem dX3_readForm_35 : decode cX3_readForm 35 = .ok (.ireturn, 1) := by decide +kernel
theorem dX3_readForm_36 : decode cX3_readForm 36 = .ok (.aload_n 0, 1) := by decide +kernel
theorem dX3_readForm_37 : decode cX3_readForm 37 = .ok (.aload_n 0, 1) := by decide +kernel
theorem dX3_readForm_38 : decode cX3_readForm 38 = .ok (.getfield 33, 3) := by decide +kernel
theorem dX3_readForm_41 : decode cX3_readForm 41 = .ok (.putfield 63, 3) := by decide +kernel
theorem dX3_readForm_44 : decode cX3_readForm 44 = .ok (.aload_n 0, 1) := by decide +kernel
theorem dX3_readForm_45 : decode cX3_readForm 45 = .ok (.aload_n 0, 1) := by decide +kernel
theorem dX3_readForm_46 : decode cX3_readForm 46 = .ok (.invokevirtual 83, 3) := by decide +kernel
theorem dX3_readForm_49 : decode cX3_readForm 49 = .ok (.putfield 56, 3) := by decide +kernel
theorem dX3_readForm_52 : decode cX3_readForm 52 = .ok (.aload_n 0, 1) := by decide +kernel
theorem dX3_readForm_53 : decode cX3_readForm 53 = .ok (.getfield 56, 3) := by decide +kernel
theorem dX3_readForm_56 : decode cX3_readForm 56 = .ok (.ifCond .ne 5, 3) := by decide +kernel
theorem dX3_readForm_59 : decode cX3_readForm 59 = .ok (.iconst 0, 1) := by decide +kernel
theorem dX3_readForm_60 : decode cX3_readForm 60 = .ok (.ireturn, 1) := by decide +kernel
theorem dX3_readForm_61 : decode cX3_readForm 61 = .ok (.aload_n 0, 1) := by decide +kernel
theorem dX3_readForm_62 : decode cX3_readForm 62 = .ok (.aload_n 0, 1) := by decide +kernel
theorem dX3_readForm_63 : decode cX3_readForm 63 = .ok (.getfield 63, 3) := by decide +kernel
theorem dX3_readForm_66 : decode cX3_readForm 66 = .ok (.putfield 69, 3) := by decide +kernel
theorem dX3_readForm_69 : decode cX3_readForm 69 = .ok (.aload_n 0, 1) := by decide +kernel
theorem dX3_readForm_70 : decode cX3_readForm 70 = .ok (.aload_n 0, 1) := by decide +kernel
theorem dX3_readForm_71 : decode cX3_readForm 71 = .ok (.getfield 56, 3) := by decide +kernel
theorem dX3_readForm_74 : decode cX3_readForm 74 = .ok (.putfield 66, 3) := by decide +kernel
theorem dX3_readForm_77 : decode cX3_readForm 77 = .ok (.aload_n 0, 1) := by decide +kernel
theorem dX3_readForm_78 : decode cX3_readForm 78 = .ok (.bipush 124, 2) := by decide +kernel
theorem dX3_readForm_80 : decode cX3_readForm 80 = .ok (.invokevirtual 75, 3) := by decide +kernel
theorem dX3_readForm_83 : decode cX3_readForm 83 = .ok (.ifCond .eq 19, 3) := by decide +kernel
theorem dX3_readForm_86 : decode cX3_readForm 86 = .ok (.aload_n 0, 1) := by decide +kernel
theorem dX3_readForm_87 : decode cX3_readForm 87 = .ok (.aload_n 0, 1) := by decide +kernel
theorem dX3_readForm_88 : decode cX3_readForm 88 = .ok (.getfield 33, 3) := by decide +kernel
theorem dX3_readForm_91 : decode cX3_readForm 91 = .ok (.putfield 69, 3) := by decide +kernel
theorem dX3_readForm_94 : decode cX3_readForm 94 = .ok (.aload_n 0, 1) := by decide +kernel
theorem dX3_readForm_95 : decode cX3_readForm 95 = .ok (.aload_n 0, 1) := by decide +kernel
theorem dX3_readForm_96 : decode cX3_readForm 96 = .ok (.invokevirtual 83, 3) := by decide +kernel
theorem dX3_readForm_99 : decode cX3_readForm 99 = .ok (.putfield 66, 3) := by decide +kernel
theorem dX3_readForm_102 : decode cX3_readForm 102 = .ok (.aload_n 0, 1) := by decide +kernel
theorem dX3_readForm_103 : decode cX3_readForm 103 = .ok (.getfield 66, 3) := by decide +kernel
theorem dX3_readForm_106 : decode cX3_readForm 106 = .ok (.ifCond .eq 32, 3) := by decide +kernel
theorem dX3_readForm_109 : decode cX3_readForm 109 = .ok (.aload_n 0, 1) := by decide +kernel
theorem dX3_readForm_110 : decode cX3_readForm 110 = .ok (.getfield 33, 3) := by decide +kernel
theorem dX3_readForm_113 : decode cX3_readForm 113 = .ok (.aload_n 0, 1) := by decide +kernel
theorem dX3_readForm_114 : decode cX3_readForm 114 = .ok (.getfield 23, 3) := by decide +kernel
theorem dX3_readForm_117 : decode cX3_readForm 117 = .ok (.if_icmp .ge 17, 3) := by decide +kernel
theorem dX3_readForm_120 : decode cX3_readForm 120 = .ok (.aload_n 0, 1) := by decide +kernel
theorem dX3_readForm_121 : decode cX3_readForm 121 = .ok (.getfield 9, 3) := by decide +kernel
theorem dX3_readForm_124 : decode cX3_readForm 124 = .ok (.aload_n 0, 1) := by decide +kernel
theorem dX3_readForm_125 : decode cX3_readForm 125 = .ok (.getfield 33, 3) := by decide +kernel
theorem dX3_readForm_128 : decode cX3_readForm 128 = .ok (.caload, 1) := by decide +kernel
theorem dX3_readForm_129 : decode cX3_readForm 129 = .ok (.bipush 59, 2) := by decide +kernel
theorem dX3_readForm_131 : decode cX3_readForm 131 = .ok (.if_icmp .ne 7, 3) := by decide +kernel
theorem dX3_readForm_134 : decode cX3_readForm 134 = .ok (.iconst 1, 1) := by decide +kernel
theorem dX3_readForm_135 : decode cX3_readForm 135 = .ok (.goto 4, 3) := by decide +kernel
theorem dX3_readForm_138 : decode cX3_readForm 138 = .ok (.iconst 0, 1) := by decide +kernel
theorem dX3_readForm_139 : decode cX3_readForm 139 = .ok (.ireturn, 1) := by decide +kernel
def f_X3_readForm : MX := mth 1 (sQ (sPz (eLa 0) 3 8 (eM (gd 3 f_X3_skip) (aI (aA (aN) (eLa 0)) (eI (42))))) (sQ (sPi (eLa 0) 3 9 (eM (gd 3 f_X3_readState) (aA (aN) (eLa 0)))) (sQ (sIf (cOr (cZ z_eq (eGi (eLa 0) 3 9)) (cNot (cZ z_ne (eM (gd 3 f_X3_skip) (aI (aA (aN) (eLa 0)) (eI (62))))))) (sRz (eI (0))) sN) (sQ (sPi (eLa 0) 3 11 (eGi (eLa 0) 3 7)) (sQ (sPi (eLa 0) 3 10 (eM (gd 3 f_X3_readState) (aA (aN) (eLa 0)))) (sQ (sIf (cZ z_eq (eGi (eLa 0) 3 10)) (sRz (eI (0))) sN) (sQ (sPi (eLa 0) 3 13 (eGi (eLa 0) 3 11)) (sQ (sPi (eLa 0) 3 12 (eGi (eLa 0) 3 10)) (sQ (sIf (cZ z_ne (eM (gd 3 f_X3_skip) (aI (aA (aN) (eLa 0)) (eI (124))))) (sQ (sPi (eLa 0) 3 13 (eGi (eLa 0) 3 7)) (sPi (eLa 0) 3 12 (eM (gd 3 f_X3_readState) (aA (aN) (eLa 0))))) sN) (sRz (eC (cAnd (cZ z_ne (eGi (eLa 0) 3 12)) (cOr (cB c_ge (eGi (eLa 0) 3 7) (eGi (eLa 0) 3 1)) (cB c_eq (eAi 3 (eGa (eLa 0) 3 0) (eGi (eLa 0) 3 7)) (eI (59))))))))))))))))
theorem Y_X3_readForm : Yk yX3_readForm cX3_readForm 1 (some .boolean) 0 := ⟨w333, w8, by decide +kernel, by decide +kernel, by decide +kernel⟩
set_option maxRecDepth 20000 in
theorem k_X3_readForm (l : Launch) (g : GE) : MetX l g yX3_readForm cX3_readForm 1 (some .boolean) 1 ({ frames := 1, cells := 0, slots := 0, locals := 23 } : Room) f_X3_readForm := by
  unfold f_X3_readForm
  exact MetX.of (own := RX3) 100 0 rfl (by decide +kernel) (by decide) (fun p e s m args below meth c Fin ad0 hr hn => ⟨_, _, Sv_seq (Sv_putZ Fx3 (Ev_aload_n dX3_readForm_0 rfl) (Ev_call (Av_i (Av_a (Av_nil) (Ev_aload_n dX3_readForm_1 rfl)) (Ev_bipush dX3_readForm_2 (by decide))) (Rn_V (ci := 3) Fx3.1 rfl Y_X3_skip (k_X3_skip _ _) w334 w336 wp2 dX3_readForm_4 (Nat.le_of_ble_eq_true rfl) (Nat.le_of_ble_eq_true rfl) (Nat.le_of_ble_eq_true rfl) (Nat.ne_of_beq_eq_false rfl))) (k := 8) (by decide) rfl rfl w207 dX3_readForm_7) (Sv_seq (Sv_putI Fx3 (Ev_aload_n dX3_readForm_10 rfl) (Ev_call (Av_a (Av_nil) (Ev_aload_n dX3_readForm_11 rfl)) (Rn_V (ci := 3) Fx3.1 rfl Y_X3_readState (k_X3_readState _ _) w338 w340 wp3 dX3_readForm_12 (Nat.le_of_ble_eq_true rfl) (Nat.le_of_ble_eq_true rfl) (Nat.le_of_ble_eq_true rfl) (Nat.ne_of_beq_eq_false rfl))) (k := 9) (by decide) rfl rfl w208 dX3_readForm_15) (Sv_seq (Sv_if (Cv_or (Cv_if_eq_j (Ev_getI Fx3 (Ev_aload_n dX3_readForm_18 rfl) (k := 9) (by decide) w208 dX3_readForm_19) (t := 34) dX3_readForm_22 (by decide)) (Cv_not (Cv_if_ne_j (Ev_call (Av_i (Av_a (Av_nil) (Ev_aload_n dX3_readForm_25 rfl)) (Ev_bipush dX3_readForm_26 (by decide))) (Rn_V (ci := 3) Fx3.1 rfl Y_X3_skip (k_X3_skip _ _) w334 w336 wp2 dX3_readForm_28 (Nat.le_of_ble_eq_true rfl) (Nat.le_of_ble_eq_true rfl) (Nat.le_of_ble_eq_true rfl) (Nat.ne_of_beq_eq_false rfl))) (t := 36) dX3_readForm_31 (by decide)))) (Sv_retz (Ev_iconst dX3_readForm_34 (by decide)) hr dX3_readForm_35) Sv_nop) (Sv_seq (Sv_putI Fx3 (Ev_aload_n dX3_readForm_36 rfl) (Ev_getI Fx3 (Ev_aload_n dX3_readForm_37 rfl) (k := 7) (by decide) w206 dX3_readForm_38) (k := 11) (by decide) rfl rfl w210 dX3_readForm_41) (Sv_seq (Sv_putI Fx3 (Ev_aload_n dX3_readForm_44 rfl) (Ev_call (Av_a (Av_nil) (Ev_aload_n dX3_readForm_45 rfl)) (Rn_V (ci := 3) Fx3.1 rfl Y_X3_readState (k_X3_readState _ _) w338 w340 wp3 dX3_readForm_46 (Nat.le_of_ble_eq_true rfl) (Nat.le_of_ble_eq_true rfl) (Nat.le_of_ble_eq_true rfl) (Nat.ne_of_beq_eq_false rfl))) (k := 10) (by decide) rfl rfl w209 dX3_readForm_49) (Sv_seq (Sv_if (Cv_if_ne_n (Ev_getI Fx3 (Ev_aload_n dX3_readForm_52 rfl) (k := 10) (by decide) w209 dX3_readForm_53) (t := 61) dX3_readForm_56 (by decide)) (Sv_retz (Ev_iconst dX3_readForm_59 (by decide)) hr dX3_readForm_60) Sv_nop) (Sv_seq (Sv_putI Fx3 (Ev_aload_n dX3_readForm_61 rfl) (Ev_getI Fx3 (Ev_aload_n dX3_readForm_62 rfl) (k := 11) (by decide) w210 dX3_readForm_63) (k := 13) (by decide) rfl rfl w212 dX3_readForm_66) (Sv_seq (Sv_putI Fx3 (Ev_aload_n dX3_readForm_69 rfl) (Ev_getI Fx3 (Ev_aload_n dX3_readForm_70 rfl) (k := 10) (by decide) w209 dX3_readForm_71) (k := 12) (by decide) rfl rfl w211 dX3_readForm_74) (Sv_seq (Sv_if (Cv_if_eq_n (Ev_call (Av_i (Av_a (Av_nil) (Ev_aload_n dX3_readForm_77 rfl)) (Ev_bipush dX3_readForm_78 (by decide))) (Rn_V (ci := 3) Fx3.1 rfl Y_X3_skip (k_X3_skip _ _) w334 w336 wp2 dX3_readForm_80 (Nat.le_of_ble_eq_true rfl) (Nat.le_of_ble_eq_true rfl) (Nat.le_of_ble_eq_true rfl) (Nat.ne_of_beq_eq_false rfl))) (t := 102) dX3_readForm_83 (by decide)) (Sv_seq (Sv_putI Fx3 (Ev_aload_n dX3_readForm_86 rfl) (Ev_getI Fx3 (Ev_aload_n dX3_readForm_87 rfl) (k := 7) (by decide) w206 dX3_readForm_88) (k := 13) (by decide) rfl rfl w212 dX3_readForm_91) (Sv_putI Fx3 (Ev_aload_n dX3_readForm_94 rfl) (Ev_call (Av_a (Av_nil) (Ev_aload_n dX3_readForm_95 rfl)) (Rn_V (ci := 3) Fx3.1 rfl Y_X3_readState (k_X3_readState _ _) w338 w340 wp3 dX3_readForm_96 (Nat.le_of_ble_eq_true rfl) (Nat.le_of_ble_eq_true rfl) (Nat.le_of_ble_eq_true rfl) (Nat.ne_of_beq_eq_false rfl))) (k := 12) (by decide) rfl rfl w211 dX3_readForm_99)) Sv_nop) (Sv_retz (Ev_if (pT := 139) (Cv_and (Cv_if_eq_n (Ev_getI Fx3 (Ev_aload_n dX3_readForm_102 rfl) (k := 12) (by decide) w211 dX3_readForm_103) (t := 138) dX3_readForm_106 (by decide)) (Cv_or (Cv_icmp_ge_j (Ev_getI Fx3 (Ev_aload_n dX3_readForm_109 rfl) (k := 7) (by decide) w206 dX3_readForm_110) (Ev_getI Fx3 (Ev_aload_n dX3_readForm_113 rfl) (k := 1) (by decide) w195 dX3_readForm_114) (t := 134) dX3_readForm_117 (by decide)) (Cv_icmp_ne_n (Ev_caload (Ev_getA Fx3 (Ev_aload_n dX3_readForm_120 rfl) (k := 0) (by decide) w193 dX3_readForm_121) (Ev_getI Fx3 (Ev_aload_n dX3_readForm_124 rfl) (k := 7) (by decide) w206 dX3_readForm_125) dX3_readForm_128) (Ev_bipush dX3_readForm_129 (by decide)) (t := 138) dX3_readForm_131 (by decide)))) (Ev_iconst dX3_readForm_134 (by decide)) dX3_readForm_135 (by decide) (Ev_iconst dX3_readForm_138 (by decide))) hr dX3_readForm_139))))))))), Nat.le_of_ble_eq_true rfl, Nat.le_of_ble_eq_true rfl⟩)
theorem dX3_tell_0 : decode cX3_tell 0 = .ok (.aload_n 0, 1) := by decide +kernel
theorem dX3_tell_1 : decode cX3_tell 1 = .ok (.iload_n 1, 1) := by decide +kernel
theorem dX3_tell_2 : decode cX3_tell 2 = .ok (.putfield 30, 3) := by decide +kernel
theorem dX3_tell_5 : decode cX3_tell 5 = .ok (.aload_n 0, 1) := by decide +kernel
theorem dX3_tell_6 : decode cX3_tell 6 = .ok (.iload_n 2, 1) := by decide +kernel
theorem dX3_tell_7 : decode cX3_tell 7 = .ok (.putfield 72, 3) := by decide +kernel
theorem dX3_tell_10 : decode cX3_tell 10 = .ok (.return_, 1) := by decide +kernel
def f_X3_tell : MX := mth 3 (sQ (sQ (sPi (eLa 0) 3 4 (eLi 1)) (sPi (eLa 0) 3 5 (eLi 2))) (sRv))
theorem Y_X3_tell : Yk yX3_tell cX3_tell 3 none 2 := ⟨w345, w8, by decide +kernel, by decide +kernel, by decide +kernel⟩
set_option maxRecDepth 20000 in
theorem k_X3_tell (l : Launch) (g : GE) : MetX l g yX3_tell cX3_tell 3 none 3 ({ frames := 0, cells := 0, slots := 0, locals := 0 } : Room) f_X3_tell := by
  unfold f_X3_tell
  exact MetX.of (own := RX3) 100 0 rfl (by decide +kernel) (by decide) (fun p e s m args below meth c Fin ad0 hr hn => ⟨_, _, Sv_seq (Sv_seq (Sv_putI Fx3 (Ev_aload_n dX3_tell_0 rfl) (Ev_iload_n dX3_tell_1 rfl) (k := 4) (by decide) rfl rfl w201 dX3_tell_2) (Sv_putI Fx3 (Ev_aload_n dX3_tell_5 rfl) (Ev_iload_n dX3_tell_6 rfl) (k := 5) (by decide) rfl rfl w203 dX3_tell_7)) (Sv_retv hr dX3_tell_10), Nat.le_of_ble_eq_true rfl, Nat.le_of_ble_eq_true rfl⟩)
theorem dX3_turns_0 : decode cX3_turns 0 = .ok (.aload_n 0, 1) := by decide +kernel
theorem dX3_turns_1 : decode cX3_turns 1 = .ok (.getfield 79, 3) := by decide +kernel
theorem dX3_turns_4 : decode cX3_turns 4 = .ok (.ifCond .eq 8, 3) := by decide +kernel
theorem dX3_turns_7 : decode cX3_turns 7 = .ok (.bipush 6, 2) := by decide +kernel
theorem dX3_turns_9 : decode cX3_turns 9 = .ok (.goto 4, 3) := by decide +kernel
theorem dX3_turns_12 : decode cX3_turns 12 = .ok (.iconst 1, 1) := by decide +kernel
theorem dX3_turns_13 : decode cX3_turns 13 = .ok (.ireturn, 1) := by decide +kernel
def f_X3_turns : MX := mth 1 (sR (eIf (cZ z_ne (eGi (eLa 0) 3 8)) (eI (6)) (eI (1))))
theorem Y_X3_turns : Yk yX3_turns cX3_turns 1 (some .int) 0 := ⟨w353, w8, by decide +kernel, by decide +kernel, by decide +kernel⟩
set_option maxRecDepth 20000 in
theorem k_X3_turns (l : Launch) (g : GE) : MetX l g yX3_turns cX3_turns 1 (some .int) 1 ({ frames := 0, cells := 0, slots := 0, locals := 0 } : Room) f_X3_turns := by
  unfold f_X3_turns
  exact MetX.of (own := RX3) 100 0 rfl (by decide +kernel) (by decide) (fun p e s m args below meth c Fin ad0 hr hn => ⟨_, _, Sv_ret (Ev_if (pT := 13) (Cv_if_eq_n (Ev_getI Fx3 (Ev_aload_n dX3_turns_0 rfl) (k := 8) (by decide) w207 dX3_turns_1) (t := 12) dX3_turns_4 (by decide)) (Ev_bipush dX3_turns_7 (by decide)) dX3_turns_9 (by decide) (Ev_iconst dX3_turns_12 (by decide))) hr dX3_turns_13, Nat.le_of_ble_eq_true rfl, Nat.le_of_ble_eq_true rfl⟩)
theorem dX3_turned_0 : decode cX3_turned 0 = .ok (.iload_n 0, 1) := by decide +kernel
theorem dX3_turned_1 : decode cX3_turned 1 = .ok (.iload_n 1, 1) := by decide +kernel
theorem dX3_turned_2 : decode cX3_turned 2 = .ok (.ishl, 1) := by decide +kernel
theorem dX3_turned_3 : decode cX3_turned 3 = .ok (.iload_n 0, 1) := by decide +kernel
theorem dX3_turned_4 : decode cX3_turned 4 = .ok (.bipush 6, 2) := by decide +kernel
theorem dX3_turned_6 : decode cX3_turned 6 = .ok (.iload_n 1, 1) := by decide +kernel
theorem dX3_turned_7 : decode cX3_turned 7 = .ok (.isub, 1) := by decide +kernel
theorem dX3_turned_8 : decode cX3_turned 8 = .ok (.ishr, 1) := by decide +kernel
theorem dX3_turned_9 : decode cX3_turned 9 = .ok (.ior, 1) := by decide +kernel
theorem dX3_turned_10 : decode cX3_turned 10 = .ok (.bipush 63, 2) := by decide +kernel
theorem dX3_turned_12 : decode cX3_turned 12 = .ok (.iand, 1) := by decide +kernel
theorem dX3_turned_13 : decode cX3_turned 13 = .ok (.ireturn, 1) := by decide +kernel
def f_X3_turned : MX := mth 2 (sR (eOp o_iand (eOp o_ior (eOp o_ishl (eLi 0) (eLi 1)) (eOp o_ishr (eLi 0) (eOp o_isub (eI (6)) (eLi 1)))) (eI (63))))
theorem Y_X3_turned : Yk yX3_turned cX3_turned 2 (some .int) 2 := ⟨w356, w8, by decide +kernel, by decide +kernel, by decide +kernel⟩
set_option maxRecDepth 20000 in
theorem k_X3_turned (l : Launch) (g : GE) : MetX l g yX3_turned cX3_turned 2 (some .int) 2 ({ frames := 0, cells := 0, slots := 0, locals := 0 } : Room) f_X3_turned := by
  unfold f_X3_turned
  exact MetX.of (own := RX3) 100 0 rfl (by decide +kernel) (by decide) (fun p e s m args below meth c Fin ad0 hr hn => ⟨_, _, Sv_ret (Ev_iand (Ev_ior (Ev_ishl (Ev_iload_n dX3_turned_0 rfl) (Ev_iload_n dX3_turned_1 rfl) dX3_turned_2) (Ev_ishr (Ev_iload_n dX3_turned_3 rfl) (Ev_isub (Ev_bipush dX3_turned_4 (by decide)) (Ev_iload_n dX3_turned_6 rfl) dX3_turned_7) dX3_turned_8) dX3_turned_9) (Ev_bipush dX3_turned_10 (by decide)) dX3_turned_12) hr dX3_turned_13, Nat.le_of_ble_eq_true rfl, Nat.le_of_ble_eq_true rfl⟩)
theorem dX3_isNamedBefore_0 : decode cX3_isNamedBefore 0 = .ok (.iconst 0, 1) := by decide +kernel
theorem dX3_isNamedBefore_1 : decode cX3_isNamedBefore 1 = .ok (.istore_n 1, 1) := by decide +kernel
theorem dX3_isNamedBefore_2 : decode cX3_isNamedBefore 2 = .ok (.iload_n 1, 1) := by decide +kernel
theorem dX3_isNamedBefore_3 : decode cX3_isNamedBefore 3 = .ok (.aload_n 0, 1) := by decide +kernel
theorem dX3_isNamedBefore_4 : decode cX3_isNamedBefore 4 = .ok (.invokevirtual 87, 3) := by decide +kernel
theorem dX3_isNamedBefore_7 : decode cX3_isNamedBefore 7 = .ok (.if_icmp .ge 27, 3) := by decide +kernel
theorem dX3_isNamedBefore_10 : decode cX3_isNamedBefore 10 = .ok (.aload_n 0, 1) := by decide +kernel
theorem dX3_isNamedBefore_11 : decode cX3_isNamedBefore 11 = .ok (.getfield 19, 3) := by decide +kernel
theorem dX3_isNamedBefore_14 : decode cX3_isNamedBefore 14 = .ok (.aload_n 0, 1) := by decide +kernel
theorem dX3_isNamedBefore_15 : decode cX3_isNamedBefore 15 = .ok (.getfield 53, 3) := by decide +kernel
theorem dX3_isNamedBefore_18 : decode cX3_isNamedBefore 18 = .ok (.iload_n 1, 1) := by decide +kernel
theorem dX3_isNamedBefore_19 : decode cX3_isNamedBefore 19 = .ok (.invokestatic 90, 3) := by decide +kernel
theorem dX3_isNamedBefore_22 : decode cX3_isNamedBefore 22 = .ok (.baload, 1) := by decide +kernel
theorem dX3_isNamedBefore_23 : decode cX3_isNamedBefore 23 = .ok (.ifCond .eq 5, 3) := by decide +kernel
theorem dX3_isNamedBefore_26 : decode cX3_isNamedBefore 26 = .ok (.iconst 1, 1) := by decide +kernel
theorem dX3_isNamedBefore_27 : decode cX3_isNamedBefore 27 = .ok (.ireturn, 1) := by decide +kernel
theorem dX3_isNamedBefore_28 : decode cX3_isNamedBefore 28 = .ok (.iinc 1 1, 3) := by decide +kernel
theorem dX3_isNamedBefore_31 : decode cX3_isNamedBefore 31 = .ok (.goto (-29), 3) := by decide +kernel
theorem dX3_isNamedBefore_34 : decode cX3_isNamedBefore 34 = .ok (.iconst 0, 1) := by decide +kernel
theorem dX3_isNamedBefore_35 : decode cX3_isNamedBefore 35 = .ok (.ireturn, 1) := by decide +kernel
def f_X3_isNamedBefore : MX := mth 2 (sQ (sQ (sTi 1 (eI (0))) (sLp (cB c_lt (eLi 1) (eM (gd 3 f_X3_turns) (aA (aN) (eLa 0)))) (sQ (sIf (cZ z_ne (eAi 2 (eGa (eLa 0) 3 6) (eM (f_X3_turned) (aI (aI (aN) (eGi (eLa 0) 3 9)) (eLi 1))))) (sRz (eI (1))) sN) (sInc 1 (1))) NF)) (sRz (eI (0))))
theorem Y_X3_isNamedBefore : Yk yX3_isNamedBefore cX3_isNamedBefore 2 (some .boolean) 0 := ⟨w349, w8, by decide +kernel, by decide +kernel, by decide +kernel⟩
set_option maxRecDepth 20000 in
theorem k_X3_isNamedBefore (l : Launch) (g : GE) : MetX l g yX3_isNamedBefore cX3_isNamedBefore 2 (some .boolean) 1 ({ frames := 1, cells := 0, slots := 0, locals := 21 } : Room) f_X3_isNamedBefore := by
  unfold f_X3_isNamedBefore
  exact MetX.of (own := RX3) 100 0 rfl (by decide +kernel) (by decide) (fun p e s m args below meth c Fin ad0 hr hn => ⟨_, _, Sv_seq (Sv_seq (Sv_istore_n (Ev_iconst dX3_isNamedBefore_0 (by decide)) dX3_isNamedBefore_1 rfl (Nat.le_of_ble_eq_true rfl) (Nat.ne_of_beq_eq_false rfl)) (Sv_loop0 NF (Cv_icmp_ge_n (Ev_iload_n dX3_isNamedBefore_2 rfl) (Ev_call (Av_a (Av_nil) (Ev_aload_n dX3_isNamedBefore_3 rfl)) (Rn_V (ci := 3) Fx3.1 rfl Y_X3_turns (k_X3_turns _ _) w350 w352 wp6 dX3_isNamedBefore_4 (Nat.le_of_ble_eq_true rfl) (Nat.le_of_ble_eq_true rfl) (Nat.le_of_ble_eq_true rfl) (Nat.ne_of_beq_eq_false rfl))) (t := 34) dX3_isNamedBefore_7 (by decide)) (Sv_goto (pE := 2) (Sv_seq (Sv_if (Cv_if_eq_n (Ev_baload (Ev_getA Fx3 (Ev_aload_n dX3_isNamedBefore_10 rfl) (k := 6) (by decide) w205 dX3_isNamedBefore_11) (Ev_call (Av_i (Av_i (Av_nil) (Ev_getI Fx3 (Ev_aload_n dX3_isNamedBefore_14 rfl) (k := 9) (by decide) w208 dX3_isNamedBefore_15)) (Ev_iload_n dX3_isNamedBefore_18 rfl)) (Rn_S Y_X3_turned (k_X3_turned _ _) w354 w355 dX3_isNamedBefore_19 (Nat.le_of_ble_eq_true rfl) (Nat.le_of_ble_eq_true rfl) (Nat.le_of_ble_eq_true rfl) (Nat.ne_of_beq_eq_false rfl))) dX3_isNamedBefore_22) (t := 28) dX3_isNamedBefore_23 (by decide)) (Sv_retz (Ev_iconst dX3_isNamedBefore_26 (by decide)) hr dX3_isNamedBefore_27) Sv_nop) (Sv_iinc dX3_isNamedBefore_28 (by decide) (Nat.le_of_ble_eq_true rfl) (Nat.ne_of_beq_eq_false rfl))) dX3_isNamedBefore_31 (by decide)))) (Sv_retz (Ev_iconst dX3_isNamedBefore_34 (by decide)) hr dX3_isNamedBefore_35), Nat.le_of_ble_eq_true rfl, Nat.le_of_ble_eq_true rfl⟩)
theorem dX3_isBalanced_0 : decode cX3_isBalanced 0 = .ok (.iload_n 0, 1) := by decide +kernel
theorem dX3_isBalanced_1 : decode cX3_isBalanced 1 = .ok (.invokestatic 94, 3) := by decide +kernel
theorem dX3_isBalanced_4 : decode cX3_isBalanced 4 = .ok (.iload_n 1, 1) := by decide +kernel
theorem dX3_isBalanced_5 : decode cX3_isBalanced 5 = .ok (.invokestatic 94, 3) := by decide +kernel
theorem dX3_isBalanced_8 : decode cX3_isBalanced 8 = .ok (.if_icmp .ne 7, 3) := by decide +kernel
theorem dX3_isBalanced_11 : decode cX3_isBalanced 11 = .ok (.iconst 1, 1) := by decide +kernel
theorem dX3_isBalanced_12 : decode cX3_isBalanced 12 = .ok (.goto 4, 3) := by decide +kernel
theorem dX3_isBalanced_15 : decode cX3_isBalanced 15 = .ok (.iconst 0, 1) := by decide +kernel
theorem dX3_isBalanced_16 : decode cX3_isBalanced 16 = .ok (.istore_n 2, 1) := by decide +kernel
theorem dX3_isBalanced_17 : decode cX3_isBalanced 17 = .ok (.iconst 0, 1) := by decide +kernel
theorem dX3_isBalanced_18 : decode cX3_isBalanced 18 = .ok (.istore_n 3, 1) := by decide +kernel
theorem dX3_isBalanced_19 : decode cX3_isBalanced 19 = .ok (.iload_n 3, 1) := by decide +kernel
theorem dX3_isBalanced_20 : decode cX3_isBalanced 20 = .ok (.iconst 2, 1) := by decide +kernel
theorem dX3_isBalanced_21 : decode cX3_isBalanced 21 = .ok (.if_icmp .ge 68, 3) := by decide +kernel
theorem dX3_isBalanced_24 : decode cX3_isBalanced 24 = .ok (.iconst 0, 1) := by decide +kernel
theorem dX3_isBalanced_25 : decode cX3_isBalanced 25 = .ok (.istore 4, 2) := by decide +kernel
theorem dX3_isBalanced_27 : decode cX3_isBalanced 27 = .ok (.iconst 0, 1) := by decide +kernel
theorem dX3_isBalanced_28 : decode cX3_isBalanced 28 = .ok (.istore 5, 2) := by decide +kernel
theorem dX3_isBalanced_30 : decode cX3_isBalanced 30 = .ok (.iload 5, 2) := by decide +kernel
theorem dX3_isBalanced_32 : decode cX3_isBalanced 32 = .ok (.bipush 6, 2) := by decide +kernel
theorem dX3_isBalanced_34 : decode cX3_isBalanced 34 = .ok (.if_icmp .ge 34, 3) := by decide +kernel
theorem dX3_isBalanced_37 : decode cX3_isBalanced 37 = .ok (.iload 4, 2) := by decide +kernel
theorem dX3_isBalanced_39 : decode cX3_isBalanced 39 = .ok (.iload_n 3, 1) := by decide +kernel
theorem dX3_isBalanced_40 : decode cX3_isBalanced 40 = .ok (.iload 5, 2) := by decide +kernel
theorem dX3_isBalanced_42 : decode cX3_isBalanced 42 = .ok (.invokestatic 100, 3) := by decide +kernel
theorem dX3_isBalanced_45 : decode cX3_isBalanced 45 = .ok (.iload_n 0, 1) := by decide +kernel
theorem dX3_isBalanced_46 : decode cX3_isBalanced 46 = .ok (.iload 5, 2) := by decide +kernel
theorem dX3_isBalanced_48 : decode cX3_isBalanced 48 = .ok (.ishr, 1) := by decide +kernel
theorem dX3_isBalanced_49 : decode cX3_isBalanced 49 = .ok (.iconst 1, 1) := by decide +kernel
theorem dX3_isBalanced_50 : decode cX3_isBalanced 50 = .ok (.iand, 1) := by decide +kernel
theorem dX3_isBalanced_51 : decode cX3_isBalanced 51 = .ok (.iload_n 1, 1) := by decide +kernel
theorem dX3_isBalanced_52 : decode cX3_isBalanced 52 = .ok (.iload 5, 2) := by decide +kernel
theorem dX3_isBalanced_54 : decode cX3_isBalanced 54 = .ok (.ishr, 1) := by decide +kernel
theorem dX3_isBalanced_55 : decode cX3_isBalanced 55 = .ok (.iconst 1, 1) := by decide +kernel
theorem dX3_isBalanced_56 : decode cX3_isBalanced 56 = .ok (.iand, 1) := by decide +kernel
theorem dX3_isBalanced_57 : decode cX3_isBalanced 57 = .ok (.isub, 1) := by decide +kernel
theorem dX3_isBalanced_58 : decode cX3_isBalanced 58 = .ok (.imul, 1) := by decide +kernel
theorem dX3_isBalanced_59 : decode cX3_isBalanced 59 = .ok (.iadd, 1) := by decide +kernel
theorem dX3_isBalanced_60 : decode cX3_isBalanced 60 = .ok (.istore 4, 2) := by decide +kernel
theorem dX3_isBalanced_62 : decode cX3_isBalanced 62 = .ok (.iinc 5 1, 3) := by decide +kernel
theorem dX3_isBalanced_65 : decode cX3_isBalanced 65 = .ok (.goto (-35), 3) := by decide +kernel
theorem dX3_isBalanced_68 : decode cX3_isBalanced 68 = .ok (.iload_n 2, 1) := by decide +kernel
theorem dX3_isBalanced_69 : decode cX3_isBalanced 69 = .ok (.ifCond .eq 12, 3) := by decide +kernel
theorem dX3_isBalanced_72 : decode cX3_isBalanced 72 = .ok (.iload 4, 2) := by decide +kernel
theorem dX3_isBalanced_74 : decode cX3_isBalanced 74 = .ok (.ifCond .ne 7, 3) := by decide +kernel
theorem dX3_isBalanced_77 : decode cX3_isBalanced 77 = .ok (.iconst 1, 1) := by decide +kernel
theorem dX3_isBalanced_78 : decode cX3_isBalanced 78 = .ok (.goto 4, 3) := by decide +kernel
theorem dX3_isBalanced_81 : decode cX3_isBalanced 81 = .ok (.iconst 0, 1) := by decide +kernel
theorem dX3_isBalanced_82 : decode cX3_isBalanced 82 = .ok (.istore_n 2, 1) := by decide +kernel
theorem dX3_isBalanced_83 : decode cX3_isBalanced 83 = .ok (.iinc 3 1, 3) := by decide +kernel
theorem dX3_isBalanced_86 : decode cX3_isBalanced 86 = .ok (.goto (-67), 3) := by decide +kernel
theorem dX3_isBalanced_89 : decode cX3_isBalanced 89 = .ok (.iload_n 2, 1) := by decide +kernel
theorem dX3_isBalanced_90 : decode cX3_isBalanced 90 = .ok (.ireturn, 1) := by decide +kernel
def f_X3_isBalanced : MX := mth 6 (sQ (sTi 2 (eC (cB c_eq (eM (f_J6_bitCount_0f7a4) (aI (aN) (eLi 0))) (eM (f_J6_bitCount_0f7a4) (aI (aN) (eLi 1)))))) (sQ (sQ (sTi 3 (eI (0))) (sLp (cB c_lt (eLi 3) (eI (2))) (sQ (sQ (sTi 4 (eI (0))) (sQ (sQ (sTi 5 (eI (0))) (sLp (cB c_lt (eLi 5) (eI (6))) (sQ (sTi 4 (eOp o_iadd (eLi 4) (eOp o_imul (eM (f_X7_momentumOf) (aI (aI (aN) (eLi 3)) (eLi 5))) (eOp o_isub (eOp o_iand (eOp o_ishr (eLi 0) (eLi 5)) (eI (1))) (eOp o_iand (eOp o_ishr (eLi 1) (eLi 5)) (eI (1))))))) (sInc 5 (1))) NF)) (sTi 2 (eC (cAnd (cZ z_ne (eLi 2)) (cZ z_eq (eLi 4))))))) (sInc 3 (1))) NF)) (sRz (eLi 2))))
theorem Y_X3_isBalanced : Yk yX3_isBalanced cX3_isBalanced 6 (some .boolean) 2 := ⟨w359, w8, by decide +kernel, by decide +kernel, by decide +kernel⟩
set_option maxRecDepth 20000 in
theorem k_X3_isBalanced (l : Launch) (g : GE) : MetX l g yX3_isBalanced cX3_isBalanced 6 (some .boolean) 2 ({ frames := 1, cells := 0, slots := 0, locals := 21 } : Room) f_X3_isBalanced := by
  unfold f_X3_isBalanced
  exact MetX.of (own := RX3) 100 0 rfl (by decide +kernel) (by decide) (fun p e s m args below meth c Fin ad0 hr hn => ⟨_, _, Sv_seq (Sv_istore_n (Ev_if (pT := 16) (Cv_icmp_ne_n (Ev_call (Av_i (Av_nil) (Ev_iload_n dX3_isBalanced_0 rfl)) (Rn_S Y_J6_bitCount_0f7a4 (k_J6_bitCount_0f7a4 _ _) w360 w361 dX3_isBalanced_1 (Nat.le_of_ble_eq_true rfl) (Nat.le_of_ble_eq_true rfl) (Nat.le_of_ble_eq_true rfl) (Nat.ne_of_beq_eq_false rfl))) (Ev_call (Av_i (Av_nil) (Ev_iload_n dX3_isBalanced_4 rfl)) (Rn_S Y_J6_bitCount_0f7a4 (k_J6_bitCount_0f7a4 _ _) w360 w361 dX3_isBalanced_5 (Nat.le_of_ble_eq_true rfl) (Nat.le_of_ble_eq_true rfl) (Nat.le_of_ble_eq_true rfl) (Nat.ne_of_beq_eq_false rfl))) (t := 15) dX3_isBalanced_8 (by decide)) (Ev_iconst dX3_isBalanced_11 (by decide)) dX3_isBalanced_12 (by decide) (Ev_iconst dX3_isBalanced_15 (by decide))) dX3_isBalanced_16 rfl (Nat.le_of_ble_eq_true rfl) (Nat.ne_of_beq_eq_false rfl)) (Sv_seq (Sv_seq (Sv_istore_n (Ev_iconst dX3_isBalanced_17 (by decide)) dX3_isBalanced_18 rfl (Nat.le_of_ble_eq_true rfl) (Nat.ne_of_beq_eq_false rfl)) (Sv_loop0 NF (Cv_icmp_ge_n (Ev_iload_n dX3_isBalanced_19 rfl) (Ev_iconst dX3_isBalanced_20 (by decide)) (t := 89) dX3_isBalanced_21 (by decide)) (Sv_goto (pE := 19) (Sv_seq (Sv_seq (Sv_istore (Ev_iconst dX3_isBalanced_24 (by decide)) dX3_isBalanced_25 (Nat.le_of_ble_eq_true rfl) (Nat.ne_of_beq_eq_false rfl)) (Sv_seq (Sv_seq (Sv_istore (Ev_iconst dX3_isBalanced_27 (by decide)) dX3_isBalanced_28 (Nat.le_of_ble_eq_true rfl) (Nat.ne_of_beq_eq_false rfl)) (Sv_loop0 NF (Cv_icmp_ge_n (Ev_iload dX3_isBalanced_30) (Ev_bipush dX3_isBalanced_32 (by decide)) (t := 68) dX3_isBalanced_34 (by decide)) (Sv_goto (pE := 30) (Sv_seq (Sv_istore (Ev_iadd (Ev_iload dX3_isBalanced_37) (Ev_imul (Ev_call (Av_i (Av_i (Av_nil) (Ev_iload_n dX3_isBalanced_39 rfl)) (Ev_iload dX3_isBalanced_40)) (Rn_SN Y_X7_momentumOf (k_X7_momentumOf _ _) nt_X7_momentumOf w366 w367 dX3_isBalanced_42 (Nat.le_of_ble_eq_true rfl) (Nat.le_of_ble_eq_true rfl) (Nat.le_of_ble_eq_true rfl) (Nat.ne_of_beq_eq_false rfl))) (Ev_isub (Ev_iand (Ev_ishr (Ev_iload_n dX3_isBalanced_45 rfl) (Ev_iload dX3_isBalanced_46) dX3_isBalanced_48) (Ev_iconst dX3_isBalanced_49 (by decide)) dX3_isBalanced_50) (Ev_iand (Ev_ishr (Ev_iload_n dX3_isBalanced_51 rfl) (Ev_iload dX3_isBalanced_52) dX3_isBalanced_54) (Ev_iconst dX3_isBalanced_55 (by decide)) dX3_isBalanced_56) dX3_isBalanced_57) dX3_isBalanced_58) dX3_isBalanced_59) dX3_isBalanced_60 (Nat.le_of_ble_eq_true rfl) (Nat.ne_of_beq_eq_false rfl)) (Sv_iinc dX3_isBalanced_62 (by decide) (Nat.le_of_ble_eq_true rfl) (Nat.ne_of_beq_eq_false rfl))) dX3_isBalanced_65 (by decide)))) (Sv_istore_n (Ev_if (pT := 82) (Cv_and (Cv_if_eq_n (Ev_iload_n dX3_isBalanced_68 rfl) (t := 81) dX3_isBalanced_69 (by decide)) (Cv_if_ne_n (Ev_iload dX3_isBalanced_72) (t := 81) dX3_isBalanced_74 (by decide))) (Ev_iconst dX3_isBalanced_77 (by decide)) dX3_isBalanced_78 (by decide) (Ev_iconst dX3_isBalanced_81 (by decide))) dX3_isBalanced_82 rfl (Nat.le_of_ble_eq_true rfl) (Nat.ne_of_beq_eq_false rfl)))) (Sv_iinc dX3_isBalanced_83 (by decide) (Nat.le_of_ble_eq_true rfl) (Nat.ne_of_beq_eq_false rfl))) dX3_isBalanced_86 (by decide)))) (Sv_retz (Ev_iload_n dX3_isBalanced_89 rfl) hr dX3_isBalanced_90)), Nat.le_of_ble_eq_true rfl, Nat.le_of_ble_eq_true rfl⟩)
theorem dX3_readRule_0 : decode cX3_readRule 0 = .ok (.aload_n 0, 1) := by decide +kernel
theorem dX3_readRule_1 : decode cX3_readRule 1 = .ok (.getfield 33, 3) := by decide +kernel
theorem dX3_readRule_4 : decode cX3_readRule 4 = .ok (.istore_n 1, 1) := by decide +kernel
theorem dX3_readRule_5 : decode cX3_readRule 5 = .ok (.aload_n 0, 1) := by decide +kernel
theorem dX3_readRule_6 : decode cX3_readRule 6 = .ok (.invokevirtual 42, 3) := by decide +kernel
theorem dX3_readRule_9 : decode cX3_readRule 9 = .ok (.ifCond .ne 15, 3) := by decide +kernel
theorem dX3_readRule_12 : decode cX3_readRule 12 = .ok (.aload_n 0, 1) := by decide +kernel
theorem dX3_readRule_13 : decode cX3_readRule 13 = .ok (.iconst 1, 1) := by decide +kernel
theorem dX3_readRule_14 : decode cX3_readRule 14 = .ok (.aload_n 0, 1) := by decide +kernel
theorem dX3_readRule_15 : decode cX3_readRule 15 = .ok (.getfield 33, 3) := by decide +kernel
theorem dX3_readRule_18 : decode cX3_readRule 18 = .ok (.invokevirtual 46, 3) := by decide +kernel
theorem dX3_readRule_21 : decode cX3_readRule 21 = .ok (.goto 68, 3) := by decide +kernel
theorem dX3_readRule_24 : decode cX3_readRule 24 = .ok (.aload_n 0, 1) := by decide +kernel
theorem dX3_readRule_25 : decode cX3_readRule 25 = .ok (.invokevirtual 50, 3) := by decide +kernel
theorem dX3_readRule_28 : decode cX3_readRule 28 = .ok (.ifCond .eq 12, 3) := by decide +kernel
theorem dX3_readRule_31 : decode cX3_readRule 31 = .ok (.aload_n 0, 1) := by decide +kernel
theorem dX3_readRule_32 : decode cX3_readRule 32 = .ok (.iconst 2, 1) := by decide +kernel
theorem dX3_readRule_33 : decode cX3_readRule 33 = .ok (.iload_n 1, 1) := by decide +kernel
theorem dX3_readRule_34 : decode cX3_readRule 34 = .ok (.invokevirtual 46, 3) := by decide +kernel
theorem dX3_readRule_37 : decode cX3_readRule 37 = .ok (.goto 52, 3) := by decide +kernel
theorem dX3_readRule_40 : decode cX3_readRule 40 = .ok (.aload_n 0, 1) := by decide +kernel
theorem dX3_readRule_41 : decode cX3_readRule 41 = .ok (.getfield 53, 3) := by decide +kernel
theorem dX3_readRule_44 : decode cX3_readRule 44 = .ok (.aload_n 0, 1) := by decide +kernel
theorem dX3_readRule_45 : decode cX3_readRule 45 = .ok (.getfield 56, 3) := by decide +kernel
theorem dX3_readRule_48 : decode cX3_readRule 48 = .ok (.invokestatic 59, 3) := by decide +kernel
theorem dX3_readRule_51 : decode cX3_readRule 51 = .ok (.ifCond .ne 15, 3) := by decide +kernel
theorem dX3_readRule_54 : decode cX3_readRule 54 = .ok (.aload_n 0, 1) := by decide +kernel
theorem dX3_readRule_55 : decode cX3_readRule 55 = .ok (.iconst 3, 1) := by decide +kernel
theorem dX3_readRule_56 : decode cX3_readRule 56 = .ok (.aload_n 0, 1) := by decide +kernel
theorem dX3_readRule_57 : decode cX3_readRule 57 = .ok (.getfield 63, 3) := by decide +kernel
theorem dX3_readRule_60 : decode cX3_readRule 60 = .ok (.invokevirtual 46, 3) := by decide +kernel
theorem dX3_readRule_63 : decode cX3_readRule 63 = .ok (.goto 26, 3) := by decide +kernel
theorem dX3_readRule_66 : decode cX3_readRule 66 = .ok (.aload_n 0, 1) := by decide +kernel
theorem dX3_readRule_67 : decode cX3_readRule 67 = .ok (.getfield 53, 3) := by decide +kernel
theorem dX3_readRule_70 : decode cX3_readRule 70 = .ok (.aload_n 0, 1) := by decide +kernel
theorem dX3_readRule_71 : decode cX3_readRule 71 = .ok (.getfield 66, 3) := by decide +kernel
theorem dX3_readRule_74 : decode cX3_readRule 74 = .ok (.invokestatic 59, 3) := by decide +kernel
theorem dX3_readRule_77 : decode cX3_readRule 77 = .ok (.ifCond .ne 12, 3) := by decide +kernel
theorem dX3_readRule_80 : decode cX3_readRule 80 = .ok (.aload_n 0, 1) := by decide +kernel
theorem dX3_readRule_81 : decode cX3_readRule 81 = .ok (.iconst 3, 1) := by decide +kernel
theorem dX3_readRule_82 : decode cX3_readRule 82 = .ok (.aload_n 0, 1) := by decide +kernel
theorem dX3_readRule_83 : decode cX3_readRule 83 = .ok (.getfield 69, 3) := by decide +kernel
theorem dX3_readRule_86 : decode cX3_readRule 86 = .ok (.invokevirtual 46, 3) := by decide +kernel
theorem dX3_readRule_89 : decode cX3_readRule 89 = .ok (.return_, 1) := by decide +kernel
def f_X3_readRule : MX := mth 2 (sQ (sQ (sTi 1 (eGi (eLa 0) 3 7)) (sIf (cNot (cZ z_ne (eM (gd 3 f_X3_readForm) (aA (aN) (eLa 0))))) (sM (gd 3 f_X3_tell) (aI (aI (aA (aN) (eLa 0)) (eI (1))) (eGi (eLa 0) 3 7))) (sIf (cZ z_ne (eM (gd 3 f_X3_isNamedBefore) (aA (aN) (eLa 0)))) (sM (gd 3 f_X3_tell) (aI (aI (aA (aN) (eLa 0)) (eI (2))) (eLi 1))) (sIf (cNot (cZ z_ne (eM (f_X3_isBalanced) (aI (aI (aN) (eGi (eLa 0) 3 9)) (eGi (eLa 0) 3 10))))) (sM (gd 3 f_X3_tell) (aI (aI (aA (aN) (eLa 0)) (eI (3))) (eGi (eLa 0) 3 11))) (sIf (cNot (cZ z_ne (eM (f_X3_isBalanced) (aI (aI (aN) (eGi (eLa 0) 3 9)) (eGi (eLa 0) 3 12))))) (sM (gd 3 f_X3_tell) (aI (aI (aA (aN) (eLa 0)) (eI (3))) (eGi (eLa 0) 3 13))) sN))))) (sRv))
theorem Y_X3_readRule : Yk yX3_readRule cX3_readRule 2 none 0 := ⟨w329, w8, by decide +kernel, by decide +kernel, by decide +kernel⟩
set_option maxRecDepth 20000 in
theorem k_X3_readRule (l : Launch) (g : GE) : MetX l g yX3_readRule cX3_readRule 2 none 1 ({ frames := 2, cells := 0, slots := 0, locals := 46 } : Room) f_X3_readRule := by
  unfold f_X3_readRule
  exact MetX.of (own := RX3) 100 0 rfl (by decide +kernel) (by decide) (fun p e s m args below meth c Fin ad0 hr hn => ⟨_, _, Sv_seq (Sv_seq (Sv_istore_n (Ev_getI Fx3 (Ev_aload_n dX3_readRule_0 rfl) (k := 7) (by decide) w206 dX3_readRule_1) dX3_readRule_4 rfl (Nat.le_of_ble_eq_true rfl) (Nat.ne_of_beq_eq_false rfl)) (Sv_if (Cv_not (Cv_if_ne_j (Ev_call (Av_a (Av_nil) (Ev_aload_n dX3_readRule_5 rfl)) (Rn_V (ci := 3) Fx3.1 rfl Y_X3_readForm (k_X3_readForm _ _) w330 w332 wp1 dX3_readRule_6 (Nat.le_of_ble_eq_true rfl) (Nat.le_of_ble_eq_true rfl) (Nat.le_of_ble_eq_true rfl) (Nat.ne_of_beq_eq_false rfl))) (t := 24) dX3_readRule_9 (by decide))) (Sv_goto (pE := 89) (Sv_call (Av_i (Av_i (Av_a (Av_nil) (Ev_aload_n dX3_readRule_12 rfl)) (Ev_iconst dX3_readRule_13 (by decide))) (Ev_getI Fx3 (Ev_aload_n dX3_readRule_14 rfl) (k := 7) (by decide) w206 dX3_readRule_15)) (Rn_V (ci := 3) Fx3.1 rfl Y_X3_tell (k_X3_tell _ _) w342 w344 wp4 dX3_readRule_18 (Nat.le_of_ble_eq_true rfl) (Nat.le_of_ble_eq_true rfl) (Nat.le_of_ble_eq_true rfl) (Nat.ne_of_beq_eq_false rfl))) dX3_readRule_21 (by decide)) (Sv_if (Cv_if_eq_n (Ev_call (Av_a (Av_nil) (Ev_aload_n dX3_readRule_24 rfl)) (Rn_V (ci := 3) Fx3.1 rfl Y_X3_isNamedBefore (k_X3_isNamedBefore _ _) w346 w348 wp5 dX3_readRule_25 (Nat.le_of_ble_eq_true rfl) (Nat.le_of_ble_eq_true rfl) (Nat.le_of_ble_eq_true rfl) (Nat.ne_of_beq_eq_false rfl))) (t := 40) dX3_readRule_28 (by decide)) (Sv_goto (pE := 89) (Sv_call (Av_i (Av_i (Av_a (Av_nil) (Ev_aload_n dX3_readRule_31 rfl)) (Ev_iconst dX3_readRule_32 (by decide))) (Ev_iload_n dX3_readRule_33 rfl)) (Rn_V (ci := 3) Fx3.1 rfl Y_X3_tell (k_X3_tell _ _) w342 w344 wp4 dX3_readRule_34 (Nat.le_of_ble_eq_true rfl) (Nat.le_of_ble_eq_true rfl) (Nat.le_of_ble_eq_true rfl) (Nat.ne_of_beq_eq_false rfl))) dX3_readRule_37 (by decide)) (Sv_if (Cv_not (Cv_if_ne_j (Ev_call (Av_i (Av_i (Av_nil) (Ev_getI Fx3 (Ev_aload_n dX3_readRule_40 rfl) (k := 9) (by decide) w208 dX3_readRule_41)) (Ev_getI Fx3 (Ev_aload_n dX3_readRule_44 rfl) (k := 10) (by decide) w209 dX3_readRule_45)) (Rn_S Y_X3_isBalanced (k_X3_isBalanced _ _) w357 w358 dX3_readRule_48 (Nat.le_of_ble_eq_true rfl) (Nat.le_of_ble_eq_true rfl) (Nat.le_of_ble_eq_true rfl) (Nat.ne_of_beq_eq_false rfl))) (t := 66) dX3_readRule_51 (by decide))) (Sv_goto (pE := 89) (Sv_call (Av_i (Av_i (Av_a (Av_nil) (Ev_aload_n dX3_readRule_54 rfl)) (Ev_iconst dX3_readRule_55 (by decide))) (Ev_getI Fx3 (Ev_aload_n dX3_readRule_56 rfl) (k := 11) (by decide) w210 dX3_readRule_57)) (Rn_V (ci := 3) Fx3.1 rfl Y_X3_tell (k_X3_tell _ _) w342 w344 wp4 dX3_readRule_60 (Nat.le_of_ble_eq_true rfl) (Nat.le_of_ble_eq_true rfl) (Nat.le_of_ble_eq_true rfl) (Nat.ne_of_beq_eq_false rfl))) dX3_readRule_63 (by decide)) (Sv_if (Cv_not (Cv_if_ne_j (Ev_call (Av_i (Av_i (Av_nil) (Ev_getI Fx3 (Ev_aload_n dX3_readRule_66 rfl) (k := 9) (by decide) w208 dX3_readRule_67)) (Ev_getI Fx3 (Ev_aload_n dX3_readRule_70 rfl) (k := 12) (by decide) w211 dX3_readRule_71)) (Rn_S Y_X3_isBalanced (k_X3_isBalanced _ _) w357 w358 dX3_readRule_74 (Nat.le_of_ble_eq_true rfl) (Nat.le_of_ble_eq_true rfl) (Nat.le_of_ble_eq_true rfl) (Nat.ne_of_beq_eq_false rfl))) (t := 89) dX3_readRule_77 (by decide))) (Sv_call (Av_i (Av_i (Av_a (Av_nil) (Ev_aload_n dX3_readRule_80 rfl)) (Ev_iconst dX3_readRule_81 (by decide))) (Ev_getI Fx3 (Ev_aload_n dX3_readRule_82 rfl) (k := 13) (by decide) w212 dX3_readRule_83)) (Rn_V (ci := 3) Fx3.1 rfl Y_X3_tell (k_X3_tell _ _) w342 w344 wp4 dX3_readRule_86 (Nat.le_of_ble_eq_true rfl) (Nat.le_of_ble_eq_true rfl) (Nat.le_of_ble_eq_true rfl) (Nat.ne_of_beq_eq_false rfl))) Sv_nop))))) (Sv_retv hr dX3_readRule_89), Nat.le_of_ble_eq_true rfl, Nat.le_of_ble_eq_true rfl⟩)
theorem dX3_enterRule_0 : decode cX3_enterRule 0 = .ok (.iconst 0, 1) := by decide +kernel
theorem dX3_enterRule_1 : decode cX3_enterRule 1 = .ok (.istore_n 1, 1) := by decide +kernel
theorem dX3_enterRule_2 : decode cX3_enterRule 2 = .ok (.iload_n 1, 1) := by decide +kernel
theorem dX3_enterRule_3 : decode cX3_enterRule 3 = .ok (.aload_n 0, 1) := by decide +kernel
theorem dX3_enterRule_4 : decode cX3_enterRule 4 = .ok (.invokevirtual 87, 3) := by decide +kernel
theorem dX3_enterRule_7 : decode cX3_enterRule 7 = .ok (.if_icmp .ge 56, 3) := by decide +kernel
theorem dX3_enterRule_10 : decode cX3_enterRule 10 = .ok (.aload_n 0, 1) := by decide +kernel
theorem dX3_enterRule_11 : decode cX3_enterRule 11 = .ok (.getfield 53, 3) := by decide +kernel
theorem dX3_enterRule_14 : decode cX3_enterRule 14 = .ok (.iload_n 1, 1) := by decide +kernel
theorem dX3_enterRule_15 : decode cX3_enterRule 15 = .ok (.invokestatic 90, 3) := by decide +kernel
theorem dX3_enterRule_18 : decode cX3_enterRule 18 = .ok (.istore_n 2, 1) := by decide +kernel
theorem dX3_enterRule_19 : decode cX3_enterRule 19 = .ok (.aload_n 0, 1) := by decide +kernel
theorem dX3_enterRule_20 : decode cX3_enterRule 20 = .ok (.getfield 19, 3) := by decide +kernel
theorem dX3_enterRule_23 : decode cX3_enterRule 23 = .ok (.iload_n 2, 1) := by decide +kernel
theorem dX3_enterRule_24 : decode cX3_enterRule 24 = .ok (.iconst 1, 1) := by decide +kernel
theorem dX3_enterRule_25 : decode cX3_enterRule 25 = .ok (.bastore, 1) := by decide +kernel
theorem dX3_enterRule_26 : decode cX3_enterRule 26 = .ok (.aload_n 0, 1) := by decide +kernel
theorem dX3_enterRule_27 : decode cX3_enterRule 27 = .ok (.getfield 15, 3) := by decide +kernel
theorem dX3_enterRule_30 : decode cX3_enterRule 30 = .ok (.iload_n 2, 1) := by decide +kernel
theorem dX3_enterRule_31 : decode cX3_enterRule 31 = .ok (.aload_n 0, 1) := by decide +kernel
theorem dX3_enterRule_32 : decode cX3_enterRule 32 = .ok (.getfield 56, 3) := by decide +kernel
theorem dX3_enterRule_35 : decode cX3_enterRule 35 = .ok (.iload_n 1, 1) := by decide +kernel
theorem dX3_enterRule_36 : decode cX3_enterRule 36 = .ok (.invokestatic 90, 3) := by decide +kernel
theorem dX3_enterRule_39 : decode cX3_enterRule 39 = .ok (.iastore, 1) := by decide +kernel
theorem dX3_enterRule_40 : decode cX3_enterRule 40 = .ok (.aload_n 0, 1) := by decide +kernel
theorem dX3_enterRule_41 : decode cX3_enterRule 41 = .ok (.getfield 15, 3) := by decide +kernel
theorem dX3_enterRule_44 : decode cX3_enterRule 44 = .ok (.bipush 64, 2) := by decide +kernel
theorem dX3_enterRule_46 : decode cX3_enterRule 46 = .ok (.iload_n 2, 1) := by decide +kernel
theorem dX3_enterRule_47 : decode cX3_enterRule 47 = .ok (.iadd, 1) := by decide +kernel
theorem dX3_enterRule_48 : decode cX3_enterRule 48 = .ok (.aload_n 0, 1) := by decide +kernel
theorem dX3_enterRule_49 : decode cX3_enterRule 49 = .ok (.getfield 66, 3) := by decide +kernel
theorem dX3_enterRule_52 : decode cX3_enterRule 52 = .ok (.iload_n 1, 1) := by decide +kernel
theorem dX3_enterRule_53 : decode cX3_enterRule 53 = .ok (.invokestatic 90, 3) := by decide +kernel
theorem dX3_enterRule_56 : decode cX3_enterRule 56 = .ok (.iastore, 1) := by decide +kernel
theorem dX3_enterRule_57 : decode cX3_enterRule 57 = .ok (.iinc 1 1, 3) := by decide +kernel
theorem dX3_enterRule_60 : decode cX3_enterRule 60 = .ok (.goto (-58), 3) := by decide +kernel
theorem dX3_enterRule_63 : decode cX3_enterRule 63 = .ok (.aload_n 0, 1) := by decide +kernel
theorem dX3_enterRule_64 : decode cX3_enterRule 64 = .ok (.dup, 1) := by decide +kernel
theorem dX3_enterRule_65 : decode cX3_enterRule 65 = .ok (.getfield 27, 3) := by decide +kernel
theorem dX3_enterRule_68 : decode cX3_enterRule 68 = .ok (.iconst 1, 1) := by decide +kernel
theorem dX3_enterRule_69 : decode cX3_enterRule 69 = .ok (.iadd, 1) := by decide +kernel
theorem dX3_enterRule_70 : decode cX3_enterRule 70 = .ok (.putfield 27, 3) := by decide +kernel
theorem dX3_enterRule_73 : decode cX3_enterRule 73 = .ok (.return_, 1) := by decide +kernel
def f_X3_enterRule : MX := mth 3 (sQ (sQ (sQ (sTi 1 (eI (0))) (sLp (cB c_lt (eLi 1) (eM (gd 3 f_X3_turns) (aA (aN) (eLa 0)))) (sQ (sQ (sTi 2 (eM (f_X3_turned) (aI (aI (aN) (eGi (eLa 0) 3 9)) (eLi 1)))) (sQ (sAi 2 (eGa (eLa 0) 3 6) (eLi 2) (eI (1))) (sQ (sAi 0 (eGa (eLa 0) 3 2) (eLi 2) (eM (f_X3_turned) (aI (aI (aN) (eGi (eLa 0) 3 10)) (eLi 1)))) (sAi 0 (eGa (eLa 0) 3 2) (eOp o_iadd (eI (64)) (eLi 2)) (eM (f_X3_turned) (aI (aI (aN) (eGi (eLa 0) 3 12)) (eLi 1))))))) (sInc 1 (1))) NF)) (sPo (eLa 0) 3 3 o_iadd (eI (1)))) (sRv))
theorem Y_X3_enterRule : Yk yX3_enterRule cX3_enterRule 3 none 0 := ⟨w376, w8, by decide +kernel, by decide +kernel, by decide +kernel⟩
set_option maxRecDepth 20000 in
theorem k_X3_enterRule (l : Launch) (g : GE) : MetX l g yX3_enterRule cX3_enterRule 3 none 1 ({ frames := 1, cells := 0, slots := 0, locals := 21 } : Room) f_X3_enterRule := by
  unfold f_X3_enterRule
  exact MetX.of (own := RX3) 100 0 rfl (by decide +kernel) (by decide) (fun p e s m args below meth c Fin ad0 hr hn => ⟨_, _, Sv_seq (Sv_seq (Sv_seq (Sv_istore_n (Ev_iconst dX3_enterRule_0 (by decide)) dX3_enterRule_1 rfl (Nat.le_of_ble_eq_true rfl) (Nat.ne_of_beq_eq_false rfl)) (Sv_loop0 NF (Cv_icmp_ge_n (Ev_iload_n dX3_enterRule_2 rfl) (Ev_call (Av_a (Av_nil) (Ev_aload_n dX3_enterRule_3 rfl)) (Rn_V (ci := 3) Fx3.1 rfl Y_X3_turns (k_X3_turns _ _) w350 w352 wp6 dX3_enterRule_4 (Nat.le_of_ble_eq_true rfl) (Nat.le_of_ble_eq_true rfl) (Nat.le_of_ble_eq_true rfl) (Nat.ne_of_beq_eq_false rfl))) (t := 63) dX3_enterRule_7 (by decide)) (Sv_goto (pE := 2) (Sv_seq (Sv_seq (Sv_istore_n (Ev_call (Av_i (Av_i (Av_nil) (Ev_getI Fx3 (Ev_aload_n dX3_enterRule_10 rfl) (k := 9) (by decide) w208 dX3_enterRule_11)) (Ev_iload_n dX3_enterRule_14 rfl)) (Rn_S Y_X3_turned (k_X3_turned _ _) w354 w355 dX3_enterRule_15 (Nat.le_of_ble_eq_true rfl) (Nat.le_of_ble_eq_true rfl) (Nat.le_of_ble_eq_true rfl) (Nat.ne_of_beq_eq_false rfl))) dX3_enterRule_18 rfl (Nat.le_of_ble_eq_true rfl) (Nat.ne_of_beq_eq_false rfl)) (Sv_seq (Sv_bastore (Ev_getA Fx3 (Ev_aload_n dX3_enterRule_19 rfl) (k := 6) (by decide) w205 dX3_enterRule_20) (Ev_iload_n dX3_enterRule_23 rfl) (Ev_iconst dX3_enterRule_24 (by decide)) dX3_enterRule_25) (Sv_seq (Sv_iastore (Ev_getA Fx3 (Ev_aload_n dX3_enterRule_26 rfl) (k := 2) (by decide) w196 dX3_enterRule_27) (Ev_iload_n dX3_enterRule_30 rfl) (Ev_call (Av_i (Av_i (Av_nil) (Ev_getI Fx3 (Ev_aload_n dX3_enterRule_31 rfl) (k := 10) (by decide) w209 dX3_enterRule_32)) (Ev_iload_n dX3_enterRule_35 rfl)) (Rn_S Y_X3_turned (k_X3_turned _ _) w354 w355 dX3_enterRule_36 (Nat.le_of_ble_eq_true rfl) (Nat.le_of_ble_eq_true rfl) (Nat.le_of_ble_eq_true rfl) (Nat.ne_of_beq_eq_false rfl))) dX3_enterRule_39) (Sv_iastore (Ev_getA Fx3 (Ev_aload_n dX3_enterRule_40 rfl) (k := 2) (by decide) w196 dX3_enterRule_41) (Ev_iadd (Ev_bipush dX3_enterRule_44 (by decide)) (Ev_iload_n dX3_enterRule_46 rfl) dX3_enterRule_47) (Ev_call (Av_i (Av_i (Av_nil) (Ev_getI Fx3 (Ev_aload_n dX3_enterRule_48 rfl) (k := 12) (by decide) w211 dX3_enterRule_49)) (Ev_iload_n dX3_enterRule_52 rfl)) (Rn_S Y_X3_turned (k_X3_turned _ _) w354 w355 dX3_enterRule_53 (Nat.le_of_ble_eq_true rfl) (Nat.le_of_ble_eq_true rfl) (Nat.le_of_ble_eq_true rfl) (Nat.ne_of_beq_eq_false rfl))) dX3_enterRule_56)))) (Sv_iinc dX3_enterRule_57 (by decide) (Nat.le_of_ble_eq_true rfl) (Nat.ne_of_beq_eq_false rfl))) dX3_enterRule_60 (by decide)))) (Sv_fop_iadd (idx2 := 0) Fx3 (Ev_aload_n dX3_enterRule_63 rfl) dX3_enterRule_64 dX3_enterRule_65 (Ev_iconst dX3_enterRule_68 (by decide)) dX3_enterRule_69 (k := 3) (by decide) rfl rfl w198 dX3_enterRule_70)) (Sv_retv hr dX3_enterRule_73), Nat.le_of_ble_eq_true rfl, Nat.le_of_ble_eq_true rfl⟩)
theorem dX3_readBook_0 : decode cX3_readBook 0 = .ok (.aload_n 0, 1) := by decide +kernel
theorem dX3_readBook_1 : decode cX3_readBook 1 = .ok (.iconst 0, 1) := by decide +kernel
theorem dX3_readBook_2 : decode cX3_readBook 2 = .ok (.putfield 27, 3) := by decide +kernel
theorem dX3_readBook_5 : decode cX3_readBook 5 = .ok (.aload_n 0, 1) := by decide +kernel
theorem dX3_readBook_6 : decode cX3_readBook 6 = .ok (.iconst 0, 1) := by decide +kernel
theorem dX3_readBook_7 : decode cX3_readBook 7 = .ok (.putfield 30, 3) := by decide +kernel
theorem dX3_readBook_10 : decode cX3_readBook 10 = .ok (.aload_n 0, 1) := by decide +kernel
theorem dX3_readBook_11 : decode cX3_readBook 11 = .ok (.iconst 0, 1) := by decide +kernel
theorem dX3_readBook_12 : decode cX3_readBook 12 = .ok (.putfield 33, 3) := by decide +kernel
theorem dX3_readBook_15 : decode cX3_readBook 15 = .ok (.iconst 0, 1) := by decide +kernel
theorem dX3_readBook_16 : decode cX3_readBook 16 = .ok (.istore_n 1, 1) := by decide +kernel
theorem dX3_readBook_17 : decode cX3_readBook 17 = .ok (.iload_n 1, 1) := by decide +kernel
theorem dX3_readBook_18 : decode cX3_readBook 18 = .ok (.bipush 64, 2) := by decide +kernel
theorem dX3_readBook_20 : decode cX3_readBook 20 = .ok (.if_icmp .ge 33, 3) := by decide +kernel
theorem dX3_readBook_23 : decode cX3_readBook 23 = .ok (.aload_n 0, 1) := by decide +kernel
theorem dX3_readBook_24 : decode cX3_readBook 24 = .ok (.getfield 15, 3) := by decide +kernel
theorem dX3_readBook_27 : decode cX3_readBook 27 = .ok (.iload_n 1, 1) := by decide +kernel
theorem dX3_readBook_28 : decode cX3_readBook 28 = .ok (.iload_n 1, 1) := by decide +kernel
theorem dX3_readBook_29 : decode cX3_readBook 29 = .ok (.iastore, 1) := by decide +kernel
theorem dX3_readBook_30 : decode cX3_readBook 30 = .ok (.aload_n 0, 1) := by decide +kernel
theorem dX3_readBook_31 : decode cX3_readBook 31 = .ok (.getfield 15, 3) := by decide +kernel
theorem dX3_readBook_34 : decode cX3_readBook 34 = .ok (.bipush 64, 2) := by decide +kernel
theorem dX3_readBook_36 : decode cX3_readBook 36 = .ok (.iload_n 1, 1) := by decide +kernel
theorem dX3_readBook_37 : decode cX3_readBook 37 = .ok (.iadd, 1) := by decide +kernel
theorem dX3_readBook_38 : decode cX3_readBook 38 = .ok (.iload_n 1, 1) := by decide +kernel
theorem dX3_readBook_39 : decode cX3_readBook 39 = .ok (.iastore, 1) := by decide +kernel
theorem dX3_readBook_40 : decode cX3_readBook 40 = .ok (.aload_n 0, 1) := by decide +kernel
theorem dX3_readBook_41 : decode cX3_readBook 41 = .ok (.getfield 19, 3) := by decide +kernel
theorem dX3_readBook_44 : decode cX3_readBook 44 = .ok (.iload_n 1, 1) := by decide +kernel
theorem dX3_readBook_45 : decode cX3_readBook 45 = .ok (.iconst 0, 1) := by decide +kernel
theorem dX3_readBook_46 : decode cX3_readBook 46 = .ok (.bastore, 1) := by decide +kernel
theorem dX3_readBook_47 : decode cX3_readBook 47 = .ok (.iinc 1 1, 3) := by decide +kernel
theorem dX3_readBook_50 : decode cX3_readBook 50 = .ok (.goto (-33), 3) := by decide +kernel
theorem dX3_readBook_53 : decode cX3_readBook 53 = .ok (.aload_n 0, 1) := by decide +kernel
theorem dX3_readBook_54 : decode cX3_readBook 54 = .ok (.getfield 23, 3) := by decide +kernel
theorem dX3_readBook_57 : decode cX3_readBook 57 = .ok (.ifCond .le 7, 3) := by decide +kernel
theorem dX3_readBook_60 : decode cX3_readBook 60 = .ok (.iconst 1, 1) := by decide +kernel
theorem dX3_readBook_61 : decode cX3_readBook 61 = .ok (.goto 4, 3) := by decide +kernel
theorem dX3_readBook_64 : decode cX3_readBook 64 = .ok (.iconst 0, 1) := by decide +kernel
theorem dX3_readBook_65 : decode cX3_readBook 65 = .ok (.istore_n 1, 1) := by decide +kernel
theorem dX3_readBook_66 : decode cX3_readBook 66 = .ok (.iconst 0, 1) := by decide +kernel
theorem dX3_readBook_67 : decode cX3_readBook 67 = .ok (.istore_n 2, 1) := by decide +kernel
theorem dX3_readBook_68 : decode cX3_readBook 68 = .ok (.iload_n 2, 1) := by decide +kernel
theorem dX3_readBook_69 : decode cX3_readBook 69 = .ok (.bipush 80, 2) := by decide +kernel
theorem dX3_readBook_71 : decode cX3_readBook 71 = .ok (.if_icmp .gt 62, 3) := by decide +kernel
theorem dX3_readBook_74 : decode cX3_readBook 74 = .ok (.iload_n 1, 1) := by decide +kernel
theorem dX3_readBook_75 : decode cX3_readBook 75 = .ok (.ifCond .eq 58, 3) := by decide +kernel
theorem dX3_readBook_78 : decode cX3_readBook 78 = .ok (.aload_n 0, 1) := by decide +kernel
theorem dX3_readBook_79 : decode cX3_readBook 79 = .ok (.invokevirtual 36, 3) := by decide +kernel
theorem dX3_readBook_82 : decode cX3_readBook 82 = .ok (.aload_n 0, 1) := by decide +kernel
theorem dX3_readBook_83 : decode cX3_readBook 83 = .ok (.getfield 30, 3) := by decide +kernel
theorem dX3_readBook_86 : decode cX3_readBook 86 = .ok (.ifCond .ne 7, 3) := by decide +kernel
theorem dX3_readBook_89 : decode cX3_readBook 89 = .ok (.aload_n 0, 1) := by decide +kernel
theorem dX3_readBook_90 : decode cX3_readBook 90 = .ok (.invokevirtual 39, 3) := by decide +kernel
theorem dX3_readBook_93 : decode cX3_readBook 93 = .ok (.aload_n 0, 1) := by decide +kernel
theorem dX3_readBook_94 : decode cX3_readBook 94 = .ok (.getfield 30, 3) := by decide +kernel
theorem dX3_readBook_97 : decode cX3_readBook 97 = .ok (.ifCond .ne 18, 3) := by decide +kernel
theorem dX3_readBook_100 : decode cX3_readBook 100 = .ok (.aload_n 0, 1) := by decide +kernel
theorem dX3_readBook_101 : decode cX3_readBook 101 = .ok (.getfield 33, 3) := by decide +kernel
theorem dX3_readBook_104 : decode cX3_readBook 104 = .ok (.aload_n 0, 1) := by decide +kernel
theorem dX3_readBook_105 : decode cX3_readBook 105 = .ok (.getfield 23, 3) := by decide +kernel
theorem dX3_readBook_108 : decode cX3_readBook 108 = .ok (.if_icmp .ge 7, 3) := by decide +kernel
theorem dX3_readBook_111 : decode cX3_readBook 111 = .ok (.iconst 1, 1) := by decide +kernel
theorem dX3_readBook_112 : decode cX3_readBook 112 = .ok (.goto 4, 3) := by decide +kernel
theorem dX3_readBook_115 : decode cX3_readBook 115 = .ok (.iconst 0, 1) := by decide +kernel
theorem dX3_readBook_116 : decode cX3_readBook 116 = .ok (.istore_n 1, 1) := by decide +kernel
theorem dX3_readBook_117 : decode cX3_readBook 117 = .ok (.aload_n 0, 1) := by decide +kernel
theorem dX3_readBook_118 : decode cX3_readBook 118 = .ok (.dup, 1) := by decide +kernel
theorem dX3_readBook_119 : decode cX3_readBook 119 = .ok (.getfield 33, 3) := by decide +kernel
theorem dX3_readBook_122 : decode cX3_readBook 122 = .ok (.iconst 1, 1) := by decide +kernel
theorem dX3_readBook_123 : decode cX3_readBook 123 = .ok (.iadd, 1) := by decide +kernel
theorem dX3_readBook_124 : decode cX3_readBook 124 = .ok (.putfield 33, 3) := by decide +kernel
theorem dX3_readBook_127 : decode cX3_readBook 127 = .ok (.iinc 2 1, 3) := by decide +kernel
theorem dX3_readBook_130 : decode cX3_readBook 130 = .ok (.goto (-62), 3) := by decide +kernel
theorem dX3_readBook_133 : decode cX3_readBook 133 = .ok (.return_, 1) := by decide +kernel
def f_X3_readBook : MX := mth 3 (sQ (sQ (sPi (eLa 0) 3 3 (eI (0))) (sQ (sPi (eLa 0) 3 4 (eI (0))) (sQ (sPi (eLa 0) 3 7 (eI (0))) (sQ (sQ (sTi 1 (eI (0))) (sLp (cB c_lt (eLi 1) (eI (64))) (sQ (sQ (sAi 0 (eGa (eLa 0) 3 2) (eLi 1) (eLi 1)) (sQ (sAi 0 (eGa (eLa 0) 3 2) (eOp o_iadd (eI (64)) (eLi 1)) (eLi 1)) (sAi 2 (eGa (eLa 0) 3 6) (eLi 1) (eI (0))))) (sInc 1 (1))) NF)) (sQ (sTi 1 (eC (cZ z_gt (eGi (eLa 0) 3 1)))) (sQ (sTi 2 (eI (0))) (sLp (cAnd (cB c_le (eLi 2) (eI (80))) (cZ z_ne (eLi 1))) (sQ (sQ (sM (gd 3 f_X3_readRule) (aA (aN) (eLa 0))) (sQ (sIf (cZ z_eq (eGi (eLa 0) 3 4)) (sM (gd 3 f_X3_enterRule) (aA (aN) (eLa 0))) sN) (sQ (sTi 1 (eC (cAnd (cZ z_eq (eGi (eLa 0) 3 4)) (cB c_lt (eGi (eLa 0) 3 7) (eGi (eLa 0) 3 1))))) (sPo (eLa 0) 3 7 o_iadd (eI (1)))))) (sInc 2 (1))) NF))))))) (sRv))
theorem Y_X3_readBook : Yk yX3_readBook cX3_readBook 3 none 0 := ⟨w325, w8, by decide +kernel, by decide +kernel, by decide +kernel⟩
set_option maxRecDepth 20000 in
theorem k_X3_readBook (l : Launch) (g : GE) : MetX l g yX3_readBook cX3_readBook 3 none 1 ({ frames := 3, cells := 0, slots := 0, locals := 67 } : Room) f_X3_readBook := by
  unfold f_X3_readBook
  exact MetX.of (own := RX3) 100 0 rfl (by decide +kernel) (by decide) (fun p e s m args below meth c Fin ad0 hr hn => ⟨_, _, Sv_seq (Sv_seq (Sv_putI Fx3 (Ev_aload_n dX3_readBook_0 rfl) (Ev_iconst dX3_readBook_1 (by decide)) (k := 3) (by decide) rfl rfl w198 dX3_readBook_2) (Sv_seq (Sv_putI Fx3 (Ev_aload_n dX3_readBook_5 rfl) (Ev_iconst dX3_readBook_6 (by decide)) (k := 4) (by decide) rfl rfl w201 dX3_readBook_7) (Sv_seq (Sv_putI Fx3 (Ev_aload_n dX3_readBook_10 rfl) (Ev_iconst dX3_readBook_11 (by decide)) (k := 7) (by decide) rfl rfl w206 dX3_readBook_12) (Sv_seq (Sv_seq (Sv_istore_n (Ev_iconst dX3_readBook_15 (by decide)) dX3_readBook_16 rfl (Nat.le_of_ble_eq_true rfl) (Nat.ne_of_beq_eq_false rfl)) (Sv_loop0 NF (Cv_icmp_ge_n (Ev_iload_n dX3_readBook_17 rfl) (Ev_bipush dX3_readBook_18 (by decide)) (t := 53) dX3_readBook_20 (by decide)) (Sv_goto (pE := 17) (Sv_seq (Sv_seq (Sv_iastore (Ev_getA Fx3 (Ev_aload_n dX3_readBook_23 rfl) (k := 2) (by decide) w196 dX3_readBook_24) (Ev_iload_n dX3_readBook_27 rfl) (Ev_iload_n dX3_readBook_28 rfl) dX3_readBook_29) (Sv_seq (Sv_iastore (Ev_getA Fx3 (Ev_aload_n dX3_readBook_30 rfl) (k := 2) (by decide) w196 dX3_readBook_31) (Ev_iadd (Ev_bipush dX3_readBook_34 (by decide)) (Ev_iload_n dX3_readBook_36 rfl) dX3_readBook_37) (Ev_iload_n dX3_readBook_38 rfl) dX3_readBook_39) (Sv_bastore (Ev_getA Fx3 (Ev_aload_n dX3_readBook_40 rfl) (k := 6) (by decide) w205 dX3_readBook_41) (Ev_iload_n dX3_readBook_44 rfl) (Ev_iconst dX3_readBook_45 (by decide)) dX3_readBook_46))) (Sv_iinc dX3_readBook_47 (by decide) (Nat.le_of_ble_eq_true rfl) (Nat.ne_of_beq_eq_false rfl))) dX3_readBook_50 (by decide)))) (Sv_seq (Sv_istore_n (Ev_if (pT := 65) (Cv_if_le_n (Ev_getI Fx3 (Ev_aload_n dX3_readBook_53 rfl) (k := 1) (by decide) w195 dX3_readBook_54) (t := 64) dX3_readBook_57 (by decide)) (Ev_iconst dX3_readBook_60 (by decide)) dX3_readBook_61 (by decide) (Ev_iconst dX3_readBook_64 (by decide))) dX3_readBook_65 rfl (Nat.le_of_ble_eq_true rfl) (Nat.ne_of_beq_eq_false rfl)) (Sv_seq (Sv_istore_n (Ev_iconst dX3_readBook_66 (by decide)) dX3_readBook_67 rfl (Nat.le_of_ble_eq_true rfl) (Nat.ne_of_beq_eq_false rfl)) (Sv_loop0 NF (Cv_and (Cv_icmp_gt_n (Ev_iload_n dX3_readBook_68 rfl) (Ev_bipush dX3_readBook_69 (by decide)) (t := 133) dX3_readBook_71 (by decide)) (Cv_if_eq_n (Ev_iload_n dX3_readBook_74 rfl) (t := 133) dX3_readBook_75 (by decide))) (Sv_goto (pE := 68) (Sv_seq (Sv_seq (Sv_call (Av_a (Av_nil) (Ev_aload_n dX3_readBook_78 rfl)) (Rn_V (ci := 3) Fx3.1 rfl Y_X3_readRule (k_X3_readRule _ _) w326 w328 wp0 dX3_readBook_79 (Nat.le_of_ble_eq_true rfl) (Nat.le_of_ble_eq_true rfl) (Nat.le_of_ble_eq_true rfl) (Nat.ne_of_beq_eq_false rfl))) (Sv_seq (Sv_if (Cv_if_ne_n (Ev_getI Fx3 (Ev_aload_n dX3_readBook_82 rfl) (k := 4) (by decide) w201 dX3_readBook_83) (t := 93) dX3_readBook_86 (by decide)) (Sv_call (Av_a (Av_nil) (Ev_aload_n dX3_readBook_89 rfl)) (Rn_V (ci := 3) Fx3.1 rfl Y_X3_enterRule (k_X3_enterRule _ _) w373 w375 wp7 dX3_readBook_90 (Nat.le_of_ble_eq_true rfl) (Nat.le_of_ble_eq_true rfl) (Nat.le_of_ble_eq_true rfl) (Nat.ne_of_beq_eq_false rfl))) Sv_nop) (Sv_seq (Sv_istore_n (Ev_if (pT := 116) (Cv_and (Cv_if_ne_n (Ev_getI Fx3 (Ev_aload_n dX3_readBook_93 rfl) (k := 4) (by decide) w201 dX3_readBook_94) (t := 115) dX3_readBook_97 (by decide)) (Cv_icmp_ge_n (Ev_getI Fx3 (Ev_aload_n dX3_readBook_100 rfl) (k := 7) (by decide) w206 dX3_readBook_101) (Ev_getI Fx3 (Ev_aload_n dX3_readBook_104 rfl) (k := 1) (by decide) w195 dX3_readBook_105) (t := 115) dX3_readBook_108 (by decide))) (Ev_iconst dX3_readBook_111 (by decide)) dX3_readBook_112 (by decide) (Ev_iconst dX3_readBook_115 (by decide))) dX3_readBook_116 rfl (Nat.le_of_ble_eq_true rfl) (Nat.ne_of_beq_eq_false rfl)) (Sv_fop_iadd (idx2 := 0) Fx3 (Ev_aload_n dX3_readBook_117 rfl) dX3_readBook_118 dX3_readBook_119 (Ev_iconst dX3_readBook_122 (by decide)) dX3_readBook_123 (k := 7) (by decide) rfl rfl w206 dX3_readBook_124)))) (Sv_iinc dX3_readBook_127 (by decide) (Nat.le_of_ble_eq_true rfl) (Nat.ne_of_beq_eq_false rfl))) dX3_readBook_130 (by decide))))))))) (Sv_retv hr dX3_readBook_133), Nat.le_of_ble_eq_true rfl, Nat.le_of_ble_eq_true rfl⟩)
