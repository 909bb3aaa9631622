theorem dX4_init_0 : decode cX4_init 0 = .ok (.aload_n 0, 1) := by decide +kernel
theorem dX4_init_1 : decode cX4_init 1 = .ok (.invokespecial 3, 3) := by decide +kernel
theorem dX4_init_4 : decode cX4_init 4 = .ok (.aload_n 0, 1) := by decide +kernel
theorem dX4_init_5 : decode cX4_init 5 = .ok (.bipush 96, 2) := by decide +kernel
theorem dX4_init_7 : decode cX4_init 7 = .ok (.newarray .int, 2) := by decide +kernel
theorem dX4_init_9 : decode cX4_init 9 = .ok (.putfield 9, 3) := by decide +kernel
theorem dX4_init_12 : decode cX4_init 12 = .ok (.aload_n 0, 1) := by decide +kernel
theorem dX4_init_13 : decode cX4_init 13 = .ok (.bipush 12, 2) := by decide +kernel
theorem dX4_init_15 : decode cX4_init 15 = .ok (.newarray .int, 2) := by decide +kernel
theorem dX4_init_17 : decode cX4_init 17 = .ok (.putfield 15, 3) := by decide +kernel
theorem dX4_init_20 : decode cX4_init 20 = .ok (.aload_n 0, 1) := by decide +kernel
theorem dX4_init_21 : decode cX4_init 21 = .ok (.iconst 2, 1) := by decide +kernel
theorem dX4_init_22 : decode cX4_init 22 = .ok (.newarray .int, 2) := by decide +kernel
theorem dX4_init_24 : decode cX4_init 24 = .ok (.putfield 18, 3) := by decide +kernel
theorem dX4_init_27 : decode cX4_init 27 = .ok (.return_, 1) := by decide +kernel
def f_X4_init : MX := mth 1 (sQ (sO) (sQ (sPa (eLa 0) 4 0 (eNi 0 96)) (sQ (sPa (eLa 0) 4 1 (eNi 0 12)) (sQ (sPa (eLa 0) 4 2 (eNi 0 2)) (sQ (sN) (sRv))))))
theorem Y_X4_init : Yk yX4_init cX4_init 1 none 0 := ⟨w175, w7, by decide +kernel, by decide +kernel, by decide +kernel⟩
set_option maxRecDepth 20000 in
theorem k_X4_init (l : Launch) (g : GE) : MetX l g yX4_init cX4_init 1 none 1 ({ frames := 1, cells := 3, slots := 110, locals := 12 } : Room) f_X4_init := by
  unfold f_X4_init
  exact MetX.of (own := RX4) 100 0 rfl (by decide +kernel) (by decide) (fun p e s m args below meth c Fin ad0 hr hn => ⟨_, _, Sv_seq (Sv_oinit w176 w30 wOc dX4_init_0 dX4_init_1 (Nat.le_of_ble_eq_true rfl) (Nat.le_of_ble_eq_true rfl)) (Sv_seq (Sv_putA Fx4 (Ev_aload_n dX4_init_4 rfl) (Ev_newa_int (N := 96) (v := 96) (Ev_bipush dX4_init_5 (by decide)) (by decide) (by decide +kernel) (by decide) w68 dX4_init_7) (k := 0) (by decide) rfl rfl hn rfl w177 dX4_init_9) (Sv_seq (Sv_putA Fx4 (Ev_aload_n dX4_init_12 rfl) (Ev_newa_int (N := 12) (v := 12) (Ev_bipush dX4_init_13 (by decide)) (by decide) (by decide +kernel) (by decide) w68 dX4_init_15) (k := 1) (by decide) rfl rfl hn rfl w178 dX4_init_17) (Sv_seq (Sv_putA Fx4 (Ev_aload_n dX4_init_20 rfl) (Ev_newa_int (N := 2) (v := 2) (Ev_iconst dX4_init_21 (by decide)) (by decide) (by decide +kernel) (by decide) w68 dX4_init_22) (k := 2) (by decide) rfl rfl hn rfl w179 dX4_init_24) (Sv_seq (Sv_nop) (Sv_retv hr dX4_init_27))))), Nat.le_of_ble_eq_true rfl, Nat.le_of_ble_eq_true rfl⟩)
theorem dX4_blowIn_0 : decode cX4_blowIn 0 = .ok (.aload_n 0, 1) := by decide +kernel
theorem dX4_blowIn_1 : decode cX4_blowIn 1 = .ok (.getfield 51, 3) := by decide +kernel
theorem dX4_blowIn_4 : decode cX4_blowIn 4 = .ok (.getfield 55, 3) := by decide +kernel
theorem dX4_blowIn_7 : decode cX4_blowIn 7 = .ok (.astore_n 3, 1) := by decide +kernel
theorem dX4_blowIn_8 : decode cX4_blowIn 8 = .ok (.iload_n 2, 1) := by decide +kernel
theorem dX4_blowIn_9 : decode cX4_blowIn 9 = .ok (.bipush 6, 2) := by decide +kernel
theorem dX4_blowIn_11 : decode cX4_blowIn 11 = .ok (.imul, 1) := by decide +kernel
theorem dX4_blowIn_12 : decode cX4_blowIn 12 = .ok (.iconst 0, 1) := by decide +kernel
theorem dX4_blowIn_13 : decode cX4_blowIn 13 = .ok (.iadd, 1) := by decide +kernel
theorem dX4_blowIn_14 : decode cX4_blowIn 14 = .ok (.istore 4, 2) := by decide +kernel
theorem dX4_blowIn_16 : decode cX4_blowIn 16 = .ok (.iconst 1, 1) := by decide +kernel
theorem dX4_blowIn_17 : decode cX4_blowIn 17 = .ok (.iload_n 1, 1) := by decide +kernel
theorem dX4_blowIn_18 : decode cX4_blowIn 18 = .ok (.ishl, 1) := by decide +kernel
theorem dX4_blowIn_19 : decode cX4_blowIn 19 = .ok (.aload_n 0, 1) := by decide +kernel
theorem dX4_blowIn_20 : decode cX4_blowIn 20 = .ok (.getfield 51, 3) := by decide +kernel
theorem dX4_blowIn_23 : decode cX4_blowIn 23 = .ok (.iload_n 2, 1) := by decide +kernel
theorem dX4_blowIn_24 : decode cX4_blowIn 24 = .ok (.invokevirtual 119, 3) := by decide +kernel
theorem dX4_blowIn_27 : decode cX4_blowIn 27 = .ok (.iconst (-1), 1) := by decide +kernel
theorem dX4_blowIn_28 : decode cX4_blowIn 28 = .ok (.ixor, 1) := by decide +kernel
theorem dX4_blowIn_29 : decode cX4_blowIn 29 = .ok (.iand, 1) := by decide +kernel
theorem dX4_blowIn_30 : decode cX4_blowIn 30 = .ok (.aload_n 3, 1) := by decide +kernel
theorem dX4_blowIn_31 : decode cX4_blowIn 31 = .ok (.iload 4, 2) := by decide +kernel
theorem dX4_blowIn_33 : decode cX4_blowIn 33 = .ok (.iaload, 1) := by decide +kernel
theorem dX4_blowIn_34 : decode cX4_blowIn 34 = .ok (.iconst (-1), 1) := by decide +kernel
theorem dX4_blowIn_35 : decode cX4_blowIn 35 = .ok (.ixor, 1) := by decide +kernel
theorem dX4_blowIn_36 : decode cX4_blowIn 36 = .ok (.iand, 1) := by decide +kernel
theorem dX4_blowIn_37 : decode cX4_blowIn 37 = .ok (.istore 5, 2) := by decide +kernel
theorem dX4_blowIn_39 : decode cX4_blowIn 39 = .ok (.iload 5, 2) := by decide +kernel
theorem dX4_blowIn_41 : decode cX4_blowIn 41 = .ok (.ifCond .ne 5, 3) := by decide +kernel
theorem dX4_blowIn_44 : decode cX4_blowIn 44 = .ok (.iconst 0, 1) := by decide +kernel
theorem dX4_blowIn_45 : decode cX4_blowIn 45 = .ok (.ireturn, 1) := by decide +kernel
theorem dX4_blowIn_46 : decode cX4_blowIn 46 = .ok (.aload_n 3, 1) := by decide +kernel
theorem dX4_blowIn_47 : decode cX4_blowIn 47 = .ok (.iload 4, 2) := by decide +kernel
theorem dX4_blowIn_49 : decode cX4_blowIn 49 = .ok (.dup2, 1) := by decide +kernel
theorem dX4_blowIn_50 : decode cX4_blowIn 50 = .ok (.iaload, 1) := by decide +kernel
theorem dX4_blowIn_51 : decode cX4_blowIn 51 = .ok (.iload 5, 2) := by decide +kernel
theorem dX4_blowIn_53 : decode cX4_blowIn 53 = .ok (.ior, 1) := by decide +kernel
theorem dX4_blowIn_54 : decode cX4_blowIn 54 = .ok (.iastore, 1) := by decide +kernel
theorem dX4_blowIn_55 : decode cX4_blowIn 55 = .ok (.aload_n 0, 1) := by decide +kernel
theorem dX4_blowIn_56 : decode cX4_blowIn 56 = .ok (.getfield 123, 3) := by decide +kernel
theorem dX4_blowIn_59 : decode cX4_blowIn 59 = .ok (.getfield 127, 3) := by decide +kernel
theorem dX4_blowIn_62 : decode cX4_blowIn 62 = .ok (.iconst 1, 1) := by decide +kernel
theorem dX4_blowIn_63 : decode cX4_blowIn 63 = .ok (.dup2, 1) := by decide +kernel
theorem dX4_blowIn_64 : decode cX4_blowIn 64 = .ok (.iaload, 1) := by decide +kernel
theorem dX4_blowIn_65 : decode cX4_blowIn 65 = .ok (.iconst 1, 1) := by decide +kernel
theorem dX4_blowIn_66 : decode cX4_blowIn 66 = .ok (.iadd, 1) := by decide +kernel
theorem dX4_blowIn_67 : decode cX4_blowIn 67 = .ok (.iastore, 1) := by decide +kernel
theorem dX4_blowIn_68 : decode cX4_blowIn 68 = .ok (.aload_n 0, 1) := by decide +kernel
theorem dX4_blowIn_69 : decode cX4_blowIn 69 = .ok (.getfield 123, 3) := by decide +kernel
theorem dX4_blowIn_72 : decode cX4_blowIn 72 = .ok (.iconst 1, 1) := by decide +kernel
theorem dX4_blowIn_73 : decode cX4_blowIn 73 = .ok (.iconst 0, 1) := by decide +kernel
theorem dX4_blowIn_74 : decode cX4_blowIn 74 = .ok (.iconst 1, 1) := by decide +kernel
theorem dX4_blowIn_75 : decode cX4_blowIn 75 = .ok (.invokevirtual 130, 3) := by decide +kernel
theorem dX4_blowIn_78 : decode cX4_blowIn 78 = .ok (.iconst 1, 1) := by decide +kernel
theorem dX4_blowIn_79 : decode cX4_blowIn 79 = .ok (.ireturn, 1) := by decide +kernel
def f_X4_blowIn : MX := mth 6 (sQ (sTa 3 (eGa (eGa (eLa 0) 6 0) 1 3)) (sQ (sTi 4 (eOp o_iadd (eOp o_imul (eLi 2) (eI (6))) (eI (0)))) (sQ (sTi 5 (eOp o_iand (eOp o_iand (eOp o_ishl (eI (1)) (eLi 1)) (eOp o_ixor (eM (gd 1 f_X1_solidColumns) (aI (aA (aN) (eGa (eLa 0) 6 0)) (eLi 2))) (eI (-1)))) (eOp o_ixor (eAi 0 (eLa 3) (eLi 4)) (eI (-1))))) (sQ (sIf (cZ z_eq (eLi 5)) (sR (eI (0))) sN) (sQ (sAo (eLa 3) (eLi 4) o_ior (eLi 5)) (sQ (sAo (eGa (eGa (eLa 0) 6 3) 0 0) (eI (1)) o_iadd (eI (1))) (sQ (sM (gd 0 f_X0_credit) (aI (aI (aI (aA (aN) (eGa (eLa 0) 6 3)) (eI (1))) (eI (0))) (eI (1)))) (sR (eI (1))))))))))
theorem Y_X4_blowIn : Yk yX4_blowIn cX4_blowIn 6 (some .int) 3 := ⟨w828, w7, by decide +kernel, by decide +kernel, by decide +kernel⟩
set_option maxRecDepth 20000 in
theorem k_X4_blowIn (l : Launch) (g : GE) : MetX l g yX4_blowIn cX4_blowIn 6 (some .int) 3 ({ frames := 1, cells := 0, slots := 0, locals := 23 } : Room) f_X4_blowIn := by
  unfold f_X4_blowIn
  exact MetX.of (own := RX4) 100 0 rfl (by decide +kernel) (by decide) (fun p e s m args below meth c Fin ad0 hr hn => ⟨_, _, Sv_seq (Sv_astore_n (Ev_getA Fx1 (Ev_getA Fx6 (Ev_aload_n dX4_blowIn_0 rfl) (k := 0) (by decide) w123 dX4_blowIn_1) (k := 3) (by decide) w52 dX4_blowIn_4) dX4_blowIn_7 rfl (Nat.le_of_ble_eq_true rfl) (Nat.ne_of_beq_eq_false rfl)) (Sv_seq (Sv_istore (Ev_iadd (Ev_imul (Ev_iload_n dX4_blowIn_8 rfl) (Ev_bipush dX4_blowIn_9 (by decide)) dX4_blowIn_11) (Ev_iconst dX4_blowIn_12 (by decide)) dX4_blowIn_13) dX4_blowIn_14 (Nat.le_of_ble_eq_true rfl) (Nat.ne_of_beq_eq_false rfl)) (Sv_seq (Sv_istore (Ev_iand (Ev_iand (Ev_ishl (Ev_iconst dX4_blowIn_16 (by decide)) (Ev_iload_n dX4_blowIn_17 rfl) dX4_blowIn_18) (Ev_ixor (Ev_call (Av_i (Av_a (Av_nil) (Ev_getA Fx6 (Ev_aload_n dX4_blowIn_19 rfl) (k := 0) (by decide) w123 dX4_blowIn_20)) (Ev_iload_n dX4_blowIn_23 rfl)) (Rn_V (ci := 1) Fx1.1 rfl Y_X1_solidColumns (k_X1_solidColumns _ _) w829 w618 w619 dX4_blowIn_24 (Nat.le_of_ble_eq_true rfl) (Nat.le_of_ble_eq_true rfl) (Nat.le_of_ble_eq_true rfl) (Nat.ne_of_beq_eq_false rfl))) (Ev_iconst dX4_blowIn_27 (by decide)) dX4_blowIn_28) dX4_blowIn_29) (Ev_ixor (Ev_iaload (Ev_aload_n dX4_blowIn_30 rfl) (Ev_iload dX4_blowIn_31) dX4_blowIn_33) (Ev_iconst dX4_blowIn_34 (by decide)) dX4_blowIn_35) dX4_blowIn_36) dX4_blowIn_37 (Nat.le_of_ble_eq_true rfl) (Nat.ne_of_beq_eq_false rfl)) (Sv_seq (Sv_if (Cv_if_ne_n (Ev_iload dX4_blowIn_39) (t := 46) dX4_blowIn_41 (by decide)) (Sv_ret (Ev_iconst dX4_blowIn_44 (by decide)) hr dX4_blowIn_45) Sv_nop) (Sv_seq (Sv_aop_ior (Ev_aload_n dX4_blowIn_46 rfl) (Ev_iload dX4_blowIn_47) dX4_blowIn_49 dX4_blowIn_50 (Ev_iload dX4_blowIn_51) dX4_blowIn_53 dX4_blowIn_54) (Sv_seq (Sv_aop_iadd (Ev_getA Fx0 (Ev_getA Fx6 (Ev_aload_n dX4_blowIn_55 rfl) (k := 3) (by decide) w132 dX4_blowIn_56) (k := 0) (by decide) w111 dX4_blowIn_59) (Ev_iconst dX4_blowIn_62 (by decide)) dX4_blowIn_63 dX4_blowIn_64 (Ev_iconst dX4_blowIn_65 (by decide)) dX4_blowIn_66 dX4_blowIn_67) (Sv_seq (Sv_call (Av_i (Av_i (Av_i (Av_a (Av_nil) (Ev_getA Fx6 (Ev_aload_n dX4_blowIn_68 rfl) (k := 3) (by decide) w132 dX4_blowIn_69)) (Ev_iconst dX4_blowIn_72 (by decide))) (Ev_iconst dX4_blowIn_73 (by decide))) (Ev_iconst dX4_blowIn_74 (by decide))) (Rn_V (ci := 0) Fx0.1 rfl Y_X0_credit (k_X0_credit _ _) w830 w710 w711 dX4_blowIn_75 (Nat.le_of_ble_eq_true rfl) (Nat.le_of_ble_eq_true rfl) (Nat.le_of_ble_eq_true rfl) (Nat.ne_of_beq_eq_false rfl))) (Sv_ret (Ev_iconst dX4_blowIn_78 (by decide)) hr dX4_blowIn_79))))))), Nat.le_of_ble_eq_true rfl, Nat.le_of_ble_eq_true rfl⟩)
theorem dX4_turnEast_0 : decode cX4_turnEast 0 = .ok (.aload_n 0, 1) := by decide +kernel
theorem dX4_turnEast_1 : decode cX4_turnEast 1 = .ok (.getfield 51, 3) := by decide +kernel
theorem dX4_turnEast_4 : decode cX4_turnEast 4 = .ok (.getfield 55, 3) := by decide +kernel
theorem dX4_turnEast_7 : decode cX4_turnEast 7 = .ok (.astore_n 3, 1) := by decide +kernel
theorem dX4_turnEast_8 : decode cX4_turnEast 8 = .ok (.iload_n 2, 1) := by decide +kernel
theorem dX4_turnEast_9 : decode cX4_turnEast 9 = .ok (.bipush 6, 2) := by decide +kernel
theorem dX4_turnEast_11 : decode cX4_turnEast 11 = .ok (.imul, 1) := by decide +kernel
theorem dX4_turnEast_12 : decode cX4_turnEast 12 = .ok (.iconst 0, 1) := by decide +kernel
theorem dX4_turnEast_13 : decode cX4_turnEast 13 = .ok (.iadd, 1) := by decide +kernel
theorem dX4_turnEast_14 : decode cX4_turnEast 14 = .ok (.istore 4, 2) := by decide +kernel
theorem dX4_turnEast_16 : decode cX4_turnEast 16 = .ok (.iload_n 2, 1) := by decide +kernel
theorem dX4_turnEast_17 : decode cX4_turnEast 17 = .ok (.bipush 6, 2) := by decide +kernel
theorem dX4_turnEast_19 : decode cX4_turnEast 19 = .ok (.imul, 1) := by decide +kernel
theorem dX4_turnEast_20 : decode cX4_turnEast 20 = .ok (.iconst 3, 1) := by decide +kernel
theorem dX4_turnEast_21 : decode cX4_turnEast 21 = .ok (.iadd, 1) := by decide +kernel
theorem dX4_turnEast_22 : decode cX4_turnEast 22 = .ok (.istore 5, 2) := by decide +kernel
theorem dX4_turnEast_24 : decode cX4_turnEast 24 = .ok (.iconst 1, 1) := by decide +kernel
theorem dX4_turnEast_25 : decode cX4_turnEast 25 = .ok (.iload_n 1, 1) := by decide +kernel
theorem dX4_turnEast_26 : decode cX4_turnEast 26 = .ok (.ishl, 1) := by decide +kernel
theorem dX4_turnEast_27 : decode cX4_turnEast 27 = .ok (.aload_n 3, 1) := by decide +kernel
theorem dX4_turnEast_28 : decode cX4_turnEast 28 = .ok (.iload 5, 2) := by decide +kernel
theorem dX4_turnEast_30 : decode cX4_turnEast 30 = .ok (.iaload, 1) := by decide +kernel
theorem dX4_turnEast_31 : decode cX4_turnEast 31 = .ok (.iand, 1) := by decide +kernel
theorem dX4_turnEast_32 : decode cX4_turnEast 32 = .ok (.aload_n 3, 1) := by decide +kernel
theorem dX4_turnEast_33 : decode cX4_turnEast 33 = .ok (.iload 4, 2) := by decide +kernel
theorem dX4_turnEast_35 : decode cX4_turnEast 35 = .ok (.iaload, 1) := by decide +kernel
theorem dX4_turnEast_36 : decode cX4_turnEast 36 = .ok (.iconst (-1), 1) := by decide +kernel
theorem dX4_turnEast_37 : decode cX4_turnEast 37 = .ok (.ixor, 1) := by decide +kernel
theorem dX4_turnEast_38 : decode cX4_turnEast 38 = .ok (.iand, 1) := by decide +kernel
theorem dX4_turnEast_39 : decode cX4_turnEast 39 = .ok (.istore 6, 2) := by decide +kernel
theorem dX4_turnEast_41 : decode cX4_turnEast 41 = .ok (.iload 6, 2) := by decide +kernel
theorem dX4_turnEast_43 : decode cX4_turnEast 43 = .ok (.ifCond .ne 5, 3) := by decide +kernel
theorem dX4_turnEast_46 : decode cX4_turnEast 46 = .ok (.iconst 0, 1) := by decide +kernel
theorem dX4_turnEast_47 : decode cX4_turnEast 47 = .ok (.ireturn, 1) := by decide +kernel
theorem dX4_turnEast_48 : decode cX4_turnEast 48 = .ok (.aload_n 3, 1) := by decide +kernel
theorem dX4_turnEast_49 : decode cX4_turnEast 49 = .ok (.iload 5, 2) := by decide +kernel
theorem dX4_turnEast_51 : decode cX4_turnEast 51 = .ok (.dup2, 1) := by decide +kernel
theorem dX4_turnEast_52 : decode cX4_turnEast 52 = .ok (.iaload, 1) := by decide +kernel
theorem dX4_turnEast_53 : decode cX4_turnEast 53 = .ok (.iload 6, 2) := by decide +kernel
theorem dX4_turnEast_55 : decode cX4_turnEast 55 = .ok (.iconst (-1), 1) := by decide +kernel
theorem dX4_turnEast_56 : decode cX4_turnEast 56 = .ok (.ixor, 1) := by decide +kernel
theorem dX4_turnEast_57 : decode cX4_turnEast 57 = .ok (.iand, 1) := by decide +kernel
theorem dX4_turnEast_58 : decode cX4_turnEast 58 = .ok (.iastore, 1) := by decide +kernel
theorem dX4_turnEast_59 : decode cX4_turnEast 59 = .ok (.aload_n 3, 1) := by decide +kernel
theorem dX4_turnEast_60 : decode cX4_turnEast 60 = .ok (.iload 4, 2) := by decide +kernel
theorem dX4_turnEast_62 : decode cX4_turnEast 62 = .ok (.dup2, 1) := by decide +kernel
theorem dX4_turnEast_63 : decode cX4_turnEast 63 = .ok (.iaload, 1) := by decide +kernel
theorem dX4_turnEast_64 : decode cX4_turnEast 64 = .ok (.iload 6, 2) := by decide +kernel
theorem dX4_turnEast_66 : decode cX4_turnEast 66 = .ok (.ior, 1) := by decide +kernel
theorem dX4_turnEast_67 : decode cX4_turnEast 67 = .ok (.iastore, 1) := by decide +kernel
theorem dX4_turnEast_68 : decode cX4_turnEast 68 = .ok (.aload_n 0, 1) := by decide +kernel
theorem dX4_turnEast_69 : decode cX4_turnEast 69 = .ok (.getfield 123, 3) := by decide +kernel
theorem dX4_turnEast_72 : decode cX4_turnEast 72 = .ok (.iconst 1, 1) := by decide +kernel
theorem dX4_turnEast_73 : decode cX4_turnEast 73 = .ok (.iconst 3, 1) := by decide +kernel
theorem dX4_turnEast_74 : decode cX4_turnEast 74 = .ok (.iconst (-1), 1) := by decide +kernel
theorem dX4_turnEast_75 : decode cX4_turnEast 75 = .ok (.invokevirtual 130, 3) := by decide +kernel
theorem dX4_turnEast_78 : decode cX4_turnEast 78 = .ok (.aload_n 0, 1) := by decide +kernel
theorem dX4_turnEast_79 : decode cX4_turnEast 79 = .ok (.getfield 123, 3) := by decide +kernel
theorem dX4_turnEast_82 : decode cX4_turnEast 82 = .ok (.iconst 1, 1) := by decide +kernel
theorem dX4_turnEast_83 : decode cX4_turnEast 83 = .ok (.iconst 0, 1) := by decide +kernel
theorem dX4_turnEast_84 : decode cX4_turnEast 84 = .ok (.iconst 1, 1) := by decide +kernel
theorem dX4_turnEast_85 : decode cX4_turnEast 85 = .ok (.invokevirtual 130, 3) := by decide +kernel
theorem dX4_turnEast_88 : decode cX4_turnEast 88 = .ok (.iconst 1, 1) := by decide +kernel
theorem dX4_turnEast_89 : decode cX4_turnEast 89 = .ok (.ireturn, 1) := by decide +kernel
def f_X4_turnEast : MX := mth 7 (sQ (sTa 3 (eGa (eGa (eLa 0) 6 0) 1 3)) (sQ (sTi 4 (eOp o_iadd (eOp o_imul (eLi 2) (eI (6))) (eI (0)))) (sQ (sTi 5 (eOp o_iadd (eOp o_imul (eLi 2) (eI (6))) (eI (3)))) (sQ (sTi 6 (eOp o_iand (eOp o_iand (eOp o_ishl (eI (1)) (eLi 1)) (eAi 0 (eLa 3) (eLi 5))) (eOp o_ixor (eAi 0 (eLa 3) (eLi 4)) (eI (-1))))) (sQ (sIf (cZ z_eq (eLi 6)) (sR (eI (0))) sN) (sQ (sAo (eLa 3) (eLi 5) o_iand (eOp o_ixor (eLi 6) (eI (-1)))) (sQ (sAo (eLa 3) (eLi 4) o_ior (eLi 6)) (sQ (sM (gd 0 f_X0_credit) (aI (aI (aI (aA (aN) (eGa (eLa 0) 6 3)) (eI (1))) (eI (3))) (eI (-1)))) (sQ (sM (gd 0 f_X0_credit) (aI (aI (aI (aA (aN) (eGa (eLa 0) 6 3)) (eI (1))) (eI (0))) (eI (1)))) (sR (eI (1))))))))))))
theorem Y_X4_turnEast : Yk yX4_turnEast cX4_turnEast 7 (some .int) 3 := ⟨w833, w7, by decide +kernel, by decide +kernel, by decide +kernel⟩
set_option maxRecDepth 20000 in
theorem k_X4_turnEast (l : Launch) (g : GE) : MetX l g yX4_turnEast cX4_turnEast 7 (some .int) 3 ({ frames := 1, cells := 0, slots := 0, locals := 23 } : Room) f_X4_turnEast := by
  unfold f_X4_turnEast
  exact MetX.of (own := RX4) 100 0 rfl (by decide +kernel) (by decide) (fun p e s m args below meth c Fin ad0 hr hn => ⟨_, _, Sv_seq (Sv_astore_n (Ev_getA Fx1 (Ev_getA Fx6 (Ev_aload_n dX4_turnEast_0 rfl) (k := 0) (by decide) w123 dX4_turnEast_1) (k := 3) (by decide) w52 dX4_turnEast_4) dX4_turnEast_7 rfl (Nat.le_of_ble_eq_true rfl) (Nat.ne_of_beq_eq_false rfl)) (Sv_seq (Sv_istore (Ev_iadd (Ev_imul (Ev_iload_n dX4_turnEast_8 rfl) (Ev_bipush dX4_turnEast_9 (by decide)) dX4_turnEast_11) (Ev_iconst dX4_turnEast_12 (by decide)) dX4_turnEast_13) dX4_turnEast_14 (Nat.le_of_ble_eq_true rfl) (Nat.ne_of_beq_eq_false rfl)) (Sv_seq (Sv_istore (Ev_iadd (Ev_imul (Ev_iload_n dX4_turnEast_16 rfl) (Ev_bipush dX4_turnEast_17 (by decide)) dX4_turnEast_19) (Ev_iconst dX4_turnEast_20 (by decide)) dX4_turnEast_21) dX4_turnEast_22 (Nat.le_of_ble_eq_true rfl) (Nat.ne_of_beq_eq_false rfl)) (Sv_seq (Sv_istore (Ev_iand (Ev_iand (Ev_ishl (Ev_iconst dX4_turnEast_24 (by decide)) (Ev_iload_n dX4_turnEast_25 rfl) dX4_turnEast_26) (Ev_iaload (Ev_aload_n dX4_turnEast_27 rfl) (Ev_iload dX4_turnEast_28) dX4_turnEast_30) dX4_turnEast_31) (Ev_ixor (Ev_iaload (Ev_aload_n dX4_turnEast_32 rfl) (Ev_iload dX4_turnEast_33) dX4_turnEast_35) (Ev_iconst dX4_turnEast_36 (by decide)) dX4_turnEast_37) dX4_turnEast_38) dX4_turnEast_39 (Nat.le_of_ble_eq_true rfl) (Nat.ne_of_beq_eq_false rfl)) (Sv_seq (Sv_if (Cv_if_ne_n (Ev_iload dX4_turnEast_41) (t := 48) dX4_turnEast_43 (by decide)) (Sv_ret (Ev_iconst dX4_turnEast_46 (by decide)) hr dX4_turnEast_47) Sv_nop) (Sv_seq (Sv_aop_iand (Ev_aload_n dX4_turnEast_48 rfl) (Ev_iload dX4_turnEast_49) dX4_turnEast_51 dX4_turnEast_52 (Ev_ixor (Ev_iload dX4_turnEast_53) (Ev_iconst dX4_turnEast_55 (by decide)) dX4_turnEast_56) dX4_turnEast_57 dX4_turnEast_58) (Sv_seq (Sv_aop_ior (Ev_aload_n dX4_turnEast_59 rfl) (Ev_iload dX4_turnEast_60) dX4_turnEast_62 dX4_turnEast_63 (Ev_iload dX4_turnEast_64) dX4_turnEast_66 dX4_turnEast_67) (Sv_seq (Sv_call (Av_i (Av_i (Av_i (Av_a (Av_nil) (Ev_getA Fx6 (Ev_aload_n dX4_turnEast_68 rfl) (k := 3) (by decide) w132 dX4_turnEast_69)) (Ev_iconst dX4_turnEast_72 (by decide))) (Ev_iconst dX4_turnEast_73 (by decide))) (Ev_iconst dX4_turnEast_74 (by decide))) (Rn_V (ci := 0) Fx0.1 rfl Y_X0_credit (k_X0_credit _ _) w830 w710 w711 dX4_turnEast_75 (Nat.le_of_ble_eq_true rfl) (Nat.le_of_ble_eq_true rfl) (Nat.le_of_ble_eq_true rfl) (Nat.ne_of_beq_eq_false rfl))) (Sv_seq (Sv_call (Av_i (Av_i (Av_i (Av_a (Av_nil) (Ev_getA Fx6 (Ev_aload_n dX4_turnEast_78 rfl) (k := 3) (by decide) w132 dX4_turnEast_79)) (Ev_iconst dX4_turnEast_82 (by decide))) (Ev_iconst dX4_turnEast_83 (by decide))) (Ev_iconst dX4_turnEast_84 (by decide))) (Rn_V (ci := 0) Fx0.1 rfl Y_X0_credit (k_X0_credit _ _) w830 w710 w711 dX4_turnEast_85 (Nat.le_of_ble_eq_true rfl) (Nat.le_of_ble_eq_true rfl) (Nat.le_of_ble_eq_true rfl) (Nat.ne_of_beq_eq_false rfl))) (Sv_ret (Ev_iconst dX4_turnEast_88 (by decide)) hr dX4_turnEast_89))))))))), Nat.le_of_ble_eq_true rfl, Nat.le_of_ble_eq_true rfl⟩)
theorem dX4_blow_0 : decode cX4_blow 0 = .ok (.iload_n 1, 1) := by decide +kernel
theorem dX4_blow_1 : decode cX4_blow 1 = .ok (.lookupswitch 41 #[(0, 27), (1, 34)], 27) := by decide +kernel
theorem dX4_blow_28 : decode cX4_blow 28 = .ok (.aload_n 0, 1) := by decide +kernel
theorem dX4_blow_29 : decode cX4_blow 29 = .ok (.iload_n 2, 1) := by decide +kernel
theorem dX4_blow_30 : decode cX4_blow 30 = .ok (.iload_n 3, 1) := by decide +kernel
theorem dX4_blow_31 : decode cX4_blow 31 = .ok (.invokestatic 108, 3) := by decide +kernel
theorem dX4_blow_34 : decode cX4_blow 34 = .ok (.ireturn, 1) := by decide +kernel
theorem dX4_blow_35 : decode cX4_blow 35 = .ok (.aload_n 0, 1) := by decide +kernel
theorem dX4_blow_36 : decode cX4_blow 36 = .ok (.iload_n 2, 1) := by decide +kernel
theorem dX4_blow_37 : decode cX4_blow 37 = .ok (.iload_n 3, 1) := by decide +kernel
theorem dX4_blow_38 : decode cX4_blow 38 = .ok (.invokestatic 112, 3) := by decide +kernel
theorem dX4_blow_41 : decode cX4_blow 41 = .ok (.ireturn, 1) := by decide +kernel
theorem dX4_blow_42 : decode cX4_blow 42 = .ok (.aload_n 0, 1) := by decide +kernel
theorem dX4_blow_43 : decode cX4_blow 43 = .ok (.iload_n 3, 1) := by decide +kernel
theorem dX4_blow_44 : decode cX4_blow 44 = .ok (.iconst 1, 1) := by decide +kernel
theorem dX4_blow_45 : decode cX4_blow 45 = .ok (.iload_n 2, 1) := by decide +kernel
theorem dX4_blow_46 : decode cX4_blow 46 = .ok (.ishl, 1) := by decide +kernel
theorem dX4_blow_47 : decode cX4_blow 47 = .ok (.iconst 1, 1) := by decide +kernel
theorem dX4_blow_48 : decode cX4_blow 48 = .ok (.invokevirtual 115, 3) := by decide +kernel
theorem dX4_blow_51 : decode cX4_blow 51 = .ok (.ireturn, 1) := by decide +kernel
def f_X4_blow : MX := mth 4 (sSc (eLi 1) 0 [sR (eM (f_X4_blowIn) (aI (aI (aA (aN) (eLa 0)) (eLi 2)) (eLi 3))), sR (eM (f_X4_turnEast) (aI (aI (aA (aN) (eLa 0)) (eLi 2)) (eLi 3)))] (sR (eM (gd 6 f_X6_removeParticles) (aI (aI (aI (aA (aN) (eLa 0)) (eLi 3)) (eOp o_ishl (eI (1)) (eLi 2))) (eI (1))))))
theorem Y_X4_blow : Yk yX4_blow cX4_blow 4 (some .int) 4 := ⟨w825, w7, by decide +kernel, by decide +kernel, by decide +kernel⟩
set_option maxRecDepth 20000 in
theorem k_X4_blow (l : Launch) (g : GE) : MetX l g yX4_blow cX4_blow 4 (some .int) 4 ({ frames := 2, cells := 0, slots := 0, locals := 49 } : Room) f_X4_blow := by
  unfold f_X4_blow
  exact MetX.of (own := RX4) 100 0 rfl (by decide +kernel) (by decide) (fun p e s m args below meth c Fin ad0 hr hn => ⟨_, _, Sv_lsw (k2 := 0) (n2 := 0) (t0 := 28) (t1 := 35) (td := 42) (Ev_iload_n dX4_blow_0 rfl) dX4_blow_1 (by decide) (Sv.weaken (Sv_ret (Ev_call (Av_i (Av_i (Av_a (Av_nil) (Ev_aload_n dX4_blow_28 rfl)) (Ev_iload_n dX4_blow_29 rfl)) (Ev_iload_n dX4_blow_30 rfl)) (Rn_S Y_X4_blowIn (k_X4_blowIn _ _) w826 w827 dX4_blow_31 (Nat.le_of_ble_eq_true rfl) (Nat.le_of_ble_eq_true rfl) (Nat.le_of_ble_eq_true rfl) (Nat.ne_of_beq_eq_false rfl))) hr dX4_blow_34) (by decide) (by decide)) (by decide) (Sv.weaken (Sv_ret (Ev_call (Av_i (Av_i (Av_a (Av_nil) (Ev_aload_n dX4_blow_35 rfl)) (Ev_iload_n dX4_blow_36 rfl)) (Ev_iload_n dX4_blow_37 rfl)) (Rn_S Y_X4_turnEast (k_X4_turnEast _ _) w831 w832 dX4_blow_38 (Nat.le_of_ble_eq_true rfl) (Nat.le_of_ble_eq_true rfl) (Nat.le_of_ble_eq_true rfl) (Nat.ne_of_beq_eq_false rfl))) hr dX4_blow_41) (by decide) (by decide)) (by decide) (Sv.weaken (Sv_ret (Ev_call (Av_i (Av_i (Av_i (Av_a (Av_nil) (Ev_aload_n dX4_blow_42 rfl)) (Ev_iload_n dX4_blow_43 rfl)) (Ev_ishl (Ev_iconst dX4_blow_44 (by decide)) (Ev_iload_n dX4_blow_45 rfl) dX4_blow_46)) (Ev_iconst dX4_blow_47 (by decide))) (Rn_V (ci := 6) Fx6.1 rfl Y_X6_removeParticles (k_X6_removeParticles _ _) w834 w730 w731 dX4_blow_48 (Nat.le_of_ble_eq_true rfl) (Nat.le_of_ble_eq_true rfl) (Nat.le_of_ble_eq_true rfl) (Nat.ne_of_beq_eq_false rfl))) hr dX4_blow_51) (by decide) (by decide)), Nat.le_of_ble_eq_true rfl, Nat.le_of_ble_eq_true rfl⟩)
theorem dX4_blowGusts_0 : decode cX4_blowGusts 0 = .ok (.aload_n 0, 1) := by decide +kernel
theorem dX4_blowGusts_1 : decode cX4_blowGusts 1 = .ok (.getfield 88, 3) := by decide +kernel
theorem dX4_blowGusts_4 : decode cX4_blowGusts 4 = .ok (.astore_n 1, 1) := by decide +kernel
theorem dX4_blowGusts_5 : decode cX4_blowGusts 5 = .ok (.iconst 0, 1) := by decide +kernel
theorem dX4_blowGusts_6 : decode cX4_blowGusts 6 = .ok (.istore_n 2, 1) := by decide +kernel
theorem dX4_blowGusts_7 : decode cX4_blowGusts 7 = .ok (.iload_n 2, 1) := by decide +kernel
theorem dX4_blowGusts_8 : decode cX4_blowGusts 8 = .ok (.aload_n 1, 1) := by decide +kernel
theorem dX4_blowGusts_9 : decode cX4_blowGusts 9 = .ok (.getfield 92, 3) := by decide +kernel
theorem dX4_blowGusts_12 : decode cX4_blowGusts 12 = .ok (.if_icmp .ge 111, 3) := by decide +kernel
theorem dX4_blowGusts_15 : decode cX4_blowGusts 15 = .ok (.aload_n 1, 1) := by decide +kernel
theorem dX4_blowGusts_16 : decode cX4_blowGusts 16 = .ok (.iload_n 2, 1) := by decide +kernel
theorem dX4_blowGusts_17 : decode cX4_blowGusts 17 = .ok (.aload_n 0, 1) := by decide +kernel
theorem dX4_blowGusts_18 : decode cX4_blowGusts 18 = .ok (.getfield 47, 3) := by decide +kernel
theorem dX4_blowGusts_21 : decode cX4_blowGusts 21 = .ok (.invokevirtual 97, 3) := by decide +kernel
theorem dX4_blowGusts_24 : decode cX4_blowGusts 24 = .ok (.ifCond .eq 93, 3) := by decide +kernel
theorem dX4_blowGusts_27 : decode cX4_blowGusts 27 = .ok (.iload_n 2, 1) := by decide +kernel
theorem dX4_blowGusts_28 : decode cX4_blowGusts 28 = .ok (.bipush 8, 2) := by decide +kernel
theorem dX4_blowGusts_30 : decode cX4_blowGusts 30 = .ok (.imul, 1) := by decide +kernel
theorem dX4_blowGusts_31 : decode cX4_blowGusts 31 = .ok (.istore_n 3, 1) := by decide +kernel
theorem dX4_blowGusts_32 : decode cX4_blowGusts 32 = .ok (.aload_n 1, 1) := by decide +kernel
theorem dX4_blowGusts_33 : decode cX4_blowGusts 33 = .ok (.getfield 101, 3) := by decide +kernel
theorem dX4_blowGusts_36 : decode cX4_blowGusts 36 = .ok (.iload_n 3, 1) := by decide +kernel
theorem dX4_blowGusts_37 : decode cX4_blowGusts 37 = .ok (.iconst 0, 1) := by decide +kernel
theorem dX4_blowGusts_38 : decode cX4_blowGusts 38 = .ok (.iadd, 1) := by decide +kernel
theorem dX4_blowGusts_39 : decode cX4_blowGusts 39 = .ok (.iaload, 1) := by decide +kernel
theorem dX4_blowGusts_40 : decode cX4_blowGusts 40 = .ok (.istore 4, 2) := by decide +kernel
theorem dX4_blowGusts_42 : decode cX4_blowGusts 42 = .ok (.aload_n 1, 1) := by decide +kernel
theorem dX4_blowGusts_43 : decode cX4_blowGusts 43 = .ok (.getfield 101, 3) := by decide +kernel
theorem dX4_blowGusts_46 : decode cX4_blowGusts 46 = .ok (.iload_n 3, 1) := by decide +kernel
theorem dX4_blowGusts_47 : decode cX4_blowGusts 47 = .ok (.iconst 1, 1) := by decide +kernel
theorem dX4_blowGusts_48 : decode cX4_blowGusts 48 = .ok (.iadd, 1) := by decide +kernel
theorem dX4_blowGusts_49 : decode cX4_blowGusts 49 = .ok (.iaload, 1) := by decide +kernel
theorem dX4_blowGusts_50 : decode cX4_blowGusts 50 = .ok (.istore 5, 2) := by decide +kernel
theorem dX4_blowGusts_52 : decode cX4_blowGusts 52 = .ok (.aload_n 1, 1) := by decide +kernel
theorem dX4_blowGusts_53 : decode cX4_blowGusts 53 = .ok (.getfield 101, 3) := by decide +kernel
theorem dX4_blowGusts_56 : decode cX4_blowGusts 56 = .ok (.iload_n 3, 1) := by decide +kernel
theorem dX4_blowGusts_57 : decode cX4_blowGusts 57 = .ok (.iconst 3, 1) := by decide +kernel
theorem dX4_blowGusts_58 : decode cX4_blowGusts 58 = .ok (.iadd, 1) := by decide +kernel
theorem dX4_blowGusts_59 : decode cX4_blowGusts 59 = .ok (.iaload, 1) := by decide +kernel
theorem dX4_blowGusts_60 : decode cX4_blowGusts 60 = .ok (.istore 6, 2) := by decide +kernel
theorem dX4_blowGusts_62 : decode cX4_blowGusts 62 = .ok (.iconst 0, 1) := by decide +kernel
theorem dX4_blowGusts_63 : decode cX4_blowGusts 63 = .ok (.istore 7, 2) := by decide +kernel
theorem dX4_blowGusts_65 : decode cX4_blowGusts 65 = .ok (.aload_n 1, 1) := by decide +kernel
theorem dX4_blowGusts_66 : decode cX4_blowGusts 66 = .ok (.getfield 101, 3) := by decide +kernel
theorem dX4_blowGusts_69 : decode cX4_blowGusts 69 = .ok (.iload_n 3, 1) := by decide +kernel
theorem dX4_blowGusts_70 : decode cX4_blowGusts 70 = .ok (.iconst 2, 1) := by decide +kernel
theorem dX4_blowGusts_71 : decode cX4_blowGusts 71 = .ok (.iadd, 1) := by decide +kernel
theorem dX4_blowGusts_72 : decode cX4_blowGusts 72 = .ok (.iaload, 1) := by decide +kernel
theorem dX4_blowGusts_73 : decode cX4_blowGusts 73 = .ok (.istore 8, 2) := by decide +kernel
theorem dX4_blowGusts_75 : decode cX4_blowGusts 75 = .ok (.iload 8, 2) := by decide +kernel
theorem dX4_blowGusts_77 : decode cX4_blowGusts 77 = .ok (.iload 6, 2) := by decide +kernel
theorem dX4_blowGusts_79 : decode cX4_blowGusts 79 = .ok (.if_icmp .gt 24, 3) := by decide +kernel
theorem dX4_blowGusts_82 : decode cX4_blowGusts 82 = .ok (.iload 7, 2) := by decide +kernel
theorem dX4_blowGusts_84 : decode cX4_blowGusts 84 = .ok (.aload_n 0, 1) := by decide +kernel
theorem dX4_blowGusts_85 : decode cX4_blowGusts 85 = .ok (.iload 4, 2) := by decide +kernel
theorem dX4_blowGusts_87 : decode cX4_blowGusts 87 = .ok (.iload 5, 2) := by decide +kernel
theorem dX4_blowGusts_89 : decode cX4_blowGusts 89 = .ok (.iload 8, 2) := by decide +kernel
theorem dX4_blowGusts_91 : decode cX4_blowGusts 91 = .ok (.invokestatic 104, 3) := by decide +kernel
theorem dX4_blowGusts_94 : decode cX4_blowGusts 94 = .ok (.iadd, 1) := by decide +kernel
theorem dX4_blowGusts_95 : decode cX4_blowGusts 95 = .ok (.istore 7, 2) := by decide +kernel
theorem dX4_blowGusts_97 : decode cX4_blowGusts 97 = .ok (.iinc 8 1, 3) := by decide +kernel
theorem dX4_blowGusts_100 : decode cX4_blowGusts 100 = .ok (.goto (-25), 3) := by decide +kernel
theorem dX4_blowGusts_103 : decode cX4_blowGusts 103 = .ok (.aload_n 1, 1) := by decide +kernel
theorem dX4_blowGusts_104 : decode cX4_blowGusts 104 = .ok (.getfield 101, 3) := by decide +kernel
theorem dX4_blowGusts_107 : decode cX4_blowGusts 107 = .ok (.iload_n 3, 1) := by decide +kernel
theorem dX4_blowGusts_108 : decode cX4_blowGusts 108 = .ok (.bipush 7, 2) := by decide +kernel
theorem dX4_blowGusts_110 : decode cX4_blowGusts 110 = .ok (.iadd, 1) := by decide +kernel
theorem dX4_blowGusts_111 : decode cX4_blowGusts 111 = .ok (.dup2, 1) := by decide +kernel
theorem dX4_blowGusts_112 : decode cX4_blowGusts 112 = .ok (.iaload, 1) := by decide +kernel
theorem dX4_blowGusts_113 : decode cX4_blowGusts 113 = .ok (.iload 7, 2) := by decide +kernel
theorem dX4_blowGusts_115 : decode cX4_blowGusts 115 = .ok (.iadd, 1) := by decide +kernel
theorem dX4_blowGusts_116 : decode cX4_blowGusts 116 = .ok (.iastore, 1) := by decide +kernel
theorem dX4_blowGusts_117 : decode cX4_blowGusts 117 = .ok (.iinc 2 1, 3) := by decide +kernel
theorem dX4_blowGusts_120 : decode cX4_blowGusts 120 = .ok (.goto (-113), 3) := by decide +kernel
theorem dX4_blowGusts_123 : decode cX4_blowGusts 123 = .ok (.return_, 1) := by decide +kernel
def f_X4_blowGusts : MX := mth 9 (sQ (sQ (sTa 1 (eGa (eLa 0) 6 1)) (sQ (sTi 2 (eI (0))) (sLp (cB c_lt (eLi 2) (eGi (eLa 1) 2 0)) (sQ (sIf (cZ z_ne (eM (gd 2 f_X2_isBlowing) (aI (aI (aA (aN) (eLa 1)) (eLi 2)) (eGi (eLa 0) 6 7)))) (sQ (sTi 3 (eOp o_imul (eLi 2) (eI (8)))) (sQ (sTi 4 (eAi 0 (eGa (eLa 1) 2 1) (eOp o_iadd (eLi 3) (eI (0))))) (sQ (sTi 5 (eAi 0 (eGa (eLa 1) 2 1) (eOp o_iadd (eLi 3) (eI (1))))) (sQ (sTi 6 (eAi 0 (eGa (eLa 1) 2 1) (eOp o_iadd (eLi 3) (eI (3))))) (sQ (sTi 7 (eI (0))) (sQ (sQ (sTi 8 (eAi 0 (eGa (eLa 1) 2 1) (eOp o_iadd (eLi 3) (eI (2))))) (sLp (cB c_le (eLi 8) (eLi 6)) (sQ (sTi 7 (eOp o_iadd (eLi 7) (eM (f_X4_blow) (aI (aI (aI (aA (aN) (eLa 0)) (eLi 4)) (eLi 5)) (eLi 8))))) (sInc 8 (1))) NF)) (sAo (eGa (eLa 1) 2 1) (eOp o_iadd (eLi 3) (eI (7))) o_iadd (eLi 7)))))))) sN) (sInc 2 (1))) NF))) (sRv))
theorem Y_X4_blowGusts : Yk yX4_blowGusts cX4_blowGusts 9 none 1 := ⟨w818, w7, by decide +kernel, by decide +kernel, by decide +kernel⟩
set_option maxRecDepth 20000 in
theorem k_X4_blowGusts (l : Launch) (g : GE) : MetX l g yX4_blowGusts cX4_blowGusts 9 none 1 ({ frames := 3, cells := 0, slots := 0, locals := 72 } : Room) f_X4_blowGusts := by
  unfold f_X4_blowGusts
  exact MetX.of (own := RX4) 100 0 rfl (by decide +kernel) (by decide) (fun p e s m args below meth c Fin ad0 hr hn => ⟨_, _, Sv_seq (Sv_seq (Sv_astore_n (Ev_getA Fx6 (Ev_aload_n dX4_blowGusts_0 rfl) (k := 1) (by decide) w126 dX4_blowGusts_1) dX4_blowGusts_4 rfl (Nat.le_of_ble_eq_true rfl) (Nat.ne_of_beq_eq_false rfl)) (Sv_seq (Sv_istore_n (Ev_iconst dX4_blowGusts_5 (by decide)) dX4_blowGusts_6 rfl (Nat.le_of_ble_eq_true rfl) (Nat.ne_of_beq_eq_false rfl)) (Sv_loop0 NF (Cv_icmp_ge_n (Ev_iload_n dX4_blowGusts_7 rfl) (Ev_getI Fx2 (Ev_aload_n dX4_blowGusts_8 rfl) (k := 0) (by decide) w77 dX4_blowGusts_9) (t := 123) dX4_blowGusts_12 (by decide)) (Sv_goto (pE := 7) (Sv_seq (Sv_if (Cv_if_eq_n (Ev_call (Av_i (Av_i (Av_a (Av_nil) (Ev_aload_n dX4_blowGusts_15 rfl)) (Ev_iload_n dX4_blowGusts_16 rfl)) (Ev_getI Fx6 (Ev_aload_n dX4_blowGusts_17 rfl) (k := 7) (by decide) w143 dX4_blowGusts_18)) (Rn_V (ci := 2) Fx2.1 rfl Y_X2_isBlowing (k_X2_isBlowing _ _) w819 w820 w821 dX4_blowGusts_21 (Nat.le_of_ble_eq_true rfl) (Nat.le_of_ble_eq_true rfl) (Nat.le_of_ble_eq_true rfl) (Nat.ne_of_beq_eq_false rfl))) (t := 117) dX4_blowGusts_24 (by decide)) (Sv_seq (Sv_istore_n (Ev_imul (Ev_iload_n dX4_blowGusts_27 rfl) (Ev_bipush dX4_blowGusts_28 (by decide)) dX4_blowGusts_30) dX4_blowGusts_31 rfl (Nat.le_of_ble_eq_true rfl) (Nat.ne_of_beq_eq_false rfl)) (Sv_seq (Sv_istore (Ev_iaload (Ev_getA Fx2 (Ev_aload_n dX4_blowGusts_32 rfl) (k := 1) (by decide) w80 dX4_blowGusts_33) (Ev_iadd (Ev_iload_n dX4_blowGusts_36 rfl) (Ev_iconst dX4_blowGusts_37 (by decide)) dX4_blowGusts_38) dX4_blowGusts_39) dX4_blowGusts_40 (Nat.le_of_ble_eq_true rfl) (Nat.ne_of_beq_eq_false rfl)) (Sv_seq (Sv_istore (Ev_iaload (Ev_getA Fx2 (Ev_aload_n dX4_blowGusts_42 rfl) (k := 1) (by decide) w80 dX4_blowGusts_43) (Ev_iadd (Ev_iload_n dX4_blowGusts_46 rfl) (Ev_iconst dX4_blowGusts_47 (by decide)) dX4_blowGusts_48) dX4_blowGusts_49) dX4_blowGusts_50 (Nat.le_of_ble_eq_true rfl) (Nat.ne_of_beq_eq_false rfl)) (Sv_seq (Sv_istore (Ev_iaload (Ev_getA Fx2 (Ev_aload_n dX4_blowGusts_52 rfl) (k := 1) (by decide) w80 dX4_blowGusts_53) (Ev_iadd (Ev_iload_n dX4_blowGusts_56 rfl) (Ev_iconst dX4_blowGusts_57 (by decide)) dX4_blowGusts_58) dX4_blowGusts_59) dX4_blowGusts_60 (Nat.le_of_ble_eq_true rfl) (Nat.ne_of_beq_eq_false rfl)) (Sv_seq (Sv_istore (Ev_iconst dX4_blowGusts_62 (by decide)) dX4_blowGusts_63 (Nat.le_of_ble_eq_true rfl) (Nat.ne_of_beq_eq_false rfl)) (Sv_seq (Sv_seq (Sv_istore (Ev_iaload (Ev_getA Fx2 (Ev_aload_n dX4_blowGusts_65 rfl) (k := 1) (by decide) w80 dX4_blowGusts_66) (Ev_iadd (Ev_iload_n dX4_blowGusts_69 rfl) (Ev_iconst dX4_blowGusts_70 (by decide)) dX4_blowGusts_71) dX4_blowGusts_72) dX4_blowGusts_73 (Nat.le_of_ble_eq_true rfl) (Nat.ne_of_beq_eq_false rfl)) (Sv_loop0 NF (Cv_icmp_gt_n (Ev_iload dX4_blowGusts_75) (Ev_iload dX4_blowGusts_77) (t := 103) dX4_blowGusts_79 (by decide)) (Sv_goto (pE := 75) (Sv_seq (Sv_istore (Ev_iadd (Ev_iload dX4_blowGusts_82) (Ev_call (Av_i (Av_i (Av_i (Av_a (Av_nil) (Ev_aload_n dX4_blowGusts_84 rfl)) (Ev_iload dX4_blowGusts_85)) (Ev_iload dX4_blowGusts_87)) (Ev_iload dX4_blowGusts_89)) (Rn_S Y_X4_blow (k_X4_blow _ _) w823 w824 dX4_blowGusts_91 (Nat.le_of_ble_eq_true rfl) (Nat.le_of_ble_eq_true rfl) (Nat.le_of_ble_eq_true rfl) (Nat.ne_of_beq_eq_false rfl))) dX4_blowGusts_94) dX4_blowGusts_95 (Nat.le_of_ble_eq_true rfl) (Nat.ne_of_beq_eq_false rfl)) (Sv_iinc dX4_blowGusts_97 (by decide) (Nat.le_of_ble_eq_true rfl) (Nat.ne_of_beq_eq_false rfl))) dX4_blowGusts_100 (by decide)))) (Sv_aop_iadd (Ev_getA Fx2 (Ev_aload_n dX4_blowGusts_103 rfl) (k := 1) (by decide) w80 dX4_blowGusts_104) (Ev_iadd (Ev_iload_n dX4_blowGusts_107 rfl) (Ev_bipush dX4_blowGusts_108 (by decide)) dX4_blowGusts_110) dX4_blowGusts_111 dX4_blowGusts_112 (Ev_iload dX4_blowGusts_113) dX4_blowGusts_115 dX4_blowGusts_116))))))) Sv_nop) (Sv_iinc dX4_blowGusts_117 (by decide) (Nat.le_of_ble_eq_true rfl) (Nat.ne_of_beq_eq_false rfl))) dX4_blowGusts_120 (by decide))))) (Sv_retv hr dX4_blowGusts_123), Nat.le_of_ble_eq_true rfl, Nat.le_of_ble_eq_true rfl⟩)
theorem dX4_columnsOfParity_0 : decode cX4_columnsOfParity 0 = .ok (.iload_n 0, 1) := by decide +kernel
theorem dX4_columnsOfParity_1 : decode cX4_columnsOfParity 1 = .ok (.iconst 1, 1) := by decide +kernel
theorem dX4_columnsOfParity_2 : decode cX4_columnsOfParity 2 = .ok (.iand, 1) := by decide +kernel
theorem dX4_columnsOfParity_3 : decode cX4_columnsOfParity 3 = .ok (.ifCond .ne 8, 3) := by decide +kernel
theorem dX4_columnsOfParity_6 : decode cX4_columnsOfParity 6 = .ok (.ldc 151, 2) := by decide +kernel
theorem dX4_columnsOfParity_8 : decode cX4_columnsOfParity 8 = .ok (.goto 5, 3) := by decide +kernel
theorem dX4_columnsOfParity_11 : decode cX4_columnsOfParity 11 = .ok (.ldc 152, 2) := by decide +kernel
theorem dX4_columnsOfParity_13 : decode cX4_columnsOfParity 13 = .ok (.ireturn, 1) := by decide +kernel
def f_X4_columnsOfParity : MX := mth 1 (sR (eIf (cZ z_eq (eOp o_iand (eLi 0) (eI (1)))) (eI (1431655765)) (eI (-1431655766))))
theorem Y_X4_columnsOfParity : Yk yX4_columnsOfParity cX4_columnsOfParity 1 (some .int) 1 := ⟨w850, w7, by decide +kernel, by decide +kernel, by decide +kernel⟩
set_option maxRecDepth 20000 in
theorem k_X4_columnsOfParity (l : Launch) (g : GE) : MetX l g yX4_columnsOfParity cX4_columnsOfParity 1 (some .int) 1 ({ frames := 0, cells := 0, slots := 0, locals := 0 } : Room) f_X4_columnsOfParity := by
  unfold f_X4_columnsOfParity
  exact MetX.of (own := RX4) 100 0 rfl (by decide +kernel) (by decide) (fun p e s m args below meth c Fin ad0 hr hn => ⟨_, _, Sv_ret (Ev_if (pT := 13) (Cv_if_ne_n (Ev_iand (Ev_iload_n dX4_columnsOfParity_0 rfl) (Ev_iconst dX4_columnsOfParity_1 (by decide)) dX4_columnsOfParity_2) (t := 11) dX4_columnsOfParity_3 (by decide)) (Ev_ldc w851 dX4_columnsOfParity_6) dX4_columnsOfParity_8 (by decide) (Ev_ldc w852 dX4_columnsOfParity_11)) hr dX4_columnsOfParity_13, Nat.le_of_ble_eq_true rfl, Nat.le_of_ble_eq_true rfl⟩)
theorem dX4_exchange_0 : decode cX4_exchange 0 = .ok (.iload_n 2, 1) := by decide +kernel
theorem dX4_exchange_1 : decode cX4_exchange 1 = .ok (.iload_n 3, 1) := by decide +kernel
theorem dX4_exchange_2 : decode cX4_exchange 2 = .ok (.if_icmp .ne 4, 3) := by decide +kernel
theorem dX4_exchange_5 : decode cX4_exchange 5 = .ok (.return_, 1) := by decide +kernel
theorem dX4_exchange_6 : decode cX4_exchange 6 = .ok (.iconst 0, 1) := by decide +kernel
theorem dX4_exchange_7 : decode cX4_exchange 7 = .ok (.istore 5, 2) := by decide +kernel
theorem dX4_exchange_9 : decode cX4_exchange 9 = .ok (.iload 5, 2) := by decide +kernel
theorem dX4_exchange_11 : decode cX4_exchange 11 = .ok (.aload_n 1, 1) := by decide +kernel
theorem dX4_exchange_12 : decode cX4_exchange 12 = .ok (.getfield 51, 3) := by decide +kernel
theorem dX4_exchange_15 : decode cX4_exchange 15 = .ok (.getfield 141, 3) := by decide +kernel
theorem dX4_exchange_18 : decode cX4_exchange 18 = .ok (.if_icmp .ge 85, 3) := by decide +kernel
theorem dX4_exchange_21 : decode cX4_exchange 21 = .ok (.aload_n 1, 1) := by decide +kernel
theorem dX4_exchange_22 : decode cX4_exchange 22 = .ok (.getfield 51, 3) := by decide +kernel
theorem dX4_exchange_25 : decode cX4_exchange 25 = .ok (.iload 5, 2) := by decide +kernel
theorem dX4_exchange_27 : decode cX4_exchange 27 = .ok (.iload_n 2, 1) := by decide +kernel
theorem dX4_exchange_28 : decode cX4_exchange 28 = .ok (.invokevirtual 144, 3) := by decide +kernel
theorem dX4_exchange_31 : decode cX4_exchange 31 = .ok (.iload 5, 2) := by decide +kernel
theorem dX4_exchange_33 : decode cX4_exchange 33 = .ok (.aload_n 1, 1) := by decide +kernel
theorem dX4_exchange_34 : decode cX4_exchange 34 = .ok (.getfield 47, 3) := by decide +kernel
theorem dX4_exchange_37 : decode cX4_exchange 37 = .ok (.iadd, 1) := by decide +kernel
theorem dX4_exchange_38 : decode cX4_exchange 38 = .ok (.iload 4, 2) := by decide +kernel
theorem dX4_exchange_40 : decode cX4_exchange 40 = .ok (.iadd, 1) := by decide +kernel
theorem dX4_exchange_41 : decode cX4_exchange 41 = .ok (.invokestatic 148, 3) := by decide +kernel
theorem dX4_exchange_44 : decode cX4_exchange 44 = .ok (.iand, 1) := by decide +kernel
theorem dX4_exchange_45 : decode cX4_exchange 45 = .ok (.istore 6, 2) := by decide +kernel
theorem dX4_exchange_47 : decode cX4_exchange 47 = .ok (.iconst 0, 1) := by decide +kernel
theorem dX4_exchange_48 : decode cX4_exchange 48 = .ok (.istore 7, 2) := by decide +kernel
theorem dX4_exchange_50 : decode cX4_exchange 50 = .ok (.iload 7, 2) := by decide +kernel
theorem dX4_exchange_52 : decode cX4_exchange 52 = .ok (.bipush 6, 2) := by decide +kernel
theorem dX4_exchange_54 : decode cX4_exchange 54 = .ok (.if_icmp .ge 43, 3) := by decide +kernel
theorem dX4_exchange_57 : decode cX4_exchange 57 = .ok (.iload 6, 2) := by decide +kernel
theorem dX4_exchange_59 : decode cX4_exchange 59 = .ok (.ifCond .eq 38, 3) := by decide +kernel
theorem dX4_exchange_62 : decode cX4_exchange 62 = .ok (.iload_n 2, 1) := by decide +kernel
theorem dX4_exchange_63 : decode cX4_exchange 63 = .ok (.iload_n 3, 1) := by decide +kernel
theorem dX4_exchange_64 : decode cX4_exchange 64 = .ok (.ixor, 1) := by decide +kernel
theorem dX4_exchange_65 : decode cX4_exchange 65 = .ok (.iload 7, 2) := by decide +kernel
theorem dX4_exchange_67 : decode cX4_exchange 67 = .ok (.ishr, 1) := by decide +kernel
theorem dX4_exchange_68 : decode cX4_exchange 68 = .ok (.iconst 1, 1) := by decide +kernel
theorem dX4_exchange_69 : decode cX4_exchange 69 = .ok (.iand, 1) := by decide +kernel
theorem dX4_exchange_70 : decode cX4_exchange 70 = .ok (.ifCond .eq 21, 3) := by decide +kernel
theorem dX4_exchange_73 : decode cX4_exchange 73 = .ok (.aload_n 0, 1) := by decide +kernel
theorem dX4_exchange_74 : decode cX4_exchange 74 = .ok (.getfield 9, 3) := by decide +kernel
theorem dX4_exchange_77 : decode cX4_exchange 77 = .ok (.iload 5, 2) := by decide +kernel
theorem dX4_exchange_79 : decode cX4_exchange 79 = .ok (.bipush 6, 2) := by decide +kernel
theorem dX4_exchange_81 : decode cX4_exchange 81 = .ok (.imul, 1) := by decide +kernel
theorem dX4_exchange_82 : decode cX4_exchange 82 = .ok (.iload 7, 2) := by decide +kernel
theorem dX4_exchange_84 : decode cX4_exchange 84 = .ok (.iadd, 1) := by decide +kernel
theorem dX4_exchange_85 : decode cX4_exchange 85 = .ok (.dup2, 1) := by decide +kernel
theorem dX4_exchange_86 : decode cX4_exchange 86 = .ok (.iaload, 1) := by decide +kernel
theorem dX4_exchange_87 : decode cX4_exchange 87 = .ok (.iload 6, 2) := by decide +kernel
theorem dX4_exchange_89 : decode cX4_exchange 89 = .ok (.ixor, 1) := by decide +kernel
theorem dX4_exchange_90 : decode cX4_exchange 90 = .ok (.iastore, 1) := by decide +kernel
theorem dX4_exchange_91 : decode cX4_exchange 91 = .ok (.iinc 7 1, 3) := by decide +kernel
theorem dX4_exchange_94 : decode cX4_exchange 94 = .ok (.goto (-44), 3) := by decide +kernel
theorem dX4_exchange_97 : decode cX4_exchange 97 = .ok (.iinc 5 1, 3) := by decide +kernel
theorem dX4_exchange_100 : decode cX4_exchange 100 = .ok (.goto (-91), 3) := by decide +kernel
theorem dX4_exchange_103 : decode cX4_exchange 103 = .ok (.return_, 1) := by decide +kernel
def f_X4_exchange : MX := mth 8 (sQ (sQ (sIf (cB c_eq (eLi 2) (eLi 3)) (sRv) sN) (sQ (sTi 5 (eI (0))) (sLp (cB c_lt (eLi 5) (eGi (eGa (eLa 1) 6 0) 1 1)) (sQ (sQ (sTi 6 (eOp o_iand (eM (gd 1 f_X1_columnsWithState) (aI (aI (aA (aN) (eGa (eLa 1) 6 0)) (eLi 5)) (eLi 2))) (eM (f_X4_columnsOfParity) (aI (aN) (eOp o_iadd (eOp o_iadd (eLi 5) (eGi (eLa 1) 6 7)) (eLi 4)))))) (sQ (sTi 7 (eI (0))) (sLp (cAnd (cB c_lt (eLi 7) (eI (6))) (cZ z_ne (eLi 6))) (sQ (sIf (cZ z_ne (eOp o_iand (eOp o_ishr (eOp o_ixor (eLi 2) (eLi 3)) (eLi 7)) (eI (1)))) (sAo (eGa (eLa 0) 4 0) (eOp o_iadd (eOp o_imul (eLi 5) (eI (6))) (eLi 7)) o_ixor (eLi 6)) sN) (sInc 7 (1))) NF))) (sInc 5 (1))) NF))) (sRv))
theorem Y_X4_exchange : Yk yX4_exchange cX4_exchange 8 none 4 := ⟨w843, w7, by decide +kernel, by decide +kernel, by decide +kernel⟩
set_option maxRecDepth 20000 in
theorem k_X4_exchange (l : Launch) (g : GE) : MetX l g yX4_exchange cX4_exchange 8 none 5 ({ frames := 1, cells := 0, slots := 0, locals := 25 } : Room) f_X4_exchange := by
  unfold f_X4_exchange
  exact MetX.of (own := RX4) 100 0 rfl (by decide +kernel) (by decide) (fun p e s m args below meth c Fin ad0 hr hn => ⟨_, _, Sv_seq (Sv_seq (Sv_if (Cv_icmp_ne_n (Ev_iload_n dX4_exchange_0 rfl) (Ev_iload_n dX4_exchange_1 rfl) (t := 6) dX4_exchange_2 (by decide)) (Sv_retv hr dX4_exchange_5) Sv_nop) (Sv_seq (Sv_istore (Ev_iconst dX4_exchange_6 (by decide)) dX4_exchange_7 (Nat.le_of_ble_eq_true rfl) (Nat.ne_of_beq_eq_false rfl)) (Sv_loop0 NF (Cv_icmp_ge_n (Ev_iload dX4_exchange_9) (Ev_getI Fx1 (Ev_getA Fx6 (Ev_aload_n dX4_exchange_11 rfl) (k := 0) (by decide) w123 dX4_exchange_12) (k := 1) (by decide) w48 dX4_exchange_15) (t := 103) dX4_exchange_18 (by decide)) (Sv_goto (pE := 9) (Sv_seq (Sv_seq (Sv_istore (Ev_iand (Ev_call (Av_i (Av_i (Av_a (Av_nil) (Ev_getA Fx6 (Ev_aload_n dX4_exchange_21 rfl) (k := 0) (by decide) w123 dX4_exchange_22)) (Ev_iload dX4_exchange_25)) (Ev_iload_n dX4_exchange_27 rfl)) (Rn_V (ci := 1) Fx1.1 rfl Y_X1_columnsWithState (k_X1_columnsWithState _ _) w844 w845 w846 dX4_exchange_28 (Nat.le_of_ble_eq_true rfl) (Nat.le_of_ble_eq_true rfl) (Nat.le_of_ble_eq_true rfl) (Nat.ne_of_beq_eq_false rfl))) (Ev_call (Av_i (Av_nil) (Ev_iadd (Ev_iadd (Ev_iload dX4_exchange_31) (Ev_getI Fx6 (Ev_aload_n dX4_exchange_33 rfl) (k := 7) (by decide) w143 dX4_exchange_34) dX4_exchange_37) (Ev_iload dX4_exchange_38) dX4_exchange_40)) (Rn_S Y_X4_columnsOfParity (k_X4_columnsOfParity _ _) w848 w849 dX4_exchange_41 (Nat.le_of_ble_eq_true rfl) (Nat.le_of_ble_eq_true rfl) (Nat.le_of_ble_eq_true rfl) (Nat.ne_of_beq_eq_false rfl))) dX4_exchange_44) dX4_exchange_45 (Nat.le_of_ble_eq_true rfl) (Nat.ne_of_beq_eq_false rfl)) (Sv_seq (Sv_istore (Ev_iconst dX4_exchange_47 (by decide)) dX4_exchange_48 (Nat.le_of_ble_eq_true rfl) (Nat.ne_of_beq_eq_false rfl)) (Sv_loop0 NF (Cv_and (Cv_icmp_ge_n (Ev_iload dX4_exchange_50) (Ev_bipush dX4_exchange_52 (by decide)) (t := 97) dX4_exchange_54 (by decide)) (Cv_if_eq_n (Ev_iload dX4_exchange_57) (t := 97) dX4_exchange_59 (by decide))) (Sv_goto (pE := 50) (Sv_seq (Sv_if (Cv_if_eq_n (Ev_iand (Ev_ishr (Ev_ixor (Ev_iload_n dX4_exchange_62 rfl) (Ev_iload_n dX4_exchange_63 rfl) dX4_exchange_64) (Ev_iload dX4_exchange_65) dX4_exchange_67) (Ev_iconst dX4_exchange_68 (by decide)) dX4_exchange_69) (t := 91) dX4_exchange_70 (by decide)) (Sv_aop_ixor (Ev_getA Fx4 (Ev_aload_n dX4_exchange_73 rfl) (k := 0) (by decide) w177 dX4_exchange_74) (Ev_iadd (Ev_imul (Ev_iload dX4_exchange_77) (Ev_bipush dX4_exchange_79 (by decide)) dX4_exchange_81) (Ev_iload dX4_exchange_82) dX4_exchange_84) dX4_exchange_85 dX4_exchange_86 (Ev_iload dX4_exchange_87) dX4_exchange_89 dX4_exchange_90) Sv_nop) (Sv_iinc dX4_exchange_91 (by decide) (Nat.le_of_ble_eq_true rfl) (Nat.ne_of_beq_eq_false rfl))) dX4_exchange_94 (by decide))))) (Sv_iinc dX4_exchange_97 (by decide) (Nat.le_of_ble_eq_true rfl) (Nat.ne_of_beq_eq_false rfl))) dX4_exchange_100 (by decide))))) (Sv_retv hr dX4_exchange_103), Nat.le_of_ble_eq_true rfl, Nat.le_of_ble_eq_true rfl⟩)
theorem dX4_collide_0 : decode cX4_collide 0 = .ok (.aload_n 1, 1) := by decide +kernel
theorem dX4_collide_1 : decode cX4_collide 1 = .ok (.getfield 51, 3) := by decide +kernel
theorem dX4_collide_4 : decode cX4_collide 4 = .ok (.getfield 55, 3) := by decide +kernel
theorem dX4_collide_7 : decode cX4_collide 7 = .ok (.iconst 0, 1) := by decide +kernel
theorem dX4_collide_8 : decode cX4_collide 8 = .ok (.aload_n 0, 1) := by decide +kernel
theorem dX4_collide_9 : decode cX4_collide 9 = .ok (.getfield 9, 3) := by decide +kernel
theorem dX4_collide_12 : decode cX4_collide 12 = .ok (.iconst 0, 1) := by decide +kernel
theorem dX4_collide_13 : decode cX4_collide 13 = .ok (.aload_n 0, 1) := by decide +kernel
theorem dX4_collide_14 : decode cX4_collide 14 = .ok (.getfield 9, 3) := by decide +kernel
theorem dX4_collide_17 : decode cX4_collide 17 = .ok (.arraylength, 1) := by decide +kernel
theorem dX4_collide_18 : decode cX4_collide 18 = .ok (.invokestatic 64, 3) := by decide +kernel
theorem dX4_collide_21 : decode cX4_collide 21 = .ok (.iconst 1, 1) := by decide +kernel
theorem dX4_collide_22 : decode cX4_collide 22 = .ok (.istore_n 2, 1) := by decide +kernel
theorem dX4_collide_23 : decode cX4_collide 23 = .ok (.iload_n 2, 1) := by decide +kernel
theorem dX4_collide_24 : decode cX4_collide 24 = .ok (.bipush 64, 2) := by decide +kernel
theorem dX4_collide_26 : decode cX4_collide 26 = .ok (.if_icmp .ge 38, 3) := by decide +kernel
theorem dX4_collide_29 : decode cX4_collide 29 = .ok (.aload_n 0, 1) := by decide +kernel
theorem dX4_collide_30 : decode cX4_collide 30 = .ok (.aload_n 1, 1) := by decide +kernel
theorem dX4_collide_31 : decode cX4_collide 31 = .ok (.iload_n 2, 1) := by decide +kernel
theorem dX4_collide_32 : decode cX4_collide 32 = .ok (.aload_n 1, 1) := by decide +kernel
theorem dX4_collide_33 : decode cX4_collide 33 = .ok (.getfield 134, 3) := by decide +kernel
theorem dX4_collide_36 : decode cX4_collide 36 = .ok (.iload_n 2, 1) := by decide +kernel
theorem dX4_collide_37 : decode cX4_collide 37 = .ok (.iaload, 1) := by decide +kernel
theorem dX4_collide_38 : decode cX4_collide 38 = .ok (.iconst 0, 1) := by decide +kernel
theorem dX4_collide_39 : decode cX4_collide 39 = .ok (.invokevirtual 137, 3) := by decide +kernel
theorem dX4_collide_42 : decode cX4_collide 42 = .ok (.aload_n 0, 1) := by decide +kernel
theorem dX4_collide_43 : decode cX4_collide 43 = .ok (.aload_n 1, 1) := by decide +kernel
theorem dX4_collide_44 : decode cX4_collide 44 = .ok (.iload_n 2, 1) := by decide +kernel
theorem dX4_collide_45 : decode cX4_collide 45 = .ok (.aload_n 1, 1) := by decide +kernel
theorem dX4_collide_46 : decode cX4_collide 46 = .ok (.getfield 134, 3) := by decide +kernel
theorem dX4_collide_49 : decode cX4_collide 49 = .ok (.bipush 64, 2) := by decide +kernel
theorem dX4_collide_51 : decode cX4_collide 51 = .ok (.iload_n 2, 1) := by decide +kernel
theorem dX4_collide_52 : decode cX4_collide 52 = .ok (.iadd, 1) := by decide +kernel
theorem dX4_collide_53 : decode cX4_collide 53 = .ok (.iaload, 1) := by decide +kernel
theorem dX4_collide_54 : decode cX4_collide 54 = .ok (.iconst 1, 1) := by decide +kernel
theorem dX4_collide_55 : decode cX4_collide 55 = .ok (.invokevirtual 137, 3) := by decide +kernel
theorem dX4_collide_58 : decode cX4_collide 58 = .ok (.iinc 2 1, 3) := by decide +kernel
theorem dX4_collide_61 : decode cX4_collide 61 = .ok (.goto (-38), 3) := by decide +kernel
theorem dX4_collide_64 : decode cX4_collide 64 = .ok (.return_, 1) := by decide +kernel
def f_X4_collide : MX := mth 3 (sQ (sQ (sM cpy (aI (aI (aA (aI (aA (aN) (eGa (eGa (eLa 1) 6 0) 1 3)) (eI (0))) (eGa (eLa 0) 4 0)) (eI (0))) (eAn (eGa (eLa 0) 4 0)))) (sQ (sTi 2 (eI (1))) (sLp (cB c_lt (eLi 2) (eI (64))) (sQ (sQ (sM (gd 4 f_X4_exchange) (aI (aI (aI (aA (aA (aN) (eLa 0)) (eLa 1)) (eLi 2)) (eAi 0 (eGa (eLa 1) 6 5) (eLi 2))) (eI (0)))) (sM (gd 4 f_X4_exchange) (aI (aI (aI (aA (aA (aN) (eLa 0)) (eLa 1)) (eLi 2)) (eAi 0 (eGa (eLa 1) 6 5) (eOp o_iadd (eI (64)) (eLi 2)))) (eI (1))))) (sInc 2 (1))) NF))) (sRv))
theorem Y_X4_collide : Yk yX4_collide cX4_collide 3 none 1 := ⟨w838, w7, by decide +kernel, by decide +kernel, by decide +kernel⟩
set_option maxRecDepth 20000 in
theorem k_X4_collide (l : Launch) (g : GE) : MetX l g yX4_collide cX4_collide 3 none 2 ({ frames := 2, cells := 0, slots := 0, locals := 52 } : Room) f_X4_collide := by
  unfold f_X4_collide
  exact MetX.of (own := RX4) 100 0 rfl (by decide +kernel) (by decide) (fun p e s m args below meth c Fin ad0 hr hn => ⟨_, _, Sv_seq (Sv_seq (Sv_copy (Av_i (Av_i (Av_a (Av_i (Av_a (Av_nil) (Ev_getA Fx1 (Ev_getA Fx6 (Ev_aload_n dX4_collide_0 rfl) (k := 0) (by decide) w123 dX4_collide_1) (k := 3) (by decide) w52 dX4_collide_4)) (Ev_iconst dX4_collide_7 (by decide))) (Ev_getA Fx4 (Ev_aload_n dX4_collide_8 rfl) (k := 0) (by decide) w177 dX4_collide_9)) (Ev_iconst dX4_collide_12 (by decide))) (Ev_alen (Ev_getA Fx4 (Ev_aload_n dX4_collide_13 rfl) (k := 0) (by decide) w177 dX4_collide_14) dX4_collide_17)) w839 w383 w382 w15 dX4_collide_18 (Nat.le_of_ble_eq_true rfl) (Nat.le_of_ble_eq_true rfl)) (Sv_seq (Sv_istore_n (Ev_iconst dX4_collide_21 (by decide)) dX4_collide_22 rfl (Nat.le_of_ble_eq_true rfl) (Nat.ne_of_beq_eq_false rfl)) (Sv_loop0 NF (Cv_icmp_ge_n (Ev_iload_n dX4_collide_23 rfl) (Ev_bipush dX4_collide_24 (by decide)) (t := 64) dX4_collide_26 (by decide)) (Sv_goto (pE := 23) (Sv_seq (Sv_seq (Sv_call (Av_i (Av_i (Av_i (Av_a (Av_a (Av_nil) (Ev_aload_n dX4_collide_29 rfl)) (Ev_aload_n dX4_collide_30 rfl)) (Ev_iload_n dX4_collide_31 rfl)) (Ev_iaload (Ev_getA Fx6 (Ev_aload_n dX4_collide_32 rfl) (k := 5) (by decide) w138 dX4_collide_33) (Ev_iload_n dX4_collide_36 rfl) dX4_collide_37)) (Ev_iconst dX4_collide_38 (by decide))) (Rn_V (ci := 4) Fx4.1 rfl Y_X4_exchange (k_X4_exchange _ _) w840 w842 wp16 dX4_collide_39 (Nat.le_of_ble_eq_true rfl) (Nat.le_of_ble_eq_true rfl) (Nat.le_of_ble_eq_true rfl) (Nat.ne_of_beq_eq_false rfl))) (Sv_call (Av_i (Av_i (Av_i (Av_a (Av_a (Av_nil) (Ev_aload_n dX4_collide_42 rfl)) (Ev_aload_n dX4_collide_43 rfl)) (Ev_iload_n dX4_collide_44 rfl)) (Ev_iaload (Ev_getA Fx6 (Ev_aload_n dX4_collide_45 rfl) (k := 5) (by decide) w138 dX4_collide_46) (Ev_iadd (Ev_bipush dX4_collide_49 (by decide)) (Ev_iload_n dX4_collide_51 rfl) dX4_collide_52) dX4_collide_53)) (Ev_iconst dX4_collide_54 (by decide))) (Rn_V (ci := 4) Fx4.1 rfl Y_X4_exchange (k_X4_exchange _ _) w840 w842 wp16 dX4_collide_55 (Nat.le_of_ble_eq_true rfl) (Nat.le_of_ble_eq_true rfl) (Nat.le_of_ble_eq_true rfl) (Nat.ne_of_beq_eq_false rfl)))) (Sv_iinc dX4_collide_58 (by decide) (Nat.le_of_ble_eq_true rfl) (Nat.ne_of_beq_eq_false rfl))) dX4_collide_61 (by decide))))) (Sv_retv hr dX4_collide_64), Nat.le_of_ble_eq_true rfl, Nat.le_of_ble_eq_true rfl⟩)
theorem dX4_bounceOffWall_0 : decode cX4_bounceOffWall 0 = .ok (.aload_n 0, 1) := by decide +kernel
theorem dX4_bounceOffWall_1 : decode cX4_bounceOffWall 1 = .ok (.getfield 9, 3) := by decide +kernel
theorem dX4_bounceOffWall_4 : decode cX4_bounceOffWall 4 = .ok (.iload_n 2, 1) := by decide +kernel
theorem dX4_bounceOffWall_5 : decode cX4_bounceOffWall 5 = .ok (.bipush 6, 2) := by decide +kernel
theorem dX4_bounceOffWall_7 : decode cX4_bounceOffWall 7 = .ok (.imul, 1) := by decide +kernel
theorem dX4_bounceOffWall_8 : decode cX4_bounceOffWall 8 = .ok (.iload_n 3, 1) := by decide +kernel
theorem dX4_bounceOffWall_9 : decode cX4_bounceOffWall 9 = .ok (.iadd, 1) := by decide +kernel
theorem dX4_bounceOffWall_10 : decode cX4_bounceOffWall 10 = .ok (.iaload, 1) := by decide +kernel
theorem dX4_bounceOffWall_11 : decode cX4_bounceOffWall 11 = .ok (.istore 4, 2) := by decide +kernel
theorem dX4_bounceOffWall_13 : decode cX4_bounceOffWall 13 = .ok (.getstatic 153, 3) := by decide +kernel
theorem dX4_bounceOffWall_16 : decode cX4_bounceOffWall 16 = .ok (.iload_n 3, 1) := by decide +kernel
theorem dX4_bounceOffWall_17 : decode cX4_bounceOffWall 17 = .ok (.iaload, 1) := by decide +kernel
theorem dX4_bounceOffWall_18 : decode cX4_bounceOffWall 18 = .ok (.ifCond .ge 7, 3) := by decide +kernel
theorem dX4_bounceOffWall_21 : decode cX4_bounceOffWall 21 = .ok (.iconst 1, 1) := by decide +kernel
theorem dX4_bounceOffWall_22 : decode cX4_bounceOffWall 22 = .ok (.goto 4, 3) := by decide +kernel
theorem dX4_bounceOffWall_25 : decode cX4_bounceOffWall 25 = .ok (.iconst 2, 1) := by decide +kernel
theorem dX4_bounceOffWall_26 : decode cX4_bounceOffWall 26 = .ok (.istore 5, 2) := by decide +kernel
theorem dX4_bounceOffWall_28 : decode cX4_bounceOffWall 28 = .ok (.aload_n 1, 1) := by decide +kernel
theorem dX4_bounceOffWall_29 : decode cX4_bounceOffWall 29 = .ok (.getfield 163, 3) := by decide +kernel
theorem dX4_bounceOffWall_32 : decode cX4_bounceOffWall 32 = .ok (.iload 5, 2) := by decide +kernel
theorem dX4_bounceOffWall_34 : decode cX4_bounceOffWall 34 = .ok (.iaload, 1) := by decide +kernel
theorem dX4_bounceOffWall_35 : decode cX4_bounceOffWall 35 = .ok (.iconst 1, 1) := by decide +kernel
theorem dX4_bounceOffWall_36 : decode cX4_bounceOffWall 36 = .ok (.if_icmp .ne 11, 3) := by decide +kernel
theorem dX4_bounceOffWall_39 : decode cX4_bounceOffWall 39 = .ok (.getstatic 166, 3) := by decide +kernel
theorem dX4_bounceOffWall_42 : decode cX4_bounceOffWall 42 = .ok (.iload_n 3, 1) := by decide +kernel
theorem dX4_bounceOffWall_43 : decode cX4_bounceOffWall 43 = .ok (.iaload, 1) := by decide +kernel
theorem dX4_bounceOffWall_44 : decode cX4_bounceOffWall 44 = .ok (.goto 8, 3) := by decide +kernel
theorem dX4_bounceOffWall_47 : decode cX4_bounceOffWall 47 = .ok (.getstatic 85, 3) := by decide +kernel
theorem dX4_bounceOffWall_50 : decode cX4_bounceOffWall 50 = .ok (.iload_n 3, 1) := by decide +kernel
theorem dX4_bounceOffWall_51 : decode cX4_bounceOffWall 51 = .ok (.iaload, 1) := by decide +kernel
theorem dX4_bounceOffWall_52 : decode cX4_bounceOffWall 52 = .ok (.istore 6, 2) := by decide +kernel
theorem dX4_bounceOffWall_54 : decode cX4_bounceOffWall 54 = .ok (.aload_n 1, 1) := by decide +kernel
theorem dX4_bounceOffWall_55 : decode cX4_bounceOffWall 55 = .ok (.getfield 51, 3) := by decide +kernel
theorem dX4_bounceOffWall_58 : decode cX4_bounceOffWall 58 = .ok (.getfield 55, 3) := by decide +kernel
theorem dX4_bounceOffWall_61 : decode cX4_bounceOffWall 61 = .ok (.iload_n 2, 1) := by decide +kernel
theorem dX4_bounceOffWall_62 : decode cX4_bounceOffWall 62 = .ok (.bipush 6, 2) := by decide +kernel
theorem dX4_bounceOffWall_64 : decode cX4_bounceOffWall 64 = .ok (.imul, 1) := by decide +kernel
theorem dX4_bounceOffWall_65 : decode cX4_bounceOffWall 65 = .ok (.iload 6, 2) := by decide +kernel
theorem dX4_bounceOffWall_67 : decode cX4_bounceOffWall 67 = .ok (.iadd, 1) := by decide +kernel
theorem dX4_bounceOffWall_68 : decode cX4_bounceOffWall 68 = .ok (.dup2, 1) := by decide +kernel
theorem dX4_bounceOffWall_69 : decode cX4_bounceOffWall 69 = .ok (.iaload, 1) := by decide +kernel
theorem dX4_bounceOffWall_70 : decode cX4_bounceOffWall 70 = .ok (.iload 4, 2) := by decide +kernel
theorem dX4_bounceOffWall_72 : decode cX4_bounceOffWall 72 = .ok (.ior, 1) := by decide +kernel
theorem dX4_bounceOffWall_73 : decode cX4_bounceOffWall 73 = .ok (.iastore, 1) := by decide +kernel
theorem dX4_bounceOffWall_74 : decode cX4_bounceOffWall 74 = .ok (.iconst 0, 1) := by decide +kernel
theorem dX4_bounceOffWall_75 : decode cX4_bounceOffWall 75 = .ok (.istore 7, 2) := by decide +kernel
theorem dX4_bounceOffWall_77 : decode cX4_bounceOffWall 77 = .ok (.iload 7, 2) := by decide +kernel
theorem dX4_bounceOffWall_79 : decode cX4_bounceOffWall 79 = .ok (.iconst 2, 1) := by decide +kernel
theorem dX4_bounceOffWall_80 : decode cX4_bounceOffWall 80 = .ok (.if_icmp .ge 43, 3) := by decide +kernel
theorem dX4_bounceOffWall_83 : decode cX4_bounceOffWall 83 = .ok (.iload 7, 2) := by decide +kernel
theorem dX4_bounceOffWall_85 : decode cX4_bounceOffWall 85 = .ok (.iload_n 3, 1) := by decide +kernel
theorem dX4_bounceOffWall_86 : decode cX4_bounceOffWall 86 = .ok (.invokestatic 169, 3) := by decide +kernel
theorem dX4_bounceOffWall_89 : decode cX4_bounceOffWall 89 = .ok (.iload 7, 2) := by decide +kernel
theorem dX4_bounceOffWall_91 : decode cX4_bounceOffWall 91 = .ok (.iload 6, 2) := by decide +kernel
theorem dX4_bounceOffWall_93 : decode cX4_bounceOffWall 93 = .ok (.invokestatic 169, 3) := by decide +kernel
theorem dX4_bounceOffWall_96 : decode cX4_bounceOffWall 96 = .ok (.isub, 1) := by decide +kernel
theorem dX4_bounceOffWall_97 : decode cX4_bounceOffWall 97 = .ok (.istore 8, 2) := by decide +kernel
theorem dX4_bounceOffWall_99 : decode cX4_bounceOffWall 99 = .ok (.aload_n 0, 1) := by decide +kernel
theorem dX4_bounceOffWall_100 : decode cX4_bounceOffWall 100 = .ok (.getfield 18, 3) := by decide +kernel
theorem dX4_bounceOffWall_103 : decode cX4_bounceOffWall 103 = .ok (.iload 7, 2) := by decide +kernel
theorem dX4_bounceOffWall_105 : decode cX4_bounceOffWall 105 = .ok (.dup2, 1) := by decide +kernel
theorem dX4_bounceOffWall_106 : decode cX4_bounceOffWall 106 = .ok (.iaload, 1) := by decide +kernel
theorem dX4_bounceOffWall_107 : decode cX4_bounceOffWall 107 = .ok (.iload 8, 2) := by decide +kernel
theorem dX4_bounceOffWall_109 : decode cX4_bounceOffWall 109 = .ok (.iload 4, 2) := by decide +kernel
theorem dX4_bounceOffWall_111 : decode cX4_bounceOffWall 111 = .ok (.invokestatic 172, 3) := by decide +kernel
theorem dX4_bounceOffWall_114 : decode cX4_bounceOffWall 114 = .ok (.imul, 1) := by decide +kernel
theorem dX4_bounceOffWall_115 : decode cX4_bounceOffWall 115 = .ok (.iadd, 1) := by decide +kernel
theorem dX4_bounceOffWall_116 : decode cX4_bounceOffWall 116 = .ok (.iastore, 1) := by decide +kernel
theorem dX4_bounceOffWall_117 : decode cX4_bounceOffWall 117 = .ok (.iinc 7 1, 3) := by decide +kernel
theorem dX4_bounceOffWall_120 : decode cX4_bounceOffWall 120 = .ok (.goto (-43), 3) := by decide +kernel
theorem dX4_bounceOffWall_123 : decode cX4_bounceOffWall 123 = .ok (.return_, 1) := by decide +kernel
def f_X4_bounceOffWall : MX := mth 9 (sQ (sQ (sTi 4 (eAi 0 (eGa (eLa 0) 4 0) (eOp o_iadd (eOp o_imul (eLi 2) (eI (6))) (eLi 3)))) (sQ (sTi 5 (eIf (cZ z_lt (eAi 0 (eZ 4) (eLi 3))) (eI (1)) (eI (2)))) (sQ (sTi 6 (eIf (cB c_eq (eAi 0 (eGa (eLa 1) 6 4) (eLi 5)) (eI (1))) (eAi 0 (eZ 3) (eLi 3)) (eAi 0 (eZ 2) (eLi 3)))) (sQ (sAo (eGa (eGa (eLa 1) 6 0) 1 3) (eOp o_iadd (eOp o_imul (eLi 2) (eI (6))) (eLi 6)) o_ior (eLi 4)) (sQ (sTi 7 (eI (0))) (sLp (cB c_lt (eLi 7) (eI (2))) (sQ (sQ (sTi 8 (eOp o_isub (eM (f_X7_momentumOf) (aI (aI (aN) (eLi 7)) (eLi 3))) (eM (f_X7_momentumOf) (aI (aI (aN) (eLi 7)) (eLi 6))))) (sAo (eGa (eLa 0) 4 2) (eLi 7) o_iadd (eOp o_imul (eLi 8) (eM (f_J6_bitCount_0f7a4) (aI (aN) (eLi 4)))))) (sInc 7 (1))) NF)))))) (sRv))
theorem Y_X4_bounceOffWall : Yk yX4_bounceOffWall cX4_bounceOffWall 9 none 3 := ⟨w863, w7, by decide +kernel, by decide +kernel, by decide +kernel⟩
set_option maxRecDepth 20000 in
theorem k_X4_bounceOffWall (l : Launch) (g : GE) : MetX l g yX4_bounceOffWall cX4_bounceOffWall 9 none 4 ({ frames := 1, cells := 0, slots := 0, locals := 21 } : Room) f_X4_bounceOffWall := by
  unfold f_X4_bounceOffWall
  exact MetX.of (own := RX4) 100 0 rfl (by decide +kernel) (by decide) (fun p e s m args below meth c Fin ad0 hr hn => ⟨_, _, Sv_seq (Sv_seq (Sv_istore (Ev_iaload (Ev_getA Fx4 (Ev_aload_n dX4_bounceOffWall_0 rfl) (k := 0) (by decide) w177 dX4_bounceOffWall_1) (Ev_iadd (Ev_imul (Ev_iload_n dX4_bounceOffWall_4 rfl) (Ev_bipush dX4_bounceOffWall_5 (by decide)) dX4_bounceOffWall_7) (Ev_iload_n dX4_bounceOffWall_8 rfl) dX4_bounceOffWall_9) dX4_bounceOffWall_10) dX4_bounceOffWall_11 (Nat.le_of_ble_eq_true rfl) (Nat.ne_of_beq_eq_false rfl)) (Sv_seq (Sv_istore (Ev_if (pT := 26) (Cv_if_ge_n (Ev_iaload (Ev_getsN (q := ("ROW_STEP", 4)) (by decide) w858 dX4_bounceOffWall_13) (Ev_iload_n dX4_bounceOffWall_16 rfl) dX4_bounceOffWall_17) (t := 25) dX4_bounceOffWall_18 (by decide)) (Ev_iconst dX4_bounceOffWall_21 (by decide)) dX4_bounceOffWall_22 (by decide) (Ev_iconst dX4_bounceOffWall_25 (by decide))) dX4_bounceOffWall_26 (Nat.le_of_ble_eq_true rfl) (Nat.ne_of_beq_eq_false rfl)) (Sv_seq (Sv_istore (Ev_if (pT := 52) (Cv_icmp_ne_n (Ev_iaload (Ev_getA Fx6 (Ev_aload_n dX4_bounceOffWall_28 rfl) (k := 4) (by decide) w136 dX4_bounceOffWall_29) (Ev_iload dX4_bounceOffWall_32) dX4_bounceOffWall_34) (Ev_iconst dX4_bounceOffWall_35 (by decide)) (t := 47) dX4_bounceOffWall_36 (by decide)) (Ev_iaload (Ev_getsN (q := ("MIRRORED", 3)) (by decide) w864 dX4_bounceOffWall_39) (Ev_iload_n dX4_bounceOffWall_42 rfl) dX4_bounceOffWall_43) dX4_bounceOffWall_44 (by decide) (Ev_iaload (Ev_getsN (q := ("OPPOSITE", 2)) (by decide) w866 dX4_bounceOffWall_47) (Ev_iload_n dX4_bounceOffWall_50 rfl) dX4_bounceOffWall_51)) dX4_bounceOffWall_52 (Nat.le_of_ble_eq_true rfl) (Nat.ne_of_beq_eq_false rfl)) (Sv_seq (Sv_aop_ior (Ev_getA Fx1 (Ev_getA Fx6 (Ev_aload_n dX4_bounceOffWall_54 rfl) (k := 0) (by decide) w123 dX4_bounceOffWall_55) (k := 3) (by decide) w52 dX4_bounceOffWall_58) (Ev_iadd (Ev_imul (Ev_iload_n dX4_bounceOffWall_61 rfl) (Ev_bipush dX4_bounceOffWall_62 (by decide)) dX4_bounceOffWall_64) (Ev_iload dX4_bounceOffWall_65) dX4_bounceOffWall_67) dX4_bounceOffWall_68 dX4_bounceOffWall_69 (Ev_iload dX4_bounceOffWall_70) dX4_bounceOffWall_72 dX4_bounceOffWall_73) (Sv_seq (Sv_istore (Ev_iconst dX4_bounceOffWall_74 (by decide)) dX4_bounceOffWall_75 (Nat.le_of_ble_eq_true rfl) (Nat.ne_of_beq_eq_false rfl)) (Sv_loop0 NF (Cv_icmp_ge_n (Ev_iload dX4_bounceOffWall_77) (Ev_iconst dX4_bounceOffWall_79 (by decide)) (t := 123) dX4_bounceOffWall_80 (by decide)) (Sv_goto (pE := 77) (Sv_seq (Sv_seq (Sv_istore (Ev_isub (Ev_call (Av_i (Av_i (Av_nil) (Ev_iload dX4_bounceOffWall_83)) (Ev_iload_n dX4_bounceOffWall_85 rfl)) (Rn_SN Y_X7_momentumOf (k_X7_momentumOf _ _) nt_X7_momentumOf w868 w367 dX4_bounceOffWall_86 (Nat.le_of_ble_eq_true rfl) (Nat.le_of_ble_eq_true rfl) (Nat.le_of_ble_eq_true rfl) (Nat.ne_of_beq_eq_false rfl))) (Ev_call (Av_i (Av_i (Av_nil) (Ev_iload dX4_bounceOffWall_89)) (Ev_iload dX4_bounceOffWall_91)) (Rn_SN Y_X7_momentumOf (k_X7_momentumOf _ _) nt_X7_momentumOf w868 w367 dX4_bounceOffWall_93 (Nat.le_of_ble_eq_true rfl) (Nat.le_of_ble_eq_true rfl) (Nat.le_of_ble_eq_true rfl) (Nat.ne_of_beq_eq_false rfl))) dX4_bounceOffWall_96) dX4_bounceOffWall_97 (Nat.le_of_ble_eq_true rfl) (Nat.ne_of_beq_eq_false rfl)) (Sv_aop_iadd (Ev_getA Fx4 (Ev_aload_n dX4_bounceOffWall_99 rfl) (k := 2) (by decide) w179 dX4_bounceOffWall_100) (Ev_iload dX4_bounceOffWall_103) dX4_bounceOffWall_105 dX4_bounceOffWall_106 (Ev_imul (Ev_iload dX4_bounceOffWall_107) (Ev_call (Av_i (Av_nil) (Ev_iload dX4_bounceOffWall_109)) (Rn_S Y_J6_bitCount_0f7a4 (k_J6_bitCount_0f7a4 _ _) w869 w361 dX4_bounceOffWall_111 (Nat.le_of_ble_eq_true rfl) (Nat.le_of_ble_eq_true rfl) (Nat.le_of_ble_eq_true rfl) (Nat.ne_of_beq_eq_false rfl))) dX4_bounceOffWall_114) dX4_bounceOffWall_115 dX4_bounceOffWall_116)) (Sv_iinc dX4_bounceOffWall_117 (by decide) (Nat.le_of_ble_eq_true rfl) (Nat.ne_of_beq_eq_false rfl))) dX4_bounceOffWall_120 (by decide)))))))) (Sv_retv hr dX4_bounceOffWall_123), Nat.le_of_ble_eq_true rfl, Nat.le_of_ble_eq_true rfl⟩)
theorem dX4_giveToBodies_0 : decode cX4_giveToBodies 0 = .ok (.aload_n 1, 1) := by decide +kernel
theorem dX4_giveToBodies_1 : decode cX4_giveToBodies 1 = .ok (.getfield 51, 3) := by decide +kernel
theorem dX4_giveToBodies_4 : decode cX4_giveToBodies 4 = .ok (.astore 6, 2) := by decide +kernel
theorem dX4_giveToBodies_6 : decode cX4_giveToBodies 6 = .ok (.iconst 0, 1) := by decide +kernel
theorem dX4_giveToBodies_7 : decode cX4_giveToBodies 7 = .ok (.istore 7, 2) := by decide +kernel
theorem dX4_giveToBodies_9 : decode cX4_giveToBodies 9 = .ok (.iload 7, 2) := by decide +kernel
theorem dX4_giveToBodies_11 : decode cX4_giveToBodies 11 = .ok (.bipush 6, 2) := by decide +kernel
theorem dX4_giveToBodies_13 : decode cX4_giveToBodies 13 = .ok (.if_icmp .ge 92, 3) := by decide +kernel
theorem dX4_giveToBodies_16 : decode cX4_giveToBodies 16 = .ok (.aload 6, 2) := by decide +kernel
theorem dX4_giveToBodies_18 : decode cX4_giveToBodies 18 = .ok (.aload 6, 2) := by decide +kernel
theorem dX4_giveToBodies_20 : decode cX4_giveToBodies 20 = .ok (.getfield 198, 3) := by decide +kernel
theorem dX4_giveToBodies_23 : decode cX4_giveToBodies 23 = .ok (.iload 4, 2) := by decide +kernel
theorem dX4_giveToBodies_25 : decode cX4_giveToBodies 25 = .ok (.bipush 6, 2) := by decide +kernel
theorem dX4_giveToBodies_27 : decode cX4_giveToBodies 27 = .ok (.imul, 1) := by decide +kernel
theorem dX4_giveToBodies_28 : decode cX4_giveToBodies 28 = .ok (.iload 7, 2) := by decide +kernel
theorem dX4_giveToBodies_30 : decode cX4_giveToBodies 30 = .ok (.iadd, 1) := by decide +kernel
theorem dX4_giveToBodies_31 : decode cX4_giveToBodies 31 = .ok (.iaload, 1) := by decide +kernel
theorem dX4_giveToBodies_32 : decode cX4_giveToBodies 32 = .ok (.iload 5, 2) := by decide +kernel
theorem dX4_giveToBodies_34 : decode cX4_giveToBodies 34 = .ok (.ineg, 1) := by decide +kernel
theorem dX4_giveToBodies_35 : decode cX4_giveToBodies 35 = .ok (.aload_n 1, 1) := by decide +kernel
theorem dX4_giveToBodies_36 : decode cX4_giveToBodies 36 = .ok (.invokevirtual 183, 3) := by decide +kernel
theorem dX4_giveToBodies_39 : decode cX4_giveToBodies 39 = .ok (.invokevirtual 190, 3) := by decide +kernel
theorem dX4_giveToBodies_42 : decode cX4_giveToBodies 42 = .ok (.istore 8, 2) := by decide +kernel
theorem dX4_giveToBodies_44 : decode cX4_giveToBodies 44 = .ok (.iload_n 2, 1) := by decide +kernel
theorem dX4_giveToBodies_45 : decode cX4_giveToBodies 45 = .ok (.iload 8, 2) := by decide +kernel
theorem dX4_giveToBodies_47 : decode cX4_giveToBodies 47 = .ok (.iand, 1) := by decide +kernel
theorem dX4_giveToBodies_48 : decode cX4_giveToBodies 48 = .ok (.invokestatic 172, 3) := by decide +kernel
theorem dX4_giveToBodies_51 : decode cX4_giveToBodies 51 = .ok (.istore 9, 2) := by decide +kernel
theorem dX4_giveToBodies_53 : decode cX4_giveToBodies 53 = .ok (.aload_n 0, 1) := by decide +kernel
theorem dX4_giveToBodies_54 : decode cX4_giveToBodies 54 = .ok (.getfield 15, 3) := by decide +kernel
theorem dX4_giveToBodies_57 : decode cX4_giveToBodies 57 = .ok (.iload 7, 2) := by decide +kernel
theorem dX4_giveToBodies_59 : decode cX4_giveToBodies 59 = .ok (.iconst 2, 1) := by decide +kernel
theorem dX4_giveToBodies_60 : decode cX4_giveToBodies 60 = .ok (.imul, 1) := by decide +kernel
theorem dX4_giveToBodies_61 : decode cX4_giveToBodies 61 = .ok (.dup2, 1) := by decide +kernel
theorem dX4_giveToBodies_62 : decode cX4_giveToBodies 62 = .ok (.iaload, 1) := by decide +kernel
theorem dX4_giveToBodies_63 : decode cX4_giveToBodies 63 = .ok (.iconst 2, 1) := by decide +kernel
theorem dX4_giveToBodies_64 : decode cX4_giveToBodies 64 = .ok (.getstatic 201, 3) := by decide +kernel
theorem dX4_giveToBodies_67 : decode cX4_giveToBodies 67 = .ok (.iload_n 3, 1) := by decide +kernel
theorem dX4_giveToBodies_68 : decode cX4_giveToBodies 68 = .ok (.iaload, 1) := by decide +kernel
theorem dX4_giveToBodies_69 : decode cX4_giveToBodies 69 = .ok (.imul, 1) := by decide +kernel
theorem dX4_giveToBodies_70 : decode cX4_giveToBodies 70 = .ok (.iload 9, 2) := by decide +kernel
theorem dX4_giveToBodies_72 : decode cX4_giveToBodies 72 = .ok (.imul, 1) := by decide +kernel
theorem dX4_giveToBodies_73 : decode cX4_giveToBodies 73 = .ok (.iadd, 1) := by decide +kernel
theorem dX4_giveToBodies_74 : decode cX4_giveToBodies 74 = .ok (.iastore, 1) := by decide +kernel
theorem dX4_giveToBodies_75 : decode cX4_giveToBodies 75 = .ok (.aload_n 0, 1) := by decide +kernel
theorem dX4_giveToBodies_76 : decode cX4_giveToBodies 76 = .ok (.getfield 15, 3) := by decide +kernel
theorem dX4_giveToBodies_79 : decode cX4_giveToBodies 79 = .ok (.iload 7, 2) := by decide +kernel
theorem dX4_giveToBodies_81 : decode cX4_giveToBodies 81 = .ok (.iconst 2, 1) := by decide +kernel
theorem dX4_giveToBodies_82 : decode cX4_giveToBodies 82 = .ok (.imul, 1) := by decide +kernel
theorem dX4_giveToBodies_83 : decode cX4_giveToBodies 83 = .ok (.iconst 1, 1) := by decide +kernel
theorem dX4_giveToBodies_84 : decode cX4_giveToBodies 84 = .ok (.iadd, 1) := by decide +kernel
theorem dX4_giveToBodies_85 : decode cX4_giveToBodies 85 = .ok (.dup2, 1) := by decide +kernel
theorem dX4_giveToBodies_86 : decode cX4_giveToBodies 86 = .ok (.iaload, 1) := by decide +kernel
theorem dX4_giveToBodies_87 : decode cX4_giveToBodies 87 = .ok (.iconst 2, 1) := by decide +kernel
theorem dX4_giveToBodies_88 : decode cX4_giveToBodies 88 = .ok (.getstatic 204, 3) := by decide +kernel
theorem dX4_giveToBodies_91 : decode cX4_giveToBodies 91 = .ok (.iload_n 3, 1) := by decide +kernel
theorem dX4_giveToBodies_92 : decode cX4_giveToBodies 92 = .ok (.iaload, 1) := by decide +kernel
theorem dX4_giveToBodies_93 : decode cX4_giveToBodies 93 = .ok (.imul, 1) := by decide +kernel
theorem dX4_giveToBodies_94 : decode cX4_giveToBodies 94 = .ok (.iload 9, 2) := by decide +kernel
theorem dX4_giveToBodies_96 : decode cX4_giveToBodies 96 = .ok (.imul, 1) := by decide +kernel
theorem dX4_giveToBodies_97 : decode cX4_giveToBodies 97 = .ok (.iadd, 1) := by decide +kernel
theorem dX4_giveToBodies_98 : decode cX4_giveToBodies 98 = .ok (.iastore, 1) := by decide +kernel
theorem dX4_giveToBodies_99 : decode cX4_giveToBodies 99 = .ok (.iinc 7 1, 3) := by decide +kernel
theorem dX4_giveToBodies_102 : decode cX4_giveToBodies 102 = .ok (.goto (-93), 3) := by decide +kernel
theorem dX4_giveToBodies_105 : decode cX4_giveToBodies 105 = .ok (.return_, 1) := by decide +kernel
def f_X4_giveToBodies : MX := mth 10 (sQ (sQ (sTa 6 (eGa (eLa 1) 6 0)) (sQ (sTi 7 (eI (0))) (sLp (cB c_lt (eLi 7) (eI (6))) (sQ (sQ (sTi 8 (eM (gd 1 f_X1_stepped) (aI (aI (aI (aA (aN) (eLa 6)) (eAi 0 (eGa (eLa 6) 1 4) (eOp o_iadd (eOp o_imul (eLi 4) (eI (6))) (eLi 7)))) (eU o_ineg (eLi 5))) (eM (gd 6 f_X6_isRing) (aA (aN) (eLa 1)))))) (sQ (sTi 9 (eM (f_J6_bitCount_0f7a4) (aI (aN) (eOp o_iand (eLi 2) (eLi 8))))) (sQ (sAo (eGa (eLa 0) 4 1) (eOp o_imul (eLi 7) (eI (2))) o_iadd (eOp o_imul (eOp o_imul (eI (2)) (eAi 0 (eZ 0) (eLi 3))) (eLi 9))) (sAo (eGa (eLa 0) 4 1) (eOp o_iadd (eOp o_imul (eLi 7) (eI (2))) (eI (1))) o_iadd (eOp o_imul (eOp o_imul (eI (2)) (eAi 0 (eZ 1) (eLi 3))) (eLi 9)))))) (sInc 7 (1))) NF))) (sRv))
theorem Y_X4_giveToBodies : Yk yX4_giveToBodies cX4_giveToBodies 10 none 5 := ⟨w890, w7, by decide +kernel, by decide +kernel, by decide +kernel⟩
set_option maxRecDepth 20000 in
theorem k_X4_giveToBodies (l : Launch) (g : GE) : MetX l g yX4_giveToBodies cX4_giveToBodies 10 none 6 ({ frames := 1, cells := 0, slots := 0, locals := 24 } : Room) f_X4_giveToBodies := by
  unfold f_X4_giveToBodies
  exact MetX.of (own := RX4) 100 0 rfl (by decide +kernel) (by decide) (fun p e s m args below meth c Fin ad0 hr hn => ⟨_, _, Sv_seq (Sv_seq (Sv_astore (Ev_getA Fx6 (Ev_aload_n dX4_giveToBodies_0 rfl) (k := 0) (by decide) w123 dX4_giveToBodies_1) dX4_giveToBodies_4 (Nat.le_of_ble_eq_true rfl) (Nat.ne_of_beq_eq_false rfl)) (Sv_seq (Sv_istore (Ev_iconst dX4_giveToBodies_6 (by decide)) dX4_giveToBodies_7 (Nat.le_of_ble_eq_true rfl) (Nat.ne_of_beq_eq_false rfl)) (Sv_loop0 NF (Cv_icmp_ge_n (Ev_iload dX4_giveToBodies_9) (Ev_bipush dX4_giveToBodies_11 (by decide)) (t := 105) dX4_giveToBodies_13 (by decide)) (Sv_goto (pE := 9) (Sv_seq (Sv_seq (Sv_istore (Ev_call (Av_i (Av_i (Av_i (Av_a (Av_nil) (Ev_aload dX4_giveToBodies_16)) (Ev_iaload (Ev_getA Fx1 (Ev_aload dX4_giveToBodies_18) (k := 4) (by decide) w56 dX4_giveToBodies_20) (Ev_iadd (Ev_imul (Ev_iload dX4_giveToBodies_23) (Ev_bipush dX4_giveToBodies_25 (by decide)) dX4_giveToBodies_27) (Ev_iload dX4_giveToBodies_28) dX4_giveToBodies_30) dX4_giveToBodies_31)) (Ev_ineg (Ev_iload dX4_giveToBodies_32) dX4_giveToBodies_34)) (Ev_call (Av_a (Av_nil) (Ev_aload_n dX4_giveToBodies_35 rfl)) (Rn_V (ci := 6) Fx6.1 rfl Y_X6_isRing (k_X6_isRing _ _) w878 w430 w431 dX4_giveToBodies_36 (Nat.le_of_ble_eq_true rfl) (Nat.le_of_ble_eq_true rfl) (Nat.le_of_ble_eq_true rfl) (Nat.ne_of_beq_eq_false rfl)))) (Rn_V (ci := 1) Fx1.1 rfl Y_X1_stepped (k_X1_stepped _ _) w883 w884 w885 dX4_giveToBodies_39 (Nat.le_of_ble_eq_true rfl) (Nat.le_of_ble_eq_true rfl) (Nat.le_of_ble_eq_true rfl) (Nat.ne_of_beq_eq_false rfl))) dX4_giveToBodies_42 (Nat.le_of_ble_eq_true rfl) (Nat.ne_of_beq_eq_false rfl)) (Sv_seq (Sv_istore (Ev_call (Av_i (Av_nil) (Ev_iand (Ev_iload_n dX4_giveToBodies_44 rfl) (Ev_iload dX4_giveToBodies_45) dX4_giveToBodies_47)) (Rn_S Y_J6_bitCount_0f7a4 (k_J6_bitCount_0f7a4 _ _) w869 w361 dX4_giveToBodies_48 (Nat.le_of_ble_eq_true rfl) (Nat.le_of_ble_eq_true rfl) (Nat.le_of_ble_eq_true rfl) (Nat.ne_of_beq_eq_false rfl))) dX4_giveToBodies_51 (Nat.le_of_ble_eq_true rfl) (Nat.ne_of_beq_eq_false rfl)) (Sv_seq (Sv_aop_iadd (Ev_getA Fx4 (Ev_aload_n dX4_giveToBodies_53 rfl) (k := 1) (by decide) w178 dX4_giveToBodies_54) (Ev_imul (Ev_iload dX4_giveToBodies_57) (Ev_iconst dX4_giveToBodies_59 (by decide)) dX4_giveToBodies_60) dX4_giveToBodies_61 dX4_giveToBodies_62 (Ev_imul (Ev_imul (Ev_iconst dX4_giveToBodies_63 (by decide)) (Ev_iaload (Ev_getsN (q := ("ALONG", 0)) (by decide) w891 dX4_giveToBodies_64) (Ev_iload_n dX4_giveToBodies_67 rfl) dX4_giveToBodies_68) dX4_giveToBodies_69) (Ev_iload dX4_giveToBodies_70) dX4_giveToBodies_72) dX4_giveToBodies_73 dX4_giveToBodies_74) (Sv_aop_iadd (Ev_getA Fx4 (Ev_aload_n dX4_giveToBodies_75 rfl) (k := 1) (by decide) w178 dX4_giveToBodies_76) (Ev_iadd (Ev_imul (Ev_iload dX4_giveToBodies_79) (Ev_iconst dX4_giveToBodies_81 (by decide)) dX4_giveToBodies_82) (Ev_iconst dX4_giveToBodies_83 (by decide)) dX4_giveToBodies_84) dX4_giveToBodies_85 dX4_giveToBodies_86 (Ev_imul (Ev_imul (Ev_iconst dX4_giveToBodies_87 (by decide)) (Ev_iaload (Ev_getsN (q := ("ACROSS", 1)) (by decide) w892 dX4_giveToBodies_88) (Ev_iload_n dX4_giveToBodies_91 rfl) dX4_giveToBodies_92) dX4_giveToBodies_93) (Ev_iload dX4_giveToBodies_94) dX4_giveToBodies_96) dX4_giveToBodies_97 dX4_giveToBodies_98)))) (Sv_iinc dX4_giveToBodies_99 (by decide) (Nat.le_of_ble_eq_true rfl) (Nat.ne_of_beq_eq_false rfl))) dX4_giveToBodies_102 (by decide))))) (Sv_retv hr dX4_giveToBodies_105), Nat.le_of_ble_eq_true rfl, Nat.le_of_ble_eq_true rfl⟩)
theorem dX4_moveToRow_0 : decode cX4_moveToRow 0 = .ok (.aload_n 1, 1) := by decide +kernel
theorem dX4_moveToRow_1 : decode cX4_moveToRow 1 = .ok (.getfield 51, 3) := by decide +kernel
theorem dX4_moveToRow_4 : decode cX4_moveToRow 4 = .ok (.astore 5, 2) := by decide +kernel
theorem dX4_moveToRow_6 : decode cX4_moveToRow 6 = .ok (.aload_n 0, 1) := by decide +kernel
theorem dX4_moveToRow_7 : decode cX4_moveToRow 7 = .ok (.getfield 9, 3) := by decide +kernel
theorem dX4_moveToRow_10 : decode cX4_moveToRow 10 = .ok (.iload_n 2, 1) := by decide +kernel
theorem dX4_moveToRow_11 : decode cX4_moveToRow 11 = .ok (.bipush 6, 2) := by decide +kernel
theorem dX4_moveToRow_13 : decode cX4_moveToRow 13 = .ok (.imul, 1) := by decide +kernel
theorem dX4_moveToRow_14 : decode cX4_moveToRow 14 = .ok (.iload_n 3, 1) := by decide +kernel
theorem dX4_moveToRow_15 : decode cX4_moveToRow 15 = .ok (.iadd, 1) := by decide +kernel
theorem dX4_moveToRow_16 : decode cX4_moveToRow 16 = .ok (.iaload, 1) := by decide +kernel
theorem dX4_moveToRow_17 : decode cX4_moveToRow 17 = .ok (.istore 6, 2) := by decide +kernel
theorem dX4_moveToRow_19 : decode cX4_moveToRow 19 = .ok (.iload_n 2, 1) := by decide +kernel
theorem dX4_moveToRow_20 : decode cX4_moveToRow 20 = .ok (.iconst 1, 1) := by decide +kernel
theorem dX4_moveToRow_21 : decode cX4_moveToRow 21 = .ok (.iand, 1) := by decide +kernel
theorem dX4_moveToRow_22 : decode cX4_moveToRow 22 = .ok (.ifCond .ne 11, 3) := by decide +kernel
theorem dX4_moveToRow_25 : decode cX4_moveToRow 25 = .ok (.getstatic 177, 3) := by decide +kernel
theorem dX4_moveToRow_28 : decode cX4_moveToRow 28 = .ok (.iload_n 3, 1) := by decide +kernel
theorem dX4_moveToRow_29 : decode cX4_moveToRow 29 = .ok (.iaload, 1) := by decide +kernel
theorem dX4_moveToRow_30 : decode cX4_moveToRow 30 = .ok (.goto 8, 3) := by decide +kernel
theorem dX4_moveToRow_33 : decode cX4_moveToRow 33 = .ok (.getstatic 180, 3) := by decide +kernel
theorem dX4_moveToRow_36 : decode cX4_moveToRow 36 = .ok (.iload_n 3, 1) := by decide +kernel
theorem dX4_moveToRow_37 : decode cX4_moveToRow 37 = .ok (.iaload, 1) := by decide +kernel
theorem dX4_moveToRow_38 : decode cX4_moveToRow 38 = .ok (.istore 7, 2) := by decide +kernel
theorem dX4_moveToRow_40 : decode cX4_moveToRow 40 = .ok (.aload_n 1, 1) := by decide +kernel
theorem dX4_moveToRow_41 : decode cX4_moveToRow 41 = .ok (.invokevirtual 183, 3) := by decide +kernel
theorem dX4_moveToRow_44 : decode cX4_moveToRow 44 = .ok (.ifCond .eq 7, 3) := by decide +kernel
theorem dX4_moveToRow_47 : decode cX4_moveToRow 47 = .ok (.iconst 0, 1) := by decide +kernel
theorem dX4_moveToRow_48 : decode cX4_moveToRow 48 = .ok (.goto 13, 3) := by decide +kernel
theorem dX4_moveToRow_51 : decode cX4_moveToRow 51 = .ok (.iload 6, 2) := by decide +kernel
theorem dX4_moveToRow_53 : decode cX4_moveToRow 53 = .ok (.aload 5, 2) := by decide +kernel
theorem dX4_moveToRow_55 : decode cX4_moveToRow 55 = .ok (.iload 7, 2) := by decide +kernel
theorem dX4_moveToRow_57 : decode cX4_moveToRow 57 = .ok (.invokevirtual 187, 3) := by decide +kernel
theorem dX4_moveToRow_60 : decode cX4_moveToRow 60 = .ok (.iand, 1) := by decide +kernel
theorem dX4_moveToRow_61 : decode cX4_moveToRow 61 = .ok (.istore 8, 2) := by decide +kernel
theorem dX4_moveToRow_63 : decode cX4_moveToRow 63 = .ok (.iload 6, 2) := by decide +kernel
theorem dX4_moveToRow_65 : decode cX4_moveToRow 65 = .ok (.aload 5, 2) := by decide +kernel
theorem dX4_moveToRow_67 : decode cX4_moveToRow 67 = .ok (.aload 5, 2) := by decide +kernel
theorem dX4_moveToRow_69 : decode cX4_moveToRow 69 = .ok (.iload 4, 2) := by decide +kernel
theorem dX4_moveToRow_71 : decode cX4_moveToRow 71 = .ok (.invokevirtual 119, 3) := by decide +kernel
theorem dX4_moveToRow_74 : decode cX4_moveToRow 74 = .ok (.iload 7, 2) := by decide +kernel
theorem dX4_moveToRow_76 : decode cX4_moveToRow 76 = .ok (.ineg, 1) := by decide +kernel
theorem dX4_moveToRow_77 : decode cX4_moveToRow 77 = .ok (.aload_n 1, 1) := by decide +kernel
theorem dX4_moveToRow_78 : decode cX4_moveToRow 78 = .ok (.invokevirtual 183, 3) := by decide +kernel
theorem dX4_moveToRow_81 : decode cX4_moveToRow 81 = .ok (.invokevirtual 190, 3) := by decide +kernel
theorem dX4_moveToRow_84 : decode cX4_moveToRow 84 = .ok (.iand, 1) := by decide +kernel
theorem dX4_moveToRow_85 : decode cX4_moveToRow 85 = .ok (.istore 9, 2) := by decide +kernel
theorem dX4_moveToRow_87 : decode cX4_moveToRow 87 = .ok (.iload 6, 2) := by decide +kernel
theorem dX4_moveToRow_89 : decode cX4_moveToRow 89 = .ok (.iload 8, 2) := by decide +kernel
theorem dX4_moveToRow_91 : decode cX4_moveToRow 91 = .ok (.iconst (-1), 1) := by decide +kernel
theorem dX4_moveToRow_92 : decode cX4_moveToRow 92 = .ok (.ixor, 1) := by decide +kernel
theorem dX4_moveToRow_93 : decode cX4_moveToRow 93 = .ok (.iand, 1) := by decide +kernel
theorem dX4_moveToRow_94 : decode cX4_moveToRow 94 = .ok (.iload 9, 2) := by decide +kernel
theorem dX4_moveToRow_96 : decode cX4_moveToRow 96 = .ok (.iconst (-1), 1) := by decide +kernel
theorem dX4_moveToRow_97 : decode cX4_moveToRow 97 = .ok (.ixor, 1) := by decide +kernel
theorem dX4_moveToRow_98 : decode cX4_moveToRow 98 = .ok (.iand, 1) := by decide +kernel
theorem dX4_moveToRow_99 : decode cX4_moveToRow 99 = .ok (.istore 10, 2) := by decide +kernel
theorem dX4_moveToRow_101 : decode cX4_moveToRow 101 = .ok (.aload 5, 2) := by decide +kernel
theorem dX4_moveToRow_103 : decode cX4_moveToRow 103 = .ok (.iload 10, 2) := by decide +kernel
theorem dX4_moveToRow_105 : decode cX4_moveToRow 105 = .ok (.iload 7, 2) := by decide +kernel
theorem dX4_moveToRow_107 : decode cX4_moveToRow 107 = .ok (.aload_n 1, 1) := by decide +kernel
theorem dX4_moveToRow_108 : decode cX4_moveToRow 108 = .ok (.invokevirtual 183, 3) := by decide +kernel
theorem dX4_moveToRow_111 : decode cX4_moveToRow 111 = .ok (.invokevirtual 190, 3) := by decide +kernel
theorem dX4_moveToRow_114 : decode cX4_moveToRow 114 = .ok (.istore 11, 2) := by decide +kernel
theorem dX4_moveToRow_116 : decode cX4_moveToRow 116 = .ok (.aload 5, 2) := by decide +kernel
theorem dX4_moveToRow_118 : decode cX4_moveToRow 118 = .ok (.getfield 55, 3) := by decide +kernel
theorem dX4_moveToRow_121 : decode cX4_moveToRow 121 = .ok (.iload 4, 2) := by decide +kernel
theorem dX4_moveToRow_123 : decode cX4_moveToRow 123 = .ok (.bipush 6, 2) := by decide +kernel
theorem dX4_moveToRow_125 : decode cX4_moveToRow 125 = .ok (.imul, 1) := by decide +kernel
theorem dX4_moveToRow_126 : decode cX4_moveToRow 126 = .ok (.iload_n 3, 1) := by decide +kernel
theorem dX4_moveToRow_127 : decode cX4_moveToRow 127 = .ok (.iadd, 1) := by decide +kernel
theorem dX4_moveToRow_128 : decode cX4_moveToRow 128 = .ok (.dup2, 1) := by decide +kernel
theorem dX4_moveToRow_129 : decode cX4_moveToRow 129 = .ok (.iaload, 1) := by decide +kernel
theorem dX4_moveToRow_130 : decode cX4_moveToRow 130 = .ok (.iload 11, 2) := by decide +kernel
theorem dX4_moveToRow_132 : decode cX4_moveToRow 132 = .ok (.ior, 1) := by decide +kernel
theorem dX4_moveToRow_133 : decode cX4_moveToRow 133 = .ok (.iastore, 1) := by decide +kernel
theorem dX4_moveToRow_134 : decode cX4_moveToRow 134 = .ok (.iload 7, 2) := by decide +kernel
theorem dX4_moveToRow_136 : decode cX4_moveToRow 136 = .ok (.ifCond .eq 29, 3) := by decide +kernel
theorem dX4_moveToRow_139 : decode cX4_moveToRow 139 = .ok (.aload_n 1, 1) := by decide +kernel
theorem dX4_moveToRow_140 : decode cX4_moveToRow 140 = .ok (.getfield 76, 3) := by decide +kernel
theorem dX4_moveToRow_143 : decode cX4_moveToRow 143 = .ok (.iload_n 2, 1) := by decide +kernel
theorem dX4_moveToRow_144 : decode cX4_moveToRow 144 = .ok (.bipush 6, 2) := by decide +kernel
theorem dX4_moveToRow_146 : decode cX4_moveToRow 146 = .ok (.imul, 1) := by decide +kernel
theorem dX4_moveToRow_147 : decode cX4_moveToRow 147 = .ok (.iload_n 3, 1) := by decide +kernel
theorem dX4_moveToRow_148 : decode cX4_moveToRow 148 = .ok (.iadd, 1) := by decide +kernel
theorem dX4_moveToRow_149 : decode cX4_moveToRow 149 = .ok (.iload 7, 2) := by decide +kernel
theorem dX4_moveToRow_151 : decode cX4_moveToRow 151 = .ok (.ifCond .le 11, 3) := by decide +kernel
theorem dX4_moveToRow_154 : decode cX4_moveToRow 154 = .ok (.iload 10, 2) := by decide +kernel
theorem dX4_moveToRow_156 : decode cX4_moveToRow 156 = .ok (.iload 8, 2) := by decide +kernel
theorem dX4_moveToRow_158 : decode cX4_moveToRow 158 = .ok (.ior, 1) := by decide +kernel
theorem dX4_moveToRow_159 : decode cX4_moveToRow 159 = .ok (.goto 5, 3) := by decide +kernel
theorem dX4_moveToRow_162 : decode cX4_moveToRow 162 = .ok (.iload 11, 2) := by decide +kernel
theorem dX4_moveToRow_164 : decode cX4_moveToRow 164 = .ok (.iastore, 1) := by decide +kernel
theorem dX4_moveToRow_165 : decode cX4_moveToRow 165 = .ok (.iload 8, 2) := by decide +kernel
theorem dX4_moveToRow_167 : decode cX4_moveToRow 167 = .ok (.ifCond .eq 34, 3) := by decide +kernel
theorem dX4_moveToRow_170 : decode cX4_moveToRow 170 = .ok (.aload_n 1, 1) := by decide +kernel
theorem dX4_moveToRow_171 : decode cX4_moveToRow 171 = .ok (.getfield 123, 3) := by decide +kernel
theorem dX4_moveToRow_174 : decode cX4_moveToRow 174 = .ok (.getfield 127, 3) := by decide +kernel
theorem dX4_moveToRow_177 : decode cX4_moveToRow 177 = .ok (.iconst 3, 1) := by decide +kernel
theorem dX4_moveToRow_178 : decode cX4_moveToRow 178 = .ok (.dup2, 1) := by decide +kernel
theorem dX4_moveToRow_179 : decode cX4_moveToRow 179 = .ok (.iaload, 1) := by decide +kernel
theorem dX4_moveToRow_180 : decode cX4_moveToRow 180 = .ok (.iload 8, 2) := by decide +kernel
theorem dX4_moveToRow_182 : decode cX4_moveToRow 182 = .ok (.invokestatic 172, 3) := by decide +kernel
theorem dX4_moveToRow_185 : decode cX4_moveToRow 185 = .ok (.iadd, 1) := by decide +kernel
theorem dX4_moveToRow_186 : decode cX4_moveToRow 186 = .ok (.iastore, 1) := by decide +kernel
theorem dX4_moveToRow_187 : decode cX4_moveToRow 187 = .ok (.aload_n 1, 1) := by decide +kernel
theorem dX4_moveToRow_188 : decode cX4_moveToRow 188 = .ok (.getfield 123, 3) := by decide +kernel
theorem dX4_moveToRow_191 : decode cX4_moveToRow 191 = .ok (.iconst 4, 1) := by decide +kernel
theorem dX4_moveToRow_192 : decode cX4_moveToRow 192 = .ok (.iload_n 3, 1) := by decide +kernel
theorem dX4_moveToRow_193 : decode cX4_moveToRow 193 = .ok (.iload 8, 2) := by decide +kernel
theorem dX4_moveToRow_195 : decode cX4_moveToRow 195 = .ok (.invokestatic 172, 3) := by decide +kernel
theorem dX4_moveToRow_198 : decode cX4_moveToRow 198 = .ok (.invokevirtual 130, 3) := by decide +kernel
theorem dX4_moveToRow_201 : decode cX4_moveToRow 201 = .ok (.iload 9, 2) := by decide +kernel
theorem dX4_moveToRow_203 : decode cX4_moveToRow 203 = .ok (.ifCond .eq 36, 3) := by decide +kernel
theorem dX4_moveToRow_206 : decode cX4_moveToRow 206 = .ok (.aload 5, 2) := by decide +kernel
theorem dX4_moveToRow_208 : decode cX4_moveToRow 208 = .ok (.getfield 55, 3) := by decide +kernel
theorem dX4_moveToRow_211 : decode cX4_moveToRow 211 = .ok (.iload_n 2, 1) := by decide +kernel
theorem dX4_moveToRow_212 : decode cX4_moveToRow 212 = .ok (.bipush 6, 2) := by decide +kernel
theorem dX4_moveToRow_214 : decode cX4_moveToRow 214 = .ok (.imul, 1) := by decide +kernel
theorem dX4_moveToRow_215 : decode cX4_moveToRow 215 = .ok (.getstatic 85, 3) := by decide +kernel
theorem dX4_moveToRow_218 : decode cX4_moveToRow 218 = .ok (.iload_n 3, 1) := by decide +kernel
theorem dX4_moveToRow_219 : decode cX4_moveToRow 219 = .ok (.iaload, 1) := by decide +kernel
theorem dX4_moveToRow_220 : decode cX4_moveToRow 220 = .ok (.iadd, 1) := by decide +kernel
theorem dX4_moveToRow_221 : decode cX4_moveToRow 221 = .ok (.dup2, 1) := by decide +kernel
theorem dX4_moveToRow_222 : decode cX4_moveToRow 222 = .ok (.iaload, 1) := by decide +kernel
theorem dX4_moveToRow_223 : decode cX4_moveToRow 223 = .ok (.iload 9, 2) := by decide +kernel
theorem dX4_moveToRow_225 : decode cX4_moveToRow 225 = .ok (.ior, 1) := by decide +kernel
theorem dX4_moveToRow_226 : decode cX4_moveToRow 226 = .ok (.iastore, 1) := by decide +kernel
theorem dX4_moveToRow_227 : decode cX4_moveToRow 227 = .ok (.aload_n 0, 1) := by decide +kernel
theorem dX4_moveToRow_228 : decode cX4_moveToRow 228 = .ok (.aload_n 1, 1) := by decide +kernel
theorem dX4_moveToRow_229 : decode cX4_moveToRow 229 = .ok (.iload 9, 2) := by decide +kernel
theorem dX4_moveToRow_231 : decode cX4_moveToRow 231 = .ok (.iload_n 3, 1) := by decide +kernel
theorem dX4_moveToRow_232 : decode cX4_moveToRow 232 = .ok (.iload 4, 2) := by decide +kernel
theorem dX4_moveToRow_234 : decode cX4_moveToRow 234 = .ok (.iload 7, 2) := by decide +kernel
theorem dX4_moveToRow_236 : decode cX4_moveToRow 236 = .ok (.invokevirtual 194, 3) := by decide +kernel
theorem dX4_moveToRow_239 : decode cX4_moveToRow 239 = .ok (.return_, 1) := by decide +kernel
def f_X4_moveToRow : MX := mth 12 (sQ (sQ (sTa 5 (eGa (eLa 1) 6 0)) (sQ (sTi 6 (eAi 0 (eGa (eLa 0) 4 0) (eOp o_iadd (eOp o_imul (eLi 2) (eI (6))) (eLi 3)))) (sQ (sTi 7 (eIf (cZ z_eq (eOp o_iand (eLi 2) (eI (1)))) (eAi 0 (eZ 5) (eLi 3)) (eAi 0 (eZ 6) (eLi 3)))) (sQ (sTi 8 (eIf (cZ z_ne (eM (gd 6 f_X6_isRing) (aA (aN) (eLa 1)))) (eI (0)) (eOp o_iand (eLi 6) (eM (gd 1 f_X1_endColumn) (aI (aA (aN) (eLa 5)) (eLi 7)))))) (sQ (sTi 9 (eOp o_iand (eLi 6) (eM (gd 1 f_X1_stepped) (aI (aI (aI (aA (aN) (eLa 5)) (eM (gd 1 f_X1_solidColumns) (aI (aA (aN) (eLa 5)) (eLi 4)))) (eU o_ineg (eLi 7))) (eM (gd 6 f_X6_isRing) (aA (aN) (eLa 1))))))) (sQ (sTi 10 (eOp o_iand (eOp o_iand (eLi 6) (eOp o_ixor (eLi 8) (eI (-1)))) (eOp o_ixor (eLi 9) (eI (-1))))) (sQ (sTi 11 (eM (gd 1 f_X1_stepped) (aI (aI (aI (aA (aN) (eLa 5)) (eLi 10)) (eLi 7)) (eM (gd 6 f_X6_isRing) (aA (aN) (eLa 1)))))) (sQ (sAo (eGa (eLa 5) 1 3) (eOp o_iadd (eOp o_imul (eLi 4) (eI (6))) (eLi 3)) o_ior (eLi 11)) (sQ (sIf (cZ z_ne (eLi 7)) (sAi 0 (eGa (eLa 1) 6 9) (eOp o_iadd (eOp o_imul (eLi 2) (eI (6))) (eLi 3)) (eIf (cZ z_gt (eLi 7)) (eOp o_ior (eLi 10) (eLi 8)) (eLi 11))) sN) (sQ (sIf (cZ z_ne (eLi 8)) (sQ (sAo (eGa (eGa (eLa 1) 6 3) 0 0) (eI (3)) o_iadd (eM (f_J6_bitCount_0f7a4) (aI (aN) (eLi 8)))) (sM (gd 0 f_X0_credit) (aI (aI (aI (aA (aN) (eGa (eLa 1) 6 3)) (eI (4))) (eLi 3)) (eM (f_J6_bitCount_0f7a4) (aI (aN) (eLi 8)))))) sN) (sIf (cZ z_ne (eLi 9)) (sQ (sAo (eGa (eLa 5) 1 3) (eOp o_iadd (eOp o_imul (eLi 2) (eI (6))) (eAi 0 (eZ 2) (eLi 3))) o_ior (eLi 9)) (sM (gd 4 f_X4_giveToBodies) (aI (aI (aI (aI (aA (aA (aN) (eLa 0)) (eLa 1)) (eLi 9)) (eLi 3)) (eLi 4)) (eLi 7)))) sN))))))))))) (sRv))
theorem Y_X4_moveToRow : Yk yX4_moveToRow cX4_moveToRow 12 none 4 := ⟨w873, w7, by decide +kernel, by decide +kernel, by decide +kernel⟩
set_option maxRecDepth 20000 in
theorem k_X4_moveToRow (l : Launch) (g : GE) : MetX l g yX4_moveToRow cX4_moveToRow 12 none 5 ({ frames := 2, cells := 0, slots := 0, locals := 53 } : Room) f_X4_moveToRow := by
  unfold f_X4_moveToRow
  exact MetX.of (own := RX4) 100 0 rfl (by decide +kernel) (by decide) (fun p e s m args below meth c Fin ad0 hr hn => ⟨_, _, Sv_seq (Sv_seq (Sv_astore (Ev_getA Fx6 (Ev_aload_n dX4_moveToRow_0 rfl) (k := 0) (by decide) w123 dX4_moveToRow_1) dX4_moveToRow_4 (Nat.le_of_ble_eq_true rfl) (Nat.ne_of_beq_eq_false rfl)) (Sv_seq (Sv_istore (Ev_iaload (Ev_getA Fx4 (Ev_aload_n dX4_moveToRow_6 rfl) (k := 0) (by decide) w177 dX4_moveToRow_7) (Ev_iadd (Ev_imul (Ev_iload_n dX4_moveToRow_10 rfl) (Ev_bipush dX4_moveToRow_11 (by decide)) dX4_moveToRow_13) (Ev_iload_n dX4_moveToRow_14 rfl) dX4_moveToRow_15) dX4_moveToRow_16) dX4_moveToRow_17 (Nat.le_of_ble_eq_true rfl) (Nat.ne_of_beq_eq_false rfl)) (Sv_seq (Sv_istore (Ev_if (pT := 38) (Cv_if_ne_n (Ev_iand (Ev_iload_n dX4_moveToRow_19 rfl) (Ev_iconst dX4_moveToRow_20 (by decide)) dX4_moveToRow_21) (t := 33) dX4_moveToRow_22 (by decide)) (Ev_iaload (Ev_getsN (q := ("COLUMN_STEP_IN_EVEN_ROW", 5)) (by decide) w874 dX4_moveToRow_25) (Ev_iload_n dX4_moveToRow_28 rfl) dX4_moveToRow_29) dX4_moveToRow_30 (by decide) (Ev_iaload (Ev_getsN (q := ("COLUMN_STEP_IN_ODD_ROW", 6)) (by decide) w876 dX4_moveToRow_33) (Ev_iload_n dX4_moveToRow_36 rfl) dX4_moveToRow_37)) dX4_moveToRow_38 (Nat.le_of_ble_eq_true rfl) (Nat.ne_of_beq_eq_false rfl)) (Sv_seq (Sv_istore (Ev_if (pT := 61) (Cv_if_eq_n (Ev_call (Av_a (Av_nil) (Ev_aload_n dX4_moveToRow_40 rfl)) (Rn_V (ci := 6) Fx6.1 rfl Y_X6_isRing (k_X6_isRing _ _) w878 w430 w431 dX4_moveToRow_41 (Nat.le_of_ble_eq_true rfl) (Nat.le_of_ble_eq_true rfl) (Nat.le_of_ble_eq_true rfl) (Nat.ne_of_beq_eq_false rfl))) (t := 51) dX4_moveToRow_44 (by decide)) (Ev_iconst dX4_moveToRow_47 (by decide)) dX4_moveToRow_48 (by decide) (Ev_iand (Ev_iload dX4_moveToRow_51) (Ev_call (Av_i (Av_a (Av_nil) (Ev_aload dX4_moveToRow_53)) (Ev_iload dX4_moveToRow_55)) (Rn_V (ci := 1) Fx1.1 rfl Y_X1_endColumn (k_X1_endColumn _ _) w879 w880 w881 dX4_moveToRow_57 (Nat.le_of_ble_eq_true rfl) (Nat.le_of_ble_eq_true rfl) (Nat.le_of_ble_eq_true rfl) (Nat.ne_of_beq_eq_false rfl))) dX4_moveToRow_60)) dX4_moveToRow_61 (Nat.le_of_ble_eq_true rfl) (Nat.ne_of_beq_eq_false rfl)) (Sv_seq (Sv_istore (Ev_iand (Ev_iload dX4_moveToRow_63) (Ev_call (Av_i (Av_i (Av_i (Av_a (Av_nil) (Ev_aload dX4_moveToRow_65)) (Ev_call (Av_i (Av_a (Av_nil) (Ev_aload dX4_moveToRow_67)) (Ev_iload dX4_moveToRow_69)) (Rn_V (ci := 1) Fx1.1 rfl Y_X1_solidColumns (k_X1_solidColumns _ _) w829 w618 w619 dX4_moveToRow_71 (Nat.le_of_ble_eq_true rfl) (Nat.le_of_ble_eq_true rfl) (Nat.le_of_ble_eq_true rfl) (Nat.ne_of_beq_eq_false rfl)))) (Ev_ineg (Ev_iload dX4_moveToRow_74) dX4_moveToRow_76)) (Ev_call (Av_a (Av_nil) (Ev_aload_n dX4_moveToRow_77 rfl)) (Rn_V (ci := 6) Fx6.1 rfl Y_X6_isRing (k_X6_isRing _ _) w878 w430 w431 dX4_moveToRow_78 (Nat.le_of_ble_eq_true rfl) (Nat.le_of_ble_eq_true rfl) (Nat.le_of_ble_eq_true rfl) (Nat.ne_of_beq_eq_false rfl)))) (Rn_V (ci := 1) Fx1.1 rfl Y_X1_stepped (k_X1_stepped _ _) w883 w884 w885 dX4_moveToRow_81 (Nat.le_of_ble_eq_true rfl) (Nat.le_of_ble_eq_true rfl) (Nat.le_of_ble_eq_true rfl) (Nat.ne_of_beq_eq_false rfl))) dX4_moveToRow_84) dX4_moveToRow_85 (Nat.le_of_ble_eq_true rfl) (Nat.ne_of_beq_eq_false rfl)) (Sv_seq (Sv_istore (Ev_iand (Ev_iand (Ev_iload dX4_moveToRow_87) (Ev_ixor (Ev_iload dX4_moveToRow_89) (Ev_iconst dX4_moveToRow_91 (by decide)) dX4_moveToRow_92) dX4_moveToRow_93) (Ev_ixor (Ev_iload dX4_moveToRow_94) (Ev_iconst dX4_moveToRow_96 (by decide)) dX4_moveToRow_97) dX4_moveToRow_98) dX4_moveToRow_99 (Nat.le_of_ble_eq_true rfl) (Nat.ne_of_beq_eq_false rfl)) (Sv_seq (Sv_istore (Ev_call (Av_i (Av_i (Av_i (Av_a (Av_nil) (Ev_aload dX4_moveToRow_101)) (Ev_iload dX4_moveToRow_103)) (Ev_iload dX4_moveToRow_105)) (Ev_call (Av_a (Av_nil) (Ev_aload_n dX4_moveToRow_107 rfl)) (Rn_V (ci := 6) Fx6.1 rfl Y_X6_isRing (k_X6_isRing _ _) w878 w430 w431 dX4_moveToRow_108 (Nat.le_of_ble_eq_true rfl) (Nat.le_of_ble_eq_true rfl) (Nat.le_of_ble_eq_true rfl) (Nat.ne_of_beq_eq_false rfl)))) (Rn_V (ci := 1) Fx1.1 rfl Y_X1_stepped (k_X1_stepped _ _) w883 w884 w885 dX4_moveToRow_111 (Nat.le_of_ble_eq_true rfl) (Nat.le_of_ble_eq_true rfl) (Nat.le_of_ble_eq_true rfl) (Nat.ne_of_beq_eq_false rfl))) dX4_moveToRow_114 (Nat.le_of_ble_eq_true rfl) (Nat.ne_of_beq_eq_false rfl)) (Sv_seq (Sv_aop_ior (Ev_getA Fx1 (Ev_aload dX4_moveToRow_116) (k := 3) (by decide) w52 dX4_moveToRow_118) (Ev_iadd (Ev_imul (Ev_iload dX4_moveToRow_121) (Ev_bipush dX4_moveToRow_123 (by decide)) dX4_moveToRow_125) (Ev_iload_n dX4_moveToRow_126 rfl) dX4_moveToRow_127) dX4_moveToRow_128 dX4_moveToRow_129 (Ev_iload dX4_moveToRow_130) dX4_moveToRow_132 dX4_moveToRow_133) (Sv_seq (Sv_if (Cv_if_eq_n (Ev_iload dX4_moveToRow_134) (t := 165) dX4_moveToRow_136 (by decide)) (Sv_iastore (Ev_getA Fx6 (Ev_aload_n dX4_moveToRow_139 rfl) (k := 9) (by decide) w149 dX4_moveToRow_140) (Ev_iadd (Ev_imul (Ev_iload_n dX4_moveToRow_143 rfl) (Ev_bipush dX4_moveToRow_144 (by decide)) dX4_moveToRow_146) (Ev_iload_n dX4_moveToRow_147 rfl) dX4_moveToRow_148) (Ev_if (pT := 164) (Cv_if_le_n (Ev_iload dX4_moveToRow_149) (t := 162) dX4_moveToRow_151 (by decide)) (Ev_ior (Ev_iload dX4_moveToRow_154) (Ev_iload dX4_moveToRow_156) dX4_moveToRow_158) dX4_moveToRow_159 (by decide) (Ev_iload dX4_moveToRow_162)) dX4_moveToRow_164) Sv_nop) (Sv_seq (Sv_if (Cv_if_eq_n (Ev_iload dX4_moveToRow_165) (t := 201) dX4_moveToRow_167 (by decide)) (Sv_seq (Sv_aop_iadd (Ev_getA Fx0 (Ev_getA Fx6 (Ev_aload_n dX4_moveToRow_170 rfl) (k := 3) (by decide) w132 dX4_moveToRow_171) (k := 0) (by decide) w111 dX4_moveToRow_174) (Ev_iconst dX4_moveToRow_177 (by decide)) dX4_moveToRow_178 dX4_moveToRow_179 (Ev_call (Av_i (Av_nil) (Ev_iload dX4_moveToRow_180)) (Rn_S Y_J6_bitCount_0f7a4 (k_J6_bitCount_0f7a4 _ _) w869 w361 dX4_moveToRow_182 (Nat.le_of_ble_eq_true rfl) (Nat.le_of_ble_eq_true rfl) (Nat.le_of_ble_eq_true rfl) (Nat.ne_of_beq_eq_false rfl))) dX4_moveToRow_185 dX4_moveToRow_186) (Sv_call (Av_i (Av_i (Av_i (Av_a (Av_nil) (Ev_getA Fx6 (Ev_aload_n dX4_moveToRow_187 rfl) (k := 3) (by decide) w132 dX4_moveToRow_188)) (Ev_iconst dX4_moveToRow_191 (by decide))) (Ev_iload_n dX4_moveToRow_192 rfl)) (Ev_call (Av_i (Av_nil) (Ev_iload dX4_moveToRow_193)) (Rn_S Y_J6_bitCount_0f7a4 (k_J6_bitCount_0f7a4 _ _) w869 w361 dX4_moveToRow_195 (Nat.le_of_ble_eq_true rfl) (Nat.le_of_ble_eq_true rfl) (Nat.le_of_ble_eq_true rfl) (Nat.ne_of_beq_eq_false rfl)))) (Rn_V (ci := 0) Fx0.1 rfl Y_X0_credit (k_X0_credit _ _) w830 w710 w711 dX4_moveToRow_198 (Nat.le_of_ble_eq_true rfl) (Nat.le_of_ble_eq_true rfl) (Nat.le_of_ble_eq_true rfl) (Nat.ne_of_beq_eq_false rfl)))) Sv_nop) (Sv_if (Cv_if_eq_n (Ev_iload dX4_moveToRow_201) (t := 239) dX4_moveToRow_203 (by decide)) (Sv_seq (Sv_aop_ior (Ev_getA Fx1 (Ev_aload dX4_moveToRow_206) (k := 3) (by decide) w52 dX4_moveToRow_208) (Ev_iadd (Ev_imul (Ev_iload_n dX4_moveToRow_211 rfl) (Ev_bipush dX4_moveToRow_212 (by decide)) dX4_moveToRow_214) (Ev_iaload (Ev_getsN (q := ("OPPOSITE", 2)) (by decide) w866 dX4_moveToRow_215) (Ev_iload_n dX4_moveToRow_218 rfl) dX4_moveToRow_219) dX4_moveToRow_220) dX4_moveToRow_221 dX4_moveToRow_222 (Ev_iload dX4_moveToRow_223) dX4_moveToRow_225 dX4_moveToRow_226) (Sv_call (Av_i (Av_i (Av_i (Av_i (Av_a (Av_a (Av_nil) (Ev_aload_n dX4_moveToRow_227 rfl)) (Ev_aload_n dX4_moveToRow_228 rfl)) (Ev_iload dX4_moveToRow_229)) (Ev_iload_n dX4_moveToRow_231 rfl)) (Ev_iload dX4_moveToRow_232)) (Ev_iload dX4_moveToRow_234)) (Rn_V (ci := 4) Fx4.1 rfl Y_X4_giveToBodies (k_X4_giveToBodies _ _) w887 w889 wp20 dX4_moveToRow_236 (Nat.le_of_ble_eq_true rfl) (Nat.le_of_ble_eq_true rfl) (Nat.le_of_ble_eq_true rfl) (Nat.ne_of_beq_eq_false rfl)))) Sv_nop))))))))))) (Sv_retv hr dX4_moveToRow_239), Nat.le_of_ble_eq_true rfl, Nat.le_of_ble_eq_true rfl⟩)
theorem dX4_moveReady_0 : decode cX4_moveReady 0 = .ok (.aload_n 1, 1) := by decide +kernel
theorem dX4_moveReady_1 : decode cX4_moveReady 1 = .ok (.getfield 51, 3) := by decide +kernel
theorem dX4_moveReady_4 : decode cX4_moveReady 4 = .ok (.getfield 55, 3) := by decide +kernel
theorem dX4_moveReady_7 : decode cX4_moveReady 7 = .ok (.iconst 0, 1) := by decide +kernel
theorem dX4_moveReady_8 : decode cX4_moveReady 8 = .ok (.invokestatic 79, 3) := by decide +kernel
theorem dX4_moveReady_11 : decode cX4_moveReady 11 = .ok (.aload_n 1, 1) := by decide +kernel
theorem dX4_moveReady_12 : decode cX4_moveReady 12 = .ok (.getfield 76, 3) := by decide +kernel
theorem dX4_moveReady_15 : decode cX4_moveReady 15 = .ok (.iconst 0, 1) := by decide +kernel
theorem dX4_moveReady_16 : decode cX4_moveReady 16 = .ok (.invokestatic 79, 3) := by decide +kernel
theorem dX4_moveReady_19 : decode cX4_moveReady 19 = .ok (.aload_n 0, 1) := by decide +kernel
theorem dX4_moveReady_20 : decode cX4_moveReady 20 = .ok (.getfield 15, 3) := by decide +kernel
theorem dX4_moveReady_23 : decode cX4_moveReady 23 = .ok (.iconst 0, 1) := by decide +kernel
theorem dX4_moveReady_24 : decode cX4_moveReady 24 = .ok (.invokestatic 79, 3) := by decide +kernel
theorem dX4_moveReady_27 : decode cX4_moveReady 27 = .ok (.aload_n 0, 1) := by decide +kernel
theorem dX4_moveReady_28 : decode cX4_moveReady 28 = .ok (.getfield 18, 3) := by decide +kernel
theorem dX4_moveReady_31 : decode cX4_moveReady 31 = .ok (.iconst 0, 1) := by decide +kernel
theorem dX4_moveReady_32 : decode cX4_moveReady 32 = .ok (.invokestatic 79, 3) := by decide +kernel
theorem dX4_moveReady_35 : decode cX4_moveReady 35 = .ok (.aload_n 1, 1) := by decide +kernel
theorem dX4_moveReady_36 : decode cX4_moveReady 36 = .ok (.getfield 51, 3) := by decide +kernel
theorem dX4_moveReady_39 : decode cX4_moveReady 39 = .ok (.getfield 141, 3) := by decide +kernel
theorem dX4_moveReady_42 : decode cX4_moveReady 42 = .ok (.istore_n 2, 1) := by decide +kernel
theorem dX4_moveReady_43 : decode cX4_moveReady 43 = .ok (.iconst 0, 1) := by decide +kernel
theorem dX4_moveReady_44 : decode cX4_moveReady 44 = .ok (.istore_n 3, 1) := by decide +kernel
theorem dX4_moveReady_45 : decode cX4_moveReady 45 = .ok (.iload_n 3, 1) := by decide +kernel
theorem dX4_moveReady_46 : decode cX4_moveReady 46 = .ok (.iload_n 2, 1) := by decide +kernel
theorem dX4_moveReady_47 : decode cX4_moveReady 47 = .ok (.if_icmp .ge 82, 3) := by decide +kernel
theorem dX4_moveReady_50 : decode cX4_moveReady 50 = .ok (.iconst 0, 1) := by decide +kernel
theorem dX4_moveReady_51 : decode cX4_moveReady 51 = .ok (.istore 4, 2) := by decide +kernel
theorem dX4_moveReady_53 : decode cX4_moveReady 53 = .ok (.iload 4, 2) := by decide +kernel
theorem dX4_moveReady_55 : decode cX4_moveReady 55 = .ok (.bipush 6, 2) := by decide +kernel
theorem dX4_moveReady_57 : decode cX4_moveReady 57 = .ok (.if_icmp .ge 66, 3) := by decide +kernel
theorem dX4_moveReady_60 : decode cX4_moveReady 60 = .ok (.iload_n 3, 1) := by decide +kernel
theorem dX4_moveReady_61 : decode cX4_moveReady 61 = .ok (.getstatic 153, 3) := by decide +kernel
theorem dX4_moveReady_64 : decode cX4_moveReady 64 = .ok (.iload 4, 2) := by decide +kernel
theorem dX4_moveReady_66 : decode cX4_moveReady 66 = .ok (.iaload, 1) := by decide +kernel
theorem dX4_moveReady_67 : decode cX4_moveReady 67 = .ok (.iadd, 1) := by decide +kernel
theorem dX4_moveReady_68 : decode cX4_moveReady 68 = .ok (.istore 5, 2) := by decide +kernel
theorem dX4_moveReady_70 : decode cX4_moveReady 70 = .ok (.aload_n 0, 1) := by decide +kernel
theorem dX4_moveReady_71 : decode cX4_moveReady 71 = .ok (.getfield 9, 3) := by decide +kernel
theorem dX4_moveReady_74 : decode cX4_moveReady 74 = .ok (.iload_n 3, 1) := by decide +kernel
theorem dX4_moveReady_75 : decode cX4_moveReady 75 = .ok (.bipush 6, 2) := by decide +kernel
theorem dX4_moveReady_77 : decode cX4_moveReady 77 = .ok (.imul, 1) := by decide +kernel
theorem dX4_moveReady_78 : decode cX4_moveReady 78 = .ok (.iload 4, 2) := by decide +kernel
theorem dX4_moveReady_80 : decode cX4_moveReady 80 = .ok (.iadd, 1) := by decide +kernel
theorem dX4_moveReady_81 : decode cX4_moveReady 81 = .ok (.iaload, 1) := by decide +kernel
theorem dX4_moveReady_82 : decode cX4_moveReady 82 = .ok (.ifCond .eq 35, 3) := by decide +kernel
theorem dX4_moveReady_85 : decode cX4_moveReady 85 = .ok (.iload 5, 2) := by decide +kernel
theorem dX4_moveReady_87 : decode cX4_moveReady 87 = .ok (.ifCond .lt 9, 3) := by decide +kernel
theorem dX4_moveReady_90 : decode cX4_moveReady 90 = .ok (.iload 5, 2) := by decide +kernel
theorem dX4_moveReady_92 : decode cX4_moveReady 92 = .ok (.iload_n 2, 1) := by decide +kernel
theorem dX4_moveReady_93 : decode cX4_moveReady 93 = .ok (.if_icmp .lt 14, 3) := by decide +kernel
theorem dX4_moveReady_96 : decode cX4_moveReady 96 = .ok (.aload_n 0, 1) := by decide +kernel
theorem dX4_moveReady_97 : decode cX4_moveReady 97 = .ok (.aload_n 1, 1) := by decide +kernel
theorem dX4_moveReady_98 : decode cX4_moveReady 98 = .ok (.iload_n 3, 1) := by decide +kernel
theorem dX4_moveReady_99 : decode cX4_moveReady 99 = .ok (.iload 4, 2) := by decide +kernel
theorem dX4_moveReady_101 : decode cX4_moveReady 101 = .ok (.invokevirtual 156, 3) := by decide +kernel
theorem dX4_moveReady_104 : decode cX4_moveReady 104 = .ok (.goto 13, 3) := by decide +kernel
theorem dX4_moveReady_107 : decode cX4_moveReady 107 = .ok (.aload_n 0, 1) := by decide +kernel
theorem dX4_moveReady_108 : decode cX4_moveReady 108 = .ok (.aload_n 1, 1) := by decide +kernel
theorem dX4_moveReady_109 : decode cX4_moveReady 109 = .ok (.iload_n 3, 1) := by decide +kernel
theorem dX4_moveReady_110 : decode cX4_moveReady 110 = .ok (.iload 4, 2) := by decide +kernel
theorem dX4_moveReady_112 : decode cX4_moveReady 112 = .ok (.iload 5, 2) := by decide +kernel
theorem dX4_moveReady_114 : decode cX4_moveReady 114 = .ok (.invokevirtual 160, 3) := by decide +kernel
theorem dX4_moveReady_117 : decode cX4_moveReady 117 = .ok (.iinc 4 1, 3) := by decide +kernel
theorem dX4_moveReady_120 : decode cX4_moveReady 120 = .ok (.goto (-67), 3) := by decide +kernel
theorem dX4_moveReady_123 : decode cX4_moveReady 123 = .ok (.iinc 3 1, 3) := by decide +kernel
theorem dX4_moveReady_126 : decode cX4_moveReady 126 = .ok (.goto (-81), 3) := by decide +kernel
theorem dX4_moveReady_129 : decode cX4_moveReady 129 = .ok (.return_, 1) := by decide +kernel
def f_X4_moveReady : MX := mth 6 (sQ (sQ (sM (f_J7_fill_53178) (aI (aA (aN) (eGa (eGa (eLa 1) 6 0) 1 3)) (eI (0)))) (sQ (sM (f_J7_fill_53178) (aI (aA (aN) (eGa (eLa 1) 6 9)) (eI (0)))) (sQ (sM (f_J7_fill_53178) (aI (aA (aN) (eGa (eLa 0) 4 1)) (eI (0)))) (sQ (sM (f_J7_fill_53178) (aI (aA (aN) (eGa (eLa 0) 4 2)) (eI (0)))) (sQ (sTi 2 (eGi (eGa (eLa 1) 6 0) 1 1)) (sQ (sTi 3 (eI (0))) (sLp (cB c_lt (eLi 3) (eLi 2)) (sQ (sQ (sTi 4 (eI (0))) (sLp (cB c_lt (eLi 4) (eI (6))) (sQ (sQ (sTi 5 (eOp o_iadd (eLi 3) (eAi 0 (eZ 4) (eLi 4)))) (sIf (cZ z_ne (eAi 0 (eGa (eLa 0) 4 0) (eOp o_iadd (eOp o_imul (eLi 3) (eI (6))) (eLi 4)))) (sIf (cOr (cZ z_lt (eLi 5)) (cB c_ge (eLi 5) (eLi 2))) (sM (gd 4 f_X4_bounceOffWall) (aI (aI (aA (aA (aN) (eLa 0)) (eLa 1)) (eLi 3)) (eLi 4))) (sM (gd 4 f_X4_moveToRow) (aI (aI (aI (aA (aA (aN) (eLa 0)) (eLa 1)) (eLi 3)) (eLi 4)) (eLi 5)))) sN)) (sInc 4 (1))) NF)) (sInc 3 (1))) NF))))))) (sRv))
theorem Y_X4_moveReady : Yk yX4_moveReady cX4_moveReady 6 none 1 := ⟨w856, w7, by decide +kernel, by decide +kernel, by decide +kernel⟩
set_option maxRecDepth 20000 in
theorem k_X4_moveReady (l : Launch) (g : GE) : MetX l g yX4_moveReady cX4_moveReady 6 none 2 ({ frames := 3, cells := 0, slots := 0, locals := 84 } : Room) f_X4_moveReady := by
  unfold f_X4_moveReady
  exact MetX.of (own := RX4) 100 0 rfl (by decide +kernel) (by decide) (fun p e s m args below meth c Fin ad0 hr hn => ⟨_, _, Sv_seq (Sv_seq (Sv_call (Av_i (Av_a (Av_nil) (Ev_getA Fx1 (Ev_getA Fx6 (Ev_aload_n dX4_moveReady_0 rfl) (k := 0) (by decide) w123 dX4_moveReady_1) (k := 3) (by decide) w52 dX4_moveReady_4)) (Ev_iconst dX4_moveReady_7 (by decide))) (Rn_S Y_J7_fill_53178 (k_J7_fill_53178 _ _) w857 w257 dX4_moveReady_8 (Nat.le_of_ble_eq_true rfl) (Nat.le_of_ble_eq_true rfl) (Nat.le_of_ble_eq_true rfl) (Nat.ne_of_beq_eq_false rfl))) (Sv_seq (Sv_call (Av_i (Av_a (Av_nil) (Ev_getA Fx6 (Ev_aload_n dX4_moveReady_11 rfl) (k := 9) (by decide) w149 dX4_moveReady_12)) (Ev_iconst dX4_moveReady_15 (by decide))) (Rn_S Y_J7_fill_53178 (k_J7_fill_53178 _ _) w857 w257 dX4_moveReady_16 (Nat.le_of_ble_eq_true rfl) (Nat.le_of_ble_eq_true rfl) (Nat.le_of_ble_eq_true rfl) (Nat.ne_of_beq_eq_false rfl))) (Sv_seq (Sv_call (Av_i (Av_a (Av_nil) (Ev_getA Fx4 (Ev_aload_n dX4_moveReady_19 rfl) (k := 1) (by decide) w178 dX4_moveReady_20)) (Ev_iconst dX4_moveReady_23 (by decide))) (Rn_S Y_J7_fill_53178 (k_J7_fill_53178 _ _) w857 w257 dX4_moveReady_24 (Nat.le_of_ble_eq_true rfl) (Nat.le_of_ble_eq_true rfl) (Nat.le_of_ble_eq_true rfl) (Nat.ne_of_beq_eq_false rfl))) (Sv_seq (Sv_call (Av_i (Av_a (Av_nil) (Ev_getA Fx4 (Ev_aload_n dX4_moveReady_27 rfl) (k := 2) (by decide) w179 dX4_moveReady_28)) (Ev_iconst dX4_moveReady_31 (by decide))) (Rn_S Y_J7_fill_53178 (k_J7_fill_53178 _ _) w857 w257 dX4_moveReady_32 (Nat.le_of_ble_eq_true rfl) (Nat.le_of_ble_eq_true rfl) (Nat.le_of_ble_eq_true rfl) (Nat.ne_of_beq_eq_false rfl))) (Sv_seq (Sv_istore_n (Ev_getI Fx1 (Ev_getA Fx6 (Ev_aload_n dX4_moveReady_35 rfl) (k := 0) (by decide) w123 dX4_moveReady_36) (k := 1) (by decide) w48 dX4_moveReady_39) dX4_moveReady_42 rfl (Nat.le_of_ble_eq_true rfl) (Nat.ne_of_beq_eq_false rfl)) (Sv_seq (Sv_istore_n (Ev_iconst dX4_moveReady_43 (by decide)) dX4_moveReady_44 rfl (Nat.le_of_ble_eq_true rfl) (Nat.ne_of_beq_eq_false rfl)) (Sv_loop0 NF (Cv_icmp_ge_n (Ev_iload_n dX4_moveReady_45 rfl) (Ev_iload_n dX4_moveReady_46 rfl) (t := 129) dX4_moveReady_47 (by decide)) (Sv_goto (pE := 45) (Sv_seq (Sv_seq (Sv_istore (Ev_iconst dX4_moveReady_50 (by decide)) dX4_moveReady_51 (Nat.le_of_ble_eq_true rfl) (Nat.ne_of_beq_eq_false rfl)) (Sv_loop0 NF (Cv_icmp_ge_n (Ev_iload dX4_moveReady_53) (Ev_bipush dX4_moveReady_55 (by decide)) (t := 123) dX4_moveReady_57 (by decide)) (Sv_goto (pE := 53) (Sv_seq (Sv_seq (Sv_istore (Ev_iadd (Ev_iload_n dX4_moveReady_60 rfl) (Ev_iaload (Ev_getsN (q := ("ROW_STEP", 4)) (by decide) w858 dX4_moveReady_61) (Ev_iload dX4_moveReady_64) dX4_moveReady_66) dX4_moveReady_67) dX4_moveReady_68 (Nat.le_of_ble_eq_true rfl) (Nat.ne_of_beq_eq_false rfl)) (Sv_if (Cv_if_eq_n (Ev_iaload (Ev_getA Fx4 (Ev_aload_n dX4_moveReady_70 rfl) (k := 0) (by decide) w177 dX4_moveReady_71) (Ev_iadd (Ev_imul (Ev_iload_n dX4_moveReady_74 rfl) (Ev_bipush dX4_moveReady_75 (by decide)) dX4_moveReady_77) (Ev_iload dX4_moveReady_78) dX4_moveReady_80) dX4_moveReady_81) (t := 117) dX4_moveReady_82 (by decide)) (Sv_if (Cv_or (Cv_if_lt_j (Ev_iload dX4_moveReady_85) (t := 96) dX4_moveReady_87 (by decide)) (Cv_icmp_lt_n (Ev_iload dX4_moveReady_90) (Ev_iload_n dX4_moveReady_92 rfl) (t := 107) dX4_moveReady_93 (by decide))) (Sv_goto (pE := 117) (Sv_call (Av_i (Av_i (Av_a (Av_a (Av_nil) (Ev_aload_n dX4_moveReady_96 rfl)) (Ev_aload_n dX4_moveReady_97 rfl)) (Ev_iload_n dX4_moveReady_98 rfl)) (Ev_iload dX4_moveReady_99)) (Rn_V (ci := 4) Fx4.1 rfl Y_X4_bounceOffWall (k_X4_bounceOffWall _ _) w860 w862 wp18 dX4_moveReady_101 (Nat.le_of_ble_eq_true rfl) (Nat.le_of_ble_eq_true rfl) (Nat.le_of_ble_eq_true rfl) (Nat.ne_of_beq_eq_false rfl))) dX4_moveReady_104 (by decide)) (Sv_call (Av_i (Av_i (Av_i (Av_a (Av_a (Av_nil) (Ev_aload_n dX4_moveReady_107 rfl)) (Ev_aload_n dX4_moveReady_108 rfl)) (Ev_iload_n dX4_moveReady_109 rfl)) (Ev_iload dX4_moveReady_110)) (Ev_iload dX4_moveReady_112)) (Rn_V (ci := 4) Fx4.1 rfl Y_X4_moveToRow (k_X4_moveToRow _ _) w870 w872 wp19 dX4_moveReady_114 (Nat.le_of_ble_eq_true rfl) (Nat.le_of_ble_eq_true rfl) (Nat.le_of_ble_eq_true rfl) (Nat.ne_of_beq_eq_false rfl)))) Sv_nop)) (Sv_iinc dX4_moveReady_117 (by decide) (Nat.le_of_ble_eq_true rfl) (Nat.ne_of_beq_eq_false rfl))) dX4_moveReady_120 (by decide)))) (Sv_iinc dX4_moveReady_123 (by decide) (Nat.le_of_ble_eq_true rfl) (Nat.ne_of_beq_eq_false rfl))) dX4_moveReady_126 (by decide))))))))) (Sv_retv hr dX4_moveReady_129), Nat.le_of_ble_eq_true rfl, Nat.le_of_ble_eq_true rfl⟩)
theorem dX4_accountTaken_0 : decode cX4_accountTaken 0 = .ok (.aload_n 1, 1) := by decide +kernel
theorem dX4_accountTaken_1 : decode cX4_accountTaken 1 = .ok (.getfield 123, 3) := by decide +kernel
theorem dX4_accountTaken_4 : decode cX4_accountTaken 4 = .ok (.getfield 207, 3) := by decide +kernel
theorem dX4_accountTaken_7 : decode cX4_accountTaken 7 = .ok (.astore_n 3, 1) := by decide +kernel
theorem dX4_accountTaken_8 : decode cX4_accountTaken 8 = .ok (.iconst 0, 1) := by decide +kernel
theorem dX4_accountTaken_9 : decode cX4_accountTaken 9 = .ok (.istore 4, 2) := by decide +kernel
theorem dX4_accountTaken_11 : decode cX4_accountTaken 11 = .ok (.iload 4, 2) := by decide +kernel
theorem dX4_accountTaken_13 : decode cX4_accountTaken 13 = .ok (.iconst 2, 1) := by decide +kernel
theorem dX4_accountTaken_14 : decode cX4_accountTaken 14 = .ok (.if_icmp .ge 88, 3) := by decide +kernel
theorem dX4_accountTaken_17 : decode cX4_accountTaken 17 = .ok (.aload_n 3, 1) := by decide +kernel
theorem dX4_accountTaken_18 : decode cX4_accountTaken 18 = .ok (.bipush 6, 2) := by decide +kernel
theorem dX4_accountTaken_20 : decode cX4_accountTaken 20 = .ok (.iload 4, 2) := by decide +kernel
theorem dX4_accountTaken_22 : decode cX4_accountTaken 22 = .ok (.iadd, 1) := by decide +kernel
theorem dX4_accountTaken_23 : decode cX4_accountTaken 23 = .ok (.dup2, 1) := by decide +kernel
theorem dX4_accountTaken_24 : decode cX4_accountTaken 24 = .ok (.iaload, 1) := by decide +kernel
theorem dX4_accountTaken_25 : decode cX4_accountTaken 25 = .ok (.iload_n 2, 1) := by decide +kernel
theorem dX4_accountTaken_26 : decode cX4_accountTaken 26 = .ok (.aload_n 0, 1) := by decide +kernel
theorem dX4_accountTaken_27 : decode cX4_accountTaken 27 = .ok (.getfield 18, 3) := by decide +kernel
theorem dX4_accountTaken_30 : decode cX4_accountTaken 30 = .ok (.iload 4, 2) := by decide +kernel
theorem dX4_accountTaken_32 : decode cX4_accountTaken 32 = .ok (.iaload, 1) := by decide +kernel
theorem dX4_accountTaken_33 : decode cX4_accountTaken 33 = .ok (.imul, 1) := by decide +kernel
theorem dX4_accountTaken_34 : decode cX4_accountTaken 34 = .ok (.iadd, 1) := by decide +kernel
theorem dX4_accountTaken_35 : decode cX4_accountTaken 35 = .ok (.iastore, 1) := by decide +kernel
theorem dX4_accountTaken_36 : decode cX4_accountTaken 36 = .ok (.iconst 0, 1) := by decide +kernel
theorem dX4_accountTaken_37 : decode cX4_accountTaken 37 = .ok (.istore 5, 2) := by decide +kernel
theorem dX4_accountTaken_39 : decode cX4_accountTaken 39 = .ok (.iload 5, 2) := by decide +kernel
theorem dX4_accountTaken_41 : decode cX4_accountTaken 41 = .ok (.bipush 6, 2) := by decide +kernel
theorem dX4_accountTaken_43 : decode cX4_accountTaken 43 = .ok (.if_icmp .ge 53, 3) := by decide +kernel
theorem dX4_accountTaken_46 : decode cX4_accountTaken 46 = .ok (.iload_n 2, 1) := by decide +kernel
theorem dX4_accountTaken_47 : decode cX4_accountTaken 47 = .ok (.aload_n 0, 1) := by decide +kernel
theorem dX4_accountTaken_48 : decode cX4_accountTaken 48 = .ok (.getfield 15, 3) := by decide +kernel
theorem dX4_accountTaken_51 : decode cX4_accountTaken 51 = .ok (.iload 5, 2) := by decide +kernel
theorem dX4_accountTaken_53 : decode cX4_accountTaken 53 = .ok (.iconst 2, 1) := by decide +kernel
theorem dX4_accountTaken_54 : decode cX4_accountTaken 54 = .ok (.imul, 1) := by decide +kernel
theorem dX4_accountTaken_55 : decode cX4_accountTaken 55 = .ok (.iload 4, 2) := by decide +kernel
theorem dX4_accountTaken_57 : decode cX4_accountTaken 57 = .ok (.iadd, 1) := by decide +kernel
theorem dX4_accountTaken_58 : decode cX4_accountTaken 58 = .ok (.iaload, 1) := by decide +kernel
theorem dX4_accountTaken_59 : decode cX4_accountTaken 59 = .ok (.imul, 1) := by decide +kernel
theorem dX4_accountTaken_60 : decode cX4_accountTaken 60 = .ok (.istore 6, 2) := by decide +kernel
theorem dX4_accountTaken_62 : decode cX4_accountTaken 62 = .ok (.aload_n 1, 1) := by decide +kernel
theorem dX4_accountTaken_63 : decode cX4_accountTaken 63 = .ok (.getfield 210, 3) := by decide +kernel
theorem dX4_accountTaken_66 : decode cX4_accountTaken 66 = .ok (.iload 5, 2) := by decide +kernel
theorem dX4_accountTaken_68 : decode cX4_accountTaken 68 = .ok (.iconst 2, 1) := by decide +kernel
theorem dX4_accountTaken_69 : decode cX4_accountTaken 69 = .ok (.imul, 1) := by decide +kernel
theorem dX4_accountTaken_70 : decode cX4_accountTaken 70 = .ok (.iload 4, 2) := by decide +kernel
theorem dX4_accountTaken_72 : decode cX4_accountTaken 72 = .ok (.iadd, 1) := by decide +kernel
theorem dX4_accountTaken_73 : decode cX4_accountTaken 73 = .ok (.dup2, 1) := by decide +kernel
theorem dX4_accountTaken_74 : decode cX4_accountTaken 74 = .ok (.iaload, 1) := by decide +kernel
theorem dX4_accountTaken_75 : decode cX4_accountTaken 75 = .ok (.iload 6, 2) := by decide +kernel
theorem dX4_accountTaken_77 : decode cX4_accountTaken 77 = .ok (.iadd, 1) := by decide +kernel
theorem dX4_accountTaken_78 : decode cX4_accountTaken 78 = .ok (.iastore, 1) := by decide +kernel
theorem dX4_accountTaken_79 : decode cX4_accountTaken 79 = .ok (.aload_n 3, 1) := by decide +kernel
theorem dX4_accountTaken_80 : decode cX4_accountTaken 80 = .ok (.iconst 4, 1) := by decide +kernel
theorem dX4_accountTaken_81 : decode cX4_accountTaken 81 = .ok (.iload 4, 2) := by decide +kernel
theorem dX4_accountTaken_83 : decode cX4_accountTaken 83 = .ok (.iadd, 1) := by decide +kernel
theorem dX4_accountTaken_84 : decode cX4_accountTaken 84 = .ok (.dup2, 1) := by decide +kernel
theorem dX4_accountTaken_85 : decode cX4_accountTaken 85 = .ok (.iaload, 1) := by decide +kernel
theorem dX4_accountTaken_86 : decode cX4_accountTaken 86 = .ok (.iload 6, 2) := by decide +kernel
theorem dX4_accountTaken_88 : decode cX4_accountTaken 88 = .ok (.iadd, 1) := by decide +kernel
theorem dX4_accountTaken_89 : decode cX4_accountTaken 89 = .ok (.iastore, 1) := by decide +kernel
theorem dX4_accountTaken_90 : decode cX4_accountTaken 90 = .ok (.iinc 5 1, 3) := by decide +kernel
theorem dX4_accountTaken_93 : decode cX4_accountTaken 93 = .ok (.goto (-54), 3) := by decide +kernel
theorem dX4_accountTaken_96 : decode cX4_accountTaken 96 = .ok (.iinc 4 1, 3) := by decide +kernel
theorem dX4_accountTaken_99 : decode cX4_accountTaken 99 = .ok (.goto (-88), 3) := by decide +kernel
theorem dX4_accountTaken_102 : decode cX4_accountTaken 102 = .ok (.return_, 1) := by decide +kernel
def f_X4_accountTaken : MX := mth 7 (sQ (sQ (sTa 3 (eGa (eGa (eLa 1) 6 3) 0 1)) (sQ (sTi 4 (eI (0))) (sLp (cB c_lt (eLi 4) (eI (2))) (sQ (sQ (sAo (eLa 3) (eOp o_iadd (eI (6)) (eLi 4)) o_iadd (eOp o_imul (eLi 2) (eAi 0 (eGa (eLa 0) 4 2) (eLi 4)))) (sQ (sTi 5 (eI (0))) (sLp (cB c_lt (eLi 5) (eI (6))) (sQ (sQ (sTi 6 (eOp o_imul (eLi 2) (eAi 0 (eGa (eLa 0) 4 1) (eOp o_iadd (eOp o_imul (eLi 5) (eI (2))) (eLi 4))))) (sQ (sAo (eGa (eLa 1) 6 8) (eOp o_iadd (eOp o_imul (eLi 5) (eI (2))) (eLi 4)) o_iadd (eLi 6)) (sAo (eLa 3) (eOp o_iadd (eI (4)) (eLi 4)) o_iadd (eLi 6)))) (sInc 5 (1))) NF))) (sInc 4 (1))) NF))) (sRv))
theorem Y_X4_accountTaken : Yk yX4_accountTaken cX4_accountTaken 7 none 2 := ⟨w896, w7, by decide +kernel, by decide +kernel, by decide +kernel⟩
set_option maxRecDepth 20000 in
theorem k_X4_accountTaken (l : Launch) (g : GE) : MetX l g yX4_accountTaken cX4_accountTaken 7 none 3 ({ frames := 0, cells := 0, slots := 0, locals := 0 } : Room) f_X4_accountTaken := by
  unfold f_X4_accountTaken
  exact MetX.of (own := RX4) 100 0 rfl (by decide +kernel) (by decide) (fun p e s m args below meth c Fin ad0 hr hn => ⟨_, _, Sv_seq (Sv_seq (Sv_astore_n (Ev_getA Fx0 (Ev_getA Fx6 (Ev_aload_n dX4_accountTaken_0 rfl) (k := 3) (by decide) w132 dX4_accountTaken_1) (k := 1) (by decide) w115 dX4_accountTaken_4) dX4_accountTaken_7 rfl (Nat.le_of_ble_eq_true rfl) (Nat.ne_of_beq_eq_false rfl)) (Sv_seq (Sv_istore (Ev_iconst dX4_accountTaken_8 (by decide)) dX4_accountTaken_9 (Nat.le_of_ble_eq_true rfl) (Nat.ne_of_beq_eq_false rfl)) (Sv_loop0 NF (Cv_icmp_ge_n (Ev_iload dX4_accountTaken_11) (Ev_iconst dX4_accountTaken_13 (by decide)) (t := 102) dX4_accountTaken_14 (by decide)) (Sv_goto (pE := 11) (Sv_seq (Sv_seq (Sv_aop_iadd (Ev_aload_n dX4_accountTaken_17 rfl) (Ev_iadd (Ev_bipush dX4_accountTaken_18 (by decide)) (Ev_iload dX4_accountTaken_20) dX4_accountTaken_22) dX4_accountTaken_23 dX4_accountTaken_24 (Ev_imul (Ev_iload_n dX4_accountTaken_25 rfl) (Ev_iaload (Ev_getA Fx4 (Ev_aload_n dX4_accountTaken_26 rfl) (k := 2) (by decide) w179 dX4_accountTaken_27) (Ev_iload dX4_accountTaken_30) dX4_accountTaken_32) dX4_accountTaken_33) dX4_accountTaken_34 dX4_accountTaken_35) (Sv_seq (Sv_istore (Ev_iconst dX4_accountTaken_36 (by decide)) dX4_accountTaken_37 (Nat.le_of_ble_eq_true rfl) (Nat.ne_of_beq_eq_false rfl)) (Sv_loop0 NF (Cv_icmp_ge_n (Ev_iload dX4_accountTaken_39) (Ev_bipush dX4_accountTaken_41 (by decide)) (t := 96) dX4_accountTaken_43 (by decide)) (Sv_goto (pE := 39) (Sv_seq (Sv_seq (Sv_istore (Ev_imul (Ev_iload_n dX4_accountTaken_46 rfl) (Ev_iaload (Ev_getA Fx4 (Ev_aload_n dX4_accountTaken_47 rfl) (k := 1) (by decide) w178 dX4_accountTaken_48) (Ev_iadd (Ev_imul (Ev_iload dX4_accountTaken_51) (Ev_iconst dX4_accountTaken_53 (by decide)) dX4_accountTaken_54) (Ev_iload dX4_accountTaken_55) dX4_accountTaken_57) dX4_accountTaken_58) dX4_accountTaken_59) dX4_accountTaken_60 (Nat.le_of_ble_eq_true rfl) (Nat.ne_of_beq_eq_false rfl)) (Sv_seq (Sv_aop_iadd (Ev_getA Fx6 (Ev_aload_n dX4_accountTaken_62 rfl) (k := 8) (by decide) w146 dX4_accountTaken_63) (Ev_iadd (Ev_imul (Ev_iload dX4_accountTaken_66) (Ev_iconst dX4_accountTaken_68 (by decide)) dX4_accountTaken_69) (Ev_iload dX4_accountTaken_70) dX4_accountTaken_72) dX4_accountTaken_73 dX4_accountTaken_74 (Ev_iload dX4_accountTaken_75) dX4_accountTaken_77 dX4_accountTaken_78) (Sv_aop_iadd (Ev_aload_n dX4_accountTaken_79 rfl) (Ev_iadd (Ev_iconst dX4_accountTaken_80 (by decide)) (Ev_iload dX4_accountTaken_81) dX4_accountTaken_83) dX4_accountTaken_84 dX4_accountTaken_85 (Ev_iload dX4_accountTaken_86) dX4_accountTaken_88 dX4_accountTaken_89))) (Sv_iinc dX4_accountTaken_90 (by decide) (Nat.le_of_ble_eq_true rfl) (Nat.ne_of_beq_eq_false rfl))) dX4_accountTaken_93 (by decide))))) (Sv_iinc dX4_accountTaken_96 (by decide) (Nat.le_of_ble_eq_true rfl) (Nat.ne_of_beq_eq_false rfl))) dX4_accountTaken_99 (by decide))))) (Sv_retv hr dX4_accountTaken_102), Nat.le_of_ble_eq_true rfl, Nat.le_of_ble_eq_true rfl⟩)
theorem dX4_tick_0 : decode cX4_tick 0 = .ok (.aload_n 1, 1) := by decide +kernel
theorem dX4_tick_1 : decode cX4_tick 1 = .ok (.invokestatic 21, 3) := by decide +kernel
theorem dX4_tick_4 : decode cX4_tick 4 = .ok (.aload_n 0, 1) := by decide +kernel
theorem dX4_tick_5 : decode cX4_tick 5 = .ok (.aload_n 1, 1) := by decide +kernel
theorem dX4_tick_6 : decode cX4_tick 6 = .ok (.invokevirtual 25, 3) := by decide +kernel
theorem dX4_tick_9 : decode cX4_tick 9 = .ok (.aload_n 0, 1) := by decide +kernel
theorem dX4_tick_10 : decode cX4_tick 10 = .ok (.aload_n 1, 1) := by decide +kernel
theorem dX4_tick_11 : decode cX4_tick 11 = .ok (.invokevirtual 28, 3) := by decide +kernel
theorem dX4_tick_14 : decode cX4_tick 14 = .ok (.aload_n 0, 1) := by decide +kernel
theorem dX4_tick_15 : decode cX4_tick 15 = .ok (.aload_n 1, 1) := by decide +kernel
theorem dX4_tick_16 : decode cX4_tick 16 = .ok (.iconst 1, 1) := by decide +kernel
theorem dX4_tick_17 : decode cX4_tick 17 = .ok (.invokevirtual 31, 3) := by decide +kernel
theorem dX4_tick_20 : decode cX4_tick 20 = .ok (.aload_n 1, 1) := by decide +kernel
theorem dX4_tick_21 : decode cX4_tick 21 = .ok (.getfield 35, 3) := by decide +kernel
theorem dX4_tick_24 : decode cX4_tick 24 = .ok (.aload_n 0, 1) := by decide +kernel
theorem dX4_tick_25 : decode cX4_tick 25 = .ok (.getfield 15, 3) := by decide +kernel
theorem dX4_tick_28 : decode cX4_tick 28 = .ok (.invokevirtual 41, 3) := by decide +kernel
theorem dX4_tick_31 : decode cX4_tick 31 = .ok (.aload_n 1, 1) := by decide +kernel
theorem dX4_tick_32 : decode cX4_tick 32 = .ok (.dup, 1) := by decide +kernel
theorem dX4_tick_33 : decode cX4_tick 33 = .ok (.getfield 47, 3) := by decide +kernel
theorem dX4_tick_36 : decode cX4_tick 36 = .ok (.iconst 1, 1) := by decide +kernel
theorem dX4_tick_37 : decode cX4_tick 37 = .ok (.iadd, 1) := by decide +kernel
theorem dX4_tick_38 : decode cX4_tick 38 = .ok (.putfield 47, 3) := by decide +kernel
theorem dX4_tick_41 : decode cX4_tick 41 = .ok (.return_, 1) := by decide +kernel
def f_X4_tick : MX := mth 2 (sQ (sQ (sM (f_X4_blowGusts) (aA (aN) (eLa 1))) (sQ (sM (gd 4 f_X4_collide) (aA (aA (aN) (eLa 0)) (eLa 1))) (sQ (sM (gd 4 f_X4_moveReady) (aA (aA (aN) (eLa 0)) (eLa 1))) (sQ (sM (gd 4 f_X4_accountTaken) (aI (aA (aA (aN) (eLa 0)) (eLa 1)) (eI (1)))) (sQ (sM (gd 5 f_X5_add) (aA (aA (aN) (eGa (eLa 1) 6 2)) (eGa (eLa 0) 4 1))) (sPo (eLa 1) 6 7 o_iadd (eI (1)))))))) (sRv))
theorem Y_X4_tick : Yk yX4_tick cX4_tick 2 none 1 := ⟨w815, w7, by decide +kernel, by decide +kernel, by decide +kernel⟩
set_option maxRecDepth 20000 in
theorem k_X4_tick (l : Launch) (g : GE) : MetX l g yX4_tick cX4_tick 2 none 2 ({ frames := 4, cells := 0, slots := 0, locals := 109 } : Room) f_X4_tick := by
  unfold f_X4_tick
  exact MetX.of (own := RX4) 100 0 rfl (by decide +kernel) (by decide) (fun p e s m args below meth c Fin ad0 hr hn => ⟨_, _, Sv_seq (Sv_seq (Sv_call (Av_a (Av_nil) (Ev_aload_n dX4_tick_0 rfl)) (Rn_S Y_X4_blowGusts (k_X4_blowGusts _ _) w816 w817 dX4_tick_1 (Nat.le_of_ble_eq_true rfl) (Nat.le_of_ble_eq_true rfl) (Nat.le_of_ble_eq_true rfl) (Nat.ne_of_beq_eq_false rfl))) (Sv_seq (Sv_call (Av_a (Av_a (Av_nil) (Ev_aload_n dX4_tick_4 rfl)) (Ev_aload_n dX4_tick_5 rfl)) (Rn_V (ci := 4) Fx4.1 rfl Y_X4_collide (k_X4_collide _ _) w835 w837 wp15 dX4_tick_6 (Nat.le_of_ble_eq_true rfl) (Nat.le_of_ble_eq_true rfl) (Nat.le_of_ble_eq_true rfl) (Nat.ne_of_beq_eq_false rfl))) (Sv_seq (Sv_call (Av_a (Av_a (Av_nil) (Ev_aload_n dX4_tick_9 rfl)) (Ev_aload_n dX4_tick_10 rfl)) (Rn_V (ci := 4) Fx4.1 rfl Y_X4_moveReady (k_X4_moveReady _ _) w853 w855 wp17 dX4_tick_11 (Nat.le_of_ble_eq_true rfl) (Nat.le_of_ble_eq_true rfl) (Nat.le_of_ble_eq_true rfl) (Nat.ne_of_beq_eq_false rfl))) (Sv_seq (Sv_call (Av_i (Av_a (Av_a (Av_nil) (Ev_aload_n dX4_tick_14 rfl)) (Ev_aload_n dX4_tick_15 rfl)) (Ev_iconst dX4_tick_16 (by decide))) (Rn_V (ci := 4) Fx4.1 rfl Y_X4_accountTaken (k_X4_accountTaken _ _) w893 w895 wp21 dX4_tick_17 (Nat.le_of_ble_eq_true rfl) (Nat.le_of_ble_eq_true rfl) (Nat.le_of_ble_eq_true rfl) (Nat.ne_of_beq_eq_false rfl))) (Sv_seq (Sv_call (Av_a (Av_a (Av_nil) (Ev_getA Fx6 (Ev_aload_n dX4_tick_20 rfl) (k := 2) (by decide) w129 dX4_tick_21)) (Ev_getA Fx4 (Ev_aload_n dX4_tick_24 rfl) (k := 1) (by decide) w178 dX4_tick_25)) (Rn_V (ci := 5) Fx5.1 rfl Y_X5_add (k_X5_add _ _) w897 w898 w899 dX4_tick_28 (Nat.le_of_ble_eq_true rfl) (Nat.le_of_ble_eq_true rfl) (Nat.le_of_ble_eq_true rfl) (Nat.ne_of_beq_eq_false rfl))) (Sv_fop_iadd (idx2 := 0) Fx6 (Ev_aload_n dX4_tick_31 rfl) dX4_tick_32 dX4_tick_33 (Ev_iconst dX4_tick_36 (by decide)) dX4_tick_37 (k := 7) (by decide) rfl rfl w143 dX4_tick_38)))))) (Sv_retv hr dX4_tick_41), Nat.le_of_ble_eq_true rfl, Nat.le_of_ble_eq_true rfl⟩)
theorem dX4_copyTurnedRound_0 : decode cX4_copyTurnedRound 0 = .ok (.iconst 0, 1) := by decide +kernel
theorem dX4_copyTurnedRound_1 : decode cX4_copyTurnedRound 1 = .ok (.istore_n 2, 1) := by decide +kernel
theorem dX4_copyTurnedRound_2 : decode cX4_copyTurnedRound 2 = .ok (.iload_n 2, 1) := by decide +kernel
theorem dX4_copyTurnedRound_3 : decode cX4_copyTurnedRound 3 = .ok (.bipush 96, 2) := by decide +kernel
theorem dX4_copyTurnedRound_5 : decode cX4_copyTurnedRound 5 = .ok (.if_icmp .ge 37, 3) := by decide +kernel
theorem dX4_copyTurnedRound_8 : decode cX4_copyTurnedRound 8 = .ok (.iconst 0, 1) := by decide +kernel
theorem dX4_copyTurnedRound_9 : decode cX4_copyTurnedRound 9 = .ok (.istore_n 3, 1) := by decide +kernel
theorem dX4_copyTurnedRound_10 : decode cX4_copyTurnedRound 10 = .ok (.iload_n 3, 1) := by decide +kernel
theorem dX4_copyTurnedRound_11 : decode cX4_copyTurnedRound 11 = .ok (.bipush 6, 2) := by decide +kernel
theorem dX4_copyTurnedRound_13 : decode cX4_copyTurnedRound 13 = .ok (.if_icmp .ge 23, 3) := by decide +kernel
theorem dX4_copyTurnedRound_16 : decode cX4_copyTurnedRound 16 = .ok (.aload_n 1, 1) := by decide +kernel
theorem dX4_copyTurnedRound_17 : decode cX4_copyTurnedRound 17 = .ok (.iload_n 2, 1) := by decide +kernel
theorem dX4_copyTurnedRound_18 : decode cX4_copyTurnedRound 18 = .ok (.iload_n 3, 1) := by decide +kernel
theorem dX4_copyTurnedRound_19 : decode cX4_copyTurnedRound 19 = .ok (.iadd, 1) := by decide +kernel
theorem dX4_copyTurnedRound_20 : decode cX4_copyTurnedRound 20 = .ok (.aload_n 0, 1) := by decide +kernel
theorem dX4_copyTurnedRound_21 : decode cX4_copyTurnedRound 21 = .ok (.iload_n 2, 1) := by decide +kernel
theorem dX4_copyTurnedRound_22 : decode cX4_copyTurnedRound 22 = .ok (.getstatic 85, 3) := by decide +kernel
theorem dX4_copyTurnedRound_25 : decode cX4_copyTurnedRound 25 = .ok (.iload_n 3, 1) := by decide +kernel
theorem dX4_copyTurnedRound_26 : decode cX4_copyTurnedRound 26 = .ok (.iaload, 1) := by decide +kernel
theorem dX4_copyTurnedRound_27 : decode cX4_copyTurnedRound 27 = .ok (.iadd, 1) := by decide +kernel
theorem dX4_copyTurnedRound_28 : decode cX4_copyTurnedRound 28 = .ok (.iaload, 1) := by decide +kernel
theorem dX4_copyTurnedRound_29 : decode cX4_copyTurnedRound 29 = .ok (.iastore, 1) := by decide +kernel
theorem dX4_copyTurnedRound_30 : decode cX4_copyTurnedRound 30 = .ok (.iinc 3 1, 3) := by decide +kernel
theorem dX4_copyTurnedRound_33 : decode cX4_copyTurnedRound 33 = .ok (.goto (-23), 3) := by decide +kernel
theorem dX4_copyTurnedRound_36 : decode cX4_copyTurnedRound 36 = .ok (.iinc 2 6, 3) := by decide +kernel
theorem dX4_copyTurnedRound_39 : decode cX4_copyTurnedRound 39 = .ok (.goto (-37), 3) := by decide +kernel
theorem dX4_copyTurnedRound_42 : decode cX4_copyTurnedRound 42 = .ok (.return_, 1) := by decide +kernel
def f_X4_copyTurnedRound : MX := mth 4 (sQ (sQ (sTi 2 (eI (0))) (sLp (cB c_lt (eLi 2) (eI (96))) (sQ (sQ (sTi 3 (eI (0))) (sLp (cB c_lt (eLi 3) (eI (6))) (sQ (sAi 0 (eLa 1) (eOp o_iadd (eLi 2) (eLi 3)) (eAi 0 (eLa 0) (eOp o_iadd (eLi 2) (eAi 0 (eZ 2) (eLi 3))))) (sInc 3 (1))) NF)) (sInc 2 (6))) NF)) (sRv))
theorem Y_X4_copyTurnedRound : Yk yX4_copyTurnedRound cX4_copyTurnedRound 4 none 2 := ⟨w914, w7, by decide +kernel, by decide +kernel, by decide +kernel⟩
set_option maxRecDepth 20000 in
theorem k_X4_copyTurnedRound (l : Launch) (g : GE) : MetX l g yX4_copyTurnedRound cX4_copyTurnedRound 4 none 2 ({ frames := 0, cells := 0, slots := 0, locals := 0 } : Room) f_X4_copyTurnedRound := by
  unfold f_X4_copyTurnedRound
  exact MetX.of (own := RX4) 100 0 rfl (by decide +kernel) (by decide) (fun p e s m args below meth c Fin ad0 hr hn => ⟨_, _, Sv_seq (Sv_seq (Sv_istore_n (Ev_iconst dX4_copyTurnedRound_0 (by decide)) dX4_copyTurnedRound_1 rfl (Nat.le_of_ble_eq_true rfl) (Nat.ne_of_beq_eq_false rfl)) (Sv_loop0 NF (Cv_icmp_ge_n (Ev_iload_n dX4_copyTurnedRound_2 rfl) (Ev_bipush dX4_copyTurnedRound_3 (by decide)) (t := 42) dX4_copyTurnedRound_5 (by decide)) (Sv_goto (pE := 2) (Sv_seq (Sv_seq (Sv_istore_n (Ev_iconst dX4_copyTurnedRound_8 (by decide)) dX4_copyTurnedRound_9 rfl (Nat.le_of_ble_eq_true rfl) (Nat.ne_of_beq_eq_false rfl)) (Sv_loop0 NF (Cv_icmp_ge_n (Ev_iload_n dX4_copyTurnedRound_10 rfl) (Ev_bipush dX4_copyTurnedRound_11 (by decide)) (t := 36) dX4_copyTurnedRound_13 (by decide)) (Sv_goto (pE := 10) (Sv_seq (Sv_iastore (Ev_aload_n dX4_copyTurnedRound_16 rfl) (Ev_iadd (Ev_iload_n dX4_copyTurnedRound_17 rfl) (Ev_iload_n dX4_copyTurnedRound_18 rfl) dX4_copyTurnedRound_19) (Ev_iaload (Ev_aload_n dX4_copyTurnedRound_20 rfl) (Ev_iadd (Ev_iload_n dX4_copyTurnedRound_21 rfl) (Ev_iaload (Ev_getsN (q := ("OPPOSITE", 2)) (by decide) w866 dX4_copyTurnedRound_22) (Ev_iload_n dX4_copyTurnedRound_25 rfl) dX4_copyTurnedRound_26) dX4_copyTurnedRound_27) dX4_copyTurnedRound_28) dX4_copyTurnedRound_29) (Sv_iinc dX4_copyTurnedRound_30 (by decide) (Nat.le_of_ble_eq_true rfl) (Nat.ne_of_beq_eq_false rfl))) dX4_copyTurnedRound_33 (by decide)))) (Sv_iinc dX4_copyTurnedRound_36 (by decide) (Nat.le_of_ble_eq_true rfl) (Nat.ne_of_beq_eq_false rfl))) dX4_copyTurnedRound_39 (by decide)))) (Sv_retv hr dX4_copyTurnedRound_42), Nat.le_of_ble_eq_true rfl, Nat.le_of_ble_eq_true rfl⟩)
theorem dX4_undoCollisions_0 : decode cX4_undoCollisions 0 = .ok (.iconst 1, 1) := by decide +kernel
theorem dX4_undoCollisions_1 : decode cX4_undoCollisions 1 = .ok (.istore_n 2, 1) := by decide +kernel
theorem dX4_undoCollisions_2 : decode cX4_undoCollisions 2 = .ok (.iload_n 2, 1) := by decide +kernel
theorem dX4_undoCollisions_3 : decode cX4_undoCollisions 3 = .ok (.bipush 64, 2) := by decide +kernel
theorem dX4_undoCollisions_5 : decode cX4_undoCollisions 5 = .ok (.if_icmp .ge 38, 3) := by decide +kernel
theorem dX4_undoCollisions_8 : decode cX4_undoCollisions 8 = .ok (.aload_n 0, 1) := by decide +kernel
theorem dX4_undoCollisions_9 : decode cX4_undoCollisions 9 = .ok (.aload_n 1, 1) := by decide +kernel
theorem dX4_undoCollisions_10 : decode cX4_undoCollisions 10 = .ok (.aload_n 1, 1) := by decide +kernel
theorem dX4_undoCollisions_11 : decode cX4_undoCollisions 11 = .ok (.getfield 134, 3) := by decide +kernel
theorem dX4_undoCollisions_14 : decode cX4_undoCollisions 14 = .ok (.iload_n 2, 1) := by decide +kernel
theorem dX4_undoCollisions_15 : decode cX4_undoCollisions 15 = .ok (.iaload, 1) := by decide +kernel
theorem dX4_undoCollisions_16 : decode cX4_undoCollisions 16 = .ok (.iload_n 2, 1) := by decide +kernel
theorem dX4_undoCollisions_17 : decode cX4_undoCollisions 17 = .ok (.iconst 0, 1) := by decide +kernel
theorem dX4_undoCollisions_18 : decode cX4_undoCollisions 18 = .ok (.invokevirtual 137, 3) := by decide +kernel
theorem dX4_undoCollisions_21 : decode cX4_undoCollisions 21 = .ok (.aload_n 0, 1) := by decide +kernel
theorem dX4_undoCollisions_22 : decode cX4_undoCollisions 22 = .ok (.aload_n 1, 1) := by decide +kernel
theorem dX4_undoCollisions_23 : decode cX4_undoCollisions 23 = .ok (.aload_n 1, 1) := by decide +kernel
theorem dX4_undoCollisions_24 : decode cX4_undoCollisions 24 = .ok (.getfield 134, 3) := by decide +kernel
theorem dX4_undoCollisions_27 : decode cX4_undoCollisions 27 = .ok (.bipush 64, 2) := by decide +kernel
theorem dX4_undoCollisions_29 : decode cX4_undoCollisions 29 = .ok (.iload_n 2, 1) := by decide +kernel
theorem dX4_undoCollisions_30 : decode cX4_undoCollisions 30 = .ok (.iadd, 1) := by decide +kernel
theorem dX4_undoCollisions_31 : decode cX4_undoCollisions 31 = .ok (.iaload, 1) := by decide +kernel
theorem dX4_undoCollisions_32 : decode cX4_undoCollisions 32 = .ok (.iload_n 2, 1) := by decide +kernel
theorem dX4_undoCollisions_33 : decode cX4_undoCollisions 33 = .ok (.iconst 1, 1) := by decide +kernel
theorem dX4_undoCollisions_34 : decode cX4_undoCollisions 34 = .ok (.invokevirtual 137, 3) := by decide +kernel
theorem dX4_undoCollisions_37 : decode cX4_undoCollisions 37 = .ok (.iinc 2 1, 3) := by decide +kernel
theorem dX4_undoCollisions_40 : decode cX4_undoCollisions 40 = .ok (.goto (-38), 3) := by decide +kernel
theorem dX4_undoCollisions_43 : decode cX4_undoCollisions 43 = .ok (.return_, 1) := by decide +kernel
def f_X4_undoCollisions : MX := mth 3 (sQ (sQ (sTi 2 (eI (1))) (sLp (cB c_lt (eLi 2) (eI (64))) (sQ (sQ (sM (gd 4 f_X4_exchange) (aI (aI (aI (aA (aA (aN) (eLa 0)) (eLa 1)) (eAi 0 (eGa (eLa 1) 6 5) (eLi 2))) (eLi 2)) (eI (0)))) (sM (gd 4 f_X4_exchange) (aI (aI (aI (aA (aA (aN) (eLa 0)) (eLa 1)) (eAi 0 (eGa (eLa 1) 6 5) (eOp o_iadd (eI (64)) (eLi 2)))) (eLi 2)) (eI (1))))) (sInc 2 (1))) NF)) (sRv))
theorem Y_X4_undoCollisions : Yk yX4_undoCollisions cX4_undoCollisions 3 none 1 := ⟨w918, w7, by decide +kernel, by decide +kernel, by decide +kernel⟩
set_option maxRecDepth 20000 in
theorem k_X4_undoCollisions (l : Launch) (g : GE) : MetX l g yX4_undoCollisions cX4_undoCollisions 3 none 2 ({ frames := 2, cells := 0, slots := 0, locals := 52 } : Room) f_X4_undoCollisions := by
  unfold f_X4_undoCollisions
  exact MetX.of (own := RX4) 100 0 rfl (by decide +kernel) (by decide) (fun p e s m args below meth c Fin ad0 hr hn => ⟨_, _, Sv_seq (Sv_seq (Sv_istore_n (Ev_iconst dX4_undoCollisions_0 (by decide)) dX4_undoCollisions_1 rfl (Nat.le_of_ble_eq_true rfl) (Nat.ne_of_beq_eq_false rfl)) (Sv_loop0 NF (Cv_icmp_ge_n (Ev_iload_n dX4_undoCollisions_2 rfl) (Ev_bipush dX4_undoCollisions_3 (by decide)) (t := 43) dX4_undoCollisions_5 (by decide)) (Sv_goto (pE := 2) (Sv_seq (Sv_seq (Sv_call (Av_i (Av_i (Av_i (Av_a (Av_a (Av_nil) (Ev_aload_n dX4_undoCollisions_8 rfl)) (Ev_aload_n dX4_undoCollisions_9 rfl)) (Ev_iaload (Ev_getA Fx6 (Ev_aload_n dX4_undoCollisions_10 rfl) (k := 5) (by decide) w138 dX4_undoCollisions_11) (Ev_iload_n dX4_undoCollisions_14 rfl) dX4_undoCollisions_15)) (Ev_iload_n dX4_undoCollisions_16 rfl)) (Ev_iconst dX4_undoCollisions_17 (by decide))) (Rn_V (ci := 4) Fx4.1 rfl Y_X4_exchange (k_X4_exchange _ _) w840 w842 wp16 dX4_undoCollisions_18 (Nat.le_of_ble_eq_true rfl) (Nat.le_of_ble_eq_true rfl) (Nat.le_of_ble_eq_true rfl) (Nat.ne_of_beq_eq_false rfl))) (Sv_call (Av_i (Av_i (Av_i (Av_a (Av_a (Av_nil) (Ev_aload_n dX4_undoCollisions_21 rfl)) (Ev_aload_n dX4_undoCollisions_22 rfl)) (Ev_iaload (Ev_getA Fx6 (Ev_aload_n dX4_undoCollisions_23 rfl) (k := 5) (by decide) w138 dX4_undoCollisions_24) (Ev_iadd (Ev_bipush dX4_undoCollisions_27 (by decide)) (Ev_iload_n dX4_undoCollisions_29 rfl) dX4_undoCollisions_30) dX4_undoCollisions_31)) (Ev_iload_n dX4_undoCollisions_32 rfl)) (Ev_iconst dX4_undoCollisions_33 (by decide))) (Rn_V (ci := 4) Fx4.1 rfl Y_X4_exchange (k_X4_exchange _ _) w840 w842 wp16 dX4_undoCollisions_34 (Nat.le_of_ble_eq_true rfl) (Nat.le_of_ble_eq_true rfl) (Nat.le_of_ble_eq_true rfl) (Nat.ne_of_beq_eq_false rfl)))) (Sv_iinc dX4_undoCollisions_37 (by decide) (Nat.le_of_ble_eq_true rfl) (Nat.ne_of_beq_eq_false rfl))) dX4_undoCollisions_40 (by decide)))) (Sv_retv hr dX4_undoCollisions_43), Nat.le_of_ble_eq_true rfl, Nat.le_of_ble_eq_true rfl⟩)
theorem dX4_tickBack_0 : decode cX4_tickBack 0 = .ok (.aload_n 1, 1) := by decide +kernel
theorem dX4_tickBack_1 : decode cX4_tickBack 1 = .ok (.getfield 51, 3) := by decide +kernel
theorem dX4_tickBack_4 : decode cX4_tickBack 4 = .ok (.getfield 55, 3) := by decide +kernel
theorem dX4_tickBack_7 : decode cX4_tickBack 7 = .ok (.astore_n 2, 1) := by decide +kernel
theorem dX4_tickBack_8 : decode cX4_tickBack 8 = .ok (.aload_n 1, 1) := by decide +kernel
theorem dX4_tickBack_9 : decode cX4_tickBack 9 = .ok (.dup, 1) := by decide +kernel
theorem dX4_tickBack_10 : decode cX4_tickBack 10 = .ok (.getfield 47, 3) := by decide +kernel
theorem dX4_tickBack_13 : decode cX4_tickBack 13 = .ok (.iconst 1, 1) := by decide +kernel
theorem dX4_tickBack_14 : decode cX4_tickBack 14 = .ok (.isub, 1) := by decide +kernel
theorem dX4_tickBack_15 : decode cX4_tickBack 15 = .ok (.putfield 47, 3) := by decide +kernel
theorem dX4_tickBack_18 : decode cX4_tickBack 18 = .ok (.aload_n 2, 1) := by decide +kernel
theorem dX4_tickBack_19 : decode cX4_tickBack 19 = .ok (.aload_n 0, 1) := by decide +kernel
theorem dX4_tickBack_20 : decode cX4_tickBack 20 = .ok (.getfield 9, 3) := by decide +kernel
theorem dX4_tickBack_23 : decode cX4_tickBack 23 = .ok (.invokestatic 60, 3) := by decide +kernel
theorem dX4_tickBack_26 : decode cX4_tickBack 26 = .ok (.aload_n 0, 1) := by decide +kernel
theorem dX4_tickBack_27 : decode cX4_tickBack 27 = .ok (.aload_n 1, 1) := by decide +kernel
theorem dX4_tickBack_28 : decode cX4_tickBack 28 = .ok (.invokevirtual 28, 3) := by decide +kernel
theorem dX4_tickBack_31 : decode cX4_tickBack 31 = .ok (.aload_n 2, 1) := by decide +kernel
theorem dX4_tickBack_32 : decode cX4_tickBack 32 = .ok (.aload_n 0, 1) := by decide +kernel
theorem dX4_tickBack_33 : decode cX4_tickBack 33 = .ok (.getfield 9, 3) := by decide +kernel
theorem dX4_tickBack_36 : decode cX4_tickBack 36 = .ok (.invokestatic 60, 3) := by decide +kernel
theorem dX4_tickBack_39 : decode cX4_tickBack 39 = .ok (.aload_n 0, 1) := by decide +kernel
theorem dX4_tickBack_40 : decode cX4_tickBack 40 = .ok (.getfield 9, 3) := by decide +kernel
theorem dX4_tickBack_43 : decode cX4_tickBack 43 = .ok (.iconst 0, 1) := by decide +kernel
theorem dX4_tickBack_44 : decode cX4_tickBack 44 = .ok (.aload_n 2, 1) := by decide +kernel
theorem dX4_tickBack_45 : decode cX4_tickBack 45 = .ok (.iconst 0, 1) := by decide +kernel
theorem dX4_tickBack_46 : decode cX4_tickBack 46 = .ok (.aload_n 2, 1) := by decide +kernel
theorem dX4_tickBack_47 : decode cX4_tickBack 47 = .ok (.arraylength, 1) := by decide +kernel
theorem dX4_tickBack_48 : decode cX4_tickBack 48 = .ok (.invokestatic 64, 3) := by decide +kernel
theorem dX4_tickBack_51 : decode cX4_tickBack 51 = .ok (.aload_n 0, 1) := by decide +kernel
theorem dX4_tickBack_52 : decode cX4_tickBack 52 = .ok (.aload_n 1, 1) := by decide +kernel
theorem dX4_tickBack_53 : decode cX4_tickBack 53 = .ok (.invokevirtual 70, 3) := by decide +kernel
theorem dX4_tickBack_56 : decode cX4_tickBack 56 = .ok (.aload_n 0, 1) := by decide +kernel
theorem dX4_tickBack_57 : decode cX4_tickBack 57 = .ok (.getfield 9, 3) := by decide +kernel
theorem dX4_tickBack_60 : decode cX4_tickBack 60 = .ok (.iconst 0, 1) := by decide +kernel
theorem dX4_tickBack_61 : decode cX4_tickBack 61 = .ok (.aload_n 2, 1) := by decide +kernel
theorem dX4_tickBack_62 : decode cX4_tickBack 62 = .ok (.iconst 0, 1) := by decide +kernel
theorem dX4_tickBack_63 : decode cX4_tickBack 63 = .ok (.aload_n 2, 1) := by decide +kernel
theorem dX4_tickBack_64 : decode cX4_tickBack 64 = .ok (.arraylength, 1) := by decide +kernel
theorem dX4_tickBack_65 : decode cX4_tickBack 65 = .ok (.invokestatic 64, 3) := by decide +kernel
theorem dX4_tickBack_68 : decode cX4_tickBack 68 = .ok (.aload_n 0, 1) := by decide +kernel
theorem dX4_tickBack_69 : decode cX4_tickBack 69 = .ok (.aload_n 1, 1) := by decide +kernel
theorem dX4_tickBack_70 : decode cX4_tickBack 70 = .ok (.iconst (-1), 1) := by decide +kernel
theorem dX4_tickBack_71 : decode cX4_tickBack 71 = .ok (.invokevirtual 31, 3) := by decide +kernel
theorem dX4_tickBack_74 : decode cX4_tickBack 74 = .ok (.aload_n 1, 1) := by decide +kernel
theorem dX4_tickBack_75 : decode cX4_tickBack 75 = .ok (.getfield 35, 3) := by decide +kernel
theorem dX4_tickBack_78 : decode cX4_tickBack 78 = .ok (.invokevirtual 73, 3) := by decide +kernel
theorem dX4_tickBack_81 : decode cX4_tickBack 81 = .ok (.aload_n 1, 1) := by decide +kernel
theorem dX4_tickBack_82 : decode cX4_tickBack 82 = .ok (.getfield 76, 3) := by decide +kernel
theorem dX4_tickBack_85 : decode cX4_tickBack 85 = .ok (.iconst 0, 1) := by decide +kernel
theorem dX4_tickBack_86 : decode cX4_tickBack 86 = .ok (.invokestatic 79, 3) := by decide +kernel
theorem dX4_tickBack_89 : decode cX4_tickBack 89 = .ok (.return_, 1) := by decide +kernel
def f_X4_tickBack : MX := mth 3 (sQ (sQ (sTa 2 (eGa (eGa (eLa 1) 6 0) 1 3)) (sQ (sPo (eLa 1) 6 7 o_isub (eI (1))) (sQ (sM (f_X4_copyTurnedRound) (aA (aA (aN) (eLa 2)) (eGa (eLa 0) 4 0))) (sQ (sM (gd 4 f_X4_moveReady) (aA (aA (aN) (eLa 0)) (eLa 1))) (sQ (sM (f_X4_copyTurnedRound) (aA (aA (aN) (eLa 2)) (eGa (eLa 0) 4 0))) (sQ (sM cpy (aI (aI (aA (aI (aA (aN) (eGa (eLa 0) 4 0)) (eI (0))) (eLa 2)) (eI (0))) (eAn (eLa 2)))) (sQ (sM (gd 4 f_X4_undoCollisions) (aA (aA (aN) (eLa 0)) (eLa 1))) (sQ (sM cpy (aI (aI (aA (aI (aA (aN) (eGa (eLa 0) 4 0)) (eI (0))) (eLa 2)) (eI (0))) (eAn (eLa 2)))) (sQ (sM (gd 4 f_X4_accountTaken) (aI (aA (aA (aN) (eLa 0)) (eLa 1)) (eI (-1)))) (sQ (sM (gd 5 f_X5_removeLatest) (aA (aN) (eGa (eLa 1) 6 2))) (sM (f_J7_fill_53178) (aI (aA (aN) (eGa (eLa 1) 6 9)) (eI (0)))))))))))))) (sRv))
theorem Y_X4_tickBack : Yk yX4_tickBack cX4_tickBack 3 none 1 := ⟨w911, w7, by decide +kernel, by decide +kernel, by decide +kernel⟩
set_option maxRecDepth 20000 in
theorem k_X4_tickBack (l : Launch) (g : GE) : MetX l g yX4_tickBack cX4_tickBack 3 none 2 ({ frames := 4, cells := 0, slots := 0, locals := 109 } : Room) f_X4_tickBack := by
  unfold f_X4_tickBack
  exact MetX.of (own := RX4) 100 0 rfl (by decide +kernel) (by decide) (fun p e s m args below meth c Fin ad0 hr hn => ⟨_, _, Sv_seq (Sv_seq (Sv_astore_n (Ev_getA Fx1 (Ev_getA Fx6 (Ev_aload_n dX4_tickBack_0 rfl) (k := 0) (by decide) w123 dX4_tickBack_1) (k := 3) (by decide) w52 dX4_tickBack_4) dX4_tickBack_7 rfl (Nat.le_of_ble_eq_true rfl) (Nat.ne_of_beq_eq_false rfl)) (Sv_seq (Sv_fop_isub (idx2 := 0) Fx6 (Ev_aload_n dX4_tickBack_8 rfl) dX4_tickBack_9 dX4_tickBack_10 (Ev_iconst dX4_tickBack_13 (by decide)) dX4_tickBack_14 (k := 7) (by decide) rfl rfl w143 dX4_tickBack_15) (Sv_seq (Sv_call (Av_a (Av_a (Av_nil) (Ev_aload_n dX4_tickBack_18 rfl)) (Ev_getA Fx4 (Ev_aload_n dX4_tickBack_19 rfl) (k := 0) (by decide) w177 dX4_tickBack_20)) (Rn_S Y_X4_copyTurnedRound (k_X4_copyTurnedRound _ _) w912 w913 dX4_tickBack_23 (Nat.le_of_ble_eq_true rfl) (Nat.le_of_ble_eq_true rfl) (Nat.le_of_ble_eq_true rfl) (Nat.ne_of_beq_eq_false rfl))) (Sv_seq (Sv_call (Av_a (Av_a (Av_nil) (Ev_aload_n dX4_tickBack_26 rfl)) (Ev_aload_n dX4_tickBack_27 rfl)) (Rn_V (ci := 4) Fx4.1 rfl Y_X4_moveReady (k_X4_moveReady _ _) w853 w855 wp17 dX4_tickBack_28 (Nat.le_of_ble_eq_true rfl) (Nat.le_of_ble_eq_true rfl) (Nat.le_of_ble_eq_true rfl) (Nat.ne_of_beq_eq_false rfl))) (Sv_seq (Sv_call (Av_a (Av_a (Av_nil) (Ev_aload_n dX4_tickBack_31 rfl)) (Ev_getA Fx4 (Ev_aload_n dX4_tickBack_32 rfl) (k := 0) (by decide) w177 dX4_tickBack_33)) (Rn_S Y_X4_copyTurnedRound (k_X4_copyTurnedRound _ _) w912 w913 dX4_tickBack_36 (Nat.le_of_ble_eq_true rfl) (Nat.le_of_ble_eq_true rfl) (Nat.le_of_ble_eq_true rfl) (Nat.ne_of_beq_eq_false rfl))) (Sv_seq (Sv_copy (Av_i (Av_i (Av_a (Av_i (Av_a (Av_nil) (Ev_getA Fx4 (Ev_aload_n dX4_tickBack_39 rfl) (k := 0) (by decide) w177 dX4_tickBack_40)) (Ev_iconst dX4_tickBack_43 (by decide))) (Ev_aload_n dX4_tickBack_44 rfl)) (Ev_iconst dX4_tickBack_45 (by decide))) (Ev_alen (Ev_aload_n dX4_tickBack_46 rfl) dX4_tickBack_47)) w839 w383 w382 w15 dX4_tickBack_48 (Nat.le_of_ble_eq_true rfl) (Nat.le_of_ble_eq_true rfl)) (Sv_seq (Sv_call (Av_a (Av_a (Av_nil) (Ev_aload_n dX4_tickBack_51 rfl)) (Ev_aload_n dX4_tickBack_52 rfl)) (Rn_V (ci := 4) Fx4.1 rfl Y_X4_undoCollisions (k_X4_undoCollisions _ _) w915 w917 wp22 dX4_tickBack_53 (Nat.le_of_ble_eq_true rfl) (Nat.le_of_ble_eq_true rfl) (Nat.le_of_ble_eq_true rfl) (Nat.ne_of_beq_eq_false rfl))) (Sv_seq (Sv_copy (Av_i (Av_i (Av_a (Av_i (Av_a (Av_nil) (Ev_getA Fx4 (Ev_aload_n dX4_tickBack_56 rfl) (k := 0) (by decide) w177 dX4_tickBack_57)) (Ev_iconst dX4_tickBack_60 (by decide))) (Ev_aload_n dX4_tickBack_61 rfl)) (Ev_iconst dX4_tickBack_62 (by decide))) (Ev_alen (Ev_aload_n dX4_tickBack_63 rfl) dX4_tickBack_64)) w839 w383 w382 w15 dX4_tickBack_65 (Nat.le_of_ble_eq_true rfl) (Nat.le_of_ble_eq_true rfl)) (Sv_seq (Sv_call (Av_i (Av_a (Av_a (Av_nil) (Ev_aload_n dX4_tickBack_68 rfl)) (Ev_aload_n dX4_tickBack_69 rfl)) (Ev_iconst dX4_tickBack_70 (by decide))) (Rn_V (ci := 4) Fx4.1 rfl Y_X4_accountTaken (k_X4_accountTaken _ _) w893 w895 wp21 dX4_tickBack_71 (Nat.le_of_ble_eq_true rfl) (Nat.le_of_ble_eq_true rfl) (Nat.le_of_ble_eq_true rfl) (Nat.ne_of_beq_eq_false rfl))) (Sv_seq (Sv_call (Av_a (Av_nil) (Ev_getA Fx6 (Ev_aload_n dX4_tickBack_74 rfl) (k := 2) (by decide) w129 dX4_tickBack_75)) (Rn_V (ci := 5) Fx5.1 rfl Y_X5_removeLatest (k_X5_removeLatest _ _) w919 w920 w921 dX4_tickBack_78 (Nat.le_of_ble_eq_true rfl) (Nat.le_of_ble_eq_true rfl) (Nat.le_of_ble_eq_true rfl) (Nat.ne_of_beq_eq_false rfl))) (Sv_call (Av_i (Av_a (Av_nil) (Ev_getA Fx6 (Ev_aload_n dX4_tickBack_81 rfl) (k := 9) (by decide) w149 dX4_tickBack_82)) (Ev_iconst dX4_tickBack_85 (by decide))) (Rn_S Y_J7_fill_53178 (k_J7_fill_53178 _ _) w857 w257 dX4_tickBack_86 (Nat.le_of_ble_eq_true rfl) (Nat.le_of_ble_eq_true rfl) (Nat.le_of_ble_eq_true rfl) (Nat.ne_of_beq_eq_false rfl))))))))))))) (Sv_retv hr dX4_tickBack_89), Nat.le_of_ble_eq_true rfl, Nat.le_of_ble_eq_true rfl⟩)
