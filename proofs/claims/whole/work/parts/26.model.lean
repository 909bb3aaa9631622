theorem dX8_plain_0 : decode cX8_plain 0 = .ok (.iconst 0, 1) := by decide +kernel
theorem dX8_plain_1 : decode cX8_plain 1 = .ok (.istore_n 1, 1) := by decide +kernel
theorem dX8_plain_2 : decode cX8_plain 2 = .ok (.iload_n 1, 1) := by decide +kernel
theorem dX8_plain_3 : decode cX8_plain 3 = .ok (.bipush 64, 2) := by decide +kernel
theorem dX8_plain_5 : decode cX8_plain 5 = .ok (.if_icmp .ge 33, 3) := by decide +kernel
theorem dX8_plain_8 : decode cX8_plain 8 = .ok (.aload_n 0, 1) := by decide +kernel
theorem dX8_plain_9 : decode cX8_plain 9 = .ok (.getfield 41, 3) := by decide +kernel
theorem dX8_plain_12 : decode cX8_plain 12 = .ok (.iload_n 1, 1) := by decide +kernel
theorem dX8_plain_13 : decode cX8_plain 13 = .ok (.iload_n 1, 1) := by decide +kernel
theorem dX8_plain_14 : decode cX8_plain 14 = .ok (.iastore, 1) := by decide +kernel
theorem dX8_plain_15 : decode cX8_plain 15 = .ok (.aload_n 0, 1) := by decide +kernel
theorem dX8_plain_16 : decode cX8_plain 16 = .ok (.getfield 41, 3) := by decide +kernel
theorem dX8_plain_19 : decode cX8_plain 19 = .ok (.bipush 64, 2) := by decide +kernel
theorem dX8_plain_21 : decode cX8_plain 21 = .ok (.iload_n 1, 1) := by decide +kernel
theorem dX8_plain_22 : decode cX8_plain 22 = .ok (.iadd, 1) := by decide +kernel
theorem dX8_plain_23 : decode cX8_plain 23 = .ok (.iload_n 1, 1) := by decide +kernel
theorem dX8_plain_24 : decode cX8_plain 24 = .ok (.iastore, 1) := by decide +kernel
theorem dX8_plain_25 : decode cX8_plain 25 = .ok (.aload_n 0, 1) := by decide +kernel
theorem dX8_plain_26 : decode cX8_plain 26 = .ok (.getfield 44, 3) := by decide +kernel
theorem dX8_plain_29 : decode cX8_plain 29 = .ok (.iload_n 1, 1) := by decide +kernel
theorem dX8_plain_30 : decode cX8_plain 30 = .ok (.iconst 0, 1) := by decide +kernel
theorem dX8_plain_31 : decode cX8_plain 31 = .ok (.bastore, 1) := by decide +kernel
theorem dX8_plain_32 : decode cX8_plain 32 = .ok (.iinc 1 1, 3) := by decide +kernel
theorem dX8_plain_35 : decode cX8_plain 35 = .ok (.goto (-33), 3) := by decide +kernel
theorem dX8_plain_38 : decode cX8_plain 38 = .ok (.return_, 1) := by decide +kernel
def f_X8_plain : MX := mth 2 (sQ (sQ (sTi 1 (eI (0))) (sLp (cB c_lt (eLi 1) (eI (64))) (sQ (sQ (sAi 0 (eGa (eLa 0) 8 17) (eLi 1) (eLi 1)) (sQ (sAi 0 (eGa (eLa 0) 8 17) (eOp o_iadd (eI (64)) (eLi 1)) (eLi 1)) (sAi 2 (eGa (eLa 0) 8 18) (eLi 1) (eI (0))))) (sInc 1 (1))) NF)) (sRv))
theorem Y_X8_plain : Yk yX8_plain cX8_plain 2 none 0 := ⟨w1135, w16, by decide +kernel, by decide +kernel, by decide +kernel⟩
set_option maxRecDepth 20000 in
theorem k_X8_plain (l : Launch) (g : GE) : MetX l g yX8_plain cX8_plain 2 none 1 ({ frames := 0, cells := 0, slots := 0, locals := 0 } : Room) f_X8_plain := by
  unfold f_X8_plain
  exact MetX.of (own := RX8) 100 0 rfl (by decide +kernel) (by decide) (fun p e s m args below meth c Fin ad0 hr hn => ⟨_, _, Sv_seq (Sv_seq (Sv_istore_n (Ev_iconst dX8_plain_0 (by decide)) dX8_plain_1 rfl (Nat.le_of_ble_eq_true rfl) (Nat.ne_of_beq_eq_false rfl)) (Sv_loop0 NF (Cv_icmp_ge_n (Ev_iload_n dX8_plain_2 rfl) (Ev_bipush dX8_plain_3 (by decide)) (t := 38) dX8_plain_5 (by decide)) (Sv_goto (pE := 2) (Sv_seq (Sv_seq (Sv_iastore (Ev_getA Fx8 (Ev_aload_n dX8_plain_8 rfl) (k := 17) (by decide) w1160 dX8_plain_9) (Ev_iload_n dX8_plain_12 rfl) (Ev_iload_n dX8_plain_13 rfl) dX8_plain_14) (Sv_seq (Sv_iastore (Ev_getA Fx8 (Ev_aload_n dX8_plain_15 rfl) (k := 17) (by decide) w1160 dX8_plain_16) (Ev_iadd (Ev_bipush dX8_plain_19 (by decide)) (Ev_iload_n dX8_plain_21 rfl) dX8_plain_22) (Ev_iload_n dX8_plain_23 rfl) dX8_plain_24) (Sv_bastore (Ev_getA Fx8 (Ev_aload_n dX8_plain_25 rfl) (k := 18) (by decide) w1161 dX8_plain_26) (Ev_iload_n dX8_plain_29 rfl) (Ev_iconst dX8_plain_30 (by decide)) dX8_plain_31))) (Sv_iinc dX8_plain_32 (by decide) (Nat.le_of_ble_eq_true rfl) (Nat.ne_of_beq_eq_false rfl))) dX8_plain_35 (by decide)))) (Sv_retv hr dX8_plain_38), Nat.le_of_ble_eq_true rfl, Nat.le_of_ble_eq_true rfl⟩)
theorem dX8_turned_0 : decode cX8_turned 0 = .ok (.iload_n 0, 1) := by decide +kernel
theorem dX8_turned_1 : decode cX8_turned 1 = .ok (.iload_n 1, 1) := by decide +kernel
theorem dX8_turned_2 : decode cX8_turned 2 = .ok (.ishl, 1) := by decide +kernel
theorem dX8_turned_3 : decode cX8_turned 3 = .ok (.iload_n 0, 1) := by decide +kernel
theorem dX8_turned_4 : decode cX8_turned 4 = .ok (.bipush 6, 2) := by decide +kernel
theorem dX8_turned_6 : decode cX8_turned 6 = .ok (.iload_n 1, 1) := by decide +kernel
theorem dX8_turned_7 : decode cX8_turned 7 = .ok (.isub, 1) := by decide +kernel
theorem dX8_turned_8 : decode cX8_turned 8 = .ok (.ishr, 1) := by decide +kernel
theorem dX8_turned_9 : decode cX8_turned 9 = .ok (.ior, 1) := by decide +kernel
theorem dX8_turned_10 : decode cX8_turned 10 = .ok (.bipush 63, 2) := by decide +kernel
theorem dX8_turned_12 : decode cX8_turned 12 = .ok (.iand, 1) := by decide +kernel
theorem dX8_turned_13 : decode cX8_turned 13 = .ok (.ireturn, 1) := by decide +kernel
def f_X8_turned : MX := mth 2 (sR (eOp o_iand (eOp o_ior (eOp o_ishl (eLi 0) (eLi 1)) (eOp o_ishr (eLi 0) (eOp o_isub (eI (6)) (eLi 1)))) (eI (63))))
theorem Y_X8_turned : Yk yX8_turned cX8_turned 2 (some .int) 2 := ⟨w1142, w16, by decide +kernel, by decide +kernel, by decide +kernel⟩
set_option maxRecDepth 20000 in
theorem k_X8_turned (l : Launch) (g : GE) : MetX l g yX8_turned cX8_turned 2 (some .int) 2 ({ frames := 0, cells := 0, slots := 0, locals := 0 } : Room) f_X8_turned := by
  unfold f_X8_turned
  exact MetX.of (own := RX8) 100 0 rfl (by decide +kernel) (by decide) (fun p e s m args below meth c Fin ad0 hr hn => ⟨_, _, Sv_ret (Ev_iand (Ev_ior (Ev_ishl (Ev_iload_n dX8_turned_0 rfl) (Ev_iload_n dX8_turned_1 rfl) dX8_turned_2) (Ev_ishr (Ev_iload_n dX8_turned_3 rfl) (Ev_isub (Ev_bipush dX8_turned_4 (by decide)) (Ev_iload_n dX8_turned_6 rfl) dX8_turned_7) dX8_turned_8) dX8_turned_9) (Ev_bipush dX8_turned_10 (by decide)) dX8_turned_12) hr dX8_turned_13, Nat.le_of_ble_eq_true rfl, Nat.le_of_ble_eq_true rfl⟩)
theorem dX8_names_0 : decode cX8_names 0 = .ok (.aload_n 0, 1) := by decide +kernel
theorem dX8_names_1 : decode cX8_names 1 = .ok (.getfield 44, 3) := by decide +kernel
theorem dX8_names_4 : decode cX8_names 4 = .ok (.iload_n 1, 1) := by decide +kernel
theorem dX8_names_5 : decode cX8_names 5 = .ok (.iload 4, 2) := by decide +kernel
theorem dX8_names_7 : decode cX8_names 7 = .ok (.invokestatic 140, 3) := by decide +kernel
theorem dX8_names_10 : decode cX8_names 10 = .ok (.iconst 1, 1) := by decide +kernel
theorem dX8_names_11 : decode cX8_names 11 = .ok (.bastore, 1) := by decide +kernel
theorem dX8_names_12 : decode cX8_names 12 = .ok (.aload_n 0, 1) := by decide +kernel
theorem dX8_names_13 : decode cX8_names 13 = .ok (.getfield 41, 3) := by decide +kernel
theorem dX8_names_16 : decode cX8_names 16 = .ok (.iload_n 1, 1) := by decide +kernel
theorem dX8_names_17 : decode cX8_names 17 = .ok (.iload 4, 2) := by decide +kernel
theorem dX8_names_19 : decode cX8_names 19 = .ok (.invokestatic 140, 3) := by decide +kernel
theorem dX8_names_22 : decode cX8_names 22 = .ok (.iload_n 2, 1) := by decide +kernel
theorem dX8_names_23 : decode cX8_names 23 = .ok (.iload 4, 2) := by decide +kernel
theorem dX8_names_25 : decode cX8_names 25 = .ok (.invokestatic 140, 3) := by decide +kernel
theorem dX8_names_28 : decode cX8_names 28 = .ok (.iastore, 1) := by decide +kernel
theorem dX8_names_29 : decode cX8_names 29 = .ok (.aload_n 0, 1) := by decide +kernel
theorem dX8_names_30 : decode cX8_names 30 = .ok (.getfield 41, 3) := by decide +kernel
theorem dX8_names_33 : decode cX8_names 33 = .ok (.bipush 64, 2) := by decide +kernel
theorem dX8_names_35 : decode cX8_names 35 = .ok (.iload_n 1, 1) := by decide +kernel
theorem dX8_names_36 : decode cX8_names 36 = .ok (.iload 4, 2) := by decide +kernel
theorem dX8_names_38 : decode cX8_names 38 = .ok (.invokestatic 140, 3) := by decide +kernel
theorem dX8_names_41 : decode cX8_names 41 = .ok (.iadd, 1) := by decide +kernel
theorem dX8_names_42 : decode cX8_names 42 = .ok (.iload_n 3, 1) := by decide +kernel
theorem dX8_names_43 : decode cX8_names 43 = .ok (.iload 4, 2) := by decide +kernel
theorem dX8_names_45 : decode cX8_names 45 = .ok (.invokestatic 140, 3) := by decide +kernel
theorem dX8_names_48 : decode cX8_names 48 = .ok (.iastore, 1) := by decide +kernel
theorem dX8_names_49 : decode cX8_names 49 = .ok (.return_, 1) := by decide +kernel
def f_X8_names : MX := mth 5 (sQ (sQ (sAi 2 (eGa (eLa 0) 8 18) (eM (f_X8_turned) (aI (aI (aN) (eLi 1)) (eLi 4))) (eI (1))) (sQ (sAi 0 (eGa (eLa 0) 8 17) (eM (f_X8_turned) (aI (aI (aN) (eLi 1)) (eLi 4))) (eM (f_X8_turned) (aI (aI (aN) (eLi 2)) (eLi 4)))) (sAi 0 (eGa (eLa 0) 8 17) (eOp o_iadd (eI (64)) (eM (f_X8_turned) (aI (aI (aN) (eLi 1)) (eLi 4)))) (eM (f_X8_turned) (aI (aI (aN) (eLi 3)) (eLi 4)))))) (sRv))
theorem Y_X8_names : Yk yX8_names cX8_names 5 none 4 := ⟨w1139, w16, by decide +kernel, by decide +kernel, by decide +kernel⟩
set_option maxRecDepth 20000 in
theorem k_X8_names (l : Launch) (g : GE) : MetX l g yX8_names cX8_names 5 none 5 ({ frames := 1, cells := 0, slots := 0, locals := 21 } : Room) f_X8_names := by
  unfold f_X8_names
  exact MetX.of (own := RX8) 100 0 rfl (by decide +kernel) (by decide) (fun p e s m args below meth c Fin ad0 hr hn => ⟨_, _, Sv_seq (Sv_seq (Sv_bastore (Ev_getA Fx8 (Ev_aload_n dX8_names_0 rfl) (k := 18) (by decide) w1161 dX8_names_1) (Ev_call (Av_i (Av_i (Av_nil) (Ev_iload_n dX8_names_4 rfl)) (Ev_iload dX8_names_5)) (Rn_S Y_X8_turned (k_X8_turned _ _) w1140 w1141 dX8_names_7 (Nat.le_of_ble_eq_true rfl) (Nat.le_of_ble_eq_true rfl) (Nat.le_of_ble_eq_true rfl) (Nat.ne_of_beq_eq_false rfl))) (Ev_iconst dX8_names_10 (by decide)) dX8_names_11) (Sv_seq (Sv_iastore (Ev_getA Fx8 (Ev_aload_n dX8_names_12 rfl) (k := 17) (by decide) w1160 dX8_names_13) (Ev_call (Av_i (Av_i (Av_nil) (Ev_iload_n dX8_names_16 rfl)) (Ev_iload dX8_names_17)) (Rn_S Y_X8_turned (k_X8_turned _ _) w1140 w1141 dX8_names_19 (Nat.le_of_ble_eq_true rfl) (Nat.le_of_ble_eq_true rfl) (Nat.le_of_ble_eq_true rfl) (Nat.ne_of_beq_eq_false rfl))) (Ev_call (Av_i (Av_i (Av_nil) (Ev_iload_n dX8_names_22 rfl)) (Ev_iload dX8_names_23)) (Rn_S Y_X8_turned (k_X8_turned _ _) w1140 w1141 dX8_names_25 (Nat.le_of_ble_eq_true rfl) (Nat.le_of_ble_eq_true rfl) (Nat.le_of_ble_eq_true rfl) (Nat.ne_of_beq_eq_false rfl))) dX8_names_28) (Sv_iastore (Ev_getA Fx8 (Ev_aload_n dX8_names_29 rfl) (k := 17) (by decide) w1160 dX8_names_30) (Ev_iadd (Ev_bipush dX8_names_33 (by decide)) (Ev_call (Av_i (Av_i (Av_nil) (Ev_iload_n dX8_names_35 rfl)) (Ev_iload dX8_names_36)) (Rn_S Y_X8_turned (k_X8_turned _ _) w1140 w1141 dX8_names_38 (Nat.le_of_ble_eq_true rfl) (Nat.le_of_ble_eq_true rfl) (Nat.le_of_ble_eq_true rfl) (Nat.ne_of_beq_eq_false rfl))) dX8_names_41) (Ev_call (Av_i (Av_i (Av_nil) (Ev_iload_n dX8_names_42 rfl)) (Ev_iload dX8_names_43)) (Rn_S Y_X8_turned (k_X8_turned _ _) w1140 w1141 dX8_names_45 (Nat.le_of_ble_eq_true rfl) (Nat.le_of_ble_eq_true rfl) (Nat.le_of_ble_eq_true rfl) (Nat.ne_of_beq_eq_false rfl))) dX8_names_48))) (Sv_retv hr dX8_names_49), Nat.le_of_ble_eq_true rfl, Nat.le_of_ble_eq_true rfl⟩)
theorem dX8_init_0 : decode cX8_init 0 = .ok (.aload_n 0, 1) := by decide +kernel
theorem dX8_init_1 : decode cX8_init 1 = .ok (.invokespecial 1, 3) := by decide +kernel
theorem dX8_init_4 : decode cX8_init 4 = .ok (.aload_n 0, 1) := by decide +kernel
theorem dX8_init_5 : decode cX8_init 5 = .ok (.sipush 1523, 3) := by decide +kernel
theorem dX8_init_8 : decode cX8_init 8 = .ok (.newarray .int, 2) := by decide +kernel
theorem dX8_init_10 : decode cX8_init 10 = .ok (.putfield 7, 3) := by decide +kernel
theorem dX8_init_13 : decode cX8_init 13 = .ok (.aload_n 0, 1) := by decide +kernel
theorem dX8_init_14 : decode cX8_init 14 = .ok (.sipush 6092, 3) := by decide +kernel
theorem dX8_init_17 : decode cX8_init 17 = .ok (.newarray .int, 2) := by decide +kernel
theorem dX8_init_19 : decode cX8_init 19 = .ok (.putfield 13, 3) := by decide +kernel
theorem dX8_init_22 : decode cX8_init 22 = .ok (.aload_n 0, 1) := by decide +kernel
theorem dX8_init_23 : decode cX8_init 23 = .ok (.sipush 3046, 3) := by decide +kernel
theorem dX8_init_26 : decode cX8_init 26 = .ok (.newarray .int, 2) := by decide +kernel
theorem dX8_init_28 : decode cX8_init 28 = .ok (.putfield 16, 3) := by decide +kernel
theorem dX8_init_31 : decode cX8_init 31 = .ok (.aload_n 0, 1) := by decide +kernel
theorem dX8_init_32 : decode cX8_init 32 = .ok (.iconst 2, 1) := by decide +kernel
theorem dX8_init_33 : decode cX8_init 33 = .ok (.newarray .boolean, 2) := by decide +kernel
theorem dX8_init_35 : decode cX8_init 35 = .ok (.putfield 19, 3) := by decide +kernel
theorem dX8_init_38 : decode cX8_init 38 = .ok (.aload_n 0, 1) := by decide +kernel
theorem dX8_init_39 : decode cX8_init 39 = .ok (.sipush 1523, 3) := by decide +kernel
theorem dX8_init_42 : decode cX8_init 42 = .ok (.newarray .int, 2) := by decide +kernel
theorem dX8_init_44 : decode cX8_init 44 = .ok (.putfield 23, 3) := by decide +kernel
theorem dX8_init_47 : decode cX8_init 47 = .ok (.aload_n 0, 1) := by decide +kernel
theorem dX8_init_48 : decode cX8_init 48 = .ok (.sipush 1523, 3) := by decide +kernel
theorem dX8_init_51 : decode cX8_init 51 = .ok (.newarray .int, 2) := by decide +kernel
theorem dX8_init_53 : decode cX8_init 53 = .ok (.putfield 26, 3) := by decide +kernel
theorem dX8_init_56 : decode cX8_init 56 = .ok (.aload_n 0, 1) := by decide +kernel
theorem dX8_init_57 : decode cX8_init 57 = .ok (.sipush 31232, 3) := by decide +kernel
theorem dX8_init_60 : decode cX8_init 60 = .ok (.newarray .int, 2) := by decide +kernel
theorem dX8_init_62 : decode cX8_init 62 = .ok (.putfield 29, 3) := by decide +kernel
theorem dX8_init_65 : decode cX8_init 65 = .ok (.aload_n 0, 1) := by decide +kernel
theorem dX8_init_66 : decode cX8_init 66 = .ok (.sipush 512, 3) := by decide +kernel
theorem dX8_init_69 : decode cX8_init 69 = .ok (.newarray .int, 2) := by decide +kernel
theorem dX8_init_71 : decode cX8_init 71 = .ok (.putfield 32, 3) := by decide +kernel
theorem dX8_init_74 : decode cX8_init 74 = .ok (.aload_n 0, 1) := by decide +kernel
theorem dX8_init_75 : decode cX8_init 75 = .ok (.bipush 12, 2) := by decide +kernel
theorem dX8_init_77 : decode cX8_init 77 = .ok (.newarray .int, 2) := by decide +kernel
theorem dX8_init_79 : decode cX8_init 79 = .ok (.putfield 35, 3) := by decide +kernel
theorem dX8_init_82 : decode cX8_init 82 = .ok (.aload_n 0, 1) := by decide +kernel
theorem dX8_init_83 : decode cX8_init 83 = .ok (.bipush 80, 2) := by decide +kernel
theorem dX8_init_85 : decode cX8_init 85 = .ok (.newarray .int, 2) := by decide +kernel
theorem dX8_init_87 : decode cX8_init 87 = .ok (.putfield 38, 3) := by decide +kernel
theorem dX8_init_90 : decode cX8_init 90 = .ok (.aload_n 0, 1) := by decide +kernel
theorem dX8_init_91 : decode cX8_init 91 = .ok (.sipush 128, 3) := by decide +kernel
theorem dX8_init_94 : decode cX8_init 94 = .ok (.newarray .int, 2) := by decide +kernel
theorem dX8_init_96 : decode cX8_init 96 = .ok (.putfield 41, 3) := by decide +kernel
theorem dX8_init_99 : decode cX8_init 99 = .ok (.aload_n 0, 1) := by decide +kernel
theorem dX8_init_100 : decode cX8_init 100 = .ok (.bipush 64, 2) := by decide +kernel
theorem dX8_init_102 : decode cX8_init 102 = .ok (.newarray .boolean, 2) := by decide +kernel
theorem dX8_init_104 : decode cX8_init 104 = .ok (.putfield 44, 3) := by decide +kernel
theorem dX8_init_107 : decode cX8_init 107 = .ok (.aload_n 0, 1) := by decide +kernel
theorem dX8_init_108 : decode cX8_init 108 = .ok (.getfield 7, 3) := by decide +kernel
theorem dX8_init_111 : decode cX8_init 111 = .ok (.iconst 0, 1) := by decide +kernel
theorem dX8_init_112 : decode cX8_init 112 = .ok (.bipush 16, 2) := by decide +kernel
theorem dX8_init_114 : decode cX8_init 114 = .ok (.iastore, 1) := by decide +kernel
theorem dX8_init_115 : decode cX8_init 115 = .ok (.aload_n 0, 1) := by decide +kernel
theorem dX8_init_116 : decode cX8_init 116 = .ok (.getfield 7, 3) := by decide +kernel
theorem dX8_init_119 : decode cX8_init 119 = .ok (.iconst 1, 1) := by decide +kernel
theorem dX8_init_120 : decode cX8_init 120 = .ok (.bipush 8, 2) := by decide +kernel
theorem dX8_init_122 : decode cX8_init 122 = .ok (.iastore, 1) := by decide +kernel
theorem dX8_init_123 : decode cX8_init 123 = .ok (.aload_n 0, 1) := by decide +kernel
theorem dX8_init_124 : decode cX8_init 124 = .ok (.invokevirtual 47, 3) := by decide +kernel
theorem dX8_init_127 : decode cX8_init 127 = .ok (.iconst 0, 1) := by decide +kernel
theorem dX8_init_128 : decode cX8_init 128 = .ok (.istore_n 1, 1) := by decide +kernel
theorem dX8_init_129 : decode cX8_init 129 = .ok (.iload_n 1, 1) := by decide +kernel
theorem dX8_init_130 : decode cX8_init 130 = .ok (.bipush 6, 2) := by decide +kernel
theorem dX8_init_132 : decode cX8_init 132 = .ok (.if_icmp .ge 31, 3) := by decide +kernel
theorem dX8_init_135 : decode cX8_init 135 = .ok (.aload_n 0, 1) := by decide +kernel
theorem dX8_init_136 : decode cX8_init 136 = .ok (.bipush 9, 2) := by decide +kernel
theorem dX8_init_138 : decode cX8_init 138 = .ok (.bipush 18, 2) := by decide +kernel
theorem dX8_init_140 : decode cX8_init 140 = .ok (.bipush 36, 2) := by decide +kernel
theorem dX8_init_142 : decode cX8_init 142 = .ok (.iload_n 1, 1) := by decide +kernel
theorem dX8_init_143 : decode cX8_init 143 = .ok (.invokevirtual 50, 3) := by decide +kernel
theorem dX8_init_146 : decode cX8_init 146 = .ok (.aload_n 0, 1) := by decide +kernel
theorem dX8_init_147 : decode cX8_init 147 = .ok (.bipush 21, 2) := by decide +kernel
theorem dX8_init_149 : decode cX8_init 149 = .ok (.bipush 42, 2) := by decide +kernel
theorem dX8_init_151 : decode cX8_init 151 = .ok (.bipush 42, 2) := by decide +kernel
theorem dX8_init_153 : decode cX8_init 153 = .ok (.iload_n 1, 1) := by decide +kernel
theorem dX8_init_154 : decode cX8_init 154 = .ok (.invokevirtual 50, 3) := by decide +kernel
theorem dX8_init_157 : decode cX8_init 157 = .ok (.iinc 1 1, 3) := by decide +kernel
theorem dX8_init_160 : decode cX8_init 160 = .ok (.goto (-31), 3) := by decide +kernel
theorem dX8_init_163 : decode cX8_init 163 = .ok (.iconst 0, 1) := by decide +kernel
theorem dX8_init_164 : decode cX8_init 164 = .ok (.istore_n 1, 1) := by decide +kernel
theorem dX8_init_165 : decode cX8_init 165 = .ok (.iload_n 1, 1) := by decide +kernel
theorem dX8_init_166 : decode cX8_init 166 = .ok (.sipush 128, 3) := by decide +kernel
theorem dX8_init_169 : decode cX8_init 169 = .ok (.if_icmp .ge 25, 3) := by decide +kernel
theorem dX8_init_172 : decode cX8_init 172 = .ok (.aload_n 0, 1) := by decide +kernel
theorem dX8_init_173 : decode cX8_init 173 = .ok (.getfield 7, 3) := by decide +kernel
theorem dX8_init_176 : decode cX8_init 176 = .ok (.sipush 1394, 3) := by decide +kernel
theorem dX8_init_179 : decode cX8_init 179 = .ok (.iload_n 1, 1) := by decide +kernel
theorem dX8_init_180 : decode cX8_init 180 = .ok (.iadd, 1) := by decide +kernel
theorem dX8_init_181 : decode cX8_init 181 = .ok (.aload_n 0, 1) := by decide +kernel
theorem dX8_init_182 : decode cX8_init 182 = .ok (.getfield 41, 3) := by decide +kernel
theorem dX8_init_185 : decode cX8_init 185 = .ok (.iload_n 1, 1) := by decide +kernel
theorem dX8_init_186 : decode cX8_init 186 = .ok (.iaload, 1) := by decide +kernel
theorem dX8_init_187 : decode cX8_init 187 = .ok (.iastore, 1) := by decide +kernel
theorem dX8_init_188 : decode cX8_init 188 = .ok (.iinc 1 1, 3) := by decide +kernel
theorem dX8_init_191 : decode cX8_init 191 = .ok (.goto (-26), 3) := by decide +kernel
theorem dX8_init_194 : decode cX8_init 194 = .ok (.aload_n 0, 1) := by decide +kernel
theorem dX8_init_195 : decode cX8_init 195 = .ok (.getfield 7, 3) := by decide +kernel
theorem dX8_init_198 : decode cX8_init 198 = .ok (.sipush 1522, 3) := by decide +kernel
theorem dX8_init_201 : decode cX8_init 201 = .ok (.iconst 2, 1) := by decide +kernel
theorem dX8_init_202 : decode cX8_init 202 = .ok (.iastore, 1) := by decide +kernel
theorem dX8_init_203 : decode cX8_init 203 = .ok (.return_, 1) := by decide +kernel
def f_X8_init : MX := mth 2 (sQ (sO) (sQ (sPa (eLa 0) 8 0 (eNi 0 1523)) (sQ (sPa (eLa 0) 8 1 (eNi 0 6092)) (sQ (sPa (eLa 0) 8 2 (eNi 0 3046)) (sQ (sPa (eLa 0) 8 3 (eNi 2 2)) (sQ (sPa (eLa 0) 8 4 (eNi 0 1523)) (sQ (sPa (eLa 0) 8 5 (eNi 0 1523)) (sQ (sPa (eLa 0) 8 6 (eNi 0 31232)) (sQ (sPa (eLa 0) 8 7 (eNi 0 512)) (sQ (sPa (eLa 0) 8 8 (eNi 0 12)) (sQ (sPa (eLa 0) 8 11 (eNi 0 80)) (sQ (sPa (eLa 0) 8 17 (eNi 0 128)) (sQ (sPa (eLa 0) 8 18 (eNi 2 64)) (sQ (sQ (sAi 0 (eGa (eLa 0) 8 0) (eI (0)) (eI (16))) (sQ (sAi 0 (eGa (eLa 0) 8 0) (eI (1)) (eI (8))) (sQ (sM (gd 8 f_X8_plain) (aA (aN) (eLa 0))) (sQ (sQ (sTi 1 (eI (0))) (sLp (cB c_lt (eLi 1) (eI (6))) (sQ (sQ (sM (gd 8 f_X8_names) (aI (aI (aI (aI (aA (aN) (eLa 0)) (eI (9))) (eI (18))) (eI (36))) (eLi 1))) (sM (gd 8 f_X8_names) (aI (aI (aI (aI (aA (aN) (eLa 0)) (eI (21))) (eI (42))) (eI (42))) (eLi 1)))) (sInc 1 (1))) NF)) (sQ (sQ (sTi 1 (eI (0))) (sLp (cB c_lt (eLi 1) (eI (128))) (sQ (sAi 0 (eGa (eLa 0) 8 0) (eOp o_iadd (eI (1394)) (eLi 1)) (eAi 0 (eGa (eLa 0) 8 17) (eLi 1))) (sInc 1 (1))) NF)) (sAi 0 (eGa (eLa 0) 8 0) (eI (1522)) (eI (2)))))))) (sRv)))))))))))))))
theorem Y_X8_init : Yk yX8_init cX8_init 2 none 0 := ⟨w1130, w16, by decide +kernel, by decide +kernel, by decide +kernel⟩
set_option maxRecDepth 20000 in
theorem k_X8_init (l : Launch) (g : GE) : MetX l g yX8_init cX8_init 2 none 1 ({ frames := 2, cells := 12, slots := 45737, locals := 45 } : Room) f_X8_init := by
  unfold f_X8_init
  exact MetX.of (own := RX8) 100 0 rfl (by decide +kernel) (by decide) (fun p e s m args below meth c Fin ad0 hr hn => ⟨_, _, Sv_seq (Sv_oinit w1131 w30 wOc dX8_init_0 dX8_init_1 (Nat.le_of_ble_eq_true rfl) (Nat.le_of_ble_eq_true rfl)) (Sv_seq (Sv_putA Fx8 (Ev_aload_n dX8_init_4 rfl) (Ev_newa_int (N := 1523) (v := 1523) (Ev_sipush dX8_init_5 (by decide)) (by decide) (by decide +kernel) (by decide) w68 dX8_init_8) (k := 0) (by decide) rfl rfl hn rfl w1143 dX8_init_10) (Sv_seq (Sv_putA Fx8 (Ev_aload_n dX8_init_13 rfl) (Ev_newa_int (N := 6092) (v := 6092) (Ev_sipush dX8_init_14 (by decide)) (by decide) (by decide +kernel) (by decide) w68 dX8_init_17) (k := 1) (by decide) rfl rfl hn rfl w1144 dX8_init_19) (Sv_seq (Sv_putA Fx8 (Ev_aload_n dX8_init_22 rfl) (Ev_newa_int (N := 3046) (v := 3046) (Ev_sipush dX8_init_23 (by decide)) (by decide) (by decide +kernel) (by decide) w68 dX8_init_26) (k := 2) (by decide) rfl rfl hn rfl w1145 dX8_init_28) (Sv_seq (Sv_putA Fx8 (Ev_aload_n dX8_init_31 rfl) (Ev_newa_boolean (N := 2) (v := 2) (Ev_iconst dX8_init_32 (by decide)) (by decide) (by decide +kernel) (by decide) w243 dX8_init_33) (k := 3) (by decide) rfl rfl hn rfl w1146 dX8_init_35) (Sv_seq (Sv_putA Fx8 (Ev_aload_n dX8_init_38 rfl) (Ev_newa_int (N := 1523) (v := 1523) (Ev_sipush dX8_init_39 (by decide)) (by decide) (by decide +kernel) (by decide) w68 dX8_init_42) (k := 4) (by decide) rfl rfl hn rfl w1147 dX8_init_44) (Sv_seq (Sv_putA Fx8 (Ev_aload_n dX8_init_47 rfl) (Ev_newa_int (N := 1523) (v := 1523) (Ev_sipush dX8_init_48 (by decide)) (by decide) (by decide +kernel) (by decide) w68 dX8_init_51) (k := 5) (by decide) rfl rfl hn rfl w1148 dX8_init_53) (Sv_seq (Sv_putA Fx8 (Ev_aload_n dX8_init_56 rfl) (Ev_newa_int (N := 31232) (v := 31232) (Ev_sipush dX8_init_57 (by decide)) (by decide) (by decide +kernel) (by decide) w68 dX8_init_60) (k := 6) (by decide) rfl rfl hn rfl w1149 dX8_init_62) (Sv_seq (Sv_putA Fx8 (Ev_aload_n dX8_init_65 rfl) (Ev_newa_int (N := 512) (v := 512) (Ev_sipush dX8_init_66 (by decide)) (by decide) (by decide +kernel) (by decide) w68 dX8_init_69) (k := 7) (by decide) rfl rfl hn rfl w1150 dX8_init_71) (Sv_seq (Sv_putA Fx8 (Ev_aload_n dX8_init_74 rfl) (Ev_newa_int (N := 12) (v := 12) (Ev_bipush dX8_init_75 (by decide)) (by decide) (by decide +kernel) (by decide) w68 dX8_init_77) (k := 8) (by decide) rfl rfl hn rfl w1151 dX8_init_79) (Sv_seq (Sv_putA Fx8 (Ev_aload_n dX8_init_82 rfl) (Ev_newa_int (N := 80) (v := 80) (Ev_bipush dX8_init_83 (by decide)) (by decide) (by decide +kernel) (by decide) w68 dX8_init_85) (k := 11) (by decide) rfl rfl hn rfl w1154 dX8_init_87) (Sv_seq (Sv_putA Fx8 (Ev_aload_n dX8_init_90 rfl) (Ev_newa_int (N := 128) (v := 128) (Ev_sipush dX8_init_91 (by decide)) (by decide) (by decide +kernel) (by decide) w68 dX8_init_94) (k := 17) (by decide) rfl rfl hn rfl w1160 dX8_init_96) (Sv_seq (Sv_putA Fx8 (Ev_aload_n dX8_init_99 rfl) (Ev_newa_boolean (N := 64) (v := 64) (Ev_bipush dX8_init_100 (by decide)) (by decide) (by decide +kernel) (by decide) w243 dX8_init_102) (k := 18) (by decide) rfl rfl hn rfl w1161 dX8_init_104) (Sv_seq (Sv_seq (Sv_iastore (Ev_getA Fx8 (Ev_aload_n dX8_init_107 rfl) (k := 0) (by decide) w1143 dX8_init_108) (Ev_iconst dX8_init_111 (by decide)) (Ev_bipush dX8_init_112 (by decide)) dX8_init_114) (Sv_seq (Sv_iastore (Ev_getA Fx8 (Ev_aload_n dX8_init_115 rfl) (k := 0) (by decide) w1143 dX8_init_116) (Ev_iconst dX8_init_119 (by decide)) (Ev_bipush dX8_init_120 (by decide)) dX8_init_122) (Sv_seq (Sv_call (Av_a (Av_nil) (Ev_aload_n dX8_init_123 rfl)) (Rn_V (ci := 8) Fx8.1 rfl Y_X8_plain (k_X8_plain _ _) w1132 w1134 wp27 dX8_init_124 (Nat.le_of_ble_eq_true rfl) (Nat.le_of_ble_eq_true rfl) (Nat.le_of_ble_eq_true rfl) (Nat.ne_of_beq_eq_false rfl))) (Sv_seq (Sv_seq (Sv_istore_n (Ev_iconst dX8_init_127 (by decide)) dX8_init_128 rfl (Nat.le_of_ble_eq_true rfl) (Nat.ne_of_beq_eq_false rfl)) (Sv_loop0 NF (Cv_icmp_ge_n (Ev_iload_n dX8_init_129 rfl) (Ev_bipush dX8_init_130 (by decide)) (t := 163) dX8_init_132 (by decide)) (Sv_goto (pE := 129) (Sv_seq (Sv_seq (Sv_call (Av_i (Av_i (Av_i (Av_i (Av_a (Av_nil) (Ev_aload_n dX8_init_135 rfl)) (Ev_bipush dX8_init_136 (by decide))) (Ev_bipush dX8_init_138 (by decide))) (Ev_bipush dX8_init_140 (by decide))) (Ev_iload_n dX8_init_142 rfl)) (Rn_V (ci := 8) Fx8.1 rfl Y_X8_names (k_X8_names _ _) w1136 w1138 wp28 dX8_init_143 (Nat.le_of_ble_eq_true rfl) (Nat.le_of_ble_eq_true rfl) (Nat.le_of_ble_eq_true rfl) (Nat.ne_of_beq_eq_false rfl))) (Sv_call (Av_i (Av_i (Av_i (Av_i (Av_a (Av_nil) (Ev_aload_n dX8_init_146 rfl)) (Ev_bipush dX8_init_147 (by decide))) (Ev_bipush dX8_init_149 (by decide))) (Ev_bipush dX8_init_151 (by decide))) (Ev_iload_n dX8_init_153 rfl)) (Rn_V (ci := 8) Fx8.1 rfl Y_X8_names (k_X8_names _ _) w1136 w1138 wp28 dX8_init_154 (Nat.le_of_ble_eq_true rfl) (Nat.le_of_ble_eq_true rfl) (Nat.le_of_ble_eq_true rfl) (Nat.ne_of_beq_eq_false rfl)))) (Sv_iinc dX8_init_157 (by decide) (Nat.le_of_ble_eq_true rfl) (Nat.ne_of_beq_eq_false rfl))) dX8_init_160 (by decide)))) (Sv_seq (Sv_seq (Sv_istore_n (Ev_iconst dX8_init_163 (by decide)) dX8_init_164 rfl (Nat.le_of_ble_eq_true rfl) (Nat.ne_of_beq_eq_false rfl)) (Sv_loop0 NF (Cv_icmp_ge_n (Ev_iload_n dX8_init_165 rfl) (Ev_sipush dX8_init_166 (by decide)) (t := 194) dX8_init_169 (by decide)) (Sv_goto (pE := 165) (Sv_seq (Sv_iastore (Ev_getA Fx8 (Ev_aload_n dX8_init_172 rfl) (k := 0) (by decide) w1143 dX8_init_173) (Ev_iadd (Ev_sipush dX8_init_176 (by decide)) (Ev_iload_n dX8_init_179 rfl) dX8_init_180) (Ev_iaload (Ev_getA Fx8 (Ev_aload_n dX8_init_181 rfl) (k := 17) (by decide) w1160 dX8_init_182) (Ev_iload_n dX8_init_185 rfl) dX8_init_186) dX8_init_187) (Sv_iinc dX8_init_188 (by decide) (Nat.le_of_ble_eq_true rfl) (Nat.ne_of_beq_eq_false rfl))) dX8_init_191 (by decide)))) (Sv_iastore (Ev_getA Fx8 (Ev_aload_n dX8_init_194 rfl) (k := 0) (by decide) w1143 dX8_init_195) (Ev_sipush dX8_init_198 (by decide)) (Ev_iconst dX8_init_201 (by decide)) dX8_init_202)))))) (Sv_retv hr dX8_init_203)))))))))))))), Nat.le_of_ble_eq_true rfl, Nat.le_of_ble_eq_true rfl⟩)
theorem dX8_thrown_0 : decode cX8_thrown 0 = .ok (.aload_n 0, 1) := by decide +kernel
theorem dX8_thrown_1 : decode cX8_thrown 1 = .ok (.getfield 54, 3) := by decide +kernel
theorem dX8_thrown_4 : decode cX8_thrown 4 = .ok (.ireturn, 1) := by decide +kernel
def f_X8_thrown : MX := mth 1 (sR (eGi (eLa 0) 8 10))
theorem Y_X8_thrown : Yk yX8_thrown cX8_thrown 1 (some .int) 0 := ⟨w1204, w16, by decide +kernel, by decide +kernel, by decide +kernel⟩
set_option maxRecDepth 20000 in
theorem k_X8_thrown (l : Launch) (g : GE) : MetX l g yX8_thrown cX8_thrown 1 (some .int) 1 ({ frames := 0, cells := 0, slots := 0, locals := 0 } : Room) f_X8_thrown := by
  unfold f_X8_thrown
  exact MetX.of (own := RX8) 100 0 rfl (by decide +kernel) (by decide) (fun p e s m args below meth c Fin ad0 hr hn => ⟨_, _, Sv_ret (Ev_getI Fx8 (Ev_aload_n dX8_thrown_0 rfl) (k := 10) (by decide) w1153 dX8_thrown_1) hr dX8_thrown_4, Nat.le_of_ble_eq_true rfl, Nat.le_of_ble_eq_true rfl⟩)
theorem dX8_in_0 : decode cX8_in 0 = .ok (.iload_n 0, 1) := by decide +kernel
theorem dX8_in_1 : decode cX8_in 1 = .ok (.iload_n 1, 1) := by decide +kernel
theorem dX8_in_2 : decode cX8_in 2 = .ok (.if_icmp .lt 12, 3) := by decide +kernel
theorem dX8_in_5 : decode cX8_in 5 = .ok (.iload_n 0, 1) := by decide +kernel
theorem dX8_in_6 : decode cX8_in 6 = .ok (.iload_n 2, 1) := by decide +kernel
theorem dX8_in_7 : decode cX8_in 7 = .ok (.if_icmp .gt 7, 3) := by decide +kernel
theorem dX8_in_10 : decode cX8_in 10 = .ok (.iconst 1, 1) := by decide +kernel
theorem dX8_in_11 : decode cX8_in 11 = .ok (.goto 4, 3) := by decide +kernel
theorem dX8_in_14 : decode cX8_in 14 = .ok (.iconst 0, 1) := by decide +kernel
theorem dX8_in_15 : decode cX8_in 15 = .ok (.ireturn, 1) := by decide +kernel
def f_X8_in : MX := mth 3 (sRz (eC (cAnd (cB c_ge (eLi 0) (eLi 1)) (cB c_le (eLi 0) (eLi 2)))))
theorem Y_X8_in : Yk yX8_in cX8_in 3 (some .boolean) 3 := ⟨w1211, w16, by decide +kernel, by decide +kernel, by decide +kernel⟩
set_option maxRecDepth 20000 in
theorem k_X8_in (l : Launch) (g : GE) : MetX l g yX8_in cX8_in 3 (some .boolean) 3 ({ frames := 0, cells := 0, slots := 0, locals := 0 } : Room) f_X8_in := by
  unfold f_X8_in
  exact MetX.of (own := RX8) 100 0 rfl (by decide +kernel) (by decide) (fun p e s m args below meth c Fin ad0 hr hn => ⟨_, _, Sv_retz (Ev_if (pT := 15) (Cv_and (Cv_icmp_lt_n (Ev_iload_n dX8_in_0 rfl) (Ev_iload_n dX8_in_1 rfl) (t := 14) dX8_in_2 (by decide)) (Cv_icmp_gt_n (Ev_iload_n dX8_in_5 rfl) (Ev_iload_n dX8_in_6 rfl) (t := 14) dX8_in_7 (by decide))) (Ev_iconst dX8_in_10 (by decide)) dX8_in_11 (by decide) (Ev_iconst dX8_in_14 (by decide))) hr dX8_in_15, Nat.le_of_ble_eq_true rfl, Nat.le_of_ble_eq_true rfl⟩)
theorem dX8_fails_0 : decode cX8_fails 0 = .ok (.aload_n 0, 1) := by decide +kernel
theorem dX8_fails_1 : decode cX8_fails 1 = .ok (.iload_n 1, 1) := by decide +kernel
theorem dX8_fails_2 : decode cX8_fails 2 = .ok (.putfield 54, 3) := by decide +kernel
theorem dX8_fails_5 : decode cX8_fails 5 = .ok (.iconst 0, 1) := by decide +kernel
theorem dX8_fails_6 : decode cX8_fails 6 = .ok (.ireturn, 1) := by decide +kernel
def f_X8_fails : MX := mth 2 (sQ (sPi (eLa 0) 8 10 (eLi 1)) (sR (eI (0))))
theorem Y_X8_fails : Yk yX8_fails cX8_fails 2 (some .int) 1 := ⟨w1215, w16, by decide +kernel, by decide +kernel, by decide +kernel⟩
set_option maxRecDepth 20000 in
theorem k_X8_fails (l : Launch) (g : GE) : MetX l g yX8_fails cX8_fails 2 (some .int) 2 ({ frames := 0, cells := 0, slots := 0, locals := 0 } : Room) f_X8_fails := by
  unfold f_X8_fails
  exact MetX.of (own := RX8) 100 0 rfl (by decide +kernel) (by decide) (fun p e s m args below meth c Fin ad0 hr hn => ⟨_, _, Sv_seq (Sv_putI Fx8 (Ev_aload_n dX8_fails_0 rfl) (Ev_iload_n dX8_fails_1 rfl) (k := 10) (by decide) rfl rfl w1153 dX8_fails_2) (Sv_ret (Ev_iconst dX8_fails_5 (by decide)) hr dX8_fails_6), Nat.le_of_ble_eq_true rfl, Nat.le_of_ble_eq_true rfl⟩)
theorem dX8_tells_0 : decode cX8_tells 0 = .ok (.aload_n 0, 1) := by decide +kernel
theorem dX8_tells_1 : decode cX8_tells 1 = .ok (.iconst 0, 1) := by decide +kernel
theorem dX8_tells_2 : decode cX8_tells 2 = .ok (.putfield 54, 3) := by decide +kernel
theorem dX8_tells_5 : decode cX8_tells 5 = .ok (.iload_n 1, 1) := by decide +kernel
theorem dX8_tells_6 : decode cX8_tells 6 = .ok (.ireturn, 1) := by decide +kernel
def f_X8_tells : MX := mth 2 (sQ (sPi (eLa 0) 8 10 (eI (0))) (sR (eLi 1)))
theorem Y_X8_tells : Yk yX8_tells cX8_tells 2 (some .int) 1 := ⟨w1231, w16, by decide +kernel, by decide +kernel, by decide +kernel⟩
set_option maxRecDepth 20000 in
theorem k_X8_tells (l : Launch) (g : GE) : MetX l g yX8_tells cX8_tells 2 (some .int) 2 ({ frames := 0, cells := 0, slots := 0, locals := 0 } : Room) f_X8_tells := by
  unfold f_X8_tells
  exact MetX.of (own := RX8) 100 0 rfl (by decide +kernel) (by decide) (fun p e s m args below meth c Fin ad0 hr hn => ⟨_, _, Sv_seq (Sv_putI Fx8 (Ev_aload_n dX8_tells_0 rfl) (Ev_iconst dX8_tells_1 (by decide)) (k := 10) (by decide) rfl rfl w1153 dX8_tells_2) (Sv_ret (Ev_iload_n dX8_tells_5 rfl) hr dX8_tells_6), Nat.le_of_ble_eq_true rfl, Nat.le_of_ble_eq_true rfl⟩)
theorem dX8_holds_0 : decode cX8_holds 0 = .ok (.iconst 0, 1) := by decide +kernel
theorem dX8_holds_1 : decode cX8_holds 1 = .ok (.istore_n 1, 1) := by decide +kernel
theorem dX8_holds_2 : decode cX8_holds 2 = .ok (.iload_n 1, 1) := by decide +kernel
theorem dX8_holds_3 : decode cX8_holds 3 = .ok (.sipush 1523, 3) := by decide +kernel
theorem dX8_holds_6 : decode cX8_holds 6 = .ok (.if_icmp .ge 21, 3) := by decide +kernel
theorem dX8_holds_9 : decode cX8_holds 9 = .ok (.aload_n 0, 1) := by decide +kernel
theorem dX8_holds_10 : decode cX8_holds 10 = .ok (.getfield 23, 3) := by decide +kernel
theorem dX8_holds_13 : decode cX8_holds 13 = .ok (.iload_n 1, 1) := by decide +kernel
theorem dX8_holds_14 : decode cX8_holds 14 = .ok (.aload_n 0, 1) := by decide +kernel
theorem dX8_holds_15 : decode cX8_holds 15 = .ok (.getfield 7, 3) := by decide +kernel
theorem dX8_holds_18 : decode cX8_holds 18 = .ok (.iload_n 1, 1) := by decide +kernel
theorem dX8_holds_19 : decode cX8_holds 19 = .ok (.iaload, 1) := by decide +kernel
theorem dX8_holds_20 : decode cX8_holds 20 = .ok (.iastore, 1) := by decide +kernel
theorem dX8_holds_21 : decode cX8_holds 21 = .ok (.iinc 1 1, 3) := by decide +kernel
theorem dX8_holds_24 : decode cX8_holds 24 = .ok (.goto (-22), 3) := by decide +kernel
theorem dX8_holds_27 : decode cX8_holds 27 = .ok (.return_, 1) := by decide +kernel
def f_X8_holds : MX := mth 2 (sQ (sQ (sTi 1 (eI (0))) (sLp (cB c_lt (eLi 1) (eI (1523))) (sQ (sAi 0 (eGa (eLa 0) 8 4) (eLi 1) (eAi 0 (eGa (eLa 0) 8 0) (eLi 1))) (sInc 1 (1))) NF)) (sRv))
theorem Y_X8_holds : Yk yX8_holds cX8_holds 2 none 0 := ⟨w1219, w16, by decide +kernel, by decide +kernel, by decide +kernel⟩
set_option maxRecDepth 20000 in
theorem k_X8_holds (l : Launch) (g : GE) : MetX l g yX8_holds cX8_holds 2 none 1 ({ frames := 0, cells := 0, slots := 0, locals := 0 } : Room) f_X8_holds := by
  unfold f_X8_holds
  exact MetX.of (own := RX8) 100 0 rfl (by decide +kernel) (by decide) (fun p e s m args below meth c Fin ad0 hr hn => ⟨_, _, Sv_seq (Sv_seq (Sv_istore_n (Ev_iconst dX8_holds_0 (by decide)) dX8_holds_1 rfl (Nat.le_of_ble_eq_true rfl) (Nat.ne_of_beq_eq_false rfl)) (Sv_loop0 NF (Cv_icmp_ge_n (Ev_iload_n dX8_holds_2 rfl) (Ev_sipush dX8_holds_3 (by decide)) (t := 27) dX8_holds_6 (by decide)) (Sv_goto (pE := 2) (Sv_seq (Sv_iastore (Ev_getA Fx8 (Ev_aload_n dX8_holds_9 rfl) (k := 4) (by decide) w1147 dX8_holds_10) (Ev_iload_n dX8_holds_13 rfl) (Ev_iaload (Ev_getA Fx8 (Ev_aload_n dX8_holds_14 rfl) (k := 0) (by decide) w1143 dX8_holds_15) (Ev_iload_n dX8_holds_18 rfl) dX8_holds_19) dX8_holds_20) (Sv_iinc dX8_holds_21 (by decide) (Nat.le_of_ble_eq_true rfl) (Nat.ne_of_beq_eq_false rfl))) dX8_holds_24 (by decide)))) (Sv_retv hr dX8_holds_27), Nat.le_of_ble_eq_true rfl, Nat.le_of_ble_eq_true rfl⟩)
theorem dX8_saves_0 : decode cX8_saves 0 = .ok (.aload_n 0, 1) := by decide +kernel
theorem dX8_saves_1 : decode cX8_saves 1 = .ok (.getfield 58, 3) := by decide +kernel
theorem dX8_saves_4 : decode cX8_saves 4 = .ok (.iconst 4, 1) := by decide +kernel
theorem dX8_saves_5 : decode cX8_saves 5 = .ok (.if_icmp .ne 44, 3) := by decide +kernel
theorem dX8_saves_8 : decode cX8_saves 8 = .ok (.iconst 0, 1) := by decide +kernel
theorem dX8_saves_9 : decode cX8_saves 9 = .ok (.istore_n 2, 1) := by decide +kernel
theorem dX8_saves_10 : decode cX8_saves 10 = .ok (.iload_n 2, 1) := by decide +kernel
theorem dX8_saves_11 : decode cX8_saves 11 = .ok (.sipush 4569, 3) := by decide +kernel
theorem dX8_saves_14 : decode cX8_saves 14 = .ok (.if_icmp .ge 25, 3) := by decide +kernel
theorem dX8_saves_17 : decode cX8_saves 17 = .ok (.aload_n 0, 1) := by decide +kernel
theorem dX8_saves_18 : decode cX8_saves 18 = .ok (.getfield 13, 3) := by decide +kernel
theorem dX8_saves_21 : decode cX8_saves 21 = .ok (.iload_n 2, 1) := by decide +kernel
theorem dX8_saves_22 : decode cX8_saves 22 = .ok (.aload_n 0, 1) := by decide +kernel
theorem dX8_saves_23 : decode cX8_saves 23 = .ok (.getfield 13, 3) := by decide +kernel
theorem dX8_saves_26 : decode cX8_saves 26 = .ok (.iload_n 2, 1) := by decide +kernel
theorem dX8_saves_27 : decode cX8_saves 27 = .ok (.sipush 1523, 3) := by decide +kernel
theorem dX8_saves_30 : decode cX8_saves 30 = .ok (.iadd, 1) := by decide +kernel
theorem dX8_saves_31 : decode cX8_saves 31 = .ok (.iaload, 1) := by decide +kernel
theorem dX8_saves_32 : decode cX8_saves 32 = .ok (.iastore, 1) := by decide +kernel
theorem dX8_saves_33 : decode cX8_saves 33 = .ok (.iinc 2 1, 3) := by decide +kernel
theorem dX8_saves_36 : decode cX8_saves 36 = .ok (.goto (-26), 3) := by decide +kernel
theorem dX8_saves_39 : decode cX8_saves 39 = .ok (.aload_n 0, 1) := by decide +kernel
theorem dX8_saves_40 : decode cX8_saves 40 = .ok (.dup, 1) := by decide +kernel
theorem dX8_saves_41 : decode cX8_saves 41 = .ok (.getfield 58, 3) := by decide +kernel
theorem dX8_saves_44 : decode cX8_saves 44 = .ok (.iconst 1, 1) := by decide +kernel
theorem dX8_saves_45 : decode cX8_saves 45 = .ok (.isub, 1) := by decide +kernel
theorem dX8_saves_46 : decode cX8_saves 46 = .ok (.putfield 58, 3) := by decide +kernel
theorem dX8_saves_49 : decode cX8_saves 49 = .ok (.iconst 0, 1) := by decide +kernel
theorem dX8_saves_50 : decode cX8_saves 50 = .ok (.istore_n 2, 1) := by decide +kernel
theorem dX8_saves_51 : decode cX8_saves 51 = .ok (.iload_n 2, 1) := by decide +kernel
theorem dX8_saves_52 : decode cX8_saves 52 = .ok (.sipush 1523, 3) := by decide +kernel
theorem dX8_saves_55 : decode cX8_saves 55 = .ok (.if_icmp .ge 30, 3) := by decide +kernel
theorem dX8_saves_58 : decode cX8_saves 58 = .ok (.aload_n 0, 1) := by decide +kernel
theorem dX8_saves_59 : decode cX8_saves 59 = .ok (.getfield 13, 3) := by decide +kernel
theorem dX8_saves_62 : decode cX8_saves 62 = .ok (.sipush 1523, 3) := by decide +kernel
theorem dX8_saves_65 : decode cX8_saves 65 = .ok (.aload_n 0, 1) := by decide +kernel
theorem dX8_saves_66 : decode cX8_saves 66 = .ok (.getfield 58, 3) := by decide +kernel
theorem dX8_saves_69 : decode cX8_saves 69 = .ok (.imul, 1) := by decide +kernel
theorem dX8_saves_70 : decode cX8_saves 70 = .ok (.iload_n 2, 1) := by decide +kernel
theorem dX8_saves_71 : decode cX8_saves 71 = .ok (.iadd, 1) := by decide +kernel
theorem dX8_saves_72 : decode cX8_saves 72 = .ok (.aload_n 0, 1) := by decide +kernel
theorem dX8_saves_73 : decode cX8_saves 73 = .ok (.getfield 23, 3) := by decide +kernel
theorem dX8_saves_76 : decode cX8_saves 76 = .ok (.iload_n 2, 1) := by decide +kernel
theorem dX8_saves_77 : decode cX8_saves 77 = .ok (.iaload, 1) := by decide +kernel
theorem dX8_saves_78 : decode cX8_saves 78 = .ok (.iastore, 1) := by decide +kernel
theorem dX8_saves_79 : decode cX8_saves 79 = .ok (.iinc 2 1, 3) := by decide +kernel
theorem dX8_saves_82 : decode cX8_saves 82 = .ok (.goto (-31), 3) := by decide +kernel
theorem dX8_saves_85 : decode cX8_saves 85 = .ok (.aload_n 0, 1) := by decide +kernel
theorem dX8_saves_86 : decode cX8_saves 86 = .ok (.dup, 1) := by decide +kernel
theorem dX8_saves_87 : decode cX8_saves 87 = .ok (.getfield 58, 3) := by decide +kernel
theorem dX8_saves_90 : decode cX8_saves 90 = .ok (.iconst 1, 1) := by decide +kernel
theorem dX8_saves_91 : decode cX8_saves 91 = .ok (.iadd, 1) := by decide +kernel
theorem dX8_saves_92 : decode cX8_saves 92 = .ok (.putfield 58, 3) := by decide +kernel
theorem dX8_saves_95 : decode cX8_saves 95 = .ok (.aload_n 0, 1) := by decide +kernel
theorem dX8_saves_96 : decode cX8_saves 96 = .ok (.iload_n 1, 1) := by decide +kernel
theorem dX8_saves_97 : decode cX8_saves 97 = .ok (.invokevirtual 61, 3) := by decide +kernel
theorem dX8_saves_100 : decode cX8_saves 100 = .ok (.ireturn, 1) := by decide +kernel
def f_X8_saves : MX := mth 3 (sQ (sIf (cB c_eq (eGi (eLa 0) 8 9) (eI (4))) (sQ (sQ (sTi 2 (eI (0))) (sLp (cB c_lt (eLi 2) (eI (4569))) (sQ (sAi 0 (eGa (eLa 0) 8 1) (eLi 2) (eAi 0 (eGa (eLa 0) 8 1) (eOp o_iadd (eLi 2) (eI (1523))))) (sInc 2 (1))) NF)) (sPo (eLa 0) 8 9 o_isub (eI (1)))) sN) (sQ (sQ (sTi 2 (eI (0))) (sLp (cB c_lt (eLi 2) (eI (1523))) (sQ (sAi 0 (eGa (eLa 0) 8 1) (eOp o_iadd (eOp o_imul (eI (1523)) (eGi (eLa 0) 8 9)) (eLi 2)) (eAi 0 (eGa (eLa 0) 8 4) (eLi 2))) (sInc 2 (1))) NF)) (sQ (sPo (eLa 0) 8 9 o_iadd (eI (1))) (sR (eM (gd 8 f_X8_tells) (aI (aA (aN) (eLa 0)) (eLi 1)))))))
theorem Y_X8_saves : Yk yX8_saves cX8_saves 3 (some .int) 1 := ⟨w1227, w16, by decide +kernel, by decide +kernel, by decide +kernel⟩
set_option maxRecDepth 20000 in
theorem k_X8_saves (l : Launch) (g : GE) : MetX l g yX8_saves cX8_saves 3 (some .int) 2 ({ frames := 1, cells := 0, slots := 0, locals := 21 } : Room) f_X8_saves := by
  unfold f_X8_saves
  exact MetX.of (own := RX8) 100 0 rfl (by decide +kernel) (by decide) (fun p e s m args below meth c Fin ad0 hr hn => ⟨_, _, Sv_seq (Sv_if (Cv_icmp_ne_n (Ev_getI Fx8 (Ev_aload_n dX8_saves_0 rfl) (k := 9) (by decide) w1152 dX8_saves_1) (Ev_iconst dX8_saves_4 (by decide)) (t := 49) dX8_saves_5 (by decide)) (Sv_seq (Sv_seq (Sv_istore_n (Ev_iconst dX8_saves_8 (by decide)) dX8_saves_9 rfl (Nat.le_of_ble_eq_true rfl) (Nat.ne_of_beq_eq_false rfl)) (Sv_loop0 NF (Cv_icmp_ge_n (Ev_iload_n dX8_saves_10 rfl) (Ev_sipush dX8_saves_11 (by decide)) (t := 39) dX8_saves_14 (by decide)) (Sv_goto (pE := 10) (Sv_seq (Sv_iastore (Ev_getA Fx8 (Ev_aload_n dX8_saves_17 rfl) (k := 1) (by decide) w1144 dX8_saves_18) (Ev_iload_n dX8_saves_21 rfl) (Ev_iaload (Ev_getA Fx8 (Ev_aload_n dX8_saves_22 rfl) (k := 1) (by decide) w1144 dX8_saves_23) (Ev_iadd (Ev_iload_n dX8_saves_26 rfl) (Ev_sipush dX8_saves_27 (by decide)) dX8_saves_30) dX8_saves_31) dX8_saves_32) (Sv_iinc dX8_saves_33 (by decide) (Nat.le_of_ble_eq_true rfl) (Nat.ne_of_beq_eq_false rfl))) dX8_saves_36 (by decide)))) (Sv_fop_isub (idx2 := 0) Fx8 (Ev_aload_n dX8_saves_39 rfl) dX8_saves_40 dX8_saves_41 (Ev_iconst dX8_saves_44 (by decide)) dX8_saves_45 (k := 9) (by decide) rfl rfl w1152 dX8_saves_46)) Sv_nop) (Sv_seq (Sv_seq (Sv_istore_n (Ev_iconst dX8_saves_49 (by decide)) dX8_saves_50 rfl (Nat.le_of_ble_eq_true rfl) (Nat.ne_of_beq_eq_false rfl)) (Sv_loop0 NF (Cv_icmp_ge_n (Ev_iload_n dX8_saves_51 rfl) (Ev_sipush dX8_saves_52 (by decide)) (t := 85) dX8_saves_55 (by decide)) (Sv_goto (pE := 51) (Sv_seq (Sv_iastore (Ev_getA Fx8 (Ev_aload_n dX8_saves_58 rfl) (k := 1) (by decide) w1144 dX8_saves_59) (Ev_iadd (Ev_imul (Ev_sipush dX8_saves_62 (by decide)) (Ev_getI Fx8 (Ev_aload_n dX8_saves_65 rfl) (k := 9) (by decide) w1152 dX8_saves_66) dX8_saves_69) (Ev_iload_n dX8_saves_70 rfl) dX8_saves_71) (Ev_iaload (Ev_getA Fx8 (Ev_aload_n dX8_saves_72 rfl) (k := 4) (by decide) w1147 dX8_saves_73) (Ev_iload_n dX8_saves_76 rfl) dX8_saves_77) dX8_saves_78) (Sv_iinc dX8_saves_79 (by decide) (Nat.le_of_ble_eq_true rfl) (Nat.ne_of_beq_eq_false rfl))) dX8_saves_82 (by decide)))) (Sv_seq (Sv_fop_iadd (idx2 := 0) Fx8 (Ev_aload_n dX8_saves_85 rfl) dX8_saves_86 dX8_saves_87 (Ev_iconst dX8_saves_90 (by decide)) dX8_saves_91 (k := 9) (by decide) rfl rfl w1152 dX8_saves_92) (Sv_ret (Ev_call (Av_i (Av_a (Av_nil) (Ev_aload_n dX8_saves_95 rfl)) (Ev_iload_n dX8_saves_96 rfl)) (Rn_V (ci := 8) Fx8.1 rfl Y_X8_tells (k_X8_tells _ _) w1228 w1230 wp33 dX8_saves_97 (Nat.le_of_ble_eq_true rfl) (Nat.le_of_ble_eq_true rfl) (Nat.le_of_ble_eq_true rfl) (Nat.ne_of_beq_eq_false rfl))) hr dX8_saves_100))), Nat.le_of_ble_eq_true rfl, Nat.le_of_ble_eq_true rfl⟩)
theorem dX8_lays_0 : decode cX8_lays 0 = .ok (.iconst 0, 1) := by decide +kernel
theorem dX8_lays_1 : decode cX8_lays 1 = .ok (.istore_n 1, 1) := by decide +kernel
theorem dX8_lays_2 : decode cX8_lays 2 = .ok (.iload_n 1, 1) := by decide +kernel
theorem dX8_lays_3 : decode cX8_lays 3 = .ok (.sipush 1523, 3) := by decide +kernel
theorem dX8_lays_6 : decode cX8_lays 6 = .ok (.if_icmp .ge 21, 3) := by decide +kernel
theorem dX8_lays_9 : decode cX8_lays 9 = .ok (.aload_n 0, 1) := by decide +kernel
theorem dX8_lays_10 : decode cX8_lays 10 = .ok (.getfield 26, 3) := by decide +kernel
theorem dX8_lays_13 : decode cX8_lays 13 = .ok (.iload_n 1, 1) := by decide +kernel
theorem dX8_lays_14 : decode cX8_lays 14 = .ok (.aload_n 0, 1) := by decide +kernel
theorem dX8_lays_15 : decode cX8_lays 15 = .ok (.getfield 7, 3) := by decide +kernel
theorem dX8_lays_18 : decode cX8_lays 18 = .ok (.iload_n 1, 1) := by decide +kernel
theorem dX8_lays_19 : decode cX8_lays 19 = .ok (.iaload, 1) := by decide +kernel
theorem dX8_lays_20 : decode cX8_lays 20 = .ok (.iastore, 1) := by decide +kernel
theorem dX8_lays_21 : decode cX8_lays 21 = .ok (.iinc 1 1, 3) := by decide +kernel
theorem dX8_lays_24 : decode cX8_lays 24 = .ok (.goto (-22), 3) := by decide +kernel
theorem dX8_lays_27 : decode cX8_lays 27 = .ok (.return_, 1) := by decide +kernel
def f_X8_lays : MX := mth 2 (sQ (sQ (sTi 1 (eI (0))) (sLp (cB c_lt (eLi 1) (eI (1523))) (sQ (sAi 0 (eGa (eLa 0) 8 5) (eLi 1) (eAi 0 (eGa (eLa 0) 8 0) (eLi 1))) (sInc 1 (1))) NF)) (sRv))
theorem Y_X8_lays : Yk yX8_lays cX8_lays 2 none 0 := ⟨w1530, w16, by decide +kernel, by decide +kernel, by decide +kernel⟩
set_option maxRecDepth 20000 in
theorem k_X8_lays (l : Launch) (g : GE) : MetX l g yX8_lays cX8_lays 2 none 1 ({ frames := 0, cells := 0, slots := 0, locals := 0 } : Room) f_X8_lays := by
  unfold f_X8_lays
  exact MetX.of (own := RX8) 100 0 rfl (by decide +kernel) (by decide) (fun p e s m args below meth c Fin ad0 hr hn => ⟨_, _, Sv_seq (Sv_seq (Sv_istore_n (Ev_iconst dX8_lays_0 (by decide)) dX8_lays_1 rfl (Nat.le_of_ble_eq_true rfl) (Nat.ne_of_beq_eq_false rfl)) (Sv_loop0 NF (Cv_icmp_ge_n (Ev_iload_n dX8_lays_2 rfl) (Ev_sipush dX8_lays_3 (by decide)) (t := 27) dX8_lays_6 (by decide)) (Sv_goto (pE := 2) (Sv_seq (Sv_iastore (Ev_getA Fx8 (Ev_aload_n dX8_lays_9 rfl) (k := 5) (by decide) w1148 dX8_lays_10) (Ev_iload_n dX8_lays_13 rfl) (Ev_iaload (Ev_getA Fx8 (Ev_aload_n dX8_lays_14 rfl) (k := 0) (by decide) w1143 dX8_lays_15) (Ev_iload_n dX8_lays_18 rfl) dX8_lays_19) dX8_lays_20) (Sv_iinc dX8_lays_21 (by decide) (Nat.le_of_ble_eq_true rfl) (Nat.ne_of_beq_eq_false rfl))) dX8_lays_24 (by decide)))) (Sv_retv hr dX8_lays_27), Nat.le_of_ble_eq_true rfl, Nat.le_of_ble_eq_true rfl⟩)
theorem dX8_restores_0 : decode cX8_restores 0 = .ok (.iconst 0, 1) := by decide +kernel
theorem dX8_restores_1 : decode cX8_restores 1 = .ok (.istore_n 1, 1) := by decide +kernel
theorem dX8_restores_2 : decode cX8_restores 2 = .ok (.iload_n 1, 1) := by decide +kernel
theorem dX8_restores_3 : decode cX8_restores 3 = .ok (.sipush 1523, 3) := by decide +kernel
theorem dX8_restores_6 : decode cX8_restores 6 = .ok (.if_icmp .ge 21, 3) := by decide +kernel
theorem dX8_restores_9 : decode cX8_restores 9 = .ok (.aload_n 0, 1) := by decide +kernel
theorem dX8_restores_10 : decode cX8_restores 10 = .ok (.getfield 7, 3) := by decide +kernel
theorem dX8_restores_13 : decode cX8_restores 13 = .ok (.iload_n 1, 1) := by decide +kernel
theorem dX8_restores_14 : decode cX8_restores 14 = .ok (.aload_n 0, 1) := by decide +kernel
theorem dX8_restores_15 : decode cX8_restores 15 = .ok (.getfield 26, 3) := by decide +kernel
theorem dX8_restores_18 : decode cX8_restores 18 = .ok (.iload_n 1, 1) := by decide +kernel
theorem dX8_restores_19 : decode cX8_restores 19 = .ok (.iaload, 1) := by decide +kernel
theorem dX8_restores_20 : decode cX8_restores 20 = .ok (.iastore, 1) := by decide +kernel
theorem dX8_restores_21 : decode cX8_restores 21 = .ok (.iinc 1 1, 3) := by decide +kernel
theorem dX8_restores_24 : decode cX8_restores 24 = .ok (.goto (-22), 3) := by decide +kernel
theorem dX8_restores_27 : decode cX8_restores 27 = .ok (.return_, 1) := by decide +kernel
def f_X8_restores : MX := mth 2 (sQ (sQ (sTi 1 (eI (0))) (sLp (cB c_lt (eLi 1) (eI (1523))) (sQ (sAi 0 (eGa (eLa 0) 8 0) (eLi 1) (eAi 0 (eGa (eLa 0) 8 5) (eLi 1))) (sInc 1 (1))) NF)) (sRv))
theorem Y_X8_restores : Yk yX8_restores cX8_restores 2 none 0 := ⟨w1538, w16, by decide +kernel, by decide +kernel, by decide +kernel⟩
set_option maxRecDepth 20000 in
theorem k_X8_restores (l : Launch) (g : GE) : MetX l g yX8_restores cX8_restores 2 none 1 ({ frames := 0, cells := 0, slots := 0, locals := 0 } : Room) f_X8_restores := by
  unfold f_X8_restores
  exact MetX.of (own := RX8) 100 0 rfl (by decide +kernel) (by decide) (fun p e s m args below meth c Fin ad0 hr hn => ⟨_, _, Sv_seq (Sv_seq (Sv_istore_n (Ev_iconst dX8_restores_0 (by decide)) dX8_restores_1 rfl (Nat.le_of_ble_eq_true rfl) (Nat.ne_of_beq_eq_false rfl)) (Sv_loop0 NF (Cv_icmp_ge_n (Ev_iload_n dX8_restores_2 rfl) (Ev_sipush dX8_restores_3 (by decide)) (t := 27) dX8_restores_6 (by decide)) (Sv_goto (pE := 2) (Sv_seq (Sv_iastore (Ev_getA Fx8 (Ev_aload_n dX8_restores_9 rfl) (k := 0) (by decide) w1143 dX8_restores_10) (Ev_iload_n dX8_restores_13 rfl) (Ev_iaload (Ev_getA Fx8 (Ev_aload_n dX8_restores_14 rfl) (k := 5) (by decide) w1148 dX8_restores_15) (Ev_iload_n dX8_restores_18 rfl) dX8_restores_19) dX8_restores_20) (Sv_iinc dX8_restores_21 (by decide) (Nat.le_of_ble_eq_true rfl) (Nat.ne_of_beq_eq_false rfl))) dX8_restores_24 (by decide)))) (Sv_retv hr dX8_restores_27), Nat.le_of_ble_eq_true rfl, Nat.le_of_ble_eq_true rfl⟩)
theorem dX8_isColumn_0 : decode cX8_isColumn 0 = .ok (.iload_n 1, 1) := by decide +kernel
theorem dX8_isColumn_1 : decode cX8_isColumn 1 = .ok (.iconst 0, 1) := by decide +kernel
theorem dX8_isColumn_2 : decode cX8_isColumn 2 = .ok (.aload_n 0, 1) := by decide +kernel
theorem dX8_isColumn_3 : decode cX8_isColumn 3 = .ok (.getfield 7, 3) := by decide +kernel
theorem dX8_isColumn_6 : decode cX8_isColumn 6 = .ok (.iconst 0, 1) := by decide +kernel
theorem dX8_isColumn_7 : decode cX8_isColumn 7 = .ok (.iaload, 1) := by decide +kernel
theorem dX8_isColumn_8 : decode cX8_isColumn 8 = .ok (.iconst 1, 1) := by decide +kernel
theorem dX8_isColumn_9 : decode cX8_isColumn 9 = .ok (.isub, 1) := by decide +kernel
theorem dX8_isColumn_10 : decode cX8_isColumn 10 = .ok (.invokestatic 65, 3) := by decide +kernel
theorem dX8_isColumn_13 : decode cX8_isColumn 13 = .ok (.ireturn, 1) := by decide +kernel
def f_X8_isColumn : MX := mth 2 (sRz (eM (f_X8_in) (aI (aI (aI (aN) (eLi 1)) (eI (0))) (eOp o_isub (eAi 0 (eGa (eLa 0) 8 0) (eI (0))) (eI (1))))))
theorem Y_X8_isColumn : Yk yX8_isColumn cX8_isColumn 2 (some .boolean) 1 := ⟨w1250, w16, by decide +kernel, by decide +kernel, by decide +kernel⟩
set_option maxRecDepth 20000 in
theorem k_X8_isColumn (l : Launch) (g : GE) : MetX l g yX8_isColumn cX8_isColumn 2 (some .boolean) 2 ({ frames := 1, cells := 0, slots := 0, locals := 22 } : Room) f_X8_isColumn := by
  unfold f_X8_isColumn
  exact MetX.of (own := RX8) 100 0 rfl (by decide +kernel) (by decide) (fun p e s m args below meth c Fin ad0 hr hn => ⟨_, _, Sv_retz (Ev_call (Av_i (Av_i (Av_i (Av_nil) (Ev_iload_n dX8_isColumn_0 rfl)) (Ev_iconst dX8_isColumn_1 (by decide))) (Ev_isub (Ev_iaload (Ev_getA Fx8 (Ev_aload_n dX8_isColumn_2 rfl) (k := 0) (by decide) w1143 dX8_isColumn_3) (Ev_iconst dX8_isColumn_6 (by decide)) dX8_isColumn_7) (Ev_iconst dX8_isColumn_8 (by decide)) dX8_isColumn_9)) (Rn_S Y_X8_in (k_X8_in _ _) w1209 w1210 dX8_isColumn_10 (Nat.le_of_ble_eq_true rfl) (Nat.le_of_ble_eq_true rfl) (Nat.le_of_ble_eq_true rfl) (Nat.ne_of_beq_eq_false rfl))) hr dX8_isColumn_13, Nat.le_of_ble_eq_true rfl, Nat.le_of_ble_eq_true rfl⟩)
theorem dX8_isRow_0 : decode cX8_isRow 0 = .ok (.iload_n 1, 1) := by decide +kernel
theorem dX8_isRow_1 : decode cX8_isRow 1 = .ok (.iconst 0, 1) := by decide +kernel
theorem dX8_isRow_2 : decode cX8_isRow 2 = .ok (.aload_n 0, 1) := by decide +kernel
theorem dX8_isRow_3 : decode cX8_isRow 3 = .ok (.getfield 7, 3) := by decide +kernel
theorem dX8_isRow_6 : decode cX8_isRow 6 = .ok (.iconst 1, 1) := by decide +kernel
theorem dX8_isRow_7 : decode cX8_isRow 7 = .ok (.iaload, 1) := by decide +kernel
theorem dX8_isRow_8 : decode cX8_isRow 8 = .ok (.iconst 1, 1) := by decide +kernel
theorem dX8_isRow_9 : decode cX8_isRow 9 = .ok (.isub, 1) := by decide +kernel
theorem dX8_isRow_10 : decode cX8_isRow 10 = .ok (.invokestatic 65, 3) := by decide +kernel
theorem dX8_isRow_13 : decode cX8_isRow 13 = .ok (.ireturn, 1) := by decide +kernel
def f_X8_isRow : MX := mth 2 (sRz (eM (f_X8_in) (aI (aI (aI (aN) (eLi 1)) (eI (0))) (eOp o_isub (eAi 0 (eGa (eLa 0) 8 0) (eI (1))) (eI (1))))))
theorem Y_X8_isRow : Yk yX8_isRow cX8_isRow 2 (some .boolean) 1 := ⟨w1254, w16, by decide +kernel, by decide +kernel, by decide +kernel⟩
set_option maxRecDepth 20000 in
theorem k_X8_isRow (l : Launch) (g : GE) : MetX l g yX8_isRow cX8_isRow 2 (some .boolean) 2 ({ frames := 1, cells := 0, slots := 0, locals := 22 } : Room) f_X8_isRow := by
  unfold f_X8_isRow
  exact MetX.of (own := RX8) 100 0 rfl (by decide +kernel) (by decide) (fun p e s m args below meth c Fin ad0 hr hn => ⟨_, _, Sv_retz (Ev_call (Av_i (Av_i (Av_i (Av_nil) (Ev_iload_n dX8_isRow_0 rfl)) (Ev_iconst dX8_isRow_1 (by decide))) (Ev_isub (Ev_iaload (Ev_getA Fx8 (Ev_aload_n dX8_isRow_2 rfl) (k := 0) (by decide) w1143 dX8_isRow_3) (Ev_iconst dX8_isRow_6 (by decide)) dX8_isRow_7) (Ev_iconst dX8_isRow_8 (by decide)) dX8_isRow_9)) (Rn_S Y_X8_in (k_X8_in _ _) w1209 w1210 dX8_isRow_10 (Nat.le_of_ble_eq_true rfl) (Nat.le_of_ble_eq_true rfl) (Nat.le_of_ble_eq_true rfl) (Nat.ne_of_beq_eq_false rfl))) hr dX8_isRow_13, Nat.le_of_ble_eq_true rfl, Nat.le_of_ble_eq_true rfl⟩)
theorem dX8_isCell_0 : decode cX8_isCell 0 = .ok (.aload_n 0, 1) := by decide +kernel
theorem dX8_isCell_1 : decode cX8_isCell 1 = .ok (.iload_n 1, 1) := by decide +kernel
theorem dX8_isCell_2 : decode cX8_isCell 2 = .ok (.invokevirtual 69, 3) := by decide +kernel
theorem dX8_isCell_5 : decode cX8_isCell 5 = .ok (.ifCond .eq 15, 3) := by decide +kernel
theorem dX8_isCell_8 : decode cX8_isCell 8 = .ok (.aload_n 0, 1) := by decide +kernel
theorem dX8_isCell_9 : decode cX8_isCell 9 = .ok (.iload_n 2, 1) := by decide +kernel
theorem dX8_isCell_10 : decode cX8_isCell 10 = .ok (.invokevirtual 73, 3) := by decide +kernel
theorem dX8_isCell_13 : decode cX8_isCell 13 = .ok (.ifCond .eq 7, 3) := by decide +kernel
theorem dX8_isCell_16 : decode cX8_isCell 16 = .ok (.iconst 1, 1) := by decide +kernel
theorem dX8_isCell_17 : decode cX8_isCell 17 = .ok (.goto 4, 3) := by decide +kernel
theorem dX8_isCell_20 : decode cX8_isCell 20 = .ok (.iconst 0, 1) := by decide +kernel
theorem dX8_isCell_21 : decode cX8_isCell 21 = .ok (.ireturn, 1) := by decide +kernel
def f_X8_isCell : MX := mth 3 (sRz (eC (cAnd (cZ z_ne (eM (gd 8 f_X8_isColumn) (aI (aA (aN) (eLa 0)) (eLi 1)))) (cZ z_ne (eM (gd 8 f_X8_isRow) (aI (aA (aN) (eLa 0)) (eLi 2)))))))
theorem Y_X8_isCell : Yk yX8_isCell cX8_isCell 3 (some .boolean) 2 := ⟨w1246, w16, by decide +kernel, by decide +kernel, by decide +kernel⟩
set_option maxRecDepth 20000 in
theorem k_X8_isCell (l : Launch) (g : GE) : MetX l g yX8_isCell cX8_isCell 3 (some .boolean) 3 ({ frames := 2, cells := 0, slots := 0, locals := 43 } : Room) f_X8_isCell := by
  unfold f_X8_isCell
  exact MetX.of (own := RX8) 100 0 rfl (by decide +kernel) (by decide) (fun p e s m args below meth c Fin ad0 hr hn => ⟨_, _, Sv_retz (Ev_if (pT := 21) (Cv_and (Cv_if_eq_n (Ev_call (Av_i (Av_a (Av_nil) (Ev_aload_n dX8_isCell_0 rfl)) (Ev_iload_n dX8_isCell_1 rfl)) (Rn_V (ci := 8) Fx8.1 rfl Y_X8_isColumn (k_X8_isColumn _ _) w1247 w1249 wp35 dX8_isCell_2 (Nat.le_of_ble_eq_true rfl) (Nat.le_of_ble_eq_true rfl) (Nat.le_of_ble_eq_true rfl) (Nat.ne_of_beq_eq_false rfl))) (t := 20) dX8_isCell_5 (by decide)) (Cv_if_eq_n (Ev_call (Av_i (Av_a (Av_nil) (Ev_aload_n dX8_isCell_8 rfl)) (Ev_iload_n dX8_isCell_9 rfl)) (Rn_V (ci := 8) Fx8.1 rfl Y_X8_isRow (k_X8_isRow _ _) w1251 w1253 wp36 dX8_isCell_10 (Nat.le_of_ble_eq_true rfl) (Nat.le_of_ble_eq_true rfl) (Nat.le_of_ble_eq_true rfl) (Nat.ne_of_beq_eq_false rfl))) (t := 20) dX8_isCell_13 (by decide))) (Ev_iconst dX8_isCell_16 (by decide)) dX8_isCell_17 (by decide) (Ev_iconst dX8_isCell_20 (by decide))) hr dX8_isCell_21, Nat.le_of_ble_eq_true rfl, Nat.le_of_ble_eq_true rfl⟩)
theorem dX8_place_0 : decode cX8_place 0 = .ok (.bipush 32, 2) := by decide +kernel
theorem dX8_place_2 : decode cX8_place 2 = .ok (.iload_n 1, 1) := by decide +kernel
theorem dX8_place_3 : decode cX8_place 3 = .ok (.imul, 1) := by decide +kernel
theorem dX8_place_4 : decode cX8_place 4 = .ok (.iload_n 0, 1) := by decide +kernel
theorem dX8_place_5 : decode cX8_place 5 = .ok (.iadd, 1) := by decide +kernel
theorem dX8_place_6 : decode cX8_place 6 = .ok (.ireturn, 1) := by decide +kernel
def f_X8_place : MX := mth 2 (sR (eOp o_iadd (eOp o_imul (eI (32)) (eLi 1)) (eLi 0)))
theorem Y_X8_place : Yk yX8_place cX8_place 2 (some .int) 2 := ⟨w1261, w16, by decide +kernel, by decide +kernel, by decide +kernel⟩
set_option maxRecDepth 20000 in
theorem k_X8_place (l : Launch) (g : GE) : MetX l g yX8_place cX8_place 2 (some .int) 2 ({ frames := 0, cells := 0, slots := 0, locals := 0 } : Room) f_X8_place := by
  unfold f_X8_place
  exact MetX.of (own := RX8) 100 0 rfl (by decide +kernel) (by decide) (fun p e s m args below meth c Fin ad0 hr hn => ⟨_, _, Sv_ret (Ev_iadd (Ev_imul (Ev_bipush dX8_place_0 (by decide)) (Ev_iload_n dX8_place_2 rfl) dX8_place_3) (Ev_iload_n dX8_place_4 rfl) dX8_place_5) hr dX8_place_6, Nat.le_of_ble_eq_true rfl, Nat.le_of_ble_eq_true rfl⟩)
theorem dX8_had_0 : decode cX8_had 0 = .ok (.aload_n 0, 1) := by decide +kernel
theorem dX8_had_1 : decode cX8_had 1 = .ok (.getfield 7, 3) := by decide +kernel
theorem dX8_had_4 : decode cX8_had 4 = .ok (.sipush 882, 3) := by decide +kernel
theorem dX8_had_7 : decode cX8_had 7 = .ok (.iload_n 1, 1) := by decide +kernel
theorem dX8_had_8 : decode cX8_had 8 = .ok (.iload_n 2, 1) := by decide +kernel
theorem dX8_had_9 : decode cX8_had 9 = .ok (.invokestatic 76, 3) := by decide +kernel
theorem dX8_had_12 : decode cX8_had 12 = .ok (.iadd, 1) := by decide +kernel
theorem dX8_had_13 : decode cX8_had 13 = .ok (.iaload, 1) := by decide +kernel
theorem dX8_had_14 : decode cX8_had 14 = .ok (.ireturn, 1) := by decide +kernel
def f_X8_had : MX := mth 3 (sR (eAi 0 (eGa (eLa 0) 8 0) (eOp o_iadd (eI (882)) (eM (f_X8_place) (aI (aI (aN) (eLi 1)) (eLi 2))))))
theorem Y_X8_had : Yk yX8_had cX8_had 3 (some .int) 2 := ⟨w1258, w16, by decide +kernel, by decide +kernel, by decide +kernel⟩
set_option maxRecDepth 20000 in
theorem k_X8_had (l : Launch) (g : GE) : MetX l g yX8_had cX8_had 3 (some .int) 3 ({ frames := 1, cells := 0, slots := 0, locals := 21 } : Room) f_X8_had := by
  unfold f_X8_had
  exact MetX.of (own := RX8) 100 0 rfl (by decide +kernel) (by decide) (fun p e s m args below meth c Fin ad0 hr hn => ⟨_, _, Sv_ret (Ev_iaload (Ev_getA Fx8 (Ev_aload_n dX8_had_0 rfl) (k := 0) (by decide) w1143 dX8_had_1) (Ev_iadd (Ev_sipush dX8_had_4 (by decide)) (Ev_call (Av_i (Av_i (Av_nil) (Ev_iload_n dX8_had_7 rfl)) (Ev_iload_n dX8_had_8 rfl)) (Rn_S Y_X8_place (k_X8_place _ _) w1259 w1260 dX8_had_9 (Nat.le_of_ble_eq_true rfl) (Nat.le_of_ble_eq_true rfl) (Nat.le_of_ble_eq_true rfl) (Nat.ne_of_beq_eq_false rfl))) dX8_had_12) dX8_had_13) hr dX8_had_14, Nat.le_of_ble_eq_true rfl, Nat.le_of_ble_eq_true rfl⟩)
theorem dX8_right_0 : decode cX8_right 0 = .ok (.iload_n 0, 1) := by decide +kernel
theorem dX8_right_1 : decode cX8_right 1 = .ok (.iconst 2, 1) := by decide +kernel
theorem dX8_right_2 : decode cX8_right 2 = .ok (.irem, 1) := by decide +kernel
theorem dX8_right_3 : decode cX8_right 3 = .ok (.istore_n 2, 1) := by decide +kernel
theorem dX8_right_4 : decode cX8_right 4 = .ok (.iload_n 1, 1) := by decide +kernel
theorem dX8_right_5 : decode cX8_right 5 = .ok (.ifCond .ne 7, 3) := by decide +kernel
theorem dX8_right_8 : decode cX8_right 8 = .ok (.iconst 1, 1) := by decide +kernel
theorem dX8_right_9 : decode cX8_right 9 = .ok (.goto 29, 3) := by decide +kernel
theorem dX8_right_12 : decode cX8_right 12 = .ok (.iload_n 1, 1) := by decide +kernel
theorem dX8_right_13 : decode cX8_right 13 = .ok (.iconst 3, 1) := by decide +kernel
theorem dX8_right_14 : decode cX8_right 14 = .ok (.if_icmp .ne 7, 3) := by decide +kernel
theorem dX8_right_17 : decode cX8_right 17 = .ok (.iconst (-1), 1) := by decide +kernel
theorem dX8_right_18 : decode cX8_right 18 = .ok (.goto 20, 3) := by decide +kernel
theorem dX8_right_21 : decode cX8_right 21 = .ok (.iload_n 1, 1) := by decide +kernel
theorem dX8_right_22 : decode cX8_right 22 = .ok (.iconst 1, 1) := by decide +kernel
theorem dX8_right_23 : decode cX8_right 23 = .ok (.if_icmp .eq 8, 3) := by decide +kernel
theorem dX8_right_26 : decode cX8_right 26 = .ok (.iload_n 1, 1) := by decide +kernel
theorem dX8_right_27 : decode cX8_right 27 = .ok (.iconst 5, 1) := by decide +kernel
theorem dX8_right_28 : decode cX8_right 28 = .ok (.if_icmp .ne 7, 3) := by decide +kernel
theorem dX8_right_31 : decode cX8_right 31 = .ok (.iload_n 2, 1) := by decide +kernel
theorem dX8_right_32 : decode cX8_right 32 = .ok (.goto 6, 3) := by decide +kernel
theorem dX8_right_35 : decode cX8_right 35 = .ok (.iload_n 2, 1) := by decide +kernel
theorem dX8_right_36 : decode cX8_right 36 = .ok (.iconst 1, 1) := by decide +kernel
theorem dX8_right_37 : decode cX8_right 37 = .ok (.isub, 1) := by decide +kernel
theorem dX8_right_38 : decode cX8_right 38 = .ok (.ireturn, 1) := by decide +kernel
def f_X8_right : MX := mth 3 (sQ (sTi 2 (eQ o_irem (eLi 0) (eI (2)))) (sR (eIf (cZ z_eq (eLi 1)) (eI (1)) (eIf (cB c_eq (eLi 1) (eI (3))) (eI (-1)) (eIf (cOr (cB c_eq (eLi 1) (eI (1))) (cB c_eq (eLi 1) (eI (5)))) (eLi 2) (eOp o_isub (eLi 2) (eI (1))))))))
theorem Y_X8_right : Yk yX8_right cX8_right 3 (some .int) 2 := ⟨w1419, w16, by decide +kernel, by decide +kernel, by decide +kernel⟩
set_option maxRecDepth 20000 in
theorem k_X8_right (l : Launch) (g : GE) : MetX l g yX8_right cX8_right 3 (some .int) 2 ({ frames := 0, cells := 0, slots := 0, locals := 0 } : Room) f_X8_right := by
  unfold f_X8_right
  exact MetX.of (own := RX8) 100 0 rfl (by decide +kernel) (by decide) (fun p e s m args below meth c Fin ad0 hr hn => ⟨_, _, Sv_seq (Sv_istore_n (Ev_irem (Ev_iload_n dX8_right_0 rfl) (Ev_iconst dX8_right_1 (by decide)) dX8_right_2) dX8_right_3 rfl (Nat.le_of_ble_eq_true rfl) (Nat.ne_of_beq_eq_false rfl)) (Sv_ret (Ev_if (pT := 38) (Cv_if_ne_n (Ev_iload_n dX8_right_4 rfl) (t := 12) dX8_right_5 (by decide)) (Ev_iconst dX8_right_8 (by decide)) dX8_right_9 (by decide) (Ev_if (pT := 38) (Cv_icmp_ne_n (Ev_iload_n dX8_right_12 rfl) (Ev_iconst dX8_right_13 (by decide)) (t := 21) dX8_right_14 (by decide)) (Ev_iconst dX8_right_17 (by decide)) dX8_right_18 (by decide) (Ev_if (pT := 38) (Cv_or (Cv_icmp_eq_j (Ev_iload_n dX8_right_21 rfl) (Ev_iconst dX8_right_22 (by decide)) (t := 31) dX8_right_23 (by decide)) (Cv_icmp_ne_n (Ev_iload_n dX8_right_26 rfl) (Ev_iconst dX8_right_27 (by decide)) (t := 35) dX8_right_28 (by decide))) (Ev_iload_n dX8_right_31 rfl) dX8_right_32 (by decide) (Ev_isub (Ev_iload_n dX8_right_35 rfl) (Ev_iconst dX8_right_36 (by decide)) dX8_right_37)))) hr dX8_right_38), Nat.le_of_ble_eq_true rfl, Nat.le_of_ble_eq_true rfl⟩)
theorem dX8_down_0 : decode cX8_down 0 = .ok (.iload_n 0, 1) := by decide +kernel
theorem dX8_down_1 : decode cX8_down 1 = .ok (.iconst 1, 1) := by decide +kernel
theorem dX8_down_2 : decode cX8_down 2 = .ok (.if_icmp .eq 8, 3) := by decide +kernel
theorem dX8_down_5 : decode cX8_down 5 = .ok (.iload_n 0, 1) := by decide +kernel
theorem dX8_down_6 : decode cX8_down 6 = .ok (.iconst 2, 1) := by decide +kernel
theorem dX8_down_7 : decode cX8_down 7 = .ok (.if_icmp .ne 7, 3) := by decide +kernel
theorem dX8_down_10 : decode cX8_down 10 = .ok (.iconst (-1), 1) := by decide +kernel
theorem dX8_down_11 : decode cX8_down 11 = .ok (.goto 18, 3) := by decide +kernel
theorem dX8_down_14 : decode cX8_down 14 = .ok (.iload_n 0, 1) := by decide +kernel
theorem dX8_down_15 : decode cX8_down 15 = .ok (.iconst 4, 1) := by decide +kernel
theorem dX8_down_16 : decode cX8_down 16 = .ok (.if_icmp .eq 8, 3) := by decide +kernel
theorem dX8_down_19 : decode cX8_down 19 = .ok (.iload_n 0, 1) := by decide +kernel
theorem dX8_down_20 : decode cX8_down 20 = .ok (.iconst 5, 1) := by decide +kernel
theorem dX8_down_21 : decode cX8_down 21 = .ok (.if_icmp .ne 7, 3) := by decide +kernel
theorem dX8_down_24 : decode cX8_down 24 = .ok (.iconst 1, 1) := by decide +kernel
theorem dX8_down_25 : decode cX8_down 25 = .ok (.goto 4, 3) := by decide +kernel
theorem dX8_down_28 : decode cX8_down 28 = .ok (.iconst 0, 1) := by decide +kernel
theorem dX8_down_29 : decode cX8_down 29 = .ok (.ireturn, 1) := by decide +kernel
def f_X8_down : MX := mth 1 (sR (eIf (cOr (cB c_eq (eLi 0) (eI (1))) (cB c_eq (eLi 0) (eI (2)))) (eI (-1)) (eIf (cOr (cB c_eq (eLi 0) (eI (4))) (cB c_eq (eLi 0) (eI (5)))) (eI (1)) (eI (0)))))
theorem Y_X8_down : Yk yX8_down cX8_down 1 (some .int) 1 := ⟨w1302, w16, by decide +kernel, by decide +kernel, by decide +kernel⟩
set_option maxRecDepth 20000 in
theorem k_X8_down (l : Launch) (g : GE) : MetX l g yX8_down cX8_down 1 (some .int) 1 ({ frames := 0, cells := 0, slots := 0, locals := 0 } : Room) f_X8_down := by
  unfold f_X8_down
  exact MetX.of (own := RX8) 100 0 rfl (by decide +kernel) (by decide) (fun p e s m args below meth c Fin ad0 hr hn => ⟨_, _, Sv_ret (Ev_if (pT := 29) (Cv_or (Cv_icmp_eq_j (Ev_iload_n dX8_down_0 rfl) (Ev_iconst dX8_down_1 (by decide)) (t := 10) dX8_down_2 (by decide)) (Cv_icmp_ne_n (Ev_iload_n dX8_down_5 rfl) (Ev_iconst dX8_down_6 (by decide)) (t := 14) dX8_down_7 (by decide))) (Ev_iconst dX8_down_10 (by decide)) dX8_down_11 (by decide) (Ev_if (pT := 29) (Cv_or (Cv_icmp_eq_j (Ev_iload_n dX8_down_14 rfl) (Ev_iconst dX8_down_15 (by decide)) (t := 24) dX8_down_16 (by decide)) (Cv_icmp_ne_n (Ev_iload_n dX8_down_19 rfl) (Ev_iconst dX8_down_20 (by decide)) (t := 28) dX8_down_21 (by decide))) (Ev_iconst dX8_down_24 (by decide)) dX8_down_25 (by decide) (Ev_iconst dX8_down_28 (by decide)))) hr dX8_down_29, Nat.le_of_ble_eq_true rfl, Nat.le_of_ble_eq_true rfl⟩)
theorem dX8_push_0 : decode cX8_push 0 = .ok (.iload_n 0, 1) := by decide +kernel
theorem dX8_push_1 : decode cX8_push 1 = .ok (.iconst 1, 1) := by decide +kernel
theorem dX8_push_2 : decode cX8_push 2 = .ok (.if_icmp .ne 9, 3) := by decide +kernel
theorem dX8_push_5 : decode cX8_push 5 = .ok (.iload_n 1, 1) := by decide +kernel
theorem dX8_push_6 : decode cX8_push 6 = .ok (.invokestatic 80, 3) := by decide +kernel
theorem dX8_push_9 : decode cX8_push 9 = .ok (.ineg, 1) := by decide +kernel
theorem dX8_push_10 : decode cX8_push 10 = .ok (.ireturn, 1) := by decide +kernel
theorem dX8_push_11 : decode cX8_push 11 = .ok (.iload_n 1, 1) := by decide +kernel
theorem dX8_push_12 : decode cX8_push 12 = .ok (.ifCond .ne 7, 3) := by decide +kernel
theorem dX8_push_15 : decode cX8_push 15 = .ok (.iconst 2, 1) := by decide +kernel
theorem dX8_push_16 : decode cX8_push 16 = .ok (.goto 28, 3) := by decide +kernel
theorem dX8_push_19 : decode cX8_push 19 = .ok (.iload_n 1, 1) := by decide +kernel
theorem dX8_push_20 : decode cX8_push 20 = .ok (.iconst 3, 1) := by decide +kernel
theorem dX8_push_21 : decode cX8_push 21 = .ok (.if_icmp .ne 8, 3) := by decide +kernel
theorem dX8_push_24 : decode cX8_push 24 = .ok (.bipush (-2), 2) := by decide +kernel
theorem dX8_push_26 : decode cX8_push 26 = .ok (.goto 18, 3) := by decide +kernel
theorem dX8_push_29 : decode cX8_push 29 = .ok (.iload_n 1, 1) := by decide +kernel
theorem dX8_push_30 : decode cX8_push 30 = .ok (.iconst 1, 1) := by decide +kernel
theorem dX8_push_31 : decode cX8_push 31 = .ok (.if_icmp .eq 8, 3) := by decide +kernel
theorem dX8_push_34 : decode cX8_push 34 = .ok (.iload_n 1, 1) := by decide +kernel
theorem dX8_push_35 : decode cX8_push 35 = .ok (.iconst 5, 1) := by decide +kernel
theorem dX8_push_36 : decode cX8_push 36 = .ok (.if_icmp .ne 7, 3) := by decide +kernel
theorem dX8_push_39 : decode cX8_push 39 = .ok (.iconst 1, 1) := by decide +kernel
theorem dX8_push_40 : decode cX8_push 40 = .ok (.goto 4, 3) := by decide +kernel
theorem dX8_push_43 : decode cX8_push 43 = .ok (.iconst (-1), 1) := by decide +kernel
theorem dX8_push_44 : decode cX8_push 44 = .ok (.ireturn, 1) := by decide +kernel
def f_X8_push : MX := mth 2 (sQ (sIf (cB c_eq (eLi 0) (eI (1))) (sR (eU o_ineg (eM (f_X8_down) (aI (aN) (eLi 1))))) sN) (sR (eIf (cZ z_eq (eLi 1)) (eI (2)) (eIf (cB c_eq (eLi 1) (eI (3))) (eI (-2)) (eIf (cOr (cB c_eq (eLi 1) (eI (1))) (cB c_eq (eLi 1) (eI (5)))) (eI (1)) (eI (-1)))))))
theorem Y_X8_push : Yk yX8_push cX8_push 2 (some .int) 2 := ⟨w1299, w16, by decide +kernel, by decide +kernel, by decide +kernel⟩
set_option maxRecDepth 20000 in
theorem k_X8_push (l : Launch) (g : GE) : MetX l g yX8_push cX8_push 2 (some .int) 2 ({ frames := 1, cells := 0, slots := 0, locals := 20 } : Room) f_X8_push := by
  unfold f_X8_push
  exact MetX.of (own := RX8) 100 0 rfl (by decide +kernel) (by decide) (fun p e s m args below meth c Fin ad0 hr hn => ⟨_, _, Sv_seq (Sv_if (Cv_icmp_ne_n (Ev_iload_n dX8_push_0 rfl) (Ev_iconst dX8_push_1 (by decide)) (t := 11) dX8_push_2 (by decide)) (Sv_ret (Ev_ineg (Ev_call (Av_i (Av_nil) (Ev_iload_n dX8_push_5 rfl)) (Rn_S Y_X8_down (k_X8_down _ _) w1300 w1301 dX8_push_6 (Nat.le_of_ble_eq_true rfl) (Nat.le_of_ble_eq_true rfl) (Nat.le_of_ble_eq_true rfl) (Nat.ne_of_beq_eq_false rfl))) dX8_push_9) hr dX8_push_10) Sv_nop) (Sv_ret (Ev_if (pT := 44) (Cv_if_ne_n (Ev_iload_n dX8_push_11 rfl) (t := 19) dX8_push_12 (by decide)) (Ev_iconst dX8_push_15 (by decide)) dX8_push_16 (by decide) (Ev_if (pT := 44) (Cv_icmp_ne_n (Ev_iload_n dX8_push_19 rfl) (Ev_iconst dX8_push_20 (by decide)) (t := 29) dX8_push_21 (by decide)) (Ev_bipush dX8_push_24 (by decide)) dX8_push_26 (by decide) (Ev_if (pT := 44) (Cv_or (Cv_icmp_eq_j (Ev_iload_n dX8_push_29 rfl) (Ev_iconst dX8_push_30 (by decide)) (t := 39) dX8_push_31 (by decide)) (Cv_icmp_ne_n (Ev_iload_n dX8_push_34 rfl) (Ev_iconst dX8_push_35 (by decide)) (t := 43) dX8_push_36 (by decide))) (Ev_iconst dX8_push_39 (by decide)) dX8_push_40 (by decide) (Ev_iconst dX8_push_43 (by decide))))) hr dX8_push_44), Nat.le_of_ble_eq_true rfl, Nat.le_of_ble_eq_true rfl⟩)
theorem dX8_ones_0 : decode cX8_ones 0 = .ok (.iconst 0, 1) := by decide +kernel
theorem dX8_ones_1 : decode cX8_ones 1 = .ok (.istore_n 1, 1) := by decide +kernel
theorem dX8_ones_2 : decode cX8_ones 2 = .ok (.iconst 0, 1) := by decide +kernel
theorem dX8_ones_3 : decode cX8_ones 3 = .ok (.istore_n 2, 1) := by decide +kernel
theorem dX8_ones_4 : decode cX8_ones 4 = .ok (.iload_n 2, 1) := by decide +kernel
theorem dX8_ones_5 : decode cX8_ones 5 = .ok (.bipush 6, 2) := by decide +kernel
theorem dX8_ones_7 : decode cX8_ones 7 = .ok (.if_icmp .ge 17, 3) := by decide +kernel
theorem dX8_ones_10 : decode cX8_ones 10 = .ok (.iload_n 1, 1) := by decide +kernel
theorem dX8_ones_11 : decode cX8_ones 11 = .ok (.iload_n 0, 1) := by decide +kernel
theorem dX8_ones_12 : decode cX8_ones 12 = .ok (.iload_n 2, 1) := by decide +kernel
theorem dX8_ones_13 : decode cX8_ones 13 = .ok (.ishr, 1) := by decide +kernel
theorem dX8_ones_14 : decode cX8_ones 14 = .ok (.iconst 1, 1) := by decide +kernel
theorem dX8_ones_15 : decode cX8_ones 15 = .ok (.iand, 1) := by decide +kernel
theorem dX8_ones_16 : decode cX8_ones 16 = .ok (.iadd, 1) := by decide +kernel
theorem dX8_ones_17 : decode cX8_ones 17 = .ok (.istore_n 1, 1) := by decide +kernel
theorem dX8_ones_18 : decode cX8_ones 18 = .ok (.iinc 2 1, 3) := by decide +kernel
theorem dX8_ones_21 : decode cX8_ones 21 = .ok (.goto (-17), 3) := by decide +kernel
theorem dX8_ones_24 : decode cX8_ones 24 = .ok (.iload_n 1, 1) := by decide +kernel
theorem dX8_ones_25 : decode cX8_ones 25 = .ok (.ireturn, 1) := by decide +kernel
def f_X8_ones : MX := mth 3 (sQ (sTi 1 (eI (0))) (sQ (sQ (sTi 2 (eI (0))) (sLp (cB c_lt (eLi 2) (eI (6))) (sQ (sTi 1 (eOp o_iadd (eLi 1) (eOp o_iand (eOp o_ishr (eLi 0) (eLi 2)) (eI (1))))) (sInc 2 (1))) NF)) (sR (eLi 1))))
theorem Y_X8_ones : Yk yX8_ones cX8_ones 3 (some .int) 1 := ⟨w1309, w16, by decide +kernel, by decide +kernel, by decide +kernel⟩
set_option maxRecDepth 20000 in
theorem k_X8_ones (l : Launch) (g : GE) : MetX l g yX8_ones cX8_ones 3 (some .int) 1 ({ frames := 0, cells := 0, slots := 0, locals := 0 } : Room) f_X8_ones := by
  unfold f_X8_ones
  exact MetX.of (own := RX8) 100 0 rfl (by decide +kernel) (by decide) (fun p e s m args below meth c Fin ad0 hr hn => ⟨_, _, Sv_seq (Sv_istore_n (Ev_iconst dX8_ones_0 (by decide)) dX8_ones_1 rfl (Nat.le_of_ble_eq_true rfl) (Nat.ne_of_beq_eq_false rfl)) (Sv_seq (Sv_seq (Sv_istore_n (Ev_iconst dX8_ones_2 (by decide)) dX8_ones_3 rfl (Nat.le_of_ble_eq_true rfl) (Nat.ne_of_beq_eq_false rfl)) (Sv_loop0 NF (Cv_icmp_ge_n (Ev_iload_n dX8_ones_4 rfl) (Ev_bipush dX8_ones_5 (by decide)) (t := 24) dX8_ones_7 (by decide)) (Sv_goto (pE := 4) (Sv_seq (Sv_istore_n (Ev_iadd (Ev_iload_n dX8_ones_10 rfl) (Ev_iand (Ev_ishr (Ev_iload_n dX8_ones_11 rfl) (Ev_iload_n dX8_ones_12 rfl) dX8_ones_13) (Ev_iconst dX8_ones_14 (by decide)) dX8_ones_15) dX8_ones_16) dX8_ones_17 rfl (Nat.le_of_ble_eq_true rfl) (Nat.ne_of_beq_eq_false rfl)) (Sv_iinc dX8_ones_18 (by decide) (Nat.le_of_ble_eq_true rfl) (Nat.ne_of_beq_eq_false rfl))) dX8_ones_21 (by decide)))) (Sv_ret (Ev_iload_n dX8_ones_24 rfl) hr dX8_ones_25)), Nat.le_of_ble_eq_true rfl, Nat.le_of_ble_eq_true rfl⟩)
theorem dX8_pushes_0 : decode cX8_pushes 0 = .ok (.iconst 0, 1) := by decide +kernel
theorem dX8_pushes_1 : decode cX8_pushes 1 = .ok (.istore_n 2, 1) := by decide +kernel
theorem dX8_pushes_2 : decode cX8_pushes 2 = .ok (.iconst 0, 1) := by decide +kernel
theorem dX8_pushes_3 : decode cX8_pushes 3 = .ok (.istore_n 3, 1) := by decide +kernel
theorem dX8_pushes_4 : decode cX8_pushes 4 = .ok (.iload_n 3, 1) := by decide +kernel
theorem dX8_pushes_5 : decode cX8_pushes 5 = .ok (.bipush 6, 2) := by decide +kernel
theorem dX8_pushes_7 : decode cX8_pushes 7 = .ok (.if_icmp .ge 30, 3) := by decide +kernel
theorem dX8_pushes_10 : decode cX8_pushes 10 = .ok (.iload_n 2, 1) := by decide +kernel
theorem dX8_pushes_11 : decode cX8_pushes 11 = .ok (.iload_n 1, 1) := by decide +kernel
theorem dX8_pushes_12 : decode cX8_pushes 12 = .ok (.iload_n 3, 1) := by decide +kernel
theorem dX8_pushes_13 : decode cX8_pushes 13 = .ok (.ishr, 1) := by decide +kernel
theorem dX8_pushes_14 : decode cX8_pushes 14 = .ok (.iconst 1, 1) := by decide +kernel
theorem dX8_pushes_15 : decode cX8_pushes 15 = .ok (.iand, 1) := by decide +kernel
theorem dX8_pushes_16 : decode cX8_pushes 16 = .ok (.iconst 1, 1) := by decide +kernel
theorem dX8_pushes_17 : decode cX8_pushes 17 = .ok (.if_icmp .ne 11, 3) := by decide +kernel
theorem dX8_pushes_20 : decode cX8_pushes 20 = .ok (.iload_n 0, 1) := by decide +kernel
theorem dX8_pushes_21 : decode cX8_pushes 21 = .ok (.iload_n 3, 1) := by decide +kernel
theorem dX8_pushes_22 : decode cX8_pushes 22 = .ok (.invokestatic 83, 3) := by decide +kernel
theorem dX8_pushes_25 : decode cX8_pushes 25 = .ok (.goto 4, 3) := by decide +kernel
theorem dX8_pushes_28 : decode cX8_pushes 28 = .ok (.iconst 0, 1) := by decide +kernel
theorem dX8_pushes_29 : decode cX8_pushes 29 = .ok (.iadd, 1) := by decide +kernel
theorem dX8_pushes_30 : decode cX8_pushes 30 = .ok (.istore_n 2, 1) := by decide +kernel
theorem dX8_pushes_31 : decode cX8_pushes 31 = .ok (.iinc 3 1, 3) := by decide +kernel
theorem dX8_pushes_34 : decode cX8_pushes 34 = .ok (.goto (-30), 3) := by decide +kernel
theorem dX8_pushes_37 : decode cX8_pushes 37 = .ok (.iload_n 2, 1) := by decide +kernel
theorem dX8_pushes_38 : decode cX8_pushes 38 = .ok (.ireturn, 1) := by decide +kernel
def f_X8_pushes : MX := mth 4 (sQ (sTi 2 (eI (0))) (sQ (sQ (sTi 3 (eI (0))) (sLp (cB c_lt (eLi 3) (eI (6))) (sQ (sTi 2 (eOp o_iadd (eLi 2) (eIf (cB c_eq (eOp o_iand (eOp o_ishr (eLi 1) (eLi 3)) (eI (1))) (eI (1))) (eM (f_X8_push) (aI (aI (aN) (eLi 0)) (eLi 3))) (eI (0))))) (sInc 3 (1))) NF)) (sR (eLi 2))))
theorem Y_X8_pushes : Yk yX8_pushes cX8_pushes 4 (some .int) 2 := ⟨w1296, w16, by decide +kernel, by decide +kernel, by decide +kernel⟩
set_option maxRecDepth 20000 in
theorem k_X8_pushes (l : Launch) (g : GE) : MetX l g yX8_pushes cX8_pushes 4 (some .int) 2 ({ frames := 2, cells := 0, slots := 0, locals := 41 } : Room) f_X8_pushes := by
  unfold f_X8_pushes
  exact MetX.of (own := RX8) 100 0 rfl (by decide +kernel) (by decide) (fun p e s m args below meth c Fin ad0 hr hn => ⟨_, _, Sv_seq (Sv_istore_n (Ev_iconst dX8_pushes_0 (by decide)) dX8_pushes_1 rfl (Nat.le_of_ble_eq_true rfl) (Nat.ne_of_beq_eq_false rfl)) (Sv_seq (Sv_seq (Sv_istore_n (Ev_iconst dX8_pushes_2 (by decide)) dX8_pushes_3 rfl (Nat.le_of_ble_eq_true rfl) (Nat.ne_of_beq_eq_false rfl)) (Sv_loop0 NF (Cv_icmp_ge_n (Ev_iload_n dX8_pushes_4 rfl) (Ev_bipush dX8_pushes_5 (by decide)) (t := 37) dX8_pushes_7 (by decide)) (Sv_goto (pE := 4) (Sv_seq (Sv_istore_n (Ev_iadd (Ev_iload_n dX8_pushes_10 rfl) (Ev_if (pT := 29) (Cv_icmp_ne_n (Ev_iand (Ev_ishr (Ev_iload_n dX8_pushes_11 rfl) (Ev_iload_n dX8_pushes_12 rfl) dX8_pushes_13) (Ev_iconst dX8_pushes_14 (by decide)) dX8_pushes_15) (Ev_iconst dX8_pushes_16 (by decide)) (t := 28) dX8_pushes_17 (by decide)) (Ev_call (Av_i (Av_i (Av_nil) (Ev_iload_n dX8_pushes_20 rfl)) (Ev_iload_n dX8_pushes_21 rfl)) (Rn_S Y_X8_push (k_X8_push _ _) w1297 w1298 dX8_pushes_22 (Nat.le_of_ble_eq_true rfl) (Nat.le_of_ble_eq_true rfl) (Nat.le_of_ble_eq_true rfl) (Nat.ne_of_beq_eq_false rfl))) dX8_pushes_25 (by decide) (Ev_iconst dX8_pushes_28 (by decide))) dX8_pushes_29) dX8_pushes_30 rfl (Nat.le_of_ble_eq_true rfl) (Nat.ne_of_beq_eq_false rfl)) (Sv_iinc dX8_pushes_31 (by decide) (Nat.le_of_ble_eq_true rfl) (Nat.ne_of_beq_eq_false rfl))) dX8_pushes_34 (by decide)))) (Sv_ret (Ev_iload_n dX8_pushes_37 rfl) hr dX8_pushes_38)), Nat.le_of_ble_eq_true rfl, Nat.le_of_ble_eq_true rfl⟩)
theorem dX8_books_0 : decode cX8_books 0 = .ok (.iconst 0, 1) := by decide +kernel
theorem dX8_books_1 : decode cX8_books 1 = .ok (.istore 4, 2) := by decide +kernel
theorem dX8_books_3 : decode cX8_books 3 = .ok (.iload 4, 2) := by decide +kernel
theorem dX8_books_5 : decode cX8_books 5 = .ok (.iconst 2, 1) := by decide +kernel
theorem dX8_books_6 : decode cX8_books 6 = .ok (.if_icmp .ge 34, 3) := by decide +kernel
theorem dX8_books_9 : decode cX8_books 9 = .ok (.aload_n 0, 1) := by decide +kernel
theorem dX8_books_10 : decode cX8_books 10 = .ok (.getfield 7, 3) := by decide +kernel
theorem dX8_books_13 : decode cX8_books 13 = .ok (.bipush 12, 2) := by decide +kernel
theorem dX8_books_15 : decode cX8_books 15 = .ok (.iconst 5, 1) := by decide +kernel
theorem dX8_books_16 : decode cX8_books 16 = .ok (.iload 4, 2) := by decide +kernel
theorem dX8_books_18 : decode cX8_books 18 = .ok (.imul, 1) := by decide +kernel
theorem dX8_books_19 : decode cX8_books 19 = .ok (.iadd, 1) := by decide +kernel
theorem dX8_books_20 : decode cX8_books 20 = .ok (.iload_n 1, 1) := by decide +kernel
theorem dX8_books_21 : decode cX8_books 21 = .ok (.iadd, 1) := by decide +kernel
theorem dX8_books_22 : decode cX8_books 22 = .ok (.dup2, 1) := by decide +kernel
theorem dX8_books_23 : decode cX8_books 23 = .ok (.iaload, 1) := by decide +kernel
theorem dX8_books_24 : decode cX8_books 24 = .ok (.iload_n 3, 1) := by decide +kernel
theorem dX8_books_25 : decode cX8_books 25 = .ok (.iload 4, 2) := by decide +kernel
theorem dX8_books_27 : decode cX8_books 27 = .ok (.iload_n 2, 1) := by decide +kernel
theorem dX8_books_28 : decode cX8_books 28 = .ok (.invokestatic 86, 3) := by decide +kernel
theorem dX8_books_31 : decode cX8_books 31 = .ok (.imul, 1) := by decide +kernel
theorem dX8_books_32 : decode cX8_books 32 = .ok (.iadd, 1) := by decide +kernel
theorem dX8_books_33 : decode cX8_books 33 = .ok (.iastore, 1) := by decide +kernel
theorem dX8_books_34 : decode cX8_books 34 = .ok (.iinc 4 1, 3) := by decide +kernel
theorem dX8_books_37 : decode cX8_books 37 = .ok (.goto (-34), 3) := by decide +kernel
theorem dX8_books_40 : decode cX8_books 40 = .ok (.return_, 1) := by decide +kernel
def f_X8_books : MX := mth 5 (sQ (sQ (sTi 4 (eI (0))) (sLp (cB c_lt (eLi 4) (eI (2))) (sQ (sAo (eGa (eLa 0) 8 0) (eOp o_iadd (eOp o_iadd (eI (12)) (eOp o_imul (eI (5)) (eLi 4))) (eLi 1)) o_iadd (eOp o_imul (eLi 3) (eM (f_X8_pushes) (aI (aI (aN) (eLi 4)) (eLi 2))))) (sInc 4 (1))) NF)) (sRv))
theorem Y_X8_books : Yk yX8_books cX8_books 5 none 3 := ⟨w1293, w16, by decide +kernel, by decide +kernel, by decide +kernel⟩
set_option maxRecDepth 20000 in
theorem k_X8_books (l : Launch) (g : GE) : MetX l g yX8_books cX8_books 5 none 4 ({ frames := 3, cells := 0, slots := 0, locals := 64 } : Room) f_X8_books := by
  unfold f_X8_books
  exact MetX.of (own := RX8) 100 0 rfl (by decide +kernel) (by decide) (fun p e s m args below meth c Fin ad0 hr hn => ⟨_, _, Sv_seq (Sv_seq (Sv_istore (Ev_iconst dX8_books_0 (by decide)) dX8_books_1 (Nat.le_of_ble_eq_true rfl) (Nat.ne_of_beq_eq_false rfl)) (Sv_loop0 NF (Cv_icmp_ge_n (Ev_iload dX8_books_3) (Ev_iconst dX8_books_5 (by decide)) (t := 40) dX8_books_6 (by decide)) (Sv_goto (pE := 3) (Sv_seq (Sv_aop_iadd (Ev_getA Fx8 (Ev_aload_n dX8_books_9 rfl) (k := 0) (by decide) w1143 dX8_books_10) (Ev_iadd (Ev_iadd (Ev_bipush dX8_books_13 (by decide)) (Ev_imul (Ev_iconst dX8_books_15 (by decide)) (Ev_iload dX8_books_16) dX8_books_18) dX8_books_19) (Ev_iload_n dX8_books_20 rfl) dX8_books_21) dX8_books_22 dX8_books_23 (Ev_imul (Ev_iload_n dX8_books_24 rfl) (Ev_call (Av_i (Av_i (Av_nil) (Ev_iload dX8_books_25)) (Ev_iload_n dX8_books_27 rfl)) (Rn_S Y_X8_pushes (k_X8_pushes _ _) w1294 w1295 dX8_books_28 (Nat.le_of_ble_eq_true rfl) (Nat.le_of_ble_eq_true rfl) (Nat.le_of_ble_eq_true rfl) (Nat.ne_of_beq_eq_false rfl))) dX8_books_31) dX8_books_32 dX8_books_33) (Sv_iinc dX8_books_34 (by decide) (Nat.le_of_ble_eq_true rfl) (Nat.ne_of_beq_eq_false rfl))) dX8_books_37 (by decide)))) (Sv_retv hr dX8_books_40), Nat.le_of_ble_eq_true rfl, Nat.le_of_ble_eq_true rfl⟩)
theorem dX8_clears_0 : decode cX8_clears 0 = .ok (.iconst 2, 1) := by decide +kernel
theorem dX8_clears_1 : decode cX8_clears 1 = .ok (.istore_n 1, 1) := by decide +kernel
theorem dX8_clears_2 : decode cX8_clears 2 = .ok (.iload_n 1, 1) := by decide +kernel
theorem dX8_clears_3 : decode cX8_clears 3 = .ok (.sipush 1394, 3) := by decide +kernel
theorem dX8_clears_6 : decode cX8_clears 6 = .ok (.if_icmp .ge 34, 3) := by decide +kernel
theorem dX8_clears_9 : decode cX8_clears 9 = .ok (.aload_n 0, 1) := by decide +kernel
theorem dX8_clears_10 : decode cX8_clears 10 = .ok (.getfield 7, 3) := by decide +kernel
theorem dX8_clears_13 : decode cX8_clears 13 = .ok (.iload_n 1, 1) := by decide +kernel
theorem dX8_clears_14 : decode cX8_clears 14 = .ok (.iload_n 1, 1) := by decide +kernel
theorem dX8_clears_15 : decode cX8_clears 15 = .ok (.iconst 3, 1) := by decide +kernel
theorem dX8_clears_16 : decode cX8_clears 16 = .ok (.iconst 5, 1) := by decide +kernel
theorem dX8_clears_17 : decode cX8_clears 17 = .ok (.invokestatic 65, 3) := by decide +kernel
theorem dX8_clears_20 : decode cX8_clears 20 = .ok (.ifCond .eq 12, 3) := by decide +kernel
theorem dX8_clears_23 : decode cX8_clears 23 = .ok (.aload_n 0, 1) := by decide +kernel
theorem dX8_clears_24 : decode cX8_clears 24 = .ok (.getfield 7, 3) := by decide +kernel
theorem dX8_clears_27 : decode cX8_clears 27 = .ok (.iload_n 1, 1) := by decide +kernel
theorem dX8_clears_28 : decode cX8_clears 28 = .ok (.iaload, 1) := by decide +kernel
theorem dX8_clears_29 : decode cX8_clears 29 = .ok (.goto 4, 3) := by decide +kernel
theorem dX8_clears_32 : decode cX8_clears 32 = .ok (.iconst 0, 1) := by decide +kernel
theorem dX8_clears_33 : decode cX8_clears 33 = .ok (.iastore, 1) := by decide +kernel
theorem dX8_clears_34 : decode cX8_clears 34 = .ok (.iinc 1 1, 3) := by decide +kernel
theorem dX8_clears_37 : decode cX8_clears 37 = .ok (.goto (-35), 3) := by decide +kernel
theorem dX8_clears_40 : decode cX8_clears 40 = .ok (.return_, 1) := by decide +kernel
def f_X8_clears : MX := mth 2 (sQ (sQ (sTi 1 (eI (2))) (sLp (cB c_lt (eLi 1) (eI (1394))) (sQ (sAi 0 (eGa (eLa 0) 8 0) (eLi 1) (eIf (cZ z_ne (eM (f_X8_in) (aI (aI (aI (aN) (eLi 1)) (eI (3))) (eI (5))))) (eAi 0 (eGa (eLa 0) 8 0) (eLi 1)) (eI (0)))) (sInc 1 (1))) NF)) (sRv))
theorem Y_X8_clears : Yk yX8_clears cX8_clears 2 none 0 := ⟨w1223, w16, by decide +kernel, by decide +kernel, by decide +kernel⟩
set_option maxRecDepth 20000 in
theorem k_X8_clears (l : Launch) (g : GE) : MetX l g yX8_clears cX8_clears 2 none 1 ({ frames := 1, cells := 0, slots := 0, locals := 22 } : Room) f_X8_clears := by
  unfold f_X8_clears
  exact MetX.of (own := RX8) 100 0 rfl (by decide +kernel) (by decide) (fun p e s m args below meth c Fin ad0 hr hn => ⟨_, _, Sv_seq (Sv_seq (Sv_istore_n (Ev_iconst dX8_clears_0 (by decide)) dX8_clears_1 rfl (Nat.le_of_ble_eq_true rfl) (Nat.ne_of_beq_eq_false rfl)) (Sv_loop0 NF (Cv_icmp_ge_n (Ev_iload_n dX8_clears_2 rfl) (Ev_sipush dX8_clears_3 (by decide)) (t := 40) dX8_clears_6 (by decide)) (Sv_goto (pE := 2) (Sv_seq (Sv_iastore (Ev_getA Fx8 (Ev_aload_n dX8_clears_9 rfl) (k := 0) (by decide) w1143 dX8_clears_10) (Ev_iload_n dX8_clears_13 rfl) (Ev_if (pT := 33) (Cv_if_eq_n (Ev_call (Av_i (Av_i (Av_i (Av_nil) (Ev_iload_n dX8_clears_14 rfl)) (Ev_iconst dX8_clears_15 (by decide))) (Ev_iconst dX8_clears_16 (by decide))) (Rn_S Y_X8_in (k_X8_in _ _) w1209 w1210 dX8_clears_17 (Nat.le_of_ble_eq_true rfl) (Nat.le_of_ble_eq_true rfl) (Nat.le_of_ble_eq_true rfl) (Nat.ne_of_beq_eq_false rfl))) (t := 32) dX8_clears_20 (by decide)) (Ev_iaload (Ev_getA Fx8 (Ev_aload_n dX8_clears_23 rfl) (k := 0) (by decide) w1143 dX8_clears_24) (Ev_iload_n dX8_clears_27 rfl) dX8_clears_28) dX8_clears_29 (by decide) (Ev_iconst dX8_clears_32 (by decide))) dX8_clears_33) (Sv_iinc dX8_clears_34 (by decide) (Nat.le_of_ble_eq_true rfl) (Nat.ne_of_beq_eq_false rfl))) dX8_clears_37 (by decide)))) (Sv_retv hr dX8_clears_40), Nat.le_of_ble_eq_true rfl, Nat.le_of_ble_eq_true rfl⟩)
theorem dX8_build_0 : decode cX8_build 0 = .ok (.iload_n 1, 1) := by decide +kernel
theorem dX8_build_1 : decode cX8_build 1 = .ok (.iconst 4, 1) := by decide +kernel
theorem dX8_build_2 : decode cX8_build 2 = .ok (.bipush 32, 2) := by decide +kernel
theorem dX8_build_4 : decode cX8_build 4 = .ok (.invokestatic 65, 3) := by decide +kernel
theorem dX8_build_7 : decode cX8_build 7 = .ok (.ifCond .eq 13, 3) := by decide +kernel
theorem dX8_build_10 : decode cX8_build 10 = .ok (.iload_n 2, 1) := by decide +kernel
theorem dX8_build_11 : decode cX8_build 11 = .ok (.iconst 2, 1) := by decide +kernel
theorem dX8_build_12 : decode cX8_build 12 = .ok (.bipush 16, 2) := by decide +kernel
theorem dX8_build_14 : decode cX8_build 14 = .ok (.invokestatic 65, 3) := by decide +kernel
theorem dX8_build_17 : decode cX8_build 17 = .ok (.ifCond .ne 9, 3) := by decide +kernel
theorem dX8_build_20 : decode cX8_build 20 = .ok (.aload_n 0, 1) := by decide +kernel
theorem dX8_build_21 : decode cX8_build 21 = .ok (.iconst 1, 1) := by decide +kernel
theorem dX8_build_22 : decode cX8_build 22 = .ok (.invokevirtual 89, 3) := by decide +kernel
theorem dX8_build_25 : decode cX8_build 25 = .ok (.ireturn, 1) := by decide +kernel
theorem dX8_build_26 : decode cX8_build 26 = .ok (.aload_n 0, 1) := by decide +kernel
theorem dX8_build_27 : decode cX8_build 27 = .ok (.invokevirtual 92, 3) := by decide +kernel
theorem dX8_build_30 : decode cX8_build 30 = .ok (.aload_n 0, 1) := by decide +kernel
theorem dX8_build_31 : decode cX8_build 31 = .ok (.getfield 7, 3) := by decide +kernel
theorem dX8_build_34 : decode cX8_build 34 = .ok (.iconst 0, 1) := by decide +kernel
theorem dX8_build_35 : decode cX8_build 35 = .ok (.iload_n 1, 1) := by decide +kernel
theorem dX8_build_36 : decode cX8_build 36 = .ok (.iastore, 1) := by decide +kernel
theorem dX8_build_37 : decode cX8_build 37 = .ok (.aload_n 0, 1) := by decide +kernel
theorem dX8_build_38 : decode cX8_build 38 = .ok (.getfield 7, 3) := by decide +kernel
theorem dX8_build_41 : decode cX8_build 41 = .ok (.iconst 1, 1) := by decide +kernel
theorem dX8_build_42 : decode cX8_build 42 = .ok (.iload_n 2, 1) := by decide +kernel
theorem dX8_build_43 : decode cX8_build 43 = .ok (.iastore, 1) := by decide +kernel
theorem dX8_build_44 : decode cX8_build 44 = .ok (.aload_n 0, 1) := by decide +kernel
theorem dX8_build_45 : decode cX8_build 45 = .ok (.invokevirtual 95, 3) := by decide +kernel
theorem dX8_build_48 : decode cX8_build 48 = .ok (.aload_n 0, 1) := by decide +kernel
theorem dX8_build_49 : decode cX8_build 49 = .ok (.iload_n 1, 1) := by decide +kernel
theorem dX8_build_50 : decode cX8_build 50 = .ok (.iload_n 2, 1) := by decide +kernel
theorem dX8_build_51 : decode cX8_build 51 = .ok (.imul, 1) := by decide +kernel
theorem dX8_build_52 : decode cX8_build 52 = .ok (.invokevirtual 98, 3) := by decide +kernel
theorem dX8_build_55 : decode cX8_build 55 = .ok (.ireturn, 1) := by decide +kernel
def f_X8_build : MX := mth 3 (sQ (sIf (cOr (cNot (cZ z_ne (eM (f_X8_in) (aI (aI (aI (aN) (eLi 1)) (eI (4))) (eI (32)))))) (cNot (cZ z_ne (eM (f_X8_in) (aI (aI (aI (aN) (eLi 2)) (eI (2))) (eI (16))))))) (sR (eM (gd 8 f_X8_fails) (aI (aA (aN) (eLa 0)) (eI (1))))) sN) (sQ (sM (gd 8 f_X8_holds) (aA (aN) (eLa 0))) (sQ (sAi 0 (eGa (eLa 0) 8 0) (eI (0)) (eLi 1)) (sQ (sAi 0 (eGa (eLa 0) 8 0) (eI (1)) (eLi 2)) (sQ (sM (gd 8 f_X8_clears) (aA (aN) (eLa 0))) (sR (eM (gd 8 f_X8_saves) (aI (aA (aN) (eLa 0)) (eOp o_imul (eLi 1) (eLi 2))))))))))
theorem Y_X8_build : Yk yX8_build cX8_build 3 (some .int) 2 := ⟨w1208, w16, by decide +kernel, by decide +kernel, by decide +kernel⟩
set_option maxRecDepth 20000 in
theorem k_X8_build (l : Launch) (g : GE) : MetX l g yX8_build cX8_build 3 (some .int) 3 ({ frames := 2, cells := 0, slots := 0, locals := 43 } : Room) f_X8_build := by
  unfold f_X8_build
  exact MetX.of (own := RX8) 100 0 rfl (by decide +kernel) (by decide) (fun p e s m args below meth c Fin ad0 hr hn => ⟨_, _, Sv_seq (Sv_if (Cv_or (Cv_not (Cv_if_eq_n (Ev_call (Av_i (Av_i (Av_i (Av_nil) (Ev_iload_n dX8_build_0 rfl)) (Ev_iconst dX8_build_1 (by decide))) (Ev_bipush dX8_build_2 (by decide))) (Rn_S Y_X8_in (k_X8_in _ _) w1209 w1210 dX8_build_4 (Nat.le_of_ble_eq_true rfl) (Nat.le_of_ble_eq_true rfl) (Nat.le_of_ble_eq_true rfl) (Nat.ne_of_beq_eq_false rfl))) (t := 20) dX8_build_7 (by decide))) (Cv_not (Cv_if_ne_j (Ev_call (Av_i (Av_i (Av_i (Av_nil) (Ev_iload_n dX8_build_10 rfl)) (Ev_iconst dX8_build_11 (by decide))) (Ev_bipush dX8_build_12 (by decide))) (Rn_S Y_X8_in (k_X8_in _ _) w1209 w1210 dX8_build_14 (Nat.le_of_ble_eq_true rfl) (Nat.le_of_ble_eq_true rfl) (Nat.le_of_ble_eq_true rfl) (Nat.ne_of_beq_eq_false rfl))) (t := 26) dX8_build_17 (by decide)))) (Sv_ret (Ev_call (Av_i (Av_a (Av_nil) (Ev_aload_n dX8_build_20 rfl)) (Ev_iconst dX8_build_21 (by decide))) (Rn_V (ci := 8) Fx8.1 rfl Y_X8_fails (k_X8_fails _ _) w1212 w1214 wp29 dX8_build_22 (Nat.le_of_ble_eq_true rfl) (Nat.le_of_ble_eq_true rfl) (Nat.le_of_ble_eq_true rfl) (Nat.ne_of_beq_eq_false rfl))) hr dX8_build_25) Sv_nop) (Sv_seq (Sv_call (Av_a (Av_nil) (Ev_aload_n dX8_build_26 rfl)) (Rn_V (ci := 8) Fx8.1 rfl Y_X8_holds (k_X8_holds _ _) w1216 w1218 wp30 dX8_build_27 (Nat.le_of_ble_eq_true rfl) (Nat.le_of_ble_eq_true rfl) (Nat.le_of_ble_eq_true rfl) (Nat.ne_of_beq_eq_false rfl))) (Sv_seq (Sv_iastore (Ev_getA Fx8 (Ev_aload_n dX8_build_30 rfl) (k := 0) (by decide) w1143 dX8_build_31) (Ev_iconst dX8_build_34 (by decide)) (Ev_iload_n dX8_build_35 rfl) dX8_build_36) (Sv_seq (Sv_iastore (Ev_getA Fx8 (Ev_aload_n dX8_build_37 rfl) (k := 0) (by decide) w1143 dX8_build_38) (Ev_iconst dX8_build_41 (by decide)) (Ev_iload_n dX8_build_42 rfl) dX8_build_43) (Sv_seq (Sv_call (Av_a (Av_nil) (Ev_aload_n dX8_build_44 rfl)) (Rn_V (ci := 8) Fx8.1 rfl Y_X8_clears (k_X8_clears _ _) w1220 w1222 wp31 dX8_build_45 (Nat.le_of_ble_eq_true rfl) (Nat.le_of_ble_eq_true rfl) (Nat.le_of_ble_eq_true rfl) (Nat.ne_of_beq_eq_false rfl))) (Sv_ret (Ev_call (Av_i (Av_a (Av_nil) (Ev_aload_n dX8_build_48 rfl)) (Ev_imul (Ev_iload_n dX8_build_49 rfl) (Ev_iload_n dX8_build_50 rfl) dX8_build_51)) (Rn_V (ci := 8) Fx8.1 rfl Y_X8_saves (k_X8_saves _ _) w1224 w1226 wp32 dX8_build_52 (Nat.le_of_ble_eq_true rfl) (Nat.le_of_ble_eq_true rfl) (Nat.le_of_ble_eq_true rfl) (Nat.ne_of_beq_eq_false rfl))) hr dX8_build_55))))), Nat.le_of_ble_eq_true rfl, Nat.le_of_ble_eq_true rfl⟩)
theorem dX8_set_0 : decode cX8_set 0 = .ok (.iload_n 1, 1) := by decide +kernel
theorem dX8_set_1 : decode cX8_set 1 = .ok (.iconst 0, 1) := by decide +kernel
theorem dX8_set_2 : decode cX8_set 2 = .ok (.iconst 2, 1) := by decide +kernel
theorem dX8_set_3 : decode cX8_set 3 = .ok (.invokestatic 65, 3) := by decide +kernel
theorem dX8_set_6 : decode cX8_set 6 = .ok (.ifCond .eq 12, 3) := by decide +kernel
theorem dX8_set_9 : decode cX8_set 9 = .ok (.iload_n 2, 1) := by decide +kernel
theorem dX8_set_10 : decode cX8_set 10 = .ok (.iconst 0, 1) := by decide +kernel
theorem dX8_set_11 : decode cX8_set 11 = .ok (.iconst 1, 1) := by decide +kernel
theorem dX8_set_12 : decode cX8_set 12 = .ok (.invokestatic 65, 3) := by decide +kernel
theorem dX8_set_15 : decode cX8_set 15 = .ok (.ifCond .ne 9, 3) := by decide +kernel
theorem dX8_set_18 : decode cX8_set 18 = .ok (.aload_n 0, 1) := by decide +kernel
theorem dX8_set_19 : decode cX8_set 19 = .ok (.iconst 1, 1) := by decide +kernel
theorem dX8_set_20 : decode cX8_set 20 = .ok (.invokevirtual 89, 3) := by decide +kernel
theorem dX8_set_23 : decode cX8_set 23 = .ok (.ireturn, 1) := by decide +kernel
theorem dX8_set_24 : decode cX8_set 24 = .ok (.aload_n 0, 1) := by decide +kernel
theorem dX8_set_25 : decode cX8_set 25 = .ok (.invokevirtual 92, 3) := by decide +kernel
theorem dX8_set_28 : decode cX8_set 28 = .ok (.aload_n 0, 1) := by decide +kernel
theorem dX8_set_29 : decode cX8_set 29 = .ok (.getfield 7, 3) := by decide +kernel
theorem dX8_set_32 : decode cX8_set 32 = .ok (.iconst 3, 1) := by decide +kernel
theorem dX8_set_33 : decode cX8_set 33 = .ok (.iload_n 1, 1) := by decide +kernel
theorem dX8_set_34 : decode cX8_set 34 = .ok (.iadd, 1) := by decide +kernel
theorem dX8_set_35 : decode cX8_set 35 = .ok (.iaload, 1) := by decide +kernel
theorem dX8_set_36 : decode cX8_set 36 = .ok (.istore_n 3, 1) := by decide +kernel
theorem dX8_set_37 : decode cX8_set 37 = .ok (.aload_n 0, 1) := by decide +kernel
theorem dX8_set_38 : decode cX8_set 38 = .ok (.getfield 7, 3) := by decide +kernel
theorem dX8_set_41 : decode cX8_set 41 = .ok (.iconst 3, 1) := by decide +kernel
theorem dX8_set_42 : decode cX8_set 42 = .ok (.iload_n 1, 1) := by decide +kernel
theorem dX8_set_43 : decode cX8_set 43 = .ok (.iadd, 1) := by decide +kernel
theorem dX8_set_44 : decode cX8_set 44 = .ok (.iload_n 2, 1) := by decide +kernel
theorem dX8_set_45 : decode cX8_set 45 = .ok (.iastore, 1) := by decide +kernel
theorem dX8_set_46 : decode cX8_set 46 = .ok (.aload_n 0, 1) := by decide +kernel
theorem dX8_set_47 : decode cX8_set 47 = .ok (.iload_n 3, 1) := by decide +kernel
theorem dX8_set_48 : decode cX8_set 48 = .ok (.invokevirtual 98, 3) := by decide +kernel
theorem dX8_set_51 : decode cX8_set 51 = .ok (.ireturn, 1) := by decide +kernel
def f_X8_set : MX := mth 4 (sQ (sIf (cOr (cNot (cZ z_ne (eM (f_X8_in) (aI (aI (aI (aN) (eLi 1)) (eI (0))) (eI (2)))))) (cNot (cZ z_ne (eM (f_X8_in) (aI (aI (aI (aN) (eLi 2)) (eI (0))) (eI (1))))))) (sR (eM (gd 8 f_X8_fails) (aI (aA (aN) (eLa 0)) (eI (1))))) sN) (sQ (sM (gd 8 f_X8_holds) (aA (aN) (eLa 0))) (sQ (sTi 3 (eAi 0 (eGa (eLa 0) 8 0) (eOp o_iadd (eI (3)) (eLi 1)))) (sQ (sAi 0 (eGa (eLa 0) 8 0) (eOp o_iadd (eI (3)) (eLi 1)) (eLi 2)) (sR (eM (gd 8 f_X8_saves) (aI (aA (aN) (eLa 0)) (eLi 3))))))))
theorem Y_X8_set : Yk yX8_set cX8_set 4 (some .int) 2 := ⟨w1235, w16, by decide +kernel, by decide +kernel, by decide +kernel⟩
set_option maxRecDepth 20000 in
theorem k_X8_set (l : Launch) (g : GE) : MetX l g yX8_set cX8_set 4 (some .int) 3 ({ frames := 2, cells := 0, slots := 0, locals := 43 } : Room) f_X8_set := by
  unfold f_X8_set
  exact MetX.of (own := RX8) 100 0 rfl (by decide +kernel) (by decide) (fun p e s m args below meth c Fin ad0 hr hn => ⟨_, _, Sv_seq (Sv_if (Cv_or (Cv_not (Cv_if_eq_n (Ev_call (Av_i (Av_i (Av_i (Av_nil) (Ev_iload_n dX8_set_0 rfl)) (Ev_iconst dX8_set_1 (by decide))) (Ev_iconst dX8_set_2 (by decide))) (Rn_S Y_X8_in (k_X8_in _ _) w1209 w1210 dX8_set_3 (Nat.le_of_ble_eq_true rfl) (Nat.le_of_ble_eq_true rfl) (Nat.le_of_ble_eq_true rfl) (Nat.ne_of_beq_eq_false rfl))) (t := 18) dX8_set_6 (by decide))) (Cv_not (Cv_if_ne_j (Ev_call (Av_i (Av_i (Av_i (Av_nil) (Ev_iload_n dX8_set_9 rfl)) (Ev_iconst dX8_set_10 (by decide))) (Ev_iconst dX8_set_11 (by decide))) (Rn_S Y_X8_in (k_X8_in _ _) w1209 w1210 dX8_set_12 (Nat.le_of_ble_eq_true rfl) (Nat.le_of_ble_eq_true rfl) (Nat.le_of_ble_eq_true rfl) (Nat.ne_of_beq_eq_false rfl))) (t := 24) dX8_set_15 (by decide)))) (Sv_ret (Ev_call (Av_i (Av_a (Av_nil) (Ev_aload_n dX8_set_18 rfl)) (Ev_iconst dX8_set_19 (by decide))) (Rn_V (ci := 8) Fx8.1 rfl Y_X8_fails (k_X8_fails _ _) w1212 w1214 wp29 dX8_set_20 (Nat.le_of_ble_eq_true rfl) (Nat.le_of_ble_eq_true rfl) (Nat.le_of_ble_eq_true rfl) (Nat.ne_of_beq_eq_false rfl))) hr dX8_set_23) Sv_nop) (Sv_seq (Sv_call (Av_a (Av_nil) (Ev_aload_n dX8_set_24 rfl)) (Rn_V (ci := 8) Fx8.1 rfl Y_X8_holds (k_X8_holds _ _) w1216 w1218 wp30 dX8_set_25 (Nat.le_of_ble_eq_true rfl) (Nat.le_of_ble_eq_true rfl) (Nat.le_of_ble_eq_true rfl) (Nat.ne_of_beq_eq_false rfl))) (Sv_seq (Sv_istore_n (Ev_iaload (Ev_getA Fx8 (Ev_aload_n dX8_set_28 rfl) (k := 0) (by decide) w1143 dX8_set_29) (Ev_iadd (Ev_iconst dX8_set_32 (by decide)) (Ev_iload_n dX8_set_33 rfl) dX8_set_34) dX8_set_35) dX8_set_36 rfl (Nat.le_of_ble_eq_true rfl) (Nat.ne_of_beq_eq_false rfl)) (Sv_seq (Sv_iastore (Ev_getA Fx8 (Ev_aload_n dX8_set_37 rfl) (k := 0) (by decide) w1143 dX8_set_38) (Ev_iadd (Ev_iconst dX8_set_41 (by decide)) (Ev_iload_n dX8_set_42 rfl) dX8_set_43) (Ev_iload_n dX8_set_44 rfl) dX8_set_45) (Sv_ret (Ev_call (Av_i (Av_a (Av_nil) (Ev_aload_n dX8_set_46 rfl)) (Ev_iload_n dX8_set_47 rfl)) (Rn_V (ci := 8) Fx8.1 rfl Y_X8_saves (k_X8_saves _ _) w1224 w1226 wp32 dX8_set_48 (Nat.le_of_ble_eq_true rfl) (Nat.le_of_ble_eq_true rfl) (Nat.le_of_ble_eq_true rfl) (Nat.ne_of_beq_eq_false rfl))) hr dX8_set_51)))), Nat.le_of_ble_eq_true rfl, Nat.le_of_ble_eq_true rfl⟩)
theorem dX8_isBody_0 : decode cX8_isBody 0 = .ok (.iload_n 0, 1) := by decide +kernel
theorem dX8_isBody_1 : decode cX8_isBody 1 = .ok (.iconst 0, 1) := by decide +kernel
theorem dX8_isBody_2 : decode cX8_isBody 2 = .ok (.iconst 5, 1) := by decide +kernel
theorem dX8_isBody_3 : decode cX8_isBody 3 = .ok (.invokestatic 65, 3) := by decide +kernel
theorem dX8_isBody_6 : decode cX8_isBody 6 = .ok (.ireturn, 1) := by decide +kernel
def f_X8_isBody : MX := mth 1 (sRz (eM (f_X8_in) (aI (aI (aI (aN) (eLi 0)) (eI (0))) (eI (5)))))
theorem Y_X8_isBody : Yk yX8_isBody cX8_isBody 1 (some .boolean) 1 := ⟨w1242, w16, by decide +kernel, by decide +kernel, by decide +kernel⟩
set_option maxRecDepth 20000 in
theorem k_X8_isBody (l : Launch) (g : GE) : MetX l g yX8_isBody cX8_isBody 1 (some .boolean) 1 ({ frames := 1, cells := 0, slots := 0, locals := 22 } : Room) f_X8_isBody := by
  unfold f_X8_isBody
  exact MetX.of (own := RX8) 100 0 rfl (by decide +kernel) (by decide) (fun p e s m args below meth c Fin ad0 hr hn => ⟨_, _, Sv_retz (Ev_call (Av_i (Av_i (Av_i (Av_nil) (Ev_iload_n dX8_isBody_0 rfl)) (Ev_iconst dX8_isBody_1 (by decide))) (Ev_iconst dX8_isBody_2 (by decide))) (Rn_S Y_X8_in (k_X8_in _ _) w1209 w1210 dX8_isBody_3 (Nat.le_of_ble_eq_true rfl) (Nat.le_of_ble_eq_true rfl) (Nat.le_of_ble_eq_true rfl) (Nat.ne_of_beq_eq_false rfl))) hr dX8_isBody_6, Nat.le_of_ble_eq_true rfl, Nat.le_of_ble_eq_true rfl⟩)
theorem dX8_cellsOf_0 : decode cX8_cellsOf 0 = .ok (.iconst 0, 1) := by decide +kernel
theorem dX8_cellsOf_1 : decode cX8_cellsOf 1 = .ok (.istore_n 2, 1) := by decide +kernel
theorem dX8_cellsOf_2 : decode cX8_cellsOf 2 = .ok (.iconst 0, 1) := by decide +kernel
theorem dX8_cellsOf_3 : decode cX8_cellsOf 3 = .ok (.istore_n 3, 1) := by decide +kernel
theorem dX8_cellsOf_4 : decode cX8_cellsOf 4 = .ok (.iload_n 3, 1) := by decide +kernel
theorem dX8_cellsOf_5 : decode cX8_cellsOf 5 = .ok (.sipush 512, 3) := by decide +kernel
theorem dX8_cellsOf_8 : decode cX8_cellsOf 8 = .ok (.if_icmp .ge 33, 3) := by decide +kernel
theorem dX8_cellsOf_11 : decode cX8_cellsOf 11 = .ok (.iload_n 2, 1) := by decide +kernel
theorem dX8_cellsOf_12 : decode cX8_cellsOf 12 = .ok (.aload_n 0, 1) := by decide +kernel
theorem dX8_cellsOf_13 : decode cX8_cellsOf 13 = .ok (.getfield 7, 3) := by decide +kernel
theorem dX8_cellsOf_16 : decode cX8_cellsOf 16 = .ok (.sipush 882, 3) := by decide +kernel
theorem dX8_cellsOf_19 : decode cX8_cellsOf 19 = .ok (.iload_n 3, 1) := by decide +kernel
theorem dX8_cellsOf_20 : decode cX8_cellsOf 20 = .ok (.iadd, 1) := by decide +kernel
theorem dX8_cellsOf_21 : decode cX8_cellsOf 21 = .ok (.iaload, 1) := by decide +kernel
theorem dX8_cellsOf_22 : decode cX8_cellsOf 22 = .ok (.iconst (-1), 1) := by decide +kernel
theorem dX8_cellsOf_23 : decode cX8_cellsOf 23 = .ok (.iload_n 1, 1) := by decide +kernel
theorem dX8_cellsOf_24 : decode cX8_cellsOf 24 = .ok (.isub, 1) := by decide +kernel
theorem dX8_cellsOf_25 : decode cX8_cellsOf 25 = .ok (.if_icmp .ne 7, 3) := by decide +kernel
theorem dX8_cellsOf_28 : decode cX8_cellsOf 28 = .ok (.iconst 1, 1) := by decide +kernel
theorem dX8_cellsOf_29 : decode cX8_cellsOf 29 = .ok (.goto 4, 3) := by decide +kernel
theorem dX8_cellsOf_32 : decode cX8_cellsOf 32 = .ok (.iconst 0, 1) := by decide +kernel
theorem dX8_cellsOf_33 : decode cX8_cellsOf 33 = .ok (.iadd, 1) := by decide +kernel
theorem dX8_cellsOf_34 : decode cX8_cellsOf 34 = .ok (.istore_n 2, 1) := by decide +kernel
theorem dX8_cellsOf_35 : decode cX8_cellsOf 35 = .ok (.iinc 3 1, 3) := by decide +kernel
theorem dX8_cellsOf_38 : decode cX8_cellsOf 38 = .ok (.goto (-34), 3) := by decide +kernel
theorem dX8_cellsOf_41 : decode cX8_cellsOf 41 = .ok (.iload_n 2, 1) := by decide +kernel
theorem dX8_cellsOf_42 : decode cX8_cellsOf 42 = .ok (.ireturn, 1) := by decide +kernel
def f_X8_cellsOf : MX := mth 4 (sQ (sTi 2 (eI (0))) (sQ (sQ (sTi 3 (eI (0))) (sLp (cB c_lt (eLi 3) (eI (512))) (sQ (sTi 2 (eOp o_iadd (eLi 2) (eIf (cB c_eq (eAi 0 (eGa (eLa 0) 8 0) (eOp o_iadd (eI (882)) (eLi 3))) (eOp o_isub (eI (-1)) (eLi 1))) (eI (1)) (eI (0))))) (sInc 3 (1))) NF)) (sR (eLi 2))))
theorem Y_X8_cellsOf : Yk yX8_cellsOf cX8_cellsOf 4 (some .int) 1 := ⟨w1265, w16, by decide +kernel, by decide +kernel, by decide +kernel⟩
set_option maxRecDepth 20000 in
theorem k_X8_cellsOf (l : Launch) (g : GE) : MetX l g yX8_cellsOf cX8_cellsOf 4 (some .int) 2 ({ frames := 0, cells := 0, slots := 0, locals := 0 } : Room) f_X8_cellsOf := by
  unfold f_X8_cellsOf
  exact MetX.of (own := RX8) 100 0 rfl (by decide +kernel) (by decide) (fun p e s m args below meth c Fin ad0 hr hn => ⟨_, _, Sv_seq (Sv_istore_n (Ev_iconst dX8_cellsOf_0 (by decide)) dX8_cellsOf_1 rfl (Nat.le_of_ble_eq_true rfl) (Nat.ne_of_beq_eq_false rfl)) (Sv_seq (Sv_seq (Sv_istore_n (Ev_iconst dX8_cellsOf_2 (by decide)) dX8_cellsOf_3 rfl (Nat.le_of_ble_eq_true rfl) (Nat.ne_of_beq_eq_false rfl)) (Sv_loop0 NF (Cv_icmp_ge_n (Ev_iload_n dX8_cellsOf_4 rfl) (Ev_sipush dX8_cellsOf_5 (by decide)) (t := 41) dX8_cellsOf_8 (by decide)) (Sv_goto (pE := 4) (Sv_seq (Sv_istore_n (Ev_iadd (Ev_iload_n dX8_cellsOf_11 rfl) (Ev_if (pT := 33) (Cv_icmp_ne_n (Ev_iaload (Ev_getA Fx8 (Ev_aload_n dX8_cellsOf_12 rfl) (k := 0) (by decide) w1143 dX8_cellsOf_13) (Ev_iadd (Ev_sipush dX8_cellsOf_16 (by decide)) (Ev_iload_n dX8_cellsOf_19 rfl) dX8_cellsOf_20) dX8_cellsOf_21) (Ev_isub (Ev_iconst dX8_cellsOf_22 (by decide)) (Ev_iload_n dX8_cellsOf_23 rfl) dX8_cellsOf_24) (t := 32) dX8_cellsOf_25 (by decide)) (Ev_iconst dX8_cellsOf_28 (by decide)) dX8_cellsOf_29 (by decide) (Ev_iconst dX8_cellsOf_32 (by decide))) dX8_cellsOf_33) dX8_cellsOf_34 rfl (Nat.le_of_ble_eq_true rfl) (Nat.ne_of_beq_eq_false rfl)) (Sv_iinc dX8_cellsOf_35 (by decide) (Nat.le_of_ble_eq_true rfl) (Nat.ne_of_beq_eq_false rfl))) dX8_cellsOf_38 (by decide)))) (Sv_ret (Ev_iload_n dX8_cellsOf_41 rfl) hr dX8_cellsOf_42)), Nat.le_of_ble_eq_true rfl, Nat.le_of_ble_eq_true rfl⟩)
theorem dX8_solid_0 : decode cX8_solid 0 = .ok (.iload_n 1, 1) := by decide +kernel
theorem dX8_solid_1 : decode cX8_solid 1 = .ok (.invokestatic 101, 3) := by decide +kernel
theorem dX8_solid_4 : decode cX8_solid 4 = .ok (.ifCond .eq 12, 3) := by decide +kernel
theorem dX8_solid_7 : decode cX8_solid 7 = .ok (.aload_n 0, 1) := by decide +kernel
theorem dX8_solid_8 : decode cX8_solid 8 = .ok (.iload_n 2, 1) := by decide +kernel
theorem dX8_solid_9 : decode cX8_solid 9 = .ok (.iload_n 3, 1) := by decide +kernel
theorem dX8_solid_10 : decode cX8_solid 10 = .ok (.invokevirtual 104, 3) := by decide +kernel
theorem dX8_solid_13 : decode cX8_solid 13 = .ok (.ifCond .ne 9, 3) := by decide +kernel
theorem dX8_solid_16 : decode cX8_solid 16 = .ok (.aload_n 0, 1) := by decide +kernel
theorem dX8_solid_17 : decode cX8_solid 17 = .ok (.iconst 1, 1) := by decide +kernel
theorem dX8_solid_18 : decode cX8_solid 18 = .ok (.invokevirtual 89, 3) := by decide +kernel
theorem dX8_solid_21 : decode cX8_solid 21 = .ok (.ireturn, 1) := by decide +kernel
theorem dX8_solid_22 : decode cX8_solid 22 = .ok (.aload_n 0, 1) := by decide +kernel
theorem dX8_solid_23 : decode cX8_solid 23 = .ok (.iload_n 2, 1) := by decide +kernel
theorem dX8_solid_24 : decode cX8_solid 24 = .ok (.iload_n 3, 1) := by decide +kernel
theorem dX8_solid_25 : decode cX8_solid 25 = .ok (.invokevirtual 108, 3) := by decide +kernel
theorem dX8_solid_28 : decode cX8_solid 28 = .ok (.ifCond .eq 9, 3) := by decide +kernel
theorem dX8_solid_31 : decode cX8_solid 31 = .ok (.aload_n 0, 1) := by decide +kernel
theorem dX8_solid_32 : decode cX8_solid 32 = .ok (.iconst 2, 1) := by decide +kernel
theorem dX8_solid_33 : decode cX8_solid 33 = .ok (.invokevirtual 89, 3) := by decide +kernel
theorem dX8_solid_36 : decode cX8_solid 36 = .ok (.ireturn, 1) := by decide +kernel
theorem dX8_solid_37 : decode cX8_solid 37 = .ok (.aload_n 0, 1) := by decide +kernel
theorem dX8_solid_38 : decode cX8_solid 38 = .ok (.invokevirtual 92, 3) := by decide +kernel
theorem dX8_solid_41 : decode cX8_solid 41 = .ok (.aload_n 0, 1) := by decide +kernel
theorem dX8_solid_42 : decode cX8_solid 42 = .ok (.getfield 7, 3) := by decide +kernel
theorem dX8_solid_45 : decode cX8_solid 45 = .ok (.sipush 882, 3) := by decide +kernel
theorem dX8_solid_48 : decode cX8_solid 48 = .ok (.iload_n 2, 1) := by decide +kernel
theorem dX8_solid_49 : decode cX8_solid 49 = .ok (.iload_n 3, 1) := by decide +kernel
theorem dX8_solid_50 : decode cX8_solid 50 = .ok (.invokestatic 76, 3) := by decide +kernel
theorem dX8_solid_53 : decode cX8_solid 53 = .ok (.iadd, 1) := by decide +kernel
theorem dX8_solid_54 : decode cX8_solid 54 = .ok (.iconst (-1), 1) := by decide +kernel
theorem dX8_solid_55 : decode cX8_solid 55 = .ok (.iload_n 1, 1) := by decide +kernel
theorem dX8_solid_56 : decode cX8_solid 56 = .ok (.isub, 1) := by decide +kernel
theorem dX8_solid_57 : decode cX8_solid 57 = .ok (.iastore, 1) := by decide +kernel
theorem dX8_solid_58 : decode cX8_solid 58 = .ok (.aload_n 0, 1) := by decide +kernel
theorem dX8_solid_59 : decode cX8_solid 59 = .ok (.aload_n 0, 1) := by decide +kernel
theorem dX8_solid_60 : decode cX8_solid 60 = .ok (.iload_n 1, 1) := by decide +kernel
theorem dX8_solid_61 : decode cX8_solid 61 = .ok (.invokevirtual 111, 3) := by decide +kernel
theorem dX8_solid_64 : decode cX8_solid 64 = .ok (.invokevirtual 98, 3) := by decide +kernel
theorem dX8_solid_67 : decode cX8_solid 67 = .ok (.ireturn, 1) := by decide +kernel
def f_X8_solid : MX := mth 4 (sQ (sIf (cOr (cNot (cZ z_ne (eM (f_X8_isBody) (aI (aN) (eLi 1))))) (cNot (cZ z_ne (eM (gd 8 f_X8_isCell) (aI (aI (aA (aN) (eLa 0)) (eLi 2)) (eLi 3)))))) (sR (eM (gd 8 f_X8_fails) (aI (aA (aN) (eLa 0)) (eI (1))))) sN) (sQ (sIf (cZ z_ne (eM (gd 8 f_X8_had) (aI (aI (aA (aN) (eLa 0)) (eLi 2)) (eLi 3)))) (sR (eM (gd 8 f_X8_fails) (aI (aA (aN) (eLa 0)) (eI (2))))) sN) (sQ (sM (gd 8 f_X8_holds) (aA (aN) (eLa 0))) (sQ (sAi 0 (eGa (eLa 0) 8 0) (eOp o_iadd (eI (882)) (eM (f_X8_place) (aI (aI (aN) (eLi 2)) (eLi 3)))) (eOp o_isub (eI (-1)) (eLi 1))) (sR (eM (gd 8 f_X8_saves) (aI (aA (aN) (eLa 0)) (eM (gd 8 f_X8_cellsOf) (aI (aA (aN) (eLa 0)) (eLi 1))))))))))
theorem Y_X8_solid : Yk yX8_solid cX8_solid 4 (some .int) 3 := ⟨w1239, w16, by decide +kernel, by decide +kernel, by decide +kernel⟩
set_option maxRecDepth 20000 in
theorem k_X8_solid (l : Launch) (g : GE) : MetX l g yX8_solid cX8_solid 4 (some .int) 4 ({ frames := 3, cells := 0, slots := 0, locals := 65 } : Room) f_X8_solid := by
  unfold f_X8_solid
  exact MetX.of (own := RX8) 100 0 rfl (by decide +kernel) (by decide) (fun p e s m args below meth c Fin ad0 hr hn => ⟨_, _, Sv_seq (Sv_if (Cv_or (Cv_not (Cv_if_eq_n (Ev_call (Av_i (Av_nil) (Ev_iload_n dX8_solid_0 rfl)) (Rn_S Y_X8_isBody (k_X8_isBody _ _) w1240 w1241 dX8_solid_1 (Nat.le_of_ble_eq_true rfl) (Nat.le_of_ble_eq_true rfl) (Nat.le_of_ble_eq_true rfl) (Nat.ne_of_beq_eq_false rfl))) (t := 16) dX8_solid_4 (by decide))) (Cv_not (Cv_if_ne_j (Ev_call (Av_i (Av_i (Av_a (Av_nil) (Ev_aload_n dX8_solid_7 rfl)) (Ev_iload_n dX8_solid_8 rfl)) (Ev_iload_n dX8_solid_9 rfl)) (Rn_V (ci := 8) Fx8.1 rfl Y_X8_isCell (k_X8_isCell _ _) w1243 w1245 wp34 dX8_solid_10 (Nat.le_of_ble_eq_true rfl) (Nat.le_of_ble_eq_true rfl) (Nat.le_of_ble_eq_true rfl) (Nat.ne_of_beq_eq_false rfl))) (t := 22) dX8_solid_13 (by decide)))) (Sv_ret (Ev_call (Av_i (Av_a (Av_nil) (Ev_aload_n dX8_solid_16 rfl)) (Ev_iconst dX8_solid_17 (by decide))) (Rn_V (ci := 8) Fx8.1 rfl Y_X8_fails (k_X8_fails _ _) w1212 w1214 wp29 dX8_solid_18 (Nat.le_of_ble_eq_true rfl) (Nat.le_of_ble_eq_true rfl) (Nat.le_of_ble_eq_true rfl) (Nat.ne_of_beq_eq_false rfl))) hr dX8_solid_21) Sv_nop) (Sv_seq (Sv_if (Cv_if_eq_n (Ev_call (Av_i (Av_i (Av_a (Av_nil) (Ev_aload_n dX8_solid_22 rfl)) (Ev_iload_n dX8_solid_23 rfl)) (Ev_iload_n dX8_solid_24 rfl)) (Rn_V (ci := 8) Fx8.1 rfl Y_X8_had (k_X8_had _ _) w1255 w1257 wp37 dX8_solid_25 (Nat.le_of_ble_eq_true rfl) (Nat.le_of_ble_eq_true rfl) (Nat.le_of_ble_eq_true rfl) (Nat.ne_of_beq_eq_false rfl))) (t := 37) dX8_solid_28 (by decide)) (Sv_ret (Ev_call (Av_i (Av_a (Av_nil) (Ev_aload_n dX8_solid_31 rfl)) (Ev_iconst dX8_solid_32 (by decide))) (Rn_V (ci := 8) Fx8.1 rfl Y_X8_fails (k_X8_fails _ _) w1212 w1214 wp29 dX8_solid_33 (Nat.le_of_ble_eq_true rfl) (Nat.le_of_ble_eq_true rfl) (Nat.le_of_ble_eq_true rfl) (Nat.ne_of_beq_eq_false rfl))) hr dX8_solid_36) Sv_nop) (Sv_seq (Sv_call (Av_a (Av_nil) (Ev_aload_n dX8_solid_37 rfl)) (Rn_V (ci := 8) Fx8.1 rfl Y_X8_holds (k_X8_holds _ _) w1216 w1218 wp30 dX8_solid_38 (Nat.le_of_ble_eq_true rfl) (Nat.le_of_ble_eq_true rfl) (Nat.le_of_ble_eq_true rfl) (Nat.ne_of_beq_eq_false rfl))) (Sv_seq (Sv_iastore (Ev_getA Fx8 (Ev_aload_n dX8_solid_41 rfl) (k := 0) (by decide) w1143 dX8_solid_42) (Ev_iadd (Ev_sipush dX8_solid_45 (by decide)) (Ev_call (Av_i (Av_i (Av_nil) (Ev_iload_n dX8_solid_48 rfl)) (Ev_iload_n dX8_solid_49 rfl)) (Rn_S Y_X8_place (k_X8_place _ _) w1259 w1260 dX8_solid_50 (Nat.le_of_ble_eq_true rfl) (Nat.le_of_ble_eq_true rfl) (Nat.le_of_ble_eq_true rfl) (Nat.ne_of_beq_eq_false rfl))) dX8_solid_53) (Ev_isub (Ev_iconst dX8_solid_54 (by decide)) (Ev_iload_n dX8_solid_55 rfl) dX8_solid_56) dX8_solid_57) (Sv_ret (Ev_call (Av_i (Av_a (Av_nil) (Ev_aload_n dX8_solid_58 rfl)) (Ev_call (Av_i (Av_a (Av_nil) (Ev_aload_n dX8_solid_59 rfl)) (Ev_iload_n dX8_solid_60 rfl)) (Rn_V (ci := 8) Fx8.1 rfl Y_X8_cellsOf (k_X8_cellsOf _ _) w1262 w1264 wp38 dX8_solid_61 (Nat.le_of_ble_eq_true rfl) (Nat.le_of_ble_eq_true rfl) (Nat.le_of_ble_eq_true rfl) (Nat.ne_of_beq_eq_false rfl)))) (Rn_V (ci := 8) Fx8.1 rfl Y_X8_saves (k_X8_saves _ _) w1224 w1226 wp32 dX8_solid_64 (Nat.le_of_ble_eq_true rfl) (Nat.le_of_ble_eq_true rfl) (Nat.le_of_ble_eq_true rfl) (Nat.ne_of_beq_eq_false rfl))) hr dX8_solid_67)))), Nat.le_of_ble_eq_true rfl, Nat.le_of_ble_eq_true rfl⟩)
theorem dX8_block_0 : decode cX8_block 0 = .ok (.iload_n 1, 1) := by decide +kernel
theorem dX8_block_1 : decode cX8_block 1 = .ok (.invokestatic 101, 3) := by decide +kernel
theorem dX8_block_4 : decode cX8_block 4 = .ok (.ifCond .eq 23, 3) := by decide +kernel
theorem dX8_block_7 : decode cX8_block 7 = .ok (.aload_n 0, 1) := by decide +kernel
theorem dX8_block_8 : decode cX8_block 8 = .ok (.iload_n 2, 1) := by decide +kernel
theorem dX8_block_9 : decode cX8_block 9 = .ok (.iload_n 3, 1) := by decide +kernel
theorem dX8_block_10 : decode cX8_block 10 = .ok (.invokevirtual 104, 3) := by decide +kernel
theorem dX8_block_13 : decode cX8_block 13 = .ok (.ifCond .eq 14, 3) := by decide +kernel
theorem dX8_block_16 : decode cX8_block 16 = .ok (.aload_n 0, 1) := by decide +kernel
theorem dX8_block_17 : decode cX8_block 17 = .ok (.iload 4, 2) := by decide +kernel
theorem dX8_block_19 : decode cX8_block 19 = .ok (.iload 5, 2) := by decide +kernel
theorem dX8_block_21 : decode cX8_block 21 = .ok (.invokevirtual 104, 3) := by decide +kernel
theorem dX8_block_24 : decode cX8_block 24 = .ok (.ifCond .ne 9, 3) := by decide +kernel
theorem dX8_block_27 : decode cX8_block 27 = .ok (.aload_n 0, 1) := by decide +kernel
theorem dX8_block_28 : decode cX8_block 28 = .ok (.iconst 1, 1) := by decide +kernel
theorem dX8_block_29 : decode cX8_block 29 = .ok (.invokevirtual 89, 3) := by decide +kernel
theorem dX8_block_32 : decode cX8_block 32 = .ok (.ireturn, 1) := by decide +kernel
theorem dX8_block_33 : decode cX8_block 33 = .ok (.iload 4, 2) := by decide +kernel
theorem dX8_block_35 : decode cX8_block 35 = .ok (.iload_n 2, 1) := by decide +kernel
theorem dX8_block_36 : decode cX8_block 36 = .ok (.if_icmp .lt 9, 3) := by decide +kernel
theorem dX8_block_39 : decode cX8_block 39 = .ok (.iload 5, 2) := by decide +kernel
theorem dX8_block_41 : decode cX8_block 41 = .ok (.iload_n 3, 1) := by decide +kernel
theorem dX8_block_42 : decode cX8_block 42 = .ok (.if_icmp .ge 9, 3) := by decide +kernel
theorem dX8_block_45 : decode cX8_block 45 = .ok (.aload_n 0, 1) := by decide +kernel
theorem dX8_block_46 : decode cX8_block 46 = .ok (.iconst 2, 1) := by decide +kernel
theorem dX8_block_47 : decode cX8_block 47 = .ok (.invokevirtual 89, 3) := by decide +kernel
theorem dX8_block_50 : decode cX8_block 50 = .ok (.ireturn, 1) := by decide +kernel
theorem dX8_block_51 : decode cX8_block 51 = .ok (.aload_n 0, 1) := by decide +kernel
theorem dX8_block_52 : decode cX8_block 52 = .ok (.invokevirtual 92, 3) := by decide +kernel
theorem dX8_block_55 : decode cX8_block 55 = .ok (.iconst 0, 1) := by decide +kernel
theorem dX8_block_56 : decode cX8_block 56 = .ok (.istore 6, 2) := by decide +kernel
theorem dX8_block_58 : decode cX8_block 58 = .ok (.iload_n 3, 1) := by decide +kernel
theorem dX8_block_59 : decode cX8_block 59 = .ok (.istore 7, 2) := by decide +kernel
theorem dX8_block_61 : decode cX8_block 61 = .ok (.iload 7, 2) := by decide +kernel
theorem dX8_block_63 : decode cX8_block 63 = .ok (.iload 5, 2) := by decide +kernel
theorem dX8_block_65 : decode cX8_block 65 = .ok (.if_icmp .gt 58, 3) := by decide +kernel
theorem dX8_block_68 : decode cX8_block 68 = .ok (.iload_n 2, 1) := by decide +kernel
theorem dX8_block_69 : decode cX8_block 69 = .ok (.istore 8, 2) := by decide +kernel
theorem dX8_block_71 : decode cX8_block 71 = .ok (.iload 8, 2) := by decide +kernel
theorem dX8_block_73 : decode cX8_block 73 = .ok (.iload 4, 2) := by decide +kernel
theorem dX8_block_75 : decode cX8_block 75 = .ok (.if_icmp .gt 42, 3) := by decide +kernel
theorem dX8_block_78 : decode cX8_block 78 = .ok (.aload_n 0, 1) := by decide +kernel
theorem dX8_block_79 : decode cX8_block 79 = .ok (.iload 8, 2) := by decide +kernel
theorem dX8_block_81 : decode cX8_block 81 = .ok (.iload 7, 2) := by decide +kernel
theorem dX8_block_83 : decode cX8_block 83 = .ok (.invokevirtual 108, 3) := by decide +kernel
theorem dX8_block_86 : decode cX8_block 86 = .ok (.ifCond .ne 25, 3) := by decide +kernel
theorem dX8_block_89 : decode cX8_block 89 = .ok (.aload_n 0, 1) := by decide +kernel
theorem dX8_block_90 : decode cX8_block 90 = .ok (.getfield 7, 3) := by decide +kernel
theorem dX8_block_93 : decode cX8_block 93 = .ok (.sipush 882, 3) := by decide +kernel
theorem dX8_block_96 : decode cX8_block 96 = .ok (.iload 8, 2) := by decide +kernel
theorem dX8_block_98 : decode cX8_block 98 = .ok (.iload 7, 2) := by decide +kernel
theorem dX8_block_100 : decode cX8_block 100 = .ok (.invokestatic 76, 3) := by decide +kernel
theorem dX8_block_103 : decode cX8_block 103 = .ok (.iadd, 1) := by decide +kernel
theorem dX8_block_104 : decode cX8_block 104 = .ok (.iconst (-1), 1) := by decide +kernel
theorem dX8_block_105 : decode cX8_block 105 = .ok (.iload_n 1, 1) := by decide +kernel
theorem dX8_block_106 : decode cX8_block 106 = .ok (.isub, 1) := by decide +kernel
theorem dX8_block_107 : decode cX8_block 107 = .ok (.iastore, 1) := by decide +kernel
theorem dX8_block_108 : decode cX8_block 108 = .ok (.iinc 6 1, 3) := by decide +kernel
theorem dX8_block_111 : decode cX8_block 111 = .ok (.iinc 8 1, 3) := by decide +kernel
theorem dX8_block_114 : decode cX8_block 114 = .ok (.goto (-43), 3) := by decide +kernel
theorem dX8_block_117 : decode cX8_block 117 = .ok (.iinc 7 1, 3) := by decide +kernel
theorem dX8_block_120 : decode cX8_block 120 = .ok (.goto (-59), 3) := by decide +kernel
theorem dX8_block_123 : decode cX8_block 123 = .ok (.aload_n 0, 1) := by decide +kernel
theorem dX8_block_124 : decode cX8_block 124 = .ok (.iload 6, 2) := by decide +kernel
theorem dX8_block_126 : decode cX8_block 126 = .ok (.invokevirtual 98, 3) := by decide +kernel
theorem dX8_block_129 : decode cX8_block 129 = .ok (.ireturn, 1) := by decide +kernel
def f_X8_block : MX := mth 9 (sQ (sIf (cOr (cOr (cNot (cZ z_ne (eM (f_X8_isBody) (aI (aN) (eLi 1))))) (cNot (cZ z_ne (eM (gd 8 f_X8_isCell) (aI (aI (aA (aN) (eLa 0)) (eLi 2)) (eLi 3)))))) (cNot (cZ z_ne (eM (gd 8 f_X8_isCell) (aI (aI (aA (aN) (eLa 0)) (eLi 4)) (eLi 5)))))) (sR (eM (gd 8 f_X8_fails) (aI (aA (aN) (eLa 0)) (eI (1))))) sN) (sQ (sIf (cOr (cB c_lt (eLi 4) (eLi 2)) (cB c_lt (eLi 5) (eLi 3))) (sR (eM (gd 8 f_X8_fails) (aI (aA (aN) (eLa 0)) (eI (2))))) sN) (sQ (sM (gd 8 f_X8_holds) (aA (aN) (eLa 0))) (sQ (sTi 6 (eI (0))) (sQ (sQ (sTi 7 (eLi 3)) (sLp (cB c_le (eLi 7) (eLi 5)) (sQ (sQ (sTi 8 (eLi 2)) (sLp (cB c_le (eLi 8) (eLi 4)) (sQ (sIf (cZ z_eq (eM (gd 8 f_X8_had) (aI (aI (aA (aN) (eLa 0)) (eLi 8)) (eLi 7)))) (sQ (sAi 0 (eGa (eLa 0) 8 0) (eOp o_iadd (eI (882)) (eM (f_X8_place) (aI (aI (aN) (eLi 8)) (eLi 7)))) (eOp o_isub (eI (-1)) (eLi 1))) (sInc 6 (1))) sN) (sInc 8 (1))) NF)) (sInc 7 (1))) NF)) (sR (eM (gd 8 f_X8_saves) (aI (aA (aN) (eLa 0)) (eLi 6)))))))))
theorem Y_X8_block : Yk yX8_block cX8_block 9 (some .int) 5 := ⟨w1269, w16, by decide +kernel, by decide +kernel, by decide +kernel⟩
set_option maxRecDepth 20000 in
theorem k_X8_block (l : Launch) (g : GE) : MetX l g yX8_block cX8_block 9 (some .int) 6 ({ frames := 3, cells := 0, slots := 0, locals := 65 } : Room) f_X8_block := by
  unfold f_X8_block
  exact MetX.of (own := RX8) 100 0 rfl (by decide +kernel) (by decide) (fun p e s m args below meth c Fin ad0 hr hn => ⟨_, _, Sv_seq (Sv_if (Cv_or (Cv_or (Cv_not (Cv_if_eq_n (Ev_call (Av_i (Av_nil) (Ev_iload_n dX8_block_0 rfl)) (Rn_S Y_X8_isBody (k_X8_isBody _ _) w1240 w1241 dX8_block_1 (Nat.le_of_ble_eq_true rfl) (Nat.le_of_ble_eq_true rfl) (Nat.le_of_ble_eq_true rfl) (Nat.ne_of_beq_eq_false rfl))) (t := 27) dX8_block_4 (by decide))) (Cv_not (Cv_if_eq_n (Ev_call (Av_i (Av_i (Av_a (Av_nil) (Ev_aload_n dX8_block_7 rfl)) (Ev_iload_n dX8_block_8 rfl)) (Ev_iload_n dX8_block_9 rfl)) (Rn_V (ci := 8) Fx8.1 rfl Y_X8_isCell (k_X8_isCell _ _) w1243 w1245 wp34 dX8_block_10 (Nat.le_of_ble_eq_true rfl) (Nat.le_of_ble_eq_true rfl) (Nat.le_of_ble_eq_true rfl) (Nat.ne_of_beq_eq_false rfl))) (t := 27) dX8_block_13 (by decide)))) (Cv_not (Cv_if_ne_j (Ev_call (Av_i (Av_i (Av_a (Av_nil) (Ev_aload_n dX8_block_16 rfl)) (Ev_iload dX8_block_17)) (Ev_iload dX8_block_19)) (Rn_V (ci := 8) Fx8.1 rfl Y_X8_isCell (k_X8_isCell _ _) w1243 w1245 wp34 dX8_block_21 (Nat.le_of_ble_eq_true rfl) (Nat.le_of_ble_eq_true rfl) (Nat.le_of_ble_eq_true rfl) (Nat.ne_of_beq_eq_false rfl))) (t := 33) dX8_block_24 (by decide)))) (Sv_ret (Ev_call (Av_i (Av_a (Av_nil) (Ev_aload_n dX8_block_27 rfl)) (Ev_iconst dX8_block_28 (by decide))) (Rn_V (ci := 8) Fx8.1 rfl Y_X8_fails (k_X8_fails _ _) w1212 w1214 wp29 dX8_block_29 (Nat.le_of_ble_eq_true rfl) (Nat.le_of_ble_eq_true rfl) (Nat.le_of_ble_eq_true rfl) (Nat.ne_of_beq_eq_false rfl))) hr dX8_block_32) Sv_nop) (Sv_seq (Sv_if (Cv_or (Cv_icmp_lt_j (Ev_iload dX8_block_33) (Ev_iload_n dX8_block_35 rfl) (t := 45) dX8_block_36 (by decide)) (Cv_icmp_ge_n (Ev_iload dX8_block_39) (Ev_iload_n dX8_block_41 rfl) (t := 51) dX8_block_42 (by decide))) (Sv_ret (Ev_call (Av_i (Av_a (Av_nil) (Ev_aload_n dX8_block_45 rfl)) (Ev_iconst dX8_block_46 (by decide))) (Rn_V (ci := 8) Fx8.1 rfl Y_X8_fails (k_X8_fails _ _) w1212 w1214 wp29 dX8_block_47 (Nat.le_of_ble_eq_true rfl) (Nat.le_of_ble_eq_true rfl) (Nat.le_of_ble_eq_true rfl) (Nat.ne_of_beq_eq_false rfl))) hr dX8_block_50) Sv_nop) (Sv_seq (Sv_call (Av_a (Av_nil) (Ev_aload_n dX8_block_51 rfl)) (Rn_V (ci := 8) Fx8.1 rfl Y_X8_holds (k_X8_holds _ _) w1216 w1218 wp30 dX8_block_52 (Nat.le_of_ble_eq_true rfl) (Nat.le_of_ble_eq_true rfl) (Nat.le_of_ble_eq_true rfl) (Nat.ne_of_beq_eq_false rfl))) (Sv_seq (Sv_istore (Ev_iconst dX8_block_55 (by decide)) dX8_block_56 (Nat.le_of_ble_eq_true rfl) (Nat.ne_of_beq_eq_false rfl)) (Sv_seq (Sv_seq (Sv_istore (Ev_iload_n dX8_block_58 rfl) dX8_block_59 (Nat.le_of_ble_eq_true rfl) (Nat.ne_of_beq_eq_false rfl)) (Sv_loop0 NF (Cv_icmp_gt_n (Ev_iload dX8_block_61) (Ev_iload dX8_block_63) (t := 123) dX8_block_65 (by decide)) (Sv_goto (pE := 61) (Sv_seq (Sv_seq (Sv_istore (Ev_iload_n dX8_block_68 rfl) dX8_block_69 (Nat.le_of_ble_eq_true rfl) (Nat.ne_of_beq_eq_false rfl)) (Sv_loop0 NF (Cv_icmp_gt_n (Ev_iload dX8_block_71) (Ev_iload dX8_block_73) (t := 117) dX8_block_75 (by decide)) (Sv_goto (pE := 71) (Sv_seq (Sv_if (Cv_if_ne_n (Ev_call (Av_i (Av_i (Av_a (Av_nil) (Ev_aload_n dX8_block_78 rfl)) (Ev_iload dX8_block_79)) (Ev_iload dX8_block_81)) (Rn_V (ci := 8) Fx8.1 rfl Y_X8_had (k_X8_had _ _) w1255 w1257 wp37 dX8_block_83 (Nat.le_of_ble_eq_true rfl) (Nat.le_of_ble_eq_true rfl) (Nat.le_of_ble_eq_true rfl) (Nat.ne_of_beq_eq_false rfl))) (t := 111) dX8_block_86 (by decide)) (Sv_seq (Sv_iastore (Ev_getA Fx8 (Ev_aload_n dX8_block_89 rfl) (k := 0) (by decide) w1143 dX8_block_90) (Ev_iadd (Ev_sipush dX8_block_93 (by decide)) (Ev_call (Av_i (Av_i (Av_nil) (Ev_iload dX8_block_96)) (Ev_iload dX8_block_98)) (Rn_S Y_X8_place (k_X8_place _ _) w1259 w1260 dX8_block_100 (Nat.le_of_ble_eq_true rfl) (Nat.le_of_ble_eq_true rfl) (Nat.le_of_ble_eq_true rfl) (Nat.ne_of_beq_eq_false rfl))) dX8_block_103) (Ev_isub (Ev_iconst dX8_block_104 (by decide)) (Ev_iload_n dX8_block_105 rfl) dX8_block_106) dX8_block_107) (Sv_iinc dX8_block_108 (by decide) (Nat.le_of_ble_eq_true rfl) (Nat.ne_of_beq_eq_false rfl))) Sv_nop) (Sv_iinc dX8_block_111 (by decide) (Nat.le_of_ble_eq_true rfl) (Nat.ne_of_beq_eq_false rfl))) dX8_block_114 (by decide)))) (Sv_iinc dX8_block_117 (by decide) (Nat.le_of_ble_eq_true rfl) (Nat.ne_of_beq_eq_false rfl))) dX8_block_120 (by decide)))) (Sv_ret (Ev_call (Av_i (Av_a (Av_nil) (Ev_aload_n dX8_block_123 rfl)) (Ev_iload dX8_block_124)) (Rn_V (ci := 8) Fx8.1 rfl Y_X8_saves (k_X8_saves _ _) w1224 w1226 wp32 dX8_block_126 (Nat.le_of_ble_eq_true rfl) (Nat.le_of_ble_eq_true rfl) (Nat.le_of_ble_eq_true rfl) (Nat.ne_of_beq_eq_false rfl))) hr dX8_block_129))))), Nat.le_of_ble_eq_true rfl, Nat.le_of_ble_eq_true rfl⟩)
theorem dX8_clear_0 : decode cX8_clear 0 = .ok (.aload_n 0, 1) := by decide +kernel
theorem dX8_clear_1 : decode cX8_clear 1 = .ok (.iload_n 1, 1) := by decide +kernel
theorem dX8_clear_2 : decode cX8_clear 2 = .ok (.iload_n 2, 1) := by decide +kernel
theorem dX8_clear_3 : decode cX8_clear 3 = .ok (.invokevirtual 104, 3) := by decide +kernel
theorem dX8_clear_6 : decode cX8_clear 6 = .ok (.ifCond .ne 9, 3) := by decide +kernel
theorem dX8_clear_9 : decode cX8_clear 9 = .ok (.aload_n 0, 1) := by decide +kernel
theorem dX8_clear_10 : decode cX8_clear 10 = .ok (.iconst 1, 1) := by decide +kernel
theorem dX8_clear_11 : decode cX8_clear 11 = .ok (.invokevirtual 89, 3) := by decide +kernel
theorem dX8_clear_14 : decode cX8_clear 14 = .ok (.ireturn, 1) := by decide +kernel
theorem dX8_clear_15 : decode cX8_clear 15 = .ok (.aload_n 0, 1) := by decide +kernel
theorem dX8_clear_16 : decode cX8_clear 16 = .ok (.iload_n 1, 1) := by decide +kernel
theorem dX8_clear_17 : decode cX8_clear 17 = .ok (.iload_n 2, 1) := by decide +kernel
theorem dX8_clear_18 : decode cX8_clear 18 = .ok (.invokevirtual 108, 3) := by decide +kernel
theorem dX8_clear_21 : decode cX8_clear 21 = .ok (.ifCond .lt 9, 3) := by decide +kernel
theorem dX8_clear_24 : decode cX8_clear 24 = .ok (.aload_n 0, 1) := by decide +kernel
theorem dX8_clear_25 : decode cX8_clear 25 = .ok (.iconst 2, 1) := by decide +kernel
theorem dX8_clear_26 : decode cX8_clear 26 = .ok (.invokevirtual 89, 3) := by decide +kernel
theorem dX8_clear_29 : decode cX8_clear 29 = .ok (.ireturn, 1) := by decide +kernel
theorem dX8_clear_30 : decode cX8_clear 30 = .ok (.aload_n 0, 1) := by decide +kernel
theorem dX8_clear_31 : decode cX8_clear 31 = .ok (.invokevirtual 92, 3) := by decide +kernel
theorem dX8_clear_34 : decode cX8_clear 34 = .ok (.iconst (-1), 1) := by decide +kernel
theorem dX8_clear_35 : decode cX8_clear 35 = .ok (.aload_n 0, 1) := by decide +kernel
theorem dX8_clear_36 : decode cX8_clear 36 = .ok (.iload_n 1, 1) := by decide +kernel
theorem dX8_clear_37 : decode cX8_clear 37 = .ok (.iload_n 2, 1) := by decide +kernel
theorem dX8_clear_38 : decode cX8_clear 38 = .ok (.invokevirtual 108, 3) := by decide +kernel
theorem dX8_clear_41 : decode cX8_clear 41 = .ok (.isub, 1) := by decide +kernel
theorem dX8_clear_42 : decode cX8_clear 42 = .ok (.istore_n 3, 1) := by decide +kernel
theorem dX8_clear_43 : decode cX8_clear 43 = .ok (.aload_n 0, 1) := by decide +kernel
theorem dX8_clear_44 : decode cX8_clear 44 = .ok (.getfield 7, 3) := by decide +kernel
theorem dX8_clear_47 : decode cX8_clear 47 = .ok (.sipush 882, 3) := by decide +kernel
theorem dX8_clear_50 : decode cX8_clear 50 = .ok (.iload_n 1, 1) := by decide +kernel
theorem dX8_clear_51 : decode cX8_clear 51 = .ok (.iload_n 2, 1) := by decide +kernel
theorem dX8_clear_52 : decode cX8_clear 52 = .ok (.invokestatic 76, 3) := by decide +kernel
theorem dX8_clear_55 : decode cX8_clear 55 = .ok (.iadd, 1) := by decide +kernel
theorem dX8_clear_56 : decode cX8_clear 56 = .ok (.iconst 0, 1) := by decide +kernel
theorem dX8_clear_57 : decode cX8_clear 57 = .ok (.iastore, 1) := by decide +kernel
theorem dX8_clear_58 : decode cX8_clear 58 = .ok (.aload_n 0, 1) := by decide +kernel
theorem dX8_clear_59 : decode cX8_clear 59 = .ok (.iload_n 3, 1) := by decide +kernel
theorem dX8_clear_60 : decode cX8_clear 60 = .ok (.invokevirtual 98, 3) := by decide +kernel
theorem dX8_clear_63 : decode cX8_clear 63 = .ok (.ireturn, 1) := by decide +kernel
def f_X8_clear : MX := mth 4 (sQ (sIf (cNot (cZ z_ne (eM (gd 8 f_X8_isCell) (aI (aI (aA (aN) (eLa 0)) (eLi 1)) (eLi 2))))) (sR (eM (gd 8 f_X8_fails) (aI (aA (aN) (eLa 0)) (eI (1))))) sN) (sQ (sIf (cZ z_ge (eM (gd 8 f_X8_had) (aI (aI (aA (aN) (eLa 0)) (eLi 1)) (eLi 2)))) (sR (eM (gd 8 f_X8_fails) (aI (aA (aN) (eLa 0)) (eI (2))))) sN) (sQ (sM (gd 8 f_X8_holds) (aA (aN) (eLa 0))) (sQ (sTi 3 (eOp o_isub (eI (-1)) (eM (gd 8 f_X8_had) (aI (aI (aA (aN) (eLa 0)) (eLi 1)) (eLi 2))))) (sQ (sAi 0 (eGa (eLa 0) 8 0) (eOp o_iadd (eI (882)) (eM (f_X8_place) (aI (aI (aN) (eLi 1)) (eLi 2)))) (eI (0))) (sR (eM (gd 8 f_X8_saves) (aI (aA (aN) (eLa 0)) (eLi 3)))))))))
theorem Y_X8_clear : Yk yX8_clear cX8_clear 4 (some .int) 2 := ⟨w1273, w16, by decide +kernel, by decide +kernel, by decide +kernel⟩
set_option maxRecDepth 20000 in
theorem k_X8_clear (l : Launch) (g : GE) : MetX l g yX8_clear cX8_clear 4 (some .int) 3 ({ frames := 3, cells := 0, slots := 0, locals := 65 } : Room) f_X8_clear := by
  unfold f_X8_clear
  exact MetX.of (own := RX8) 100 0 rfl (by decide +kernel) (by decide) (fun p e s m args below meth c Fin ad0 hr hn => ⟨_, _, Sv_seq (Sv_if (Cv_not (Cv_if_ne_j (Ev_call (Av_i (Av_i (Av_a (Av_nil) (Ev_aload_n dX8_clear_0 rfl)) (Ev_iload_n dX8_clear_1 rfl)) (Ev_iload_n dX8_clear_2 rfl)) (Rn_V (ci := 8) Fx8.1 rfl Y_X8_isCell (k_X8_isCell _ _) w1243 w1245 wp34 dX8_clear_3 (Nat.le_of_ble_eq_true rfl) (Nat.le_of_ble_eq_true rfl) (Nat.le_of_ble_eq_true rfl) (Nat.ne_of_beq_eq_false rfl))) (t := 15) dX8_clear_6 (by decide))) (Sv_ret (Ev_call (Av_i (Av_a (Av_nil) (Ev_aload_n dX8_clear_9 rfl)) (Ev_iconst dX8_clear_10 (by decide))) (Rn_V (ci := 8) Fx8.1 rfl Y_X8_fails (k_X8_fails _ _) w1212 w1214 wp29 dX8_clear_11 (Nat.le_of_ble_eq_true rfl) (Nat.le_of_ble_eq_true rfl) (Nat.le_of_ble_eq_true rfl) (Nat.ne_of_beq_eq_false rfl))) hr dX8_clear_14) Sv_nop) (Sv_seq (Sv_if (Cv_if_lt_n (Ev_call (Av_i (Av_i (Av_a (Av_nil) (Ev_aload_n dX8_clear_15 rfl)) (Ev_iload_n dX8_clear_16 rfl)) (Ev_iload_n dX8_clear_17 rfl)) (Rn_V (ci := 8) Fx8.1 rfl Y_X8_had (k_X8_had _ _) w1255 w1257 wp37 dX8_clear_18 (Nat.le_of_ble_eq_true rfl) (Nat.le_of_ble_eq_true rfl) (Nat.le_of_ble_eq_true rfl) (Nat.ne_of_beq_eq_false rfl))) (t := 30) dX8_clear_21 (by decide)) (Sv_ret (Ev_call (Av_i (Av_a (Av_nil) (Ev_aload_n dX8_clear_24 rfl)) (Ev_iconst dX8_clear_25 (by decide))) (Rn_V (ci := 8) Fx8.1 rfl Y_X8_fails (k_X8_fails _ _) w1212 w1214 wp29 dX8_clear_26 (Nat.le_of_ble_eq_true rfl) (Nat.le_of_ble_eq_true rfl) (Nat.le_of_ble_eq_true rfl) (Nat.ne_of_beq_eq_false rfl))) hr dX8_clear_29) Sv_nop) (Sv_seq (Sv_call (Av_a (Av_nil) (Ev_aload_n dX8_clear_30 rfl)) (Rn_V (ci := 8) Fx8.1 rfl Y_X8_holds (k_X8_holds _ _) w1216 w1218 wp30 dX8_clear_31 (Nat.le_of_ble_eq_true rfl) (Nat.le_of_ble_eq_true rfl) (Nat.le_of_ble_eq_true rfl) (Nat.ne_of_beq_eq_false rfl))) (Sv_seq (Sv_istore_n (Ev_isub (Ev_iconst dX8_clear_34 (by decide)) (Ev_call (Av_i (Av_i (Av_a (Av_nil) (Ev_aload_n dX8_clear_35 rfl)) (Ev_iload_n dX8_clear_36 rfl)) (Ev_iload_n dX8_clear_37 rfl)) (Rn_V (ci := 8) Fx8.1 rfl Y_X8_had (k_X8_had _ _) w1255 w1257 wp37 dX8_clear_38 (Nat.le_of_ble_eq_true rfl) (Nat.le_of_ble_eq_true rfl) (Nat.le_of_ble_eq_true rfl) (Nat.ne_of_beq_eq_false rfl))) dX8_clear_41) dX8_clear_42 rfl (Nat.le_of_ble_eq_true rfl) (Nat.ne_of_beq_eq_false rfl)) (Sv_seq (Sv_iastore (Ev_getA Fx8 (Ev_aload_n dX8_clear_43 rfl) (k := 0) (by decide) w1143 dX8_clear_44) (Ev_iadd (Ev_sipush dX8_clear_47 (by decide)) (Ev_call (Av_i (Av_i (Av_nil) (Ev_iload_n dX8_clear_50 rfl)) (Ev_iload_n dX8_clear_51 rfl)) (Rn_S Y_X8_place (k_X8_place _ _) w1259 w1260 dX8_clear_52 (Nat.le_of_ble_eq_true rfl) (Nat.le_of_ble_eq_true rfl) (Nat.le_of_ble_eq_true rfl) (Nat.ne_of_beq_eq_false rfl))) dX8_clear_55) (Ev_iconst dX8_clear_56 (by decide)) dX8_clear_57) (Sv_ret (Ev_call (Av_i (Av_a (Av_nil) (Ev_aload_n dX8_clear_58 rfl)) (Ev_iload_n dX8_clear_59 rfl)) (Rn_V (ci := 8) Fx8.1 rfl Y_X8_saves (k_X8_saves _ _) w1224 w1226 wp32 dX8_clear_60 (Nat.le_of_ble_eq_true rfl) (Nat.le_of_ble_eq_true rfl) (Nat.le_of_ble_eq_true rfl) (Nat.ne_of_beq_eq_false rfl))) hr dX8_clear_63))))), Nat.le_of_ble_eq_true rfl, Nat.le_of_ble_eq_true rfl⟩)
theorem dX8_canShift_0 : decode cX8_canShift 0 = .ok (.aload_n 0, 1) := by decide +kernel
theorem dX8_canShift_1 : decode cX8_canShift 1 = .ok (.iload_n 1, 1) := by decide +kernel
theorem dX8_canShift_2 : decode cX8_canShift 2 = .ok (.invokevirtual 111, 3) := by decide +kernel
theorem dX8_canShift_5 : decode cX8_canShift 5 = .ok (.ifCond .le 7, 3) := by decide +kernel
theorem dX8_canShift_8 : decode cX8_canShift 8 = .ok (.iconst 1, 1) := by decide +kernel
theorem dX8_canShift_9 : decode cX8_canShift 9 = .ok (.goto 4, 3) := by decide +kernel
theorem dX8_canShift_12 : decode cX8_canShift 12 = .ok (.iconst 0, 1) := by decide +kernel
theorem dX8_canShift_13 : decode cX8_canShift 13 = .ok (.istore 4, 2) := by decide +kernel
theorem dX8_canShift_15 : decode cX8_canShift 15 = .ok (.iconst 0, 1) := by decide +kernel
theorem dX8_canShift_16 : decode cX8_canShift 16 = .ok (.istore 5, 2) := by decide +kernel
theorem dX8_canShift_18 : decode cX8_canShift 18 = .ok (.iload 5, 2) := by decide +kernel
theorem dX8_canShift_20 : decode cX8_canShift 20 = .ok (.aload_n 0, 1) := by decide +kernel
theorem dX8_canShift_21 : decode cX8_canShift 21 = .ok (.getfield 7, 3) := by decide +kernel
theorem dX8_canShift_24 : decode cX8_canShift 24 = .ok (.iconst 1, 1) := by decide +kernel
theorem dX8_canShift_25 : decode cX8_canShift 25 = .ok (.iaload, 1) := by decide +kernel
theorem dX8_canShift_26 : decode cX8_canShift 26 = .ok (.if_icmp .ge 103, 3) := by decide +kernel
theorem dX8_canShift_29 : decode cX8_canShift 29 = .ok (.iconst 0, 1) := by decide +kernel
theorem dX8_canShift_30 : decode cX8_canShift 30 = .ok (.istore 6, 2) := by decide +kernel
theorem dX8_canShift_32 : decode cX8_canShift 32 = .ok (.iload 6, 2) := by decide +kernel
theorem dX8_canShift_34 : decode cX8_canShift 34 = .ok (.aload_n 0, 1) := by decide +kernel
theorem dX8_canShift_35 : decode cX8_canShift 35 = .ok (.getfield 7, 3) := by decide +kernel
theorem dX8_canShift_38 : decode cX8_canShift 38 = .ok (.iconst 0, 1) := by decide +kernel
theorem dX8_canShift_39 : decode cX8_canShift 39 = .ok (.iaload, 1) := by decide +kernel
theorem dX8_canShift_40 : decode cX8_canShift 40 = .ok (.if_icmp .ge 83, 3) := by decide +kernel
theorem dX8_canShift_43 : decode cX8_canShift 43 = .ok (.aload_n 0, 1) := by decide +kernel
theorem dX8_canShift_44 : decode cX8_canShift 44 = .ok (.iload 6, 2) := by decide +kernel
theorem dX8_canShift_46 : decode cX8_canShift 46 = .ok (.iload 5, 2) := by decide +kernel
theorem dX8_canShift_48 : decode cX8_canShift 48 = .ok (.invokevirtual 108, 3) := by decide +kernel
theorem dX8_canShift_51 : decode cX8_canShift 51 = .ok (.iconst (-1), 1) := by decide +kernel
theorem dX8_canShift_52 : decode cX8_canShift 52 = .ok (.iload_n 1, 1) := by decide +kernel
theorem dX8_canShift_53 : decode cX8_canShift 53 = .ok (.isub, 1) := by decide +kernel
theorem dX8_canShift_54 : decode cX8_canShift 54 = .ok (.if_icmp .ne 63, 3) := by decide +kernel
theorem dX8_canShift_57 : decode cX8_canShift 57 = .ok (.iload 4, 2) := by decide +kernel
theorem dX8_canShift_59 : decode cX8_canShift 59 = .ok (.ifCond .eq 55, 3) := by decide +kernel
theorem dX8_canShift_62 : decode cX8_canShift 62 = .ok (.aload_n 0, 1) := by decide +kernel
theorem dX8_canShift_63 : decode cX8_canShift 63 = .ok (.iload 6, 2) := by decide +kernel
theorem dX8_canShift_65 : decode cX8_canShift 65 = .ok (.iload_n 2, 1) := by decide +kernel
theorem dX8_canShift_66 : decode cX8_canShift 66 = .ok (.iadd, 1) := by decide +kernel
theorem dX8_canShift_67 : decode cX8_canShift 67 = .ok (.iload 5, 2) := by decide +kernel
theorem dX8_canShift_69 : decode cX8_canShift 69 = .ok (.iload_n 3, 1) := by decide +kernel
theorem dX8_canShift_70 : decode cX8_canShift 70 = .ok (.iadd, 1) := by decide +kernel
theorem dX8_canShift_71 : decode cX8_canShift 71 = .ok (.invokevirtual 104, 3) := by decide +kernel
theorem dX8_canShift_74 : decode cX8_canShift 74 = .ok (.ifCond .eq 40, 3) := by decide +kernel
theorem dX8_canShift_77 : decode cX8_canShift 77 = .ok (.aload_n 0, 1) := by decide +kernel
theorem dX8_canShift_78 : decode cX8_canShift 78 = .ok (.iload 6, 2) := by decide +kernel
theorem dX8_canShift_80 : decode cX8_canShift 80 = .ok (.iload_n 2, 1) := by decide +kernel
theorem dX8_canShift_81 : decode cX8_canShift 81 = .ok (.iadd, 1) := by decide +kernel
theorem dX8_canShift_82 : decode cX8_canShift 82 = .ok (.iload 5, 2) := by decide +kernel
theorem dX8_canShift_84 : decode cX8_canShift 84 = .ok (.iload_n 3, 1) := by decide +kernel
theorem dX8_canShift_85 : decode cX8_canShift 85 = .ok (.iadd, 1) := by decide +kernel
theorem dX8_canShift_86 : decode cX8_canShift 86 = .ok (.invokevirtual 108, 3) := by decide +kernel
theorem dX8_canShift_89 : decode cX8_canShift 89 = .ok (.ifCond .eq 21, 3) := by decide +kernel
theorem dX8_canShift_92 : decode cX8_canShift 92 = .ok (.aload_n 0, 1) := by decide +kernel
theorem dX8_canShift_93 : decode cX8_canShift 93 = .ok (.iload 6, 2) := by decide +kernel
theorem dX8_canShift_95 : decode cX8_canShift 95 = .ok (.iload_n 2, 1) := by decide +kernel
theorem dX8_canShift_96 : decode cX8_canShift 96 = .ok (.iadd, 1) := by decide +kernel
theorem dX8_canShift_97 : decode cX8_canShift 97 = .ok (.iload 5, 2) := by decide +kernel
theorem dX8_canShift_99 : decode cX8_canShift 99 = .ok (.iload_n 3, 1) := by decide +kernel
theorem dX8_canShift_100 : decode cX8_canShift 100 = .ok (.iadd, 1) := by decide +kernel
theorem dX8_canShift_101 : decode cX8_canShift 101 = .ok (.invokevirtual 108, 3) := by decide +kernel
theorem dX8_canShift_104 : decode cX8_canShift 104 = .ok (.iconst (-1), 1) := by decide +kernel
theorem dX8_canShift_105 : decode cX8_canShift 105 = .ok (.iload_n 1, 1) := by decide +kernel
theorem dX8_canShift_106 : decode cX8_canShift 106 = .ok (.isub, 1) := by decide +kernel
theorem dX8_canShift_107 : decode cX8_canShift 107 = .ok (.if_icmp .ne 7, 3) := by decide +kernel
theorem dX8_canShift_110 : decode cX8_canShift 110 = .ok (.iconst 1, 1) := by decide +kernel
theorem dX8_canShift_111 : decode cX8_canShift 111 = .ok (.goto 4, 3) := by decide +kernel
theorem dX8_canShift_114 : decode cX8_canShift 114 = .ok (.iconst 0, 1) := by decide +kernel
theorem dX8_canShift_115 : decode cX8_canShift 115 = .ok (.istore 4, 2) := by decide +kernel
theorem dX8_canShift_117 : decode cX8_canShift 117 = .ok (.iinc 6 1, 3) := by decide +kernel
theorem dX8_canShift_120 : decode cX8_canShift 120 = .ok (.goto (-88), 3) := by decide +kernel
theorem dX8_canShift_123 : decode cX8_canShift 123 = .ok (.iinc 5 1, 3) := by decide +kernel
theorem dX8_canShift_126 : decode cX8_canShift 126 = .ok (.goto (-108), 3) := by decide +kernel
theorem dX8_canShift_129 : decode cX8_canShift 129 = .ok (.iload 4, 2) := by decide +kernel
theorem dX8_canShift_131 : decode cX8_canShift 131 = .ok (.ireturn, 1) := by decide +kernel
def f_X8_canShift : MX := mth 7 (sQ (sTi 4 (eC (cZ z_gt (eM (gd 8 f_X8_cellsOf) (aI (aA (aN) (eLa 0)) (eLi 1)))))) (sQ (sQ (sTi 5 (eI (0))) (sLp (cB c_lt (eLi 5) (eAi 0 (eGa (eLa 0) 8 0) (eI (1)))) (sQ (sQ (sTi 6 (eI (0))) (sLp (cB c_lt (eLi 6) (eAi 0 (eGa (eLa 0) 8 0) (eI (0)))) (sQ (sIf (cB c_eq (eM (gd 8 f_X8_had) (aI (aI (aA (aN) (eLa 0)) (eLi 6)) (eLi 5))) (eOp o_isub (eI (-1)) (eLi 1))) (sTi 4 (eC (cAnd (cAnd (cZ z_ne (eLi 4)) (cZ z_ne (eM (gd 8 f_X8_isCell) (aI (aI (aA (aN) (eLa 0)) (eOp o_iadd (eLi 6) (eLi 2))) (eOp o_iadd (eLi 5) (eLi 3)))))) (cOr (cZ z_eq (eM (gd 8 f_X8_had) (aI (aI (aA (aN) (eLa 0)) (eOp o_iadd (eLi 6) (eLi 2))) (eOp o_iadd (eLi 5) (eLi 3))))) (cB c_eq (eM (gd 8 f_X8_had) (aI (aI (aA (aN) (eLa 0)) (eOp o_iadd (eLi 6) (eLi 2))) (eOp o_iadd (eLi 5) (eLi 3)))) (eOp o_isub (eI (-1)) (eLi 1))))))) sN) (sInc 6 (1))) NF)) (sInc 5 (1))) NF)) (sRz (eLi 4))))
theorem Y_X8_canShift : Yk yX8_canShift cX8_canShift 7 (some .boolean) 3 := ⟨w1281, w16, by decide +kernel, by decide +kernel, by decide +kernel⟩
set_option maxRecDepth 20000 in
theorem k_X8_canShift (l : Launch) (g : GE) : MetX l g yX8_canShift cX8_canShift 7 (some .boolean) 4 ({ frames := 3, cells := 0, slots := 0, locals := 65 } : Room) f_X8_canShift := by
  unfold f_X8_canShift
  exact MetX.of (own := RX8) 100 0 rfl (by decide +kernel) (by decide) (fun p e s m args below meth c Fin ad0 hr hn => ⟨_, _, Sv_seq (Sv_istore (Ev_if (pT := 13) (Cv_if_le_n (Ev_call (Av_i (Av_a (Av_nil) (Ev_aload_n dX8_canShift_0 rfl)) (Ev_iload_n dX8_canShift_1 rfl)) (Rn_V (ci := 8) Fx8.1 rfl Y_X8_cellsOf (k_X8_cellsOf _ _) w1262 w1264 wp38 dX8_canShift_2 (Nat.le_of_ble_eq_true rfl) (Nat.le_of_ble_eq_true rfl) (Nat.le_of_ble_eq_true rfl) (Nat.ne_of_beq_eq_false rfl))) (t := 12) dX8_canShift_5 (by decide)) (Ev_iconst dX8_canShift_8 (by decide)) dX8_canShift_9 (by decide) (Ev_iconst dX8_canShift_12 (by decide))) dX8_canShift_13 (Nat.le_of_ble_eq_true rfl) (Nat.ne_of_beq_eq_false rfl)) (Sv_seq (Sv_seq (Sv_istore (Ev_iconst dX8_canShift_15 (by decide)) dX8_canShift_16 (Nat.le_of_ble_eq_true rfl) (Nat.ne_of_beq_eq_false rfl)) (Sv_loop0 NF (Cv_icmp_ge_n (Ev_iload dX8_canShift_18) (Ev_iaload (Ev_getA Fx8 (Ev_aload_n dX8_canShift_20 rfl) (k := 0) (by decide) w1143 dX8_canShift_21) (Ev_iconst dX8_canShift_24 (by decide)) dX8_canShift_25) (t := 129) dX8_canShift_26 (by decide)) (Sv_goto (pE := 18) (Sv_seq (Sv_seq (Sv_istore (Ev_iconst dX8_canShift_29 (by decide)) dX8_canShift_30 (Nat.le_of_ble_eq_true rfl) (Nat.ne_of_beq_eq_false rfl)) (Sv_loop0 NF (Cv_icmp_ge_n (Ev_iload dX8_canShift_32) (Ev_iaload (Ev_getA Fx8 (Ev_aload_n dX8_canShift_34 rfl) (k := 0) (by decide) w1143 dX8_canShift_35) (Ev_iconst dX8_canShift_38 (by decide)) dX8_canShift_39) (t := 123) dX8_canShift_40 (by decide)) (Sv_goto (pE := 32) (Sv_seq (Sv_if (Cv_icmp_ne_n (Ev_call (Av_i (Av_i (Av_a (Av_nil) (Ev_aload_n dX8_canShift_43 rfl)) (Ev_iload dX8_canShift_44)) (Ev_iload dX8_canShift_46)) (Rn_V (ci := 8) Fx8.1 rfl Y_X8_had (k_X8_had _ _) w1255 w1257 wp37 dX8_canShift_48 (Nat.le_of_ble_eq_true rfl) (Nat.le_of_ble_eq_true rfl) (Nat.le_of_ble_eq_true rfl) (Nat.ne_of_beq_eq_false rfl))) (Ev_isub (Ev_iconst dX8_canShift_51 (by decide)) (Ev_iload_n dX8_canShift_52 rfl) dX8_canShift_53) (t := 117) dX8_canShift_54 (by decide)) (Sv_istore (Ev_if (pT := 115) (Cv_and (Cv_and (Cv_if_eq_n (Ev_iload dX8_canShift_57) (t := 114) dX8_canShift_59 (by decide)) (Cv_if_eq_n (Ev_call (Av_i (Av_i (Av_a (Av_nil) (Ev_aload_n dX8_canShift_62 rfl)) (Ev_iadd (Ev_iload dX8_canShift_63) (Ev_iload_n dX8_canShift_65 rfl) dX8_canShift_66)) (Ev_iadd (Ev_iload dX8_canShift_67) (Ev_iload_n dX8_canShift_69 rfl) dX8_canShift_70)) (Rn_V (ci := 8) Fx8.1 rfl Y_X8_isCell (k_X8_isCell _ _) w1243 w1245 wp34 dX8_canShift_71 (Nat.le_of_ble_eq_true rfl) (Nat.le_of_ble_eq_true rfl) (Nat.le_of_ble_eq_true rfl) (Nat.ne_of_beq_eq_false rfl))) (t := 114) dX8_canShift_74 (by decide))) (Cv_or (Cv_if_eq_j (Ev_call (Av_i (Av_i (Av_a (Av_nil) (Ev_aload_n dX8_canShift_77 rfl)) (Ev_iadd (Ev_iload dX8_canShift_78) (Ev_iload_n dX8_canShift_80 rfl) dX8_canShift_81)) (Ev_iadd (Ev_iload dX8_canShift_82) (Ev_iload_n dX8_canShift_84 rfl) dX8_canShift_85)) (Rn_V (ci := 8) Fx8.1 rfl Y_X8_had (k_X8_had _ _) w1255 w1257 wp37 dX8_canShift_86 (Nat.le_of_ble_eq_true rfl) (Nat.le_of_ble_eq_true rfl) (Nat.le_of_ble_eq_true rfl) (Nat.ne_of_beq_eq_false rfl))) (t := 110) dX8_canShift_89 (by decide)) (Cv_icmp_ne_n (Ev_call (Av_i (Av_i (Av_a (Av_nil) (Ev_aload_n dX8_canShift_92 rfl)) (Ev_iadd (Ev_iload dX8_canShift_93) (Ev_iload_n dX8_canShift_95 rfl) dX8_canShift_96)) (Ev_iadd (Ev_iload dX8_canShift_97) (Ev_iload_n dX8_canShift_99 rfl) dX8_canShift_100)) (Rn_V (ci := 8) Fx8.1 rfl Y_X8_had (k_X8_had _ _) w1255 w1257 wp37 dX8_canShift_101 (Nat.le_of_ble_eq_true rfl) (Nat.le_of_ble_eq_true rfl) (Nat.le_of_ble_eq_true rfl) (Nat.ne_of_beq_eq_false rfl))) (Ev_isub (Ev_iconst dX8_canShift_104 (by decide)) (Ev_iload_n dX8_canShift_105 rfl) dX8_canShift_106) (t := 114) dX8_canShift_107 (by decide)))) (Ev_iconst dX8_canShift_110 (by decide)) dX8_canShift_111 (by decide) (Ev_iconst dX8_canShift_114 (by decide))) dX8_canShift_115 (Nat.le_of_ble_eq_true rfl) (Nat.ne_of_beq_eq_false rfl)) Sv_nop) (Sv_iinc dX8_canShift_117 (by decide) (Nat.le_of_ble_eq_true rfl) (Nat.ne_of_beq_eq_false rfl))) dX8_canShift_120 (by decide)))) (Sv_iinc dX8_canShift_123 (by decide) (Nat.le_of_ble_eq_true rfl) (Nat.ne_of_beq_eq_false rfl))) dX8_canShift_126 (by decide)))) (Sv_retz (Ev_iload dX8_canShift_129) hr dX8_canShift_131)), Nat.le_of_ble_eq_true rfl, Nat.le_of_ble_eq_true rfl⟩)
theorem dX8_shifts_0 : decode cX8_shifts 0 = .ok (.iconst 0, 1) := by decide +kernel
theorem dX8_shifts_1 : decode cX8_shifts 1 = .ok (.istore 4, 2) := by decide +kernel
theorem dX8_shifts_3 : decode cX8_shifts 3 = .ok (.iload 4, 2) := by decide +kernel
theorem dX8_shifts_5 : decode cX8_shifts 5 = .ok (.sipush 512, 3) := by decide +kernel
theorem dX8_shifts_8 : decode cX8_shifts 8 = .ok (.if_icmp .ge 70, 3) := by decide +kernel
theorem dX8_shifts_11 : decode cX8_shifts 11 = .ok (.aload_n 0, 1) := by decide +kernel
theorem dX8_shifts_12 : decode cX8_shifts 12 = .ok (.getfield 32, 3) := by decide +kernel
theorem dX8_shifts_15 : decode cX8_shifts 15 = .ok (.iload 4, 2) := by decide +kernel
theorem dX8_shifts_17 : decode cX8_shifts 17 = .ok (.aload_n 0, 1) := by decide +kernel
theorem dX8_shifts_18 : decode cX8_shifts 18 = .ok (.getfield 7, 3) := by decide +kernel
theorem dX8_shifts_21 : decode cX8_shifts 21 = .ok (.sipush 882, 3) := by decide +kernel
theorem dX8_shifts_24 : decode cX8_shifts 24 = .ok (.iload 4, 2) := by decide +kernel
theorem dX8_shifts_26 : decode cX8_shifts 26 = .ok (.iadd, 1) := by decide +kernel
theorem dX8_shifts_27 : decode cX8_shifts 27 = .ok (.iaload, 1) := by decide +kernel
theorem dX8_shifts_28 : decode cX8_shifts 28 = .ok (.iastore, 1) := by decide +kernel
theorem dX8_shifts_29 : decode cX8_shifts 29 = .ok (.aload_n 0, 1) := by decide +kernel
theorem dX8_shifts_30 : decode cX8_shifts 30 = .ok (.getfield 7, 3) := by decide +kernel
theorem dX8_shifts_33 : decode cX8_shifts 33 = .ok (.sipush 882, 3) := by decide +kernel
theorem dX8_shifts_36 : decode cX8_shifts 36 = .ok (.iload 4, 2) := by decide +kernel
theorem dX8_shifts_38 : decode cX8_shifts 38 = .ok (.iadd, 1) := by decide +kernel
theorem dX8_shifts_39 : decode cX8_shifts 39 = .ok (.aload_n 0, 1) := by decide +kernel
theorem dX8_shifts_40 : decode cX8_shifts 40 = .ok (.getfield 7, 3) := by decide +kernel
theorem dX8_shifts_43 : decode cX8_shifts 43 = .ok (.sipush 882, 3) := by decide +kernel
theorem dX8_shifts_46 : decode cX8_shifts 46 = .ok (.iload 4, 2) := by decide +kernel
theorem dX8_shifts_48 : decode cX8_shifts 48 = .ok (.iadd, 1) := by decide +kernel
theorem dX8_shifts_49 : decode cX8_shifts 49 = .ok (.iaload, 1) := by decide +kernel
theorem dX8_shifts_50 : decode cX8_shifts 50 = .ok (.iconst (-1), 1) := by decide +kernel
theorem dX8_shifts_51 : decode cX8_shifts 51 = .ok (.iload_n 1, 1) := by decide +kernel
theorem dX8_shifts_52 : decode cX8_shifts 52 = .ok (.isub, 1) := by decide +kernel
theorem dX8_shifts_53 : decode cX8_shifts 53 = .ok (.if_icmp .ne 7, 3) := by decide +kernel
theorem dX8_shifts_56 : decode cX8_shifts 56 = .ok (.iconst 0, 1) := by decide +kernel
theorem dX8_shifts_57 : decode cX8_shifts 57 = .ok (.goto 14, 3) := by decide +kernel
theorem dX8_shifts_60 : decode cX8_shifts 60 = .ok (.aload_n 0, 1) := by decide +kernel
theorem dX8_shifts_61 : decode cX8_shifts 61 = .ok (.getfield 7, 3) := by decide +kernel
theorem dX8_shifts_64 : decode cX8_shifts 64 = .ok (.sipush 882, 3) := by decide +kernel
theorem dX8_shifts_67 : decode cX8_shifts 67 = .ok (.iload 4, 2) := by decide +kernel
theorem dX8_shifts_69 : decode cX8_shifts 69 = .ok (.iadd, 1) := by decide +kernel
theorem dX8_shifts_70 : decode cX8_shifts 70 = .ok (.iaload, 1) := by decide +kernel
theorem dX8_shifts_71 : decode cX8_shifts 71 = .ok (.iastore, 1) := by decide +kernel
theorem dX8_shifts_72 : decode cX8_shifts 72 = .ok (.iinc 4 1, 3) := by decide +kernel
theorem dX8_shifts_75 : decode cX8_shifts 75 = .ok (.goto (-72), 3) := by decide +kernel
theorem dX8_shifts_78 : decode cX8_shifts 78 = .ok (.iconst 0, 1) := by decide +kernel
theorem dX8_shifts_79 : decode cX8_shifts 79 = .ok (.istore 4, 2) := by decide +kernel
theorem dX8_shifts_81 : decode cX8_shifts 81 = .ok (.iload 4, 2) := by decide +kernel
theorem dX8_shifts_83 : decode cX8_shifts 83 = .ok (.sipush 512, 3) := by decide +kernel
theorem dX8_shifts_86 : decode cX8_shifts 86 = .ok (.if_icmp .ge 42, 3) := by decide +kernel
theorem dX8_shifts_89 : decode cX8_shifts 89 = .ok (.aload_n 0, 1) := by decide +kernel
theorem dX8_shifts_90 : decode cX8_shifts 90 = .ok (.getfield 32, 3) := by decide +kernel
theorem dX8_shifts_93 : decode cX8_shifts 93 = .ok (.iload 4, 2) := by decide +kernel
theorem dX8_shifts_95 : decode cX8_shifts 95 = .ok (.iaload, 1) := by decide +kernel
theorem dX8_shifts_96 : decode cX8_shifts 96 = .ok (.iconst (-1), 1) := by decide +kernel
theorem dX8_shifts_97 : decode cX8_shifts 97 = .ok (.iload_n 1, 1) := by decide +kernel
theorem dX8_shifts_98 : decode cX8_shifts 98 = .ok (.isub, 1) := by decide +kernel
theorem dX8_shifts_99 : decode cX8_shifts 99 = .ok (.if_icmp .ne 23, 3) := by decide +kernel
theorem dX8_shifts_102 : decode cX8_shifts 102 = .ok (.aload_n 0, 1) := by decide +kernel
theorem dX8_shifts_103 : decode cX8_shifts 103 = .ok (.getfield 7, 3) := by decide +kernel
theorem dX8_shifts_106 : decode cX8_shifts 106 = .ok (.sipush 882, 3) := by decide +kernel
theorem dX8_shifts_109 : decode cX8_shifts 109 = .ok (.iload 4, 2) := by decide +kernel
theorem dX8_shifts_111 : decode cX8_shifts 111 = .ok (.iadd, 1) := by decide +kernel
theorem dX8_shifts_112 : decode cX8_shifts 112 = .ok (.iload_n 2, 1) := by decide +kernel
theorem dX8_shifts_113 : decode cX8_shifts 113 = .ok (.iload_n 3, 1) := by decide +kernel
theorem dX8_shifts_114 : decode cX8_shifts 114 = .ok (.invokestatic 76, 3) := by decide +kernel
theorem dX8_shifts_117 : decode cX8_shifts 117 = .ok (.iadd, 1) := by decide +kernel
theorem dX8_shifts_118 : decode cX8_shifts 118 = .ok (.iconst (-1), 1) := by decide +kernel
theorem dX8_shifts_119 : decode cX8_shifts 119 = .ok (.iload_n 1, 1) := by decide +kernel
theorem dX8_shifts_120 : decode cX8_shifts 120 = .ok (.isub, 1) := by decide +kernel
theorem dX8_shifts_121 : decode cX8_shifts 121 = .ok (.iastore, 1) := by decide +kernel
theorem dX8_shifts_122 : decode cX8_shifts 122 = .ok (.iinc 4 1, 3) := by decide +kernel
theorem dX8_shifts_125 : decode cX8_shifts 125 = .ok (.goto (-44), 3) := by decide +kernel
theorem dX8_shifts_128 : decode cX8_shifts 128 = .ok (.return_, 1) := by decide +kernel
def f_X8_shifts : MX := mth 5 (sQ (sQ (sQ (sTi 4 (eI (0))) (sLp (cB c_lt (eLi 4) (eI (512))) (sQ (sQ (sAi 0 (eGa (eLa 0) 8 7) (eLi 4) (eAi 0 (eGa (eLa 0) 8 0) (eOp o_iadd (eI (882)) (eLi 4)))) (sAi 0 (eGa (eLa 0) 8 0) (eOp o_iadd (eI (882)) (eLi 4)) (eIf (cB c_eq (eAi 0 (eGa (eLa 0) 8 0) (eOp o_iadd (eI (882)) (eLi 4))) (eOp o_isub (eI (-1)) (eLi 1))) (eI (0)) (eAi 0 (eGa (eLa 0) 8 0) (eOp o_iadd (eI (882)) (eLi 4)))))) (sInc 4 (1))) NF)) (sQ (sTi 4 (eI (0))) (sLp (cB c_lt (eLi 4) (eI (512))) (sQ (sIf (cB c_eq (eAi 0 (eGa (eLa 0) 8 7) (eLi 4)) (eOp o_isub (eI (-1)) (eLi 1))) (sAi 0 (eGa (eLa 0) 8 0) (eOp o_iadd (eOp o_iadd (eI (882)) (eLi 4)) (eM (f_X8_place) (aI (aI (aN) (eLi 2)) (eLi 3)))) (eOp o_isub (eI (-1)) (eLi 1))) sN) (sInc 4 (1))) NF))) (sRv))
theorem Y_X8_shifts : Yk yX8_shifts cX8_shifts 5 none 3 := ⟨w1285, w16, by decide +kernel, by decide +kernel, by decide +kernel⟩
set_option maxRecDepth 20000 in
theorem k_X8_shifts (l : Launch) (g : GE) : MetX l g yX8_shifts cX8_shifts 5 none 4 ({ frames := 1, cells := 0, slots := 0, locals := 21 } : Room) f_X8_shifts := by
  unfold f_X8_shifts
  exact MetX.of (own := RX8) 100 0 rfl (by decide +kernel) (by decide) (fun p e s m args below meth c Fin ad0 hr hn => ⟨_, _, Sv_seq (Sv_seq (Sv_seq (Sv_istore (Ev_iconst dX8_shifts_0 (by decide)) dX8_shifts_1 (Nat.le_of_ble_eq_true rfl) (Nat.ne_of_beq_eq_false rfl)) (Sv_loop0 NF (Cv_icmp_ge_n (Ev_iload dX8_shifts_3) (Ev_sipush dX8_shifts_5 (by decide)) (t := 78) dX8_shifts_8 (by decide)) (Sv_goto (pE := 3) (Sv_seq (Sv_seq (Sv_iastore (Ev_getA Fx8 (Ev_aload_n dX8_shifts_11 rfl) (k := 7) (by decide) w1150 dX8_shifts_12) (Ev_iload dX8_shifts_15) (Ev_iaload (Ev_getA Fx8 (Ev_aload_n dX8_shifts_17 rfl) (k := 0) (by decide) w1143 dX8_shifts_18) (Ev_iadd (Ev_sipush dX8_shifts_21 (by decide)) (Ev_iload dX8_shifts_24) dX8_shifts_26) dX8_shifts_27) dX8_shifts_28) (Sv_iastore (Ev_getA Fx8 (Ev_aload_n dX8_shifts_29 rfl) (k := 0) (by decide) w1143 dX8_shifts_30) (Ev_iadd (Ev_sipush dX8_shifts_33 (by decide)) (Ev_iload dX8_shifts_36) dX8_shifts_38) (Ev_if (pT := 71) (Cv_icmp_ne_n (Ev_iaload (Ev_getA Fx8 (Ev_aload_n dX8_shifts_39 rfl) (k := 0) (by decide) w1143 dX8_shifts_40) (Ev_iadd (Ev_sipush dX8_shifts_43 (by decide)) (Ev_iload dX8_shifts_46) dX8_shifts_48) dX8_shifts_49) (Ev_isub (Ev_iconst dX8_shifts_50 (by decide)) (Ev_iload_n dX8_shifts_51 rfl) dX8_shifts_52) (t := 60) dX8_shifts_53 (by decide)) (Ev_iconst dX8_shifts_56 (by decide)) dX8_shifts_57 (by decide) (Ev_iaload (Ev_getA Fx8 (Ev_aload_n dX8_shifts_60 rfl) (k := 0) (by decide) w1143 dX8_shifts_61) (Ev_iadd (Ev_sipush dX8_shifts_64 (by decide)) (Ev_iload dX8_shifts_67) dX8_shifts_69) dX8_shifts_70)) dX8_shifts_71)) (Sv_iinc dX8_shifts_72 (by decide) (Nat.le_of_ble_eq_true rfl) (Nat.ne_of_beq_eq_false rfl))) dX8_shifts_75 (by decide)))) (Sv_seq (Sv_istore (Ev_iconst dX8_shifts_78 (by decide)) dX8_shifts_79 (Nat.le_of_ble_eq_true rfl) (Nat.ne_of_beq_eq_false rfl)) (Sv_loop0 NF (Cv_icmp_ge_n (Ev_iload dX8_shifts_81) (Ev_sipush dX8_shifts_83 (by decide)) (t := 128) dX8_shifts_86 (by decide)) (Sv_goto (pE := 81) (Sv_seq (Sv_if (Cv_icmp_ne_n (Ev_iaload (Ev_getA Fx8 (Ev_aload_n dX8_shifts_89 rfl) (k := 7) (by decide) w1150 dX8_shifts_90) (Ev_iload dX8_shifts_93) dX8_shifts_95) (Ev_isub (Ev_iconst dX8_shifts_96 (by decide)) (Ev_iload_n dX8_shifts_97 rfl) dX8_shifts_98) (t := 122) dX8_shifts_99 (by decide)) (Sv_iastore (Ev_getA Fx8 (Ev_aload_n dX8_shifts_102 rfl) (k := 0) (by decide) w1143 dX8_shifts_103) (Ev_iadd (Ev_iadd (Ev_sipush dX8_shifts_106 (by decide)) (Ev_iload dX8_shifts_109) dX8_shifts_111) (Ev_call (Av_i (Av_i (Av_nil) (Ev_iload_n dX8_shifts_112 rfl)) (Ev_iload_n dX8_shifts_113 rfl)) (Rn_S Y_X8_place (k_X8_place _ _) w1259 w1260 dX8_shifts_114 (Nat.le_of_ble_eq_true rfl) (Nat.le_of_ble_eq_true rfl) (Nat.le_of_ble_eq_true rfl) (Nat.ne_of_beq_eq_false rfl))) dX8_shifts_117) (Ev_isub (Ev_iconst dX8_shifts_118 (by decide)) (Ev_iload_n dX8_shifts_119 rfl) dX8_shifts_120) dX8_shifts_121) Sv_nop) (Sv_iinc dX8_shifts_122 (by decide) (Nat.le_of_ble_eq_true rfl) (Nat.ne_of_beq_eq_false rfl))) dX8_shifts_125 (by decide))))) (Sv_retv hr dX8_shifts_128), Nat.le_of_ble_eq_true rfl, Nat.le_of_ble_eq_true rfl⟩)
theorem dX8_shift_0 : decode cX8_shift 0 = .ok (.iload_n 1, 1) := by decide +kernel
theorem dX8_shift_1 : decode cX8_shift 1 = .ok (.invokestatic 101, 3) := by decide +kernel
theorem dX8_shift_4 : decode cX8_shift 4 = .ok (.ifCond .ne 9, 3) := by decide +kernel
theorem dX8_shift_7 : decode cX8_shift 7 = .ok (.aload_n 0, 1) := by decide +kernel
theorem dX8_shift_8 : decode cX8_shift 8 = .ok (.iconst 1, 1) := by decide +kernel
theorem dX8_shift_9 : decode cX8_shift 9 = .ok (.invokevirtual 89, 3) := by decide +kernel
theorem dX8_shift_12 : decode cX8_shift 12 = .ok (.ireturn, 1) := by decide +kernel
theorem dX8_shift_13 : decode cX8_shift 13 = .ok (.iload_n 2, 1) := by decide +kernel
theorem dX8_shift_14 : decode cX8_shift 14 = .ok (.bipush (-8), 2) := by decide +kernel
theorem dX8_shift_16 : decode cX8_shift 16 = .ok (.bipush 8, 2) := by decide +kernel
theorem dX8_shift_18 : decode cX8_shift 18 = .ok (.invokestatic 65, 3) := by decide +kernel
theorem dX8_shift_21 : decode cX8_shift 21 = .ok (.ifCond .eq 14, 3) := by decide +kernel
theorem dX8_shift_24 : decode cX8_shift 24 = .ok (.iload_n 3, 1) := by decide +kernel
theorem dX8_shift_25 : decode cX8_shift 25 = .ok (.bipush (-8), 2) := by decide +kernel
theorem dX8_shift_27 : decode cX8_shift 27 = .ok (.bipush 8, 2) := by decide +kernel
theorem dX8_shift_29 : decode cX8_shift 29 = .ok (.invokestatic 65, 3) := by decide +kernel
theorem dX8_shift_32 : decode cX8_shift 32 = .ok (.ifCond .ne 9, 3) := by decide +kernel
theorem dX8_shift_35 : decode cX8_shift 35 = .ok (.aload_n 0, 1) := by decide +kernel
theorem dX8_shift_36 : decode cX8_shift 36 = .ok (.iconst 2, 1) := by decide +kernel
theorem dX8_shift_37 : decode cX8_shift 37 = .ok (.invokevirtual 89, 3) := by decide +kernel
theorem dX8_shift_40 : decode cX8_shift 40 = .ok (.ireturn, 1) := by decide +kernel
theorem dX8_shift_41 : decode cX8_shift 41 = .ok (.aload_n 0, 1) := by decide +kernel
theorem dX8_shift_42 : decode cX8_shift 42 = .ok (.iload_n 1, 1) := by decide +kernel
theorem dX8_shift_43 : decode cX8_shift 43 = .ok (.iload_n 2, 1) := by decide +kernel
theorem dX8_shift_44 : decode cX8_shift 44 = .ok (.iload_n 3, 1) := by decide +kernel
theorem dX8_shift_45 : decode cX8_shift 45 = .ok (.invokevirtual 114, 3) := by decide +kernel
theorem dX8_shift_48 : decode cX8_shift 48 = .ok (.ifCond .ne 9, 3) := by decide +kernel
theorem dX8_shift_51 : decode cX8_shift 51 = .ok (.aload_n 0, 1) := by decide +kernel
theorem dX8_shift_52 : decode cX8_shift 52 = .ok (.iconst 3, 1) := by decide +kernel
theorem dX8_shift_53 : decode cX8_shift 53 = .ok (.invokevirtual 89, 3) := by decide +kernel
theorem dX8_shift_56 : decode cX8_shift 56 = .ok (.ireturn, 1) := by decide +kernel
theorem dX8_shift_57 : decode cX8_shift 57 = .ok (.aload_n 0, 1) := by decide +kernel
theorem dX8_shift_58 : decode cX8_shift 58 = .ok (.invokevirtual 92, 3) := by decide +kernel
theorem dX8_shift_61 : decode cX8_shift 61 = .ok (.aload_n 0, 1) := by decide +kernel
theorem dX8_shift_62 : decode cX8_shift 62 = .ok (.iload_n 1, 1) := by decide +kernel
theorem dX8_shift_63 : decode cX8_shift 63 = .ok (.iload_n 2, 1) := by decide +kernel
theorem dX8_shift_64 : decode cX8_shift 64 = .ok (.iload_n 3, 1) := by decide +kernel
theorem dX8_shift_65 : decode cX8_shift 65 = .ok (.invokevirtual 117, 3) := by decide +kernel
theorem dX8_shift_68 : decode cX8_shift 68 = .ok (.aload_n 0, 1) := by decide +kernel
theorem dX8_shift_69 : decode cX8_shift 69 = .ok (.aload_n 0, 1) := by decide +kernel
theorem dX8_shift_70 : decode cX8_shift 70 = .ok (.iload_n 1, 1) := by decide +kernel
theorem dX8_shift_71 : decode cX8_shift 71 = .ok (.invokevirtual 111, 3) := by decide +kernel
theorem dX8_shift_74 : decode cX8_shift 74 = .ok (.invokevirtual 98, 3) := by decide +kernel
theorem dX8_shift_77 : decode cX8_shift 77 = .ok (.ireturn, 1) := by decide +kernel
def f_X8_shift : MX := mth 4 (sQ (sIf (cNot (cZ z_ne (eM (f_X8_isBody) (aI (aN) (eLi 1))))) (sR (eM (gd 8 f_X8_fails) (aI (aA (aN) (eLa 0)) (eI (1))))) sN) (sQ (sIf (cOr (cNot (cZ z_ne (eM (f_X8_in) (aI (aI (aI (aN) (eLi 2)) (eI (-8))) (eI (8)))))) (cNot (cZ z_ne (eM (f_X8_in) (aI (aI (aI (aN) (eLi 3)) (eI (-8))) (eI (8))))))) (sR (eM (gd 8 f_X8_fails) (aI (aA (aN) (eLa 0)) (eI (2))))) sN) (sQ (sIf (cNot (cZ z_ne (eM (gd 8 f_X8_canShift) (aI (aI (aI (aA (aN) (eLa 0)) (eLi 1)) (eLi 2)) (eLi 3))))) (sR (eM (gd 8 f_X8_fails) (aI (aA (aN) (eLa 0)) (eI (3))))) sN) (sQ (sM (gd 8 f_X8_holds) (aA (aN) (eLa 0))) (sQ (sM (gd 8 f_X8_shifts) (aI (aI (aI (aA (aN) (eLa 0)) (eLi 1)) (eLi 2)) (eLi 3))) (sR (eM (gd 8 f_X8_saves) (aI (aA (aN) (eLa 0)) (eM (gd 8 f_X8_cellsOf) (aI (aA (aN) (eLa 0)) (eLi 1)))))))))))
theorem Y_X8_shift : Yk yX8_shift cX8_shift 4 (some .int) 3 := ⟨w1277, w16, by decide +kernel, by decide +kernel, by decide +kernel⟩
set_option maxRecDepth 20000 in
theorem k_X8_shift (l : Launch) (g : GE) : MetX l g yX8_shift cX8_shift 4 (some .int) 4 ({ frames := 4, cells := 0, slots := 0, locals := 91 } : Room) f_X8_shift := by
  unfold f_X8_shift
  exact MetX.of (own := RX8) 100 0 rfl (by decide +kernel) (by decide) (fun p e s m args below meth c Fin ad0 hr hn => ⟨_, _, Sv_seq (Sv_if (Cv_not (Cv_if_ne_j (Ev_call (Av_i (Av_nil) (Ev_iload_n dX8_shift_0 rfl)) (Rn_S Y_X8_isBody (k_X8_isBody _ _) w1240 w1241 dX8_shift_1 (Nat.le_of_ble_eq_true rfl) (Nat.le_of_ble_eq_true rfl) (Nat.le_of_ble_eq_true rfl) (Nat.ne_of_beq_eq_false rfl))) (t := 13) dX8_shift_4 (by decide))) (Sv_ret (Ev_call (Av_i (Av_a (Av_nil) (Ev_aload_n dX8_shift_7 rfl)) (Ev_iconst dX8_shift_8 (by decide))) (Rn_V (ci := 8) Fx8.1 rfl Y_X8_fails (k_X8_fails _ _) w1212 w1214 wp29 dX8_shift_9 (Nat.le_of_ble_eq_true rfl) (Nat.le_of_ble_eq_true rfl) (Nat.le_of_ble_eq_true rfl) (Nat.ne_of_beq_eq_false rfl))) hr dX8_shift_12) Sv_nop) (Sv_seq (Sv_if (Cv_or (Cv_not (Cv_if_eq_n (Ev_call (Av_i (Av_i (Av_i (Av_nil) (Ev_iload_n dX8_shift_13 rfl)) (Ev_bipush dX8_shift_14 (by decide))) (Ev_bipush dX8_shift_16 (by decide))) (Rn_S Y_X8_in (k_X8_in _ _) w1209 w1210 dX8_shift_18 (Nat.le_of_ble_eq_true rfl) (Nat.le_of_ble_eq_true rfl) (Nat.le_of_ble_eq_true rfl) (Nat.ne_of_beq_eq_false rfl))) (t := 35) dX8_shift_21 (by decide))) (Cv_not (Cv_if_ne_j (Ev_call (Av_i (Av_i (Av_i (Av_nil) (Ev_iload_n dX8_shift_24 rfl)) (Ev_bipush dX8_shift_25 (by decide))) (Ev_bipush dX8_shift_27 (by decide))) (Rn_S Y_X8_in (k_X8_in _ _) w1209 w1210 dX8_shift_29 (Nat.le_of_ble_eq_true rfl) (Nat.le_of_ble_eq_true rfl) (Nat.le_of_ble_eq_true rfl) (Nat.ne_of_beq_eq_false rfl))) (t := 41) dX8_shift_32 (by decide)))) (Sv_ret (Ev_call (Av_i (Av_a (Av_nil) (Ev_aload_n dX8_shift_35 rfl)) (Ev_iconst dX8_shift_36 (by decide))) (Rn_V (ci := 8) Fx8.1 rfl Y_X8_fails (k_X8_fails _ _) w1212 w1214 wp29 dX8_shift_37 (Nat.le_of_ble_eq_true rfl) (Nat.le_of_ble_eq_true rfl) (Nat.le_of_ble_eq_true rfl) (Nat.ne_of_beq_eq_false rfl))) hr dX8_shift_40) Sv_nop) (Sv_seq (Sv_if (Cv_not (Cv_if_ne_j (Ev_call (Av_i (Av_i (Av_i (Av_a (Av_nil) (Ev_aload_n dX8_shift_41 rfl)) (Ev_iload_n dX8_shift_42 rfl)) (Ev_iload_n dX8_shift_43 rfl)) (Ev_iload_n dX8_shift_44 rfl)) (Rn_V (ci := 8) Fx8.1 rfl Y_X8_canShift (k_X8_canShift _ _) w1278 w1280 wp39 dX8_shift_45 (Nat.le_of_ble_eq_true rfl) (Nat.le_of_ble_eq_true rfl) (Nat.le_of_ble_eq_true rfl) (Nat.ne_of_beq_eq_false rfl))) (t := 57) dX8_shift_48 (by decide))) (Sv_ret (Ev_call (Av_i (Av_a (Av_nil) (Ev_aload_n dX8_shift_51 rfl)) (Ev_iconst dX8_shift_52 (by decide))) (Rn_V (ci := 8) Fx8.1 rfl Y_X8_fails (k_X8_fails _ _) w1212 w1214 wp29 dX8_shift_53 (Nat.le_of_ble_eq_true rfl) (Nat.le_of_ble_eq_true rfl) (Nat.le_of_ble_eq_true rfl) (Nat.ne_of_beq_eq_false rfl))) hr dX8_shift_56) Sv_nop) (Sv_seq (Sv_call (Av_a (Av_nil) (Ev_aload_n dX8_shift_57 rfl)) (Rn_V (ci := 8) Fx8.1 rfl Y_X8_holds (k_X8_holds _ _) w1216 w1218 wp30 dX8_shift_58 (Nat.le_of_ble_eq_true rfl) (Nat.le_of_ble_eq_true rfl) (Nat.le_of_ble_eq_true rfl) (Nat.ne_of_beq_eq_false rfl))) (Sv_seq (Sv_call (Av_i (Av_i (Av_i (Av_a (Av_nil) (Ev_aload_n dX8_shift_61 rfl)) (Ev_iload_n dX8_shift_62 rfl)) (Ev_iload_n dX8_shift_63 rfl)) (Ev_iload_n dX8_shift_64 rfl)) (Rn_V (ci := 8) Fx8.1 rfl Y_X8_shifts (k_X8_shifts _ _) w1282 w1284 wp40 dX8_shift_65 (Nat.le_of_ble_eq_true rfl) (Nat.le_of_ble_eq_true rfl) (Nat.le_of_ble_eq_true rfl) (Nat.ne_of_beq_eq_false rfl))) (Sv_ret (Ev_call (Av_i (Av_a (Av_nil) (Ev_aload_n dX8_shift_68 rfl)) (Ev_call (Av_i (Av_a (Av_nil) (Ev_aload_n dX8_shift_69 rfl)) (Ev_iload_n dX8_shift_70 rfl)) (Rn_V (ci := 8) Fx8.1 rfl Y_X8_cellsOf (k_X8_cellsOf _ _) w1262 w1264 wp38 dX8_shift_71 (Nat.le_of_ble_eq_true rfl) (Nat.le_of_ble_eq_true rfl) (Nat.le_of_ble_eq_true rfl) (Nat.ne_of_beq_eq_false rfl)))) (Rn_V (ci := 8) Fx8.1 rfl Y_X8_saves (k_X8_saves _ _) w1224 w1226 wp32 dX8_shift_74 (Nat.le_of_ble_eq_true rfl) (Nat.le_of_ble_eq_true rfl) (Nat.le_of_ble_eq_true rfl) (Nat.ne_of_beq_eq_false rfl))) hr dX8_shift_77))))), Nat.le_of_ble_eq_true rfl, Nat.le_of_ble_eq_true rfl⟩)
theorem dX8_put_0 : decode cX8_put 0 = .ok (.aload_n 0, 1) := by decide +kernel
theorem dX8_put_1 : decode cX8_put 1 = .ok (.iload_n 1, 1) := by decide +kernel
theorem dX8_put_2 : decode cX8_put 2 = .ok (.iload_n 2, 1) := by decide +kernel
theorem dX8_put_3 : decode cX8_put 3 = .ok (.invokevirtual 104, 3) := by decide +kernel
theorem dX8_put_6 : decode cX8_put 6 = .ok (.ifCond .ne 9, 3) := by decide +kernel
theorem dX8_put_9 : decode cX8_put 9 = .ok (.aload_n 0, 1) := by decide +kernel
theorem dX8_put_10 : decode cX8_put 10 = .ok (.iconst 1, 1) := by decide +kernel
theorem dX8_put_11 : decode cX8_put 11 = .ok (.invokevirtual 89, 3) := by decide +kernel
theorem dX8_put_14 : decode cX8_put 14 = .ok (.ireturn, 1) := by decide +kernel
theorem dX8_put_15 : decode cX8_put 15 = .ok (.iload_n 3, 1) := by decide +kernel
theorem dX8_put_16 : decode cX8_put 16 = .ok (.iconst 0, 1) := by decide +kernel
theorem dX8_put_17 : decode cX8_put 17 = .ok (.iconst 5, 1) := by decide +kernel
theorem dX8_put_18 : decode cX8_put 18 = .ok (.invokestatic 65, 3) := by decide +kernel
theorem dX8_put_21 : decode cX8_put 21 = .ok (.ifCond .ne 9, 3) := by decide +kernel
theorem dX8_put_24 : decode cX8_put 24 = .ok (.aload_n 0, 1) := by decide +kernel
theorem dX8_put_25 : decode cX8_put 25 = .ok (.iconst 2, 1) := by decide +kernel
theorem dX8_put_26 : decode cX8_put 26 = .ok (.invokevirtual 89, 3) := by decide +kernel
theorem dX8_put_29 : decode cX8_put 29 = .ok (.ireturn, 1) := by decide +kernel
theorem dX8_put_30 : decode cX8_put 30 = .ok (.aload_n 0, 1) := by decide +kernel
theorem dX8_put_31 : decode cX8_put 31 = .ok (.iload_n 1, 1) := by decide +kernel
theorem dX8_put_32 : decode cX8_put 32 = .ok (.iload_n 2, 1) := by decide +kernel
theorem dX8_put_33 : decode cX8_put 33 = .ok (.invokevirtual 108, 3) := by decide +kernel
theorem dX8_put_36 : decode cX8_put 36 = .ok (.istore 4, 2) := by decide +kernel
theorem dX8_put_38 : decode cX8_put 38 = .ok (.iload 4, 2) := by decide +kernel
theorem dX8_put_40 : decode cX8_put 40 = .ok (.ifCond .lt 13, 3) := by decide +kernel
theorem dX8_put_43 : decode cX8_put 43 = .ok (.iload 4, 2) := by decide +kernel
theorem dX8_put_45 : decode cX8_put 45 = .ok (.iload_n 3, 1) := by decide +kernel
theorem dX8_put_46 : decode cX8_put 46 = .ok (.ishr, 1) := by decide +kernel
theorem dX8_put_47 : decode cX8_put 47 = .ok (.iconst 1, 1) := by decide +kernel
theorem dX8_put_48 : decode cX8_put 48 = .ok (.iand, 1) := by decide +kernel
theorem dX8_put_49 : decode cX8_put 49 = .ok (.iconst 1, 1) := by decide +kernel
theorem dX8_put_50 : decode cX8_put 50 = .ok (.if_icmp .ne 9, 3) := by decide +kernel
theorem dX8_put_53 : decode cX8_put 53 = .ok (.aload_n 0, 1) := by decide +kernel
theorem dX8_put_54 : decode cX8_put 54 = .ok (.iconst 3, 1) := by decide +kernel
theorem dX8_put_55 : decode cX8_put 55 = .ok (.invokevirtual 89, 3) := by decide +kernel
theorem dX8_put_58 : decode cX8_put 58 = .ok (.ireturn, 1) := by decide +kernel
theorem dX8_put_59 : decode cX8_put 59 = .ok (.aload_n 0, 1) := by decide +kernel
theorem dX8_put_60 : decode cX8_put 60 = .ok (.invokevirtual 92, 3) := by decide +kernel
theorem dX8_put_63 : decode cX8_put 63 = .ok (.aload_n 0, 1) := by decide +kernel
theorem dX8_put_64 : decode cX8_put 64 = .ok (.getfield 7, 3) := by decide +kernel
theorem dX8_put_67 : decode cX8_put 67 = .ok (.sipush 882, 3) := by decide +kernel
theorem dX8_put_70 : decode cX8_put 70 = .ok (.iload_n 1, 1) := by decide +kernel
theorem dX8_put_71 : decode cX8_put 71 = .ok (.iload_n 2, 1) := by decide +kernel
theorem dX8_put_72 : decode cX8_put 72 = .ok (.invokestatic 76, 3) := by decide +kernel
theorem dX8_put_75 : decode cX8_put 75 = .ok (.iadd, 1) := by decide +kernel
theorem dX8_put_76 : decode cX8_put 76 = .ok (.iload 4, 2) := by decide +kernel
theorem dX8_put_78 : decode cX8_put 78 = .ok (.iconst 1, 1) := by decide +kernel
theorem dX8_put_79 : decode cX8_put 79 = .ok (.iload_n 3, 1) := by decide +kernel
theorem dX8_put_80 : decode cX8_put 80 = .ok (.ishl, 1) := by decide +kernel
theorem dX8_put_81 : decode cX8_put 81 = .ok (.ior, 1) := by decide +kernel
theorem dX8_put_82 : decode cX8_put 82 = .ok (.iastore, 1) := by decide +kernel
theorem dX8_put_83 : decode cX8_put 83 = .ok (.aload_n 0, 1) := by decide +kernel
theorem dX8_put_84 : decode cX8_put 84 = .ok (.getfield 7, 3) := by decide +kernel
theorem dX8_put_87 : decode cX8_put 87 = .ok (.bipush 8, 2) := by decide +kernel
theorem dX8_put_89 : decode cX8_put 89 = .ok (.dup2, 1) := by decide +kernel
theorem dX8_put_90 : decode cX8_put 90 = .ok (.iaload, 1) := by decide +kernel
theorem dX8_put_91 : decode cX8_put 91 = .ok (.iconst 1, 1) := by decide +kernel
theorem dX8_put_92 : decode cX8_put 92 = .ok (.iadd, 1) := by decide +kernel
theorem dX8_put_93 : decode cX8_put 93 = .ok (.iastore, 1) := by decide +kernel
theorem dX8_put_94 : decode cX8_put 94 = .ok (.aload_n 0, 1) := by decide +kernel
theorem dX8_put_95 : decode cX8_put 95 = .ok (.iconst 0, 1) := by decide +kernel
theorem dX8_put_96 : decode cX8_put 96 = .ok (.iconst 1, 1) := by decide +kernel
theorem dX8_put_97 : decode cX8_put 97 = .ok (.iload_n 3, 1) := by decide +kernel
theorem dX8_put_98 : decode cX8_put 98 = .ok (.ishl, 1) := by decide +kernel
theorem dX8_put_99 : decode cX8_put 99 = .ok (.iconst 1, 1) := by decide +kernel
theorem dX8_put_100 : decode cX8_put 100 = .ok (.invokevirtual 121, 3) := by decide +kernel
theorem dX8_put_103 : decode cX8_put 103 = .ok (.aload_n 0, 1) := by decide +kernel
theorem dX8_put_104 : decode cX8_put 104 = .ok (.iload 4, 2) := by decide +kernel
theorem dX8_put_106 : decode cX8_put 106 = .ok (.iconst 1, 1) := by decide +kernel
theorem dX8_put_107 : decode cX8_put 107 = .ok (.iload_n 3, 1) := by decide +kernel
theorem dX8_put_108 : decode cX8_put 108 = .ok (.ishl, 1) := by decide +kernel
theorem dX8_put_109 : decode cX8_put 109 = .ok (.ior, 1) := by decide +kernel
theorem dX8_put_110 : decode cX8_put 110 = .ok (.invokevirtual 98, 3) := by decide +kernel
theorem dX8_put_113 : decode cX8_put 113 = .ok (.ireturn, 1) := by decide +kernel
def f_X8_put : MX := mth 5 (sQ (sIf (cNot (cZ z_ne (eM (gd 8 f_X8_isCell) (aI (aI (aA (aN) (eLa 0)) (eLi 1)) (eLi 2))))) (sR (eM (gd 8 f_X8_fails) (aI (aA (aN) (eLa 0)) (eI (1))))) sN) (sQ (sIf (cNot (cZ z_ne (eM (f_X8_in) (aI (aI (aI (aN) (eLi 3)) (eI (0))) (eI (5)))))) (sR (eM (gd 8 f_X8_fails) (aI (aA (aN) (eLa 0)) (eI (2))))) sN) (sQ (sTi 4 (eM (gd 8 f_X8_had) (aI (aI (aA (aN) (eLa 0)) (eLi 1)) (eLi 2)))) (sQ (sIf (cOr (cZ z_lt (eLi 4)) (cB c_eq (eOp o_iand (eOp o_ishr (eLi 4) (eLi 3)) (eI (1))) (eI (1)))) (sR (eM (gd 8 f_X8_fails) (aI (aA (aN) (eLa 0)) (eI (3))))) sN) (sQ (sM (gd 8 f_X8_holds) (aA (aN) (eLa 0))) (sQ (sAi 0 (eGa (eLa 0) 8 0) (eOp o_iadd (eI (882)) (eM (f_X8_place) (aI (aI (aN) (eLi 1)) (eLi 2)))) (eOp o_ior (eLi 4) (eOp o_ishl (eI (1)) (eLi 3)))) (sQ (sAo (eGa (eLa 0) 8 0) (eI (8)) o_iadd (eI (1))) (sQ (sM (gd 8 f_X8_books) (aI (aI (aI (aA (aN) (eLa 0)) (eI (0))) (eOp o_ishl (eI (1)) (eLi 3))) (eI (1)))) (sR (eM (gd 8 f_X8_saves) (aI (aA (aN) (eLa 0)) (eOp o_ior (eLi 4) (eOp o_ishl (eI (1)) (eLi 3))))))))))))))
theorem Y_X8_put : Yk yX8_put cX8_put 5 (some .int) 3 := ⟨w1289, w16, by decide +kernel, by decide +kernel, by decide +kernel⟩
set_option maxRecDepth 20000 in
theorem k_X8_put (l : Launch) (g : GE) : MetX l g yX8_put cX8_put 5 (some .int) 4 ({ frames := 4, cells := 0, slots := 0, locals := 88 } : Room) f_X8_put := by
  unfold f_X8_put
  exact MetX.of (own := RX8) 100 0 rfl (by decide +kernel) (by decide) (fun p e s m args below meth c Fin ad0 hr hn => ⟨_, _, Sv_seq (Sv_if (Cv_not (Cv_if_ne_j (Ev_call (Av_i (Av_i (Av_a (Av_nil) (Ev_aload_n dX8_put_0 rfl)) (Ev_iload_n dX8_put_1 rfl)) (Ev_iload_n dX8_put_2 rfl)) (Rn_V (ci := 8) Fx8.1 rfl Y_X8_isCell (k_X8_isCell _ _) w1243 w1245 wp34 dX8_put_3 (Nat.le_of_ble_eq_true rfl) (Nat.le_of_ble_eq_true rfl) (Nat.le_of_ble_eq_true rfl) (Nat.ne_of_beq_eq_false rfl))) (t := 15) dX8_put_6 (by decide))) (Sv_ret (Ev_call (Av_i (Av_a (Av_nil) (Ev_aload_n dX8_put_9 rfl)) (Ev_iconst dX8_put_10 (by decide))) (Rn_V (ci := 8) Fx8.1 rfl Y_X8_fails (k_X8_fails _ _) w1212 w1214 wp29 dX8_put_11 (Nat.le_of_ble_eq_true rfl) (Nat.le_of_ble_eq_true rfl) (Nat.le_of_ble_eq_true rfl) (Nat.ne_of_beq_eq_false rfl))) hr dX8_put_14) Sv_nop) (Sv_seq (Sv_if (Cv_not (Cv_if_ne_j (Ev_call (Av_i (Av_i (Av_i (Av_nil) (Ev_iload_n dX8_put_15 rfl)) (Ev_iconst dX8_put_16 (by decide))) (Ev_iconst dX8_put_17 (by decide))) (Rn_S Y_X8_in (k_X8_in _ _) w1209 w1210 dX8_put_18 (Nat.le_of_ble_eq_true rfl) (Nat.le_of_ble_eq_true rfl) (Nat.le_of_ble_eq_true rfl) (Nat.ne_of_beq_eq_false rfl))) (t := 30) dX8_put_21 (by decide))) (Sv_ret (Ev_call (Av_i (Av_a (Av_nil) (Ev_aload_n dX8_put_24 rfl)) (Ev_iconst dX8_put_25 (by decide))) (Rn_V (ci := 8) Fx8.1 rfl Y_X8_fails (k_X8_fails _ _) w1212 w1214 wp29 dX8_put_26 (Nat.le_of_ble_eq_true rfl) (Nat.le_of_ble_eq_true rfl) (Nat.le_of_ble_eq_true rfl) (Nat.ne_of_beq_eq_false rfl))) hr dX8_put_29) Sv_nop) (Sv_seq (Sv_istore (Ev_call (Av_i (Av_i (Av_a (Av_nil) (Ev_aload_n dX8_put_30 rfl)) (Ev_iload_n dX8_put_31 rfl)) (Ev_iload_n dX8_put_32 rfl)) (Rn_V (ci := 8) Fx8.1 rfl Y_X8_had (k_X8_had _ _) w1255 w1257 wp37 dX8_put_33 (Nat.le_of_ble_eq_true rfl) (Nat.le_of_ble_eq_true rfl) (Nat.le_of_ble_eq_true rfl) (Nat.ne_of_beq_eq_false rfl))) dX8_put_36 (Nat.le_of_ble_eq_true rfl) (Nat.ne_of_beq_eq_false rfl)) (Sv_seq (Sv_if (Cv_or (Cv_if_lt_j (Ev_iload dX8_put_38) (t := 53) dX8_put_40 (by decide)) (Cv_icmp_ne_n (Ev_iand (Ev_ishr (Ev_iload dX8_put_43) (Ev_iload_n dX8_put_45 rfl) dX8_put_46) (Ev_iconst dX8_put_47 (by decide)) dX8_put_48) (Ev_iconst dX8_put_49 (by decide)) (t := 59) dX8_put_50 (by decide))) (Sv_ret (Ev_call (Av_i (Av_a (Av_nil) (Ev_aload_n dX8_put_53 rfl)) (Ev_iconst dX8_put_54 (by decide))) (Rn_V (ci := 8) Fx8.1 rfl Y_X8_fails (k_X8_fails _ _) w1212 w1214 wp29 dX8_put_55 (Nat.le_of_ble_eq_true rfl) (Nat.le_of_ble_eq_true rfl) (Nat.le_of_ble_eq_true rfl) (Nat.ne_of_beq_eq_false rfl))) hr dX8_put_58) Sv_nop) (Sv_seq (Sv_call (Av_a (Av_nil) (Ev_aload_n dX8_put_59 rfl)) (Rn_V (ci := 8) Fx8.1 rfl Y_X8_holds (k_X8_holds _ _) w1216 w1218 wp30 dX8_put_60 (Nat.le_of_ble_eq_true rfl) (Nat.le_of_ble_eq_true rfl) (Nat.le_of_ble_eq_true rfl) (Nat.ne_of_beq_eq_false rfl))) (Sv_seq (Sv_iastore (Ev_getA Fx8 (Ev_aload_n dX8_put_63 rfl) (k := 0) (by decide) w1143 dX8_put_64) (Ev_iadd (Ev_sipush dX8_put_67 (by decide)) (Ev_call (Av_i (Av_i (Av_nil) (Ev_iload_n dX8_put_70 rfl)) (Ev_iload_n dX8_put_71 rfl)) (Rn_S Y_X8_place (k_X8_place _ _) w1259 w1260 dX8_put_72 (Nat.le_of_ble_eq_true rfl) (Nat.le_of_ble_eq_true rfl) (Nat.le_of_ble_eq_true rfl) (Nat.ne_of_beq_eq_false rfl))) dX8_put_75) (Ev_ior (Ev_iload dX8_put_76) (Ev_ishl (Ev_iconst dX8_put_78 (by decide)) (Ev_iload_n dX8_put_79 rfl) dX8_put_80) dX8_put_81) dX8_put_82) (Sv_seq (Sv_aop_iadd (Ev_getA Fx8 (Ev_aload_n dX8_put_83 rfl) (k := 0) (by decide) w1143 dX8_put_84) (Ev_bipush dX8_put_87 (by decide)) dX8_put_89 dX8_put_90 (Ev_iconst dX8_put_91 (by decide)) dX8_put_92 dX8_put_93) (Sv_seq (Sv_call (Av_i (Av_i (Av_i (Av_a (Av_nil) (Ev_aload_n dX8_put_94 rfl)) (Ev_iconst dX8_put_95 (by decide))) (Ev_ishl (Ev_iconst dX8_put_96 (by decide)) (Ev_iload_n dX8_put_97 rfl) dX8_put_98)) (Ev_iconst dX8_put_99 (by decide))) (Rn_V (ci := 8) Fx8.1 rfl Y_X8_books (k_X8_books _ _) w1290 w1292 wp41 dX8_put_100 (Nat.le_of_ble_eq_true rfl) (Nat.le_of_ble_eq_true rfl) (Nat.le_of_ble_eq_true rfl) (Nat.ne_of_beq_eq_false rfl))) (Sv_ret (Ev_call (Av_i (Av_a (Av_nil) (Ev_aload_n dX8_put_103 rfl)) (Ev_ior (Ev_iload dX8_put_104) (Ev_ishl (Ev_iconst dX8_put_106 (by decide)) (Ev_iload_n dX8_put_107 rfl) dX8_put_108) dX8_put_109)) (Rn_V (ci := 8) Fx8.1 rfl Y_X8_saves (k_X8_saves _ _) w1224 w1226 wp32 dX8_put_110 (Nat.le_of_ble_eq_true rfl) (Nat.le_of_ble_eq_true rfl) (Nat.le_of_ble_eq_true rfl) (Nat.ne_of_beq_eq_false rfl))) hr dX8_put_113)))))))), Nat.le_of_ble_eq_true rfl, Nat.le_of_ble_eq_true rfl⟩)
theorem dX8_fill_0 : decode cX8_fill 0 = .ok (.aload_n 0, 1) := by decide +kernel
theorem dX8_fill_1 : decode cX8_fill 1 = .ok (.iload_n 2, 1) := by decide +kernel
theorem dX8_fill_2 : decode cX8_fill 2 = .ok (.iload_n 3, 1) := by decide +kernel
theorem dX8_fill_3 : decode cX8_fill 3 = .ok (.invokevirtual 104, 3) := by decide +kernel
theorem dX8_fill_6 : decode cX8_fill 6 = .ok (.ifCond .eq 14, 3) := by decide +kernel
theorem dX8_fill_9 : decode cX8_fill 9 = .ok (.aload_n 0, 1) := by decide +kernel
theorem dX8_fill_10 : decode cX8_fill 10 = .ok (.iload 4, 2) := by decide +kernel
theorem dX8_fill_12 : decode cX8_fill 12 = .ok (.iload 5, 2) := by decide +kernel
theorem dX8_fill_14 : decode cX8_fill 14 = .ok (.invokevirtual 104, 3) := by decide +kernel
theorem dX8_fill_17 : decode cX8_fill 17 = .ok (.ifCond .ne 9, 3) := by decide +kernel
theorem dX8_fill_20 : decode cX8_fill 20 = .ok (.aload_n 0, 1) := by decide +kernel
theorem dX8_fill_21 : decode cX8_fill 21 = .ok (.iconst 1, 1) := by decide +kernel
theorem dX8_fill_22 : decode cX8_fill 22 = .ok (.invokevirtual 89, 3) := by decide +kernel
theorem dX8_fill_25 : decode cX8_fill 25 = .ok (.ireturn, 1) := by decide +kernel
theorem dX8_fill_26 : decode cX8_fill 26 = .ok (.iload_n 1, 1) := by decide +kernel
theorem dX8_fill_27 : decode cX8_fill 27 = .ok (.iconst 1, 1) := by decide +kernel
theorem dX8_fill_28 : decode cX8_fill 28 = .ok (.bipush 63, 2) := by decide +kernel
theorem dX8_fill_30 : decode cX8_fill 30 = .ok (.invokestatic 65, 3) := by decide +kernel
theorem dX8_fill_33 : decode cX8_fill 33 = .ok (.ifCond .eq 15, 3) := by decide +kernel
theorem dX8_fill_36 : decode cX8_fill 36 = .ok (.iload 4, 2) := by decide +kernel
theorem dX8_fill_38 : decode cX8_fill 38 = .ok (.iload_n 2, 1) := by decide +kernel
theorem dX8_fill_39 : decode cX8_fill 39 = .ok (.if_icmp .lt 9, 3) := by decide +kernel
theorem dX8_fill_42 : decode cX8_fill 42 = .ok (.iload 5, 2) := by decide +kernel
theorem dX8_fill_44 : decode cX8_fill 44 = .ok (.iload_n 3, 1) := by decide +kernel
theorem dX8_fill_45 : decode cX8_fill 45 = .ok (.if_icmp .ge 9, 3) := by decide +kernel
theorem dX8_fill_48 : decode cX8_fill 48 = .ok (.aload_n 0, 1) := by decide +kernel
theorem dX8_fill_49 : decode cX8_fill 49 = .ok (.iconst 2, 1) := by decide +kernel
theorem dX8_fill_50 : decode cX8_fill 50 = .ok (.invokevirtual 89, 3) := by decide +kernel
theorem dX8_fill_53 : decode cX8_fill 53 = .ok (.ireturn, 1) := by decide +kernel
theorem dX8_fill_54 : decode cX8_fill 54 = .ok (.aload_n 0, 1) := by decide +kernel
theorem dX8_fill_55 : decode cX8_fill 55 = .ok (.invokevirtual 92, 3) := by decide +kernel
theorem dX8_fill_58 : decode cX8_fill 58 = .ok (.iconst 0, 1) := by decide +kernel
theorem dX8_fill_59 : decode cX8_fill 59 = .ok (.istore 6, 2) := by decide +kernel
theorem dX8_fill_61 : decode cX8_fill 61 = .ok (.iload_n 3, 1) := by decide +kernel
theorem dX8_fill_62 : decode cX8_fill 62 = .ok (.istore 7, 2) := by decide +kernel
theorem dX8_fill_64 : decode cX8_fill 64 = .ok (.iload 7, 2) := by decide +kernel
theorem dX8_fill_66 : decode cX8_fill 66 = .ok (.iload 5, 2) := by decide +kernel
theorem dX8_fill_68 : decode cX8_fill 68 = .ok (.if_icmp .gt 121, 3) := by decide +kernel
theorem dX8_fill_71 : decode cX8_fill 71 = .ok (.iload_n 2, 1) := by decide +kernel
theorem dX8_fill_72 : decode cX8_fill 72 = .ok (.istore 8, 2) := by decide +kernel
theorem dX8_fill_74 : decode cX8_fill 74 = .ok (.iload 8, 2) := by decide +kernel
theorem dX8_fill_76 : decode cX8_fill 76 = .ok (.iload 4, 2) := by decide +kernel
theorem dX8_fill_78 : decode cX8_fill 78 = .ok (.if_icmp .gt 105, 3) := by decide +kernel
theorem dX8_fill_81 : decode cX8_fill 81 = .ok (.aload_n 0, 1) := by decide +kernel
theorem dX8_fill_82 : decode cX8_fill 82 = .ok (.iload 8, 2) := by decide +kernel
theorem dX8_fill_84 : decode cX8_fill 84 = .ok (.iload 7, 2) := by decide +kernel
theorem dX8_fill_86 : decode cX8_fill 86 = .ok (.invokevirtual 108, 3) := by decide +kernel
theorem dX8_fill_89 : decode cX8_fill 89 = .ok (.ifCond .ge 7, 3) := by decide +kernel
theorem dX8_fill_92 : decode cX8_fill 92 = .ok (.iconst 0, 1) := by decide +kernel
theorem dX8_fill_93 : decode cX8_fill 93 = .ok (.goto 15, 3) := by decide +kernel
theorem dX8_fill_96 : decode cX8_fill 96 = .ok (.iload_n 1, 1) := by decide +kernel
theorem dX8_fill_97 : decode cX8_fill 97 = .ok (.aload_n 0, 1) := by decide +kernel
theorem dX8_fill_98 : decode cX8_fill 98 = .ok (.iload 8, 2) := by decide +kernel
theorem dX8_fill_100 : decode cX8_fill 100 = .ok (.iload 7, 2) := by decide +kernel
theorem dX8_fill_102 : decode cX8_fill 102 = .ok (.invokevirtual 108, 3) := by decide +kernel
theorem dX8_fill_105 : decode cX8_fill 105 = .ok (.iconst (-1), 1) := by decide +kernel
theorem dX8_fill_106 : decode cX8_fill 106 = .ok (.ixor, 1) := by decide +kernel
theorem dX8_fill_107 : decode cX8_fill 107 = .ok (.iand, 1) := by decide +kernel
theorem dX8_fill_108 : decode cX8_fill 108 = .ok (.istore 9, 2) := by decide +kernel
theorem dX8_fill_110 : decode cX8_fill 110 = .ok (.iload 6, 2) := by decide +kernel
theorem dX8_fill_112 : decode cX8_fill 112 = .ok (.iload 9, 2) := by decide +kernel
theorem dX8_fill_114 : decode cX8_fill 114 = .ok (.invokestatic 124, 3) := by decide +kernel
theorem dX8_fill_117 : decode cX8_fill 117 = .ok (.iadd, 1) := by decide +kernel
theorem dX8_fill_118 : decode cX8_fill 118 = .ok (.istore 6, 2) := by decide +kernel
theorem dX8_fill_120 : decode cX8_fill 120 = .ok (.aload_n 0, 1) := by decide +kernel
theorem dX8_fill_121 : decode cX8_fill 121 = .ok (.iconst 0, 1) := by decide +kernel
theorem dX8_fill_122 : decode cX8_fill 122 = .ok (.iload 9, 2) := by decide +kernel
theorem dX8_fill_124 : decode cX8_fill 124 = .ok (.iconst 1, 1) := by decide +kernel
theorem dX8_fill_125 : decode cX8_fill 125 = .ok (.invokevirtual 121, 3) := by decide +kernel
theorem dX8_fill_128 : decode cX8_fill 128 = .ok (.aload_n 0, 1) := by decide +kernel
theorem dX8_fill_129 : decode cX8_fill 129 = .ok (.getfield 7, 3) := by decide +kernel
theorem dX8_fill_132 : decode cX8_fill 132 = .ok (.sipush 882, 3) := by decide +kernel
theorem dX8_fill_135 : decode cX8_fill 135 = .ok (.iload 8, 2) := by decide +kernel
theorem dX8_fill_137 : decode cX8_fill 137 = .ok (.iload 7, 2) := by decide +kernel
theorem dX8_fill_139 : decode cX8_fill 139 = .ok (.invokestatic 76, 3) := by decide +kernel
theorem dX8_fill_142 : decode cX8_fill 142 = .ok (.iadd, 1) := by decide +kernel
theorem dX8_fill_143 : decode cX8_fill 143 = .ok (.aload_n 0, 1) := by decide +kernel
theorem dX8_fill_144 : decode cX8_fill 144 = .ok (.iload 8, 2) := by decide +kernel
theorem dX8_fill_146 : decode cX8_fill 146 = .ok (.iload 7, 2) := by decide +kernel
theorem dX8_fill_148 : decode cX8_fill 148 = .ok (.invokevirtual 108, 3) := by decide +kernel
theorem dX8_fill_151 : decode cX8_fill 151 = .ok (.ifCond .ge 14, 3) := by decide +kernel
theorem dX8_fill_154 : decode cX8_fill 154 = .ok (.aload_n 0, 1) := by decide +kernel
theorem dX8_fill_155 : decode cX8_fill 155 = .ok (.iload 8, 2) := by decide +kernel
theorem dX8_fill_157 : decode cX8_fill 157 = .ok (.iload 7, 2) := by decide +kernel
theorem dX8_fill_159 : decode cX8_fill 159 = .ok (.invokevirtual 108, 3) := by decide +kernel
theorem dX8_fill_162 : decode cX8_fill 162 = .ok (.goto 14, 3) := by decide +kernel
theorem dX8_fill_165 : decode cX8_fill 165 = .ok (.aload_n 0, 1) := by decide +kernel
theorem dX8_fill_166 : decode cX8_fill 166 = .ok (.iload 8, 2) := by decide +kernel
theorem dX8_fill_168 : decode cX8_fill 168 = .ok (.iload 7, 2) := by decide +kernel
theorem dX8_fill_170 : decode cX8_fill 170 = .ok (.invokevirtual 108, 3) := by decide +kernel
theorem dX8_fill_173 : decode cX8_fill 173 = .ok (.iload 9, 2) := by decide +kernel
theorem dX8_fill_175 : decode cX8_fill 175 = .ok (.ior, 1) := by decide +kernel
theorem dX8_fill_176 : decode cX8_fill 176 = .ok (.iastore, 1) := by decide +kernel
theorem dX8_fill_177 : decode cX8_fill 177 = .ok (.iinc 8 1, 3) := by decide +kernel
theorem dX8_fill_180 : decode cX8_fill 180 = .ok (.goto (-106), 3) := by decide +kernel
theorem dX8_fill_183 : decode cX8_fill 183 = .ok (.iinc 7 1, 3) := by decide +kernel
theorem dX8_fill_186 : decode cX8_fill 186 = .ok (.goto (-122), 3) := by decide +kernel
theorem dX8_fill_189 : decode cX8_fill 189 = .ok (.aload_n 0, 1) := by decide +kernel
theorem dX8_fill_190 : decode cX8_fill 190 = .ok (.getfield 7, 3) := by decide +kernel
theorem dX8_fill_193 : decode cX8_fill 193 = .ok (.bipush 8, 2) := by decide +kernel
theorem dX8_fill_195 : decode cX8_fill 195 = .ok (.dup2, 1) := by decide +kernel
theorem dX8_fill_196 : decode cX8_fill 196 = .ok (.iaload, 1) := by decide +kernel
theorem dX8_fill_197 : decode cX8_fill 197 = .ok (.iload 6, 2) := by decide +kernel
theorem dX8_fill_199 : decode cX8_fill 199 = .ok (.iadd, 1) := by decide +kernel
theorem dX8_fill_200 : decode cX8_fill 200 = .ok (.iastore, 1) := by decide +kernel
theorem dX8_fill_201 : decode cX8_fill 201 = .ok (.aload_n 0, 1) := by decide +kernel
theorem dX8_fill_202 : decode cX8_fill 202 = .ok (.iload 6, 2) := by decide +kernel
theorem dX8_fill_204 : decode cX8_fill 204 = .ok (.invokevirtual 98, 3) := by decide +kernel
theorem dX8_fill_207 : decode cX8_fill 207 = .ok (.ireturn, 1) := by decide +kernel
def f_X8_fill : MX := mth 10 (sQ (sIf (cOr (cNot (cZ z_ne (eM (gd 8 f_X8_isCell) (aI (aI (aA (aN) (eLa 0)) (eLi 2)) (eLi 3))))) (cNot (cZ z_ne (eM (gd 8 f_X8_isCell) (aI (aI (aA (aN) (eLa 0)) (eLi 4)) (eLi 5)))))) (sR (eM (gd 8 f_X8_fails) (aI (aA (aN) (eLa 0)) (eI (1))))) sN) (sQ (sIf (cOr (cOr (cNot (cZ z_ne (eM (f_X8_in) (aI (aI (aI (aN) (eLi 1)) (eI (1))) (eI (63)))))) (cB c_lt (eLi 4) (eLi 2))) (cB c_lt (eLi 5) (eLi 3))) (sR (eM (gd 8 f_X8_fails) (aI (aA (aN) (eLa 0)) (eI (2))))) sN) (sQ (sM (gd 8 f_X8_holds) (aA (aN) (eLa 0))) (sQ (sTi 6 (eI (0))) (sQ (sQ (sTi 7 (eLi 3)) (sLp (cB c_le (eLi 7) (eLi 5)) (sQ (sQ (sTi 8 (eLi 2)) (sLp (cB c_le (eLi 8) (eLi 4)) (sQ (sQ (sTi 9 (eIf (cZ z_lt (eM (gd 8 f_X8_had) (aI (aI (aA (aN) (eLa 0)) (eLi 8)) (eLi 7)))) (eI (0)) (eOp o_iand (eLi 1) (eOp o_ixor (eM (gd 8 f_X8_had) (aI (aI (aA (aN) (eLa 0)) (eLi 8)) (eLi 7))) (eI (-1)))))) (sQ (sTi 6 (eOp o_iadd (eLi 6) (eM (f_X8_ones) (aI (aN) (eLi 9))))) (sQ (sM (gd 8 f_X8_books) (aI (aI (aI (aA (aN) (eLa 0)) (eI (0))) (eLi 9)) (eI (1)))) (sAi 0 (eGa (eLa 0) 8 0) (eOp o_iadd (eI (882)) (eM (f_X8_place) (aI (aI (aN) (eLi 8)) (eLi 7)))) (eIf (cZ z_lt (eM (gd 8 f_X8_had) (aI (aI (aA (aN) (eLa 0)) (eLi 8)) (eLi 7)))) (eM (gd 8 f_X8_had) (aI (aI (aA (aN) (eLa 0)) (eLi 8)) (eLi 7))) (eOp o_ior (eM (gd 8 f_X8_had) (aI (aI (aA (aN) (eLa 0)) (eLi 8)) (eLi 7))) (eLi 9))))))) (sInc 8 (1))) NF)) (sInc 7 (1))) NF)) (sQ (sAo (eGa (eLa 0) 8 0) (eI (8)) o_iadd (eLi 6)) (sR (eM (gd 8 f_X8_saves) (aI (aA (aN) (eLa 0)) (eLi 6))))))))))
theorem Y_X8_fill : Yk yX8_fill cX8_fill 10 (some .int) 5 := ⟨w1306, w16, by decide +kernel, by decide +kernel, by decide +kernel⟩
set_option maxRecDepth 20000 in
theorem k_X8_fill (l : Launch) (g : GE) : MetX l g yX8_fill cX8_fill 10 (some .int) 6 ({ frames := 4, cells := 0, slots := 0, locals := 88 } : Room) f_X8_fill := by
  unfold f_X8_fill
  exact MetX.of (own := RX8) 100 0 rfl (by decide +kernel) (by decide) (fun p e s m args below meth c Fin ad0 hr hn => ⟨_, _, Sv_seq (Sv_if (Cv_or (Cv_not (Cv_if_eq_n (Ev_call (Av_i (Av_i (Av_a (Av_nil) (Ev_aload_n dX8_fill_0 rfl)) (Ev_iload_n dX8_fill_1 rfl)) (Ev_iload_n dX8_fill_2 rfl)) (Rn_V (ci := 8) Fx8.1 rfl Y_X8_isCell (k_X8_isCell _ _) w1243 w1245 wp34 dX8_fill_3 (Nat.le_of_ble_eq_true rfl) (Nat.le_of_ble_eq_true rfl) (Nat.le_of_ble_eq_true rfl) (Nat.ne_of_beq_eq_false rfl))) (t := 20) dX8_fill_6 (by decide))) (Cv_not (Cv_if_ne_j (Ev_call (Av_i (Av_i (Av_a (Av_nil) (Ev_aload_n dX8_fill_9 rfl)) (Ev_iload dX8_fill_10)) (Ev_iload dX8_fill_12)) (Rn_V (ci := 8) Fx8.1 rfl Y_X8_isCell (k_X8_isCell _ _) w1243 w1245 wp34 dX8_fill_14 (Nat.le_of_ble_eq_true rfl) (Nat.le_of_ble_eq_true rfl) (Nat.le_of_ble_eq_true rfl) (Nat.ne_of_beq_eq_false rfl))) (t := 26) dX8_fill_17 (by decide)))) (Sv_ret (Ev_call (Av_i (Av_a (Av_nil) (Ev_aload_n dX8_fill_20 rfl)) (Ev_iconst dX8_fill_21 (by decide))) (Rn_V (ci := 8) Fx8.1 rfl Y_X8_fails (k_X8_fails _ _) w1212 w1214 wp29 dX8_fill_22 (Nat.le_of_ble_eq_true rfl) (Nat.le_of_ble_eq_true rfl) (Nat.le_of_ble_eq_true rfl) (Nat.ne_of_beq_eq_false rfl))) hr dX8_fill_25) Sv_nop) (Sv_seq (Sv_if (Cv_or (Cv_or (Cv_not (Cv_if_eq_n (Ev_call (Av_i (Av_i (Av_i (Av_nil) (Ev_iload_n dX8_fill_26 rfl)) (Ev_iconst dX8_fill_27 (by decide))) (Ev_bipush dX8_fill_28 (by decide))) (Rn_S Y_X8_in (k_X8_in _ _) w1209 w1210 dX8_fill_30 (Nat.le_of_ble_eq_true rfl) (Nat.le_of_ble_eq_true rfl) (Nat.le_of_ble_eq_true rfl) (Nat.ne_of_beq_eq_false rfl))) (t := 48) dX8_fill_33 (by decide))) (Cv_icmp_lt_j (Ev_iload dX8_fill_36) (Ev_iload_n dX8_fill_38 rfl) (t := 48) dX8_fill_39 (by decide))) (Cv_icmp_ge_n (Ev_iload dX8_fill_42) (Ev_iload_n dX8_fill_44 rfl) (t := 54) dX8_fill_45 (by decide))) (Sv_ret (Ev_call (Av_i (Av_a (Av_nil) (Ev_aload_n dX8_fill_48 rfl)) (Ev_iconst dX8_fill_49 (by decide))) (Rn_V (ci := 8) Fx8.1 rfl Y_X8_fails (k_X8_fails _ _) w1212 w1214 wp29 dX8_fill_50 (Nat.le_of_ble_eq_true rfl) (Nat.le_of_ble_eq_true rfl) (Nat.le_of_ble_eq_true rfl) (Nat.ne_of_beq_eq_false rfl))) hr dX8_fill_53) Sv_nop) (Sv_seq (Sv_call (Av_a (Av_nil) (Ev_aload_n dX8_fill_54 rfl)) (Rn_V (ci := 8) Fx8.1 rfl Y_X8_holds (k_X8_holds _ _) w1216 w1218 wp30 dX8_fill_55 (Nat.le_of_ble_eq_true rfl) (Nat.le_of_ble_eq_true rfl) (Nat.le_of_ble_eq_true rfl) (Nat.ne_of_beq_eq_false rfl))) (Sv_seq (Sv_istore (Ev_iconst dX8_fill_58 (by decide)) dX8_fill_59 (Nat.le_of_ble_eq_true rfl) (Nat.ne_of_beq_eq_false rfl)) (Sv_seq (Sv_seq (Sv_istore (Ev_iload_n dX8_fill_61 rfl) dX8_fill_62 (Nat.le_of_ble_eq_true rfl) (Nat.ne_of_beq_eq_false rfl)) (Sv_loop0 NF (Cv_icmp_gt_n (Ev_iload dX8_fill_64) (Ev_iload dX8_fill_66) (t := 189) dX8_fill_68 (by decide)) (Sv_goto (pE := 64) (Sv_seq (Sv_seq (Sv_istore (Ev_iload_n dX8_fill_71 rfl) dX8_fill_72 (Nat.le_of_ble_eq_true rfl) (Nat.ne_of_beq_eq_false rfl)) (Sv_loop0 NF (Cv_icmp_gt_n (Ev_iload dX8_fill_74) (Ev_iload dX8_fill_76) (t := 183) dX8_fill_78 (by decide)) (Sv_goto (pE := 74) (Sv_seq (Sv_seq (Sv_istore (Ev_if (pT := 108) (Cv_if_ge_n (Ev_call (Av_i (Av_i (Av_a (Av_nil) (Ev_aload_n dX8_fill_81 rfl)) (Ev_iload dX8_fill_82)) (Ev_iload dX8_fill_84)) (Rn_V (ci := 8) Fx8.1 rfl Y_X8_had (k_X8_had _ _) w1255 w1257 wp37 dX8_fill_86 (Nat.le_of_ble_eq_true rfl) (Nat.le_of_ble_eq_true rfl) (Nat.le_of_ble_eq_true rfl) (Nat.ne_of_beq_eq_false rfl))) (t := 96) dX8_fill_89 (by decide)) (Ev_iconst dX8_fill_92 (by decide)) dX8_fill_93 (by decide) (Ev_iand (Ev_iload_n dX8_fill_96 rfl) (Ev_ixor (Ev_call (Av_i (Av_i (Av_a (Av_nil) (Ev_aload_n dX8_fill_97 rfl)) (Ev_iload dX8_fill_98)) (Ev_iload dX8_fill_100)) (Rn_V (ci := 8) Fx8.1 rfl Y_X8_had (k_X8_had _ _) w1255 w1257 wp37 dX8_fill_102 (Nat.le_of_ble_eq_true rfl) (Nat.le_of_ble_eq_true rfl) (Nat.le_of_ble_eq_true rfl) (Nat.ne_of_beq_eq_false rfl))) (Ev_iconst dX8_fill_105 (by decide)) dX8_fill_106) dX8_fill_107)) dX8_fill_108 (Nat.le_of_ble_eq_true rfl) (Nat.ne_of_beq_eq_false rfl)) (Sv_seq (Sv_istore (Ev_iadd (Ev_iload dX8_fill_110) (Ev_call (Av_i (Av_nil) (Ev_iload dX8_fill_112)) (Rn_S Y_X8_ones (k_X8_ones _ _) w1307 w1308 dX8_fill_114 (Nat.le_of_ble_eq_true rfl) (Nat.le_of_ble_eq_true rfl) (Nat.le_of_ble_eq_true rfl) (Nat.ne_of_beq_eq_false rfl))) dX8_fill_117) dX8_fill_118 (Nat.le_of_ble_eq_true rfl) (Nat.ne_of_beq_eq_false rfl)) (Sv_seq (Sv_call (Av_i (Av_i (Av_i (Av_a (Av_nil) (Ev_aload_n dX8_fill_120 rfl)) (Ev_iconst dX8_fill_121 (by decide))) (Ev_iload dX8_fill_122)) (Ev_iconst dX8_fill_124 (by decide))) (Rn_V (ci := 8) Fx8.1 rfl Y_X8_books (k_X8_books _ _) w1290 w1292 wp41 dX8_fill_125 (Nat.le_of_ble_eq_true rfl) (Nat.le_of_ble_eq_true rfl) (Nat.le_of_ble_eq_true rfl) (Nat.ne_of_beq_eq_false rfl))) (Sv_iastore (Ev_getA Fx8 (Ev_aload_n dX8_fill_128 rfl) (k := 0) (by decide) w1143 dX8_fill_129) (Ev_iadd (Ev_sipush dX8_fill_132 (by decide)) (Ev_call (Av_i (Av_i (Av_nil) (Ev_iload dX8_fill_135)) (Ev_iload dX8_fill_137)) (Rn_S Y_X8_place (k_X8_place _ _) w1259 w1260 dX8_fill_139 (Nat.le_of_ble_eq_true rfl) (Nat.le_of_ble_eq_true rfl) (Nat.le_of_ble_eq_true rfl) (Nat.ne_of_beq_eq_false rfl))) dX8_fill_142) (Ev_if (pT := 176) (Cv_if_ge_n (Ev_call (Av_i (Av_i (Av_a (Av_nil) (Ev_aload_n dX8_fill_143 rfl)) (Ev_iload dX8_fill_144)) (Ev_iload dX8_fill_146)) (Rn_V (ci := 8) Fx8.1 rfl Y_X8_had (k_X8_had _ _) w1255 w1257 wp37 dX8_fill_148 (Nat.le_of_ble_eq_true rfl) (Nat.le_of_ble_eq_true rfl) (Nat.le_of_ble_eq_true rfl) (Nat.ne_of_beq_eq_false rfl))) (t := 165) dX8_fill_151 (by decide)) (Ev_call (Av_i (Av_i (Av_a (Av_nil) (Ev_aload_n dX8_fill_154 rfl)) (Ev_iload dX8_fill_155)) (Ev_iload dX8_fill_157)) (Rn_V (ci := 8) Fx8.1 rfl Y_X8_had (k_X8_had _ _) w1255 w1257 wp37 dX8_fill_159 (Nat.le_of_ble_eq_true rfl) (Nat.le_of_ble_eq_true rfl) (Nat.le_of_ble_eq_true rfl) (Nat.ne_of_beq_eq_false rfl))) dX8_fill_162 (by decide) (Ev_ior (Ev_call (Av_i (Av_i (Av_a (Av_nil) (Ev_aload_n dX8_fill_165 rfl)) (Ev_iload dX8_fill_166)) (Ev_iload dX8_fill_168)) (Rn_V (ci := 8) Fx8.1 rfl Y_X8_had (k_X8_had _ _) w1255 w1257 wp37 dX8_fill_170 (Nat.le_of_ble_eq_true rfl) (Nat.le_of_ble_eq_true rfl) (Nat.le_of_ble_eq_true rfl) (Nat.ne_of_beq_eq_false rfl))) (Ev_iload dX8_fill_173) dX8_fill_175)) dX8_fill_176)))) (Sv_iinc dX8_fill_177 (by decide) (Nat.le_of_ble_eq_true rfl) (Nat.ne_of_beq_eq_false rfl))) dX8_fill_180 (by decide)))) (Sv_iinc dX8_fill_183 (by decide) (Nat.le_of_ble_eq_true rfl) (Nat.ne_of_beq_eq_false rfl))) dX8_fill_186 (by decide)))) (Sv_seq (Sv_aop_iadd (Ev_getA Fx8 (Ev_aload_n dX8_fill_189 rfl) (k := 0) (by decide) w1143 dX8_fill_190) (Ev_bipush dX8_fill_193 (by decide)) dX8_fill_195 dX8_fill_196 (Ev_iload dX8_fill_197) dX8_fill_199 dX8_fill_200) (Sv_ret (Ev_call (Av_i (Av_a (Av_nil) (Ev_aload_n dX8_fill_201 rfl)) (Ev_iload dX8_fill_202)) (Rn_V (ci := 8) Fx8.1 rfl Y_X8_saves (k_X8_saves _ _) w1224 w1226 wp32 dX8_fill_204 (Nat.le_of_ble_eq_true rfl) (Nat.le_of_ble_eq_true rfl) (Nat.le_of_ble_eq_true rfl) (Nat.ne_of_beq_eq_false rfl))) hr dX8_fill_207)))))), Nat.le_of_ble_eq_true rfl, Nat.le_of_ble_eq_true rfl⟩)
theorem dX8_empty_0 : decode cX8_empty 0 = .ok (.aload_n 0, 1) := by decide +kernel
theorem dX8_empty_1 : decode cX8_empty 1 = .ok (.iload_n 1, 1) := by decide +kernel
theorem dX8_empty_2 : decode cX8_empty 2 = .ok (.iload_n 2, 1) := by decide +kernel
theorem dX8_empty_3 : decode cX8_empty 3 = .ok (.invokevirtual 104, 3) := by decide +kernel
theorem dX8_empty_6 : decode cX8_empty 6 = .ok (.ifCond .eq 13, 3) := by decide +kernel
theorem dX8_empty_9 : decode cX8_empty 9 = .ok (.aload_n 0, 1) := by decide +kernel
theorem dX8_empty_10 : decode cX8_empty 10 = .ok (.iload_n 3, 1) := by decide +kernel
theorem dX8_empty_11 : decode cX8_empty 11 = .ok (.iload 4, 2) := by decide +kernel
theorem dX8_empty_13 : decode cX8_empty 13 = .ok (.invokevirtual 104, 3) := by decide +kernel
theorem dX8_empty_16 : decode cX8_empty 16 = .ok (.ifCond .ne 9, 3) := by decide +kernel
theorem dX8_empty_19 : decode cX8_empty 19 = .ok (.aload_n 0, 1) := by decide +kernel
theorem dX8_empty_20 : decode cX8_empty 20 = .ok (.iconst 1, 1) := by decide +kernel
theorem dX8_empty_21 : decode cX8_empty 21 = .ok (.invokevirtual 89, 3) := by decide +kernel
theorem dX8_empty_24 : decode cX8_empty 24 = .ok (.ireturn, 1) := by decide +kernel
theorem dX8_empty_25 : decode cX8_empty 25 = .ok (.iload_n 3, 1) := by decide +kernel
theorem dX8_empty_26 : decode cX8_empty 26 = .ok (.iload_n 1, 1) := by decide +kernel
theorem dX8_empty_27 : decode cX8_empty 27 = .ok (.if_icmp .lt 9, 3) := by decide +kernel
theorem dX8_empty_30 : decode cX8_empty 30 = .ok (.iload 4, 2) := by decide +kernel
theorem dX8_empty_32 : decode cX8_empty 32 = .ok (.iload_n 2, 1) := by decide +kernel
theorem dX8_empty_33 : decode cX8_empty 33 = .ok (.if_icmp .ge 9, 3) := by decide +kernel
theorem dX8_empty_36 : decode cX8_empty 36 = .ok (.aload_n 0, 1) := by decide +kernel
theorem dX8_empty_37 : decode cX8_empty 37 = .ok (.iconst 2, 1) := by decide +kernel
theorem dX8_empty_38 : decode cX8_empty 38 = .ok (.invokevirtual 89, 3) := by decide +kernel
theorem dX8_empty_41 : decode cX8_empty 41 = .ok (.ireturn, 1) := by decide +kernel
theorem dX8_empty_42 : decode cX8_empty 42 = .ok (.aload_n 0, 1) := by decide +kernel
theorem dX8_empty_43 : decode cX8_empty 43 = .ok (.invokevirtual 92, 3) := by decide +kernel
theorem dX8_empty_46 : decode cX8_empty 46 = .ok (.iconst 0, 1) := by decide +kernel
theorem dX8_empty_47 : decode cX8_empty 47 = .ok (.istore 5, 2) := by decide +kernel
theorem dX8_empty_49 : decode cX8_empty 49 = .ok (.iload_n 2, 1) := by decide +kernel
theorem dX8_empty_50 : decode cX8_empty 50 = .ok (.istore 6, 2) := by decide +kernel
theorem dX8_empty_52 : decode cX8_empty 52 = .ok (.iload 6, 2) := by decide +kernel
theorem dX8_empty_54 : decode cX8_empty 54 = .ok (.iload 4, 2) := by decide +kernel
theorem dX8_empty_56 : decode cX8_empty 56 = .ok (.if_icmp .gt 82, 3) := by decide +kernel
theorem dX8_empty_59 : decode cX8_empty 59 = .ok (.iload_n 1, 1) := by decide +kernel
theorem dX8_empty_60 : decode cX8_empty 60 = .ok (.istore 7, 2) := by decide +kernel
theorem dX8_empty_62 : decode cX8_empty 62 = .ok (.iload 7, 2) := by decide +kernel
theorem dX8_empty_64 : decode cX8_empty 64 = .ok (.iload_n 3, 1) := by decide +kernel
theorem dX8_empty_65 : decode cX8_empty 65 = .ok (.if_icmp .gt 67, 3) := by decide +kernel
theorem dX8_empty_68 : decode cX8_empty 68 = .ok (.aload_n 0, 1) := by decide +kernel
theorem dX8_empty_69 : decode cX8_empty 69 = .ok (.iload 7, 2) := by decide +kernel
theorem dX8_empty_71 : decode cX8_empty 71 = .ok (.iload 6, 2) := by decide +kernel
theorem dX8_empty_73 : decode cX8_empty 73 = .ok (.invokevirtual 108, 3) := by decide +kernel
theorem dX8_empty_76 : decode cX8_empty 76 = .ok (.ifCond .le 50, 3) := by decide +kernel
theorem dX8_empty_79 : decode cX8_empty 79 = .ok (.iload 5, 2) := by decide +kernel
theorem dX8_empty_81 : decode cX8_empty 81 = .ok (.aload_n 0, 1) := by decide +kernel
theorem dX8_empty_82 : decode cX8_empty 82 = .ok (.iload 7, 2) := by decide +kernel
theorem dX8_empty_84 : decode cX8_empty 84 = .ok (.iload 6, 2) := by decide +kernel
theorem dX8_empty_86 : decode cX8_empty 86 = .ok (.invokevirtual 108, 3) := by decide +kernel
theorem dX8_empty_89 : decode cX8_empty 89 = .ok (.invokestatic 124, 3) := by decide +kernel
theorem dX8_empty_92 : decode cX8_empty 92 = .ok (.iadd, 1) := by decide +kernel
theorem dX8_empty_93 : decode cX8_empty 93 = .ok (.istore 5, 2) := by decide +kernel
theorem dX8_empty_95 : decode cX8_empty 95 = .ok (.aload_n 0, 1) := by decide +kernel
theorem dX8_empty_96 : decode cX8_empty 96 = .ok (.iconst 0, 1) := by decide +kernel
theorem dX8_empty_97 : decode cX8_empty 97 = .ok (.aload_n 0, 1) := by decide +kernel
theorem dX8_empty_98 : decode cX8_empty 98 = .ok (.iload 7, 2) := by decide +kernel
theorem dX8_empty_100 : decode cX8_empty 100 = .ok (.iload 6, 2) := by decide +kernel
theorem dX8_empty_102 : decode cX8_empty 102 = .ok (.invokevirtual 108, 3) := by decide +kernel
theorem dX8_empty_105 : decode cX8_empty 105 = .ok (.iconst (-1), 1) := by decide +kernel
theorem dX8_empty_106 : decode cX8_empty 106 = .ok (.invokevirtual 121, 3) := by decide +kernel
theorem dX8_empty_109 : decode cX8_empty 109 = .ok (.aload_n 0, 1) := by decide +kernel
theorem dX8_empty_110 : decode cX8_empty 110 = .ok (.getfield 7, 3) := by decide +kernel
theorem dX8_empty_113 : decode cX8_empty 113 = .ok (.sipush 882, 3) := by decide +kernel
theorem dX8_empty_116 : decode cX8_empty 116 = .ok (.iload 7, 2) := by decide +kernel
theorem dX8_empty_118 : decode cX8_empty 118 = .ok (.iload 6, 2) := by decide +kernel
theorem dX8_empty_120 : decode cX8_empty 120 = .ok (.invokestatic 76, 3) := by decide +kernel
theorem dX8_empty_123 : decode cX8_empty 123 = .ok (.iadd, 1) := by decide +kernel
theorem dX8_empty_124 : decode cX8_empty 124 = .ok (.iconst 0, 1) := by decide +kernel
theorem dX8_empty_125 : decode cX8_empty 125 = .ok (.iastore, 1) := by decide +kernel
theorem dX8_empty_126 : decode cX8_empty 126 = .ok (.iinc 7 1, 3) := by decide +kernel
theorem dX8_empty_129 : decode cX8_empty 129 = .ok (.goto (-67), 3) := by decide +kernel
theorem dX8_empty_132 : decode cX8_empty 132 = .ok (.iinc 6 1, 3) := by decide +kernel
theorem dX8_empty_135 : decode cX8_empty 135 = .ok (.goto (-83), 3) := by decide +kernel
theorem dX8_empty_138 : decode cX8_empty 138 = .ok (.aload_n 0, 1) := by decide +kernel
theorem dX8_empty_139 : decode cX8_empty 139 = .ok (.getfield 7, 3) := by decide +kernel
theorem dX8_empty_142 : decode cX8_empty 142 = .ok (.bipush 10, 2) := by decide +kernel
theorem dX8_empty_144 : decode cX8_empty 144 = .ok (.dup2, 1) := by decide +kernel
theorem dX8_empty_145 : decode cX8_empty 145 = .ok (.iaload, 1) := by decide +kernel
theorem dX8_empty_146 : decode cX8_empty 146 = .ok (.iload 5, 2) := by decide +kernel
theorem dX8_empty_148 : decode cX8_empty 148 = .ok (.iadd, 1) := by decide +kernel
theorem dX8_empty_149 : decode cX8_empty 149 = .ok (.iastore, 1) := by decide +kernel
theorem dX8_empty_150 : decode cX8_empty 150 = .ok (.aload_n 0, 1) := by decide +kernel
theorem dX8_empty_151 : decode cX8_empty 151 = .ok (.iload 5, 2) := by decide +kernel
theorem dX8_empty_153 : decode cX8_empty 153 = .ok (.invokevirtual 98, 3) := by decide +kernel
theorem dX8_empty_156 : decode cX8_empty 156 = .ok (.ireturn, 1) := by decide +kernel
def f_X8_empty : MX := mth 8 (sQ (sIf (cOr (cNot (cZ z_ne (eM (gd 8 f_X8_isCell) (aI (aI (aA (aN) (eLa 0)) (eLi 1)) (eLi 2))))) (cNot (cZ z_ne (eM (gd 8 f_X8_isCell) (aI (aI (aA (aN) (eLa 0)) (eLi 3)) (eLi 4)))))) (sR (eM (gd 8 f_X8_fails) (aI (aA (aN) (eLa 0)) (eI (1))))) sN) (sQ (sIf (cOr (cB c_lt (eLi 3) (eLi 1)) (cB c_lt (eLi 4) (eLi 2))) (sR (eM (gd 8 f_X8_fails) (aI (aA (aN) (eLa 0)) (eI (2))))) sN) (sQ (sM (gd 8 f_X8_holds) (aA (aN) (eLa 0))) (sQ (sTi 5 (eI (0))) (sQ (sQ (sTi 6 (eLi 2)) (sLp (cB c_le (eLi 6) (eLi 4)) (sQ (sQ (sTi 7 (eLi 1)) (sLp (cB c_le (eLi 7) (eLi 3)) (sQ (sIf (cZ z_gt (eM (gd 8 f_X8_had) (aI (aI (aA (aN) (eLa 0)) (eLi 7)) (eLi 6)))) (sQ (sTi 5 (eOp o_iadd (eLi 5) (eM (f_X8_ones) (aI (aN) (eM (gd 8 f_X8_had) (aI (aI (aA (aN) (eLa 0)) (eLi 7)) (eLi 6))))))) (sQ (sM (gd 8 f_X8_books) (aI (aI (aI (aA (aN) (eLa 0)) (eI (0))) (eM (gd 8 f_X8_had) (aI (aI (aA (aN) (eLa 0)) (eLi 7)) (eLi 6)))) (eI (-1)))) (sAi 0 (eGa (eLa 0) 8 0) (eOp o_iadd (eI (882)) (eM (f_X8_place) (aI (aI (aN) (eLi 7)) (eLi 6)))) (eI (0))))) sN) (sInc 7 (1))) NF)) (sInc 6 (1))) NF)) (sQ (sAo (eGa (eLa 0) 8 0) (eI (10)) o_iadd (eLi 5)) (sR (eM (gd 8 f_X8_saves) (aI (aA (aN) (eLa 0)) (eLi 5))))))))))
theorem Y_X8_empty : Yk yX8_empty cX8_empty 8 (some .int) 4 := ⟨w1313, w16, by decide +kernel, by decide +kernel, by decide +kernel⟩
set_option maxRecDepth 20000 in
theorem k_X8_empty (l : Launch) (g : GE) : MetX l g yX8_empty cX8_empty 8 (some .int) 5 ({ frames := 4, cells := 0, slots := 0, locals := 88 } : Room) f_X8_empty := by
  unfold f_X8_empty
  exact MetX.of (own := RX8) 100 0 rfl (by decide +kernel) (by decide) (fun p e s m args below meth c Fin ad0 hr hn => ⟨_, _, Sv_seq (Sv_if (Cv_or (Cv_not (Cv_if_eq_n (Ev_call (Av_i (Av_i (Av_a (Av_nil) (Ev_aload_n dX8_empty_0 rfl)) (Ev_iload_n dX8_empty_1 rfl)) (Ev_iload_n dX8_empty_2 rfl)) (Rn_V (ci := 8) Fx8.1 rfl Y_X8_isCell (k_X8_isCell _ _) w1243 w1245 wp34 dX8_empty_3 (Nat.le_of_ble_eq_true rfl) (Nat.le_of_ble_eq_true rfl) (Nat.le_of_ble_eq_true rfl) (Nat.ne_of_beq_eq_false rfl))) (t := 19) dX8_empty_6 (by decide))) (Cv_not (Cv_if_ne_j (Ev_call (Av_i (Av_i (Av_a (Av_nil) (Ev_aload_n dX8_empty_9 rfl)) (Ev_iload_n dX8_empty_10 rfl)) (Ev_iload dX8_empty_11)) (Rn_V (ci := 8) Fx8.1 rfl Y_X8_isCell (k_X8_isCell _ _) w1243 w1245 wp34 dX8_empty_13 (Nat.le_of_ble_eq_true rfl) (Nat.le_of_ble_eq_true rfl) (Nat.le_of_ble_eq_true rfl) (Nat.ne_of_beq_eq_false rfl))) (t := 25) dX8_empty_16 (by decide)))) (Sv_ret (Ev_call (Av_i (Av_a (Av_nil) (Ev_aload_n dX8_empty_19 rfl)) (Ev_iconst dX8_empty_20 (by decide))) (Rn_V (ci := 8) Fx8.1 rfl Y_X8_fails (k_X8_fails _ _) w1212 w1214 wp29 dX8_empty_21 (Nat.le_of_ble_eq_true rfl) (Nat.le_of_ble_eq_true rfl) (Nat.le_of_ble_eq_true rfl) (Nat.ne_of_beq_eq_false rfl))) hr dX8_empty_24) Sv_nop) (Sv_seq (Sv_if (Cv_or (Cv_icmp_lt_j (Ev_iload_n dX8_empty_25 rfl) (Ev_iload_n dX8_empty_26 rfl) (t := 36) dX8_empty_27 (by decide)) (Cv_icmp_ge_n (Ev_iload dX8_empty_30) (Ev_iload_n dX8_empty_32 rfl) (t := 42) dX8_empty_33 (by decide))) (Sv_ret (Ev_call (Av_i (Av_a (Av_nil) (Ev_aload_n dX8_empty_36 rfl)) (Ev_iconst dX8_empty_37 (by decide))) (Rn_V (ci := 8) Fx8.1 rfl Y_X8_fails (k_X8_fails _ _) w1212 w1214 wp29 dX8_empty_38 (Nat.le_of_ble_eq_true rfl) (Nat.le_of_ble_eq_true rfl) (Nat.le_of_ble_eq_true rfl) (Nat.ne_of_beq_eq_false rfl))) hr dX8_empty_41) Sv_nop) (Sv_seq (Sv_call (Av_a (Av_nil) (Ev_aload_n dX8_empty_42 rfl)) (Rn_V (ci := 8) Fx8.1 rfl Y_X8_holds (k_X8_holds _ _) w1216 w1218 wp30 dX8_empty_43 (Nat.le_of_ble_eq_true rfl) (Nat.le_of_ble_eq_true rfl) (Nat.le_of_ble_eq_true rfl) (Nat.ne_of_beq_eq_false rfl))) (Sv_seq (Sv_istore (Ev_iconst dX8_empty_46 (by decide)) dX8_empty_47 (Nat.le_of_ble_eq_true rfl) (Nat.ne_of_beq_eq_false rfl)) (Sv_seq (Sv_seq (Sv_istore (Ev_iload_n dX8_empty_49 rfl) dX8_empty_50 (Nat.le_of_ble_eq_true rfl) (Nat.ne_of_beq_eq_false rfl)) (Sv_loop0 NF (Cv_icmp_gt_n (Ev_iload dX8_empty_52) (Ev_iload dX8_empty_54) (t := 138) dX8_empty_56 (by decide)) (Sv_goto (pE := 52) (Sv_seq (Sv_seq (Sv_istore (Ev_iload_n dX8_empty_59 rfl) dX8_empty_60 (Nat.le_of_ble_eq_true rfl) (Nat.ne_of_beq_eq_false rfl)) (Sv_loop0 NF (Cv_icmp_gt_n (Ev_iload dX8_empty_62) (Ev_iload_n dX8_empty_64 rfl) (t := 132) dX8_empty_65 (by decide)) (Sv_goto (pE := 62) (Sv_seq (Sv_if (Cv_if_le_n (Ev_call (Av_i (Av_i (Av_a (Av_nil) (Ev_aload_n dX8_empty_68 rfl)) (Ev_iload dX8_empty_69)) (Ev_iload dX8_empty_71)) (Rn_V (ci := 8) Fx8.1 rfl Y_X8_had (k_X8_had _ _) w1255 w1257 wp37 dX8_empty_73 (Nat.le_of_ble_eq_true rfl) (Nat.le_of_ble_eq_true rfl) (Nat.le_of_ble_eq_true rfl) (Nat.ne_of_beq_eq_false rfl))) (t := 126) dX8_empty_76 (by decide)) (Sv_seq (Sv_istore (Ev_iadd (Ev_iload dX8_empty_79) (Ev_call (Av_i (Av_nil) (Ev_call (Av_i (Av_i (Av_a (Av_nil) (Ev_aload_n dX8_empty_81 rfl)) (Ev_iload dX8_empty_82)) (Ev_iload dX8_empty_84)) (Rn_V (ci := 8) Fx8.1 rfl Y_X8_had (k_X8_had _ _) w1255 w1257 wp37 dX8_empty_86 (Nat.le_of_ble_eq_true rfl) (Nat.le_of_ble_eq_true rfl) (Nat.le_of_ble_eq_true rfl) (Nat.ne_of_beq_eq_false rfl)))) (Rn_S Y_X8_ones (k_X8_ones _ _) w1307 w1308 dX8_empty_89 (Nat.le_of_ble_eq_true rfl) (Nat.le_of_ble_eq_true rfl) (Nat.le_of_ble_eq_true rfl) (Nat.ne_of_beq_eq_false rfl))) dX8_empty_92) dX8_empty_93 (Nat.le_of_ble_eq_true rfl) (Nat.ne_of_beq_eq_false rfl)) (Sv_seq (Sv_call (Av_i (Av_i (Av_i (Av_a (Av_nil) (Ev_aload_n dX8_empty_95 rfl)) (Ev_iconst dX8_empty_96 (by decide))) (Ev_call (Av_i (Av_i (Av_a (Av_nil) (Ev_aload_n dX8_empty_97 rfl)) (Ev_iload dX8_empty_98)) (Ev_iload dX8_empty_100)) (Rn_V (ci := 8) Fx8.1 rfl Y_X8_had (k_X8_had _ _) w1255 w1257 wp37 dX8_empty_102 (Nat.le_of_ble_eq_true rfl) (Nat.le_of_ble_eq_true rfl) (Nat.le_of_ble_eq_true rfl) (Nat.ne_of_beq_eq_false rfl)))) (Ev_iconst dX8_empty_105 (by decide))) (Rn_V (ci := 8) Fx8.1 rfl Y_X8_books (k_X8_books _ _) w1290 w1292 wp41 dX8_empty_106 (Nat.le_of_ble_eq_true rfl) (Nat.le_of_ble_eq_true rfl) (Nat.le_of_ble_eq_true rfl) (Nat.ne_of_beq_eq_false rfl))) (Sv_iastore (Ev_getA Fx8 (Ev_aload_n dX8_empty_109 rfl) (k := 0) (by decide) w1143 dX8_empty_110) (Ev_iadd (Ev_sipush dX8_empty_113 (by decide)) (Ev_call (Av_i (Av_i (Av_nil) (Ev_iload dX8_empty_116)) (Ev_iload dX8_empty_118)) (Rn_S Y_X8_place (k_X8_place _ _) w1259 w1260 dX8_empty_120 (Nat.le_of_ble_eq_true rfl) (Nat.le_of_ble_eq_true rfl) (Nat.le_of_ble_eq_true rfl) (Nat.ne_of_beq_eq_false rfl))) dX8_empty_123) (Ev_iconst dX8_empty_124 (by decide)) dX8_empty_125))) Sv_nop) (Sv_iinc dX8_empty_126 (by decide) (Nat.le_of_ble_eq_true rfl) (Nat.ne_of_beq_eq_false rfl))) dX8_empty_129 (by decide)))) (Sv_iinc dX8_empty_132 (by decide) (Nat.le_of_ble_eq_true rfl) (Nat.ne_of_beq_eq_false rfl))) dX8_empty_135 (by decide)))) (Sv_seq (Sv_aop_iadd (Ev_getA Fx8 (Ev_aload_n dX8_empty_138 rfl) (k := 0) (by decide) w1143 dX8_empty_139) (Ev_bipush dX8_empty_142 (by decide)) dX8_empty_144 dX8_empty_145 (Ev_iload dX8_empty_146) dX8_empty_148 dX8_empty_149) (Sv_ret (Ev_call (Av_i (Av_a (Av_nil) (Ev_aload_n dX8_empty_150 rfl)) (Ev_iload dX8_empty_151)) (Rn_V (ci := 8) Fx8.1 rfl Y_X8_saves (k_X8_saves _ _) w1224 w1226 wp32 dX8_empty_153 (Nat.le_of_ble_eq_true rfl) (Nat.le_of_ble_eq_true rfl) (Nat.le_of_ble_eq_true rfl) (Nat.ne_of_beq_eq_false rfl))) hr dX8_empty_156)))))), Nat.le_of_ble_eq_true rfl, Nat.le_of_ble_eq_true rfl⟩)
theorem dX8_gustOf_0 : decode cX8_gustOf 0 = .ok (.aload_n 0, 1) := by decide +kernel
theorem dX8_gustOf_1 : decode cX8_gustOf 1 = .ok (.getfield 7, 3) := by decide +kernel
theorem dX8_gustOf_4 : decode cX8_gustOf 4 = .ok (.bipush 66, 2) := by decide +kernel
theorem dX8_gustOf_6 : decode cX8_gustOf 6 = .ok (.bipush 8, 2) := by decide +kernel
theorem dX8_gustOf_8 : decode cX8_gustOf 8 = .ok (.iload_n 1, 1) := by decide +kernel
theorem dX8_gustOf_9 : decode cX8_gustOf 9 = .ok (.imul, 1) := by decide +kernel
theorem dX8_gustOf_10 : decode cX8_gustOf 10 = .ok (.iadd, 1) := by decide +kernel
theorem dX8_gustOf_11 : decode cX8_gustOf 11 = .ok (.iload_n 2, 1) := by decide +kernel
theorem dX8_gustOf_12 : decode cX8_gustOf 12 = .ok (.iadd, 1) := by decide +kernel
theorem dX8_gustOf_13 : decode cX8_gustOf 13 = .ok (.iaload, 1) := by decide +kernel
theorem dX8_gustOf_14 : decode cX8_gustOf 14 = .ok (.ireturn, 1) := by decide +kernel
def f_X8_gustOf : MX := mth 3 (sR (eAi 0 (eGa (eLa 0) 8 0) (eOp o_iadd (eOp o_iadd (eI (66)) (eOp o_imul (eI (8)) (eLi 1))) (eLi 2))))
theorem Y_X8_gustOf : Yk yX8_gustOf cX8_gustOf 3 (some .int) 2 := ⟨w1404, w16, by decide +kernel, by decide +kernel, by decide +kernel⟩
set_option maxRecDepth 20000 in
theorem k_X8_gustOf (l : Launch) (g : GE) : MetX l g yX8_gustOf cX8_gustOf 3 (some .int) 3 ({ frames := 0, cells := 0, slots := 0, locals := 0 } : Room) f_X8_gustOf := by
  unfold f_X8_gustOf
  exact MetX.of (own := RX8) 100 0 rfl (by decide +kernel) (by decide) (fun p e s m args below meth c Fin ad0 hr hn => ⟨_, _, Sv_ret (Ev_iaload (Ev_getA Fx8 (Ev_aload_n dX8_gustOf_0 rfl) (k := 0) (by decide) w1143 dX8_gustOf_1) (Ev_iadd (Ev_iadd (Ev_bipush dX8_gustOf_4 (by decide)) (Ev_imul (Ev_bipush dX8_gustOf_6 (by decide)) (Ev_iload_n dX8_gustOf_8 rfl) dX8_gustOf_9) dX8_gustOf_10) (Ev_iload_n dX8_gustOf_11 rfl) dX8_gustOf_12) dX8_gustOf_13) hr dX8_gustOf_14, Nat.le_of_ble_eq_true rfl, Nat.le_of_ble_eq_true rfl⟩)
theorem dX8_blowsFrom_0 : decode cX8_blowsFrom 0 = .ok (.aload_n 0, 1) := by decide +kernel
theorem dX8_blowsFrom_1 : decode cX8_blowsFrom 1 = .ok (.iload_n 2, 1) := by decide +kernel
theorem dX8_blowsFrom_2 : decode cX8_blowsFrom 2 = .ok (.iload_n 3, 1) := by decide +kernel
theorem dX8_blowsFrom_3 : decode cX8_blowsFrom 3 = .ok (.invokevirtual 104, 3) := by decide +kernel
theorem dX8_blowsFrom_6 : decode cX8_blowsFrom 6 = .ok (.ifCond .eq 12, 3) := by decide +kernel
theorem dX8_blowsFrom_9 : decode cX8_blowsFrom 9 = .ok (.aload_n 0, 1) := by decide +kernel
theorem dX8_blowsFrom_10 : decode cX8_blowsFrom 10 = .ok (.iload 4, 2) := by decide +kernel
theorem dX8_blowsFrom_12 : decode cX8_blowsFrom 12 = .ok (.invokevirtual 73, 3) := by decide +kernel
theorem dX8_blowsFrom_15 : decode cX8_blowsFrom 15 = .ok (.ifCond .ne 9, 3) := by decide +kernel
theorem dX8_blowsFrom_18 : decode cX8_blowsFrom 18 = .ok (.aload_n 0, 1) := by decide +kernel
theorem dX8_blowsFrom_19 : decode cX8_blowsFrom 19 = .ok (.iconst 1, 1) := by decide +kernel
theorem dX8_blowsFrom_20 : decode cX8_blowsFrom 20 = .ok (.invokevirtual 89, 3) := by decide +kernel
theorem dX8_blowsFrom_23 : decode cX8_blowsFrom 23 = .ok (.ireturn, 1) := by decide +kernel
theorem dX8_blowsFrom_24 : decode cX8_blowsFrom 24 = .ok (.iload 4, 2) := by decide +kernel
theorem dX8_blowsFrom_26 : decode cX8_blowsFrom 26 = .ok (.iload_n 3, 1) := by decide +kernel
theorem dX8_blowsFrom_27 : decode cX8_blowsFrom 27 = .ok (.if_icmp .lt 37, 3) := by decide +kernel
theorem dX8_blowsFrom_30 : decode cX8_blowsFrom 30 = .ok (.iload 5, 2) := by decide +kernel
theorem dX8_blowsFrom_32 : decode cX8_blowsFrom 32 = .ok (.iconst 0, 1) := by decide +kernel
theorem dX8_blowsFrom_33 : decode cX8_blowsFrom 33 = .ok (.sipush 10000, 3) := by decide +kernel
theorem dX8_blowsFrom_36 : decode cX8_blowsFrom 36 = .ok (.invokestatic 65, 3) := by decide +kernel
theorem dX8_blowsFrom_39 : decode cX8_blowsFrom 39 = .ok (.ifCond .eq 25, 3) := by decide +kernel
theorem dX8_blowsFrom_42 : decode cX8_blowsFrom 42 = .ok (.iload 6, 2) := by decide +kernel
theorem dX8_blowsFrom_44 : decode cX8_blowsFrom 44 = .ok (.iconst 1, 1) := by decide +kernel
theorem dX8_blowsFrom_45 : decode cX8_blowsFrom 45 = .ok (.bipush 60, 2) := by decide +kernel
theorem dX8_blowsFrom_47 : decode cX8_blowsFrom 47 = .ok (.invokestatic 65, 3) := by decide +kernel
theorem dX8_blowsFrom_50 : decode cX8_blowsFrom 50 = .ok (.ifCond .eq 14, 3) := by decide +kernel
theorem dX8_blowsFrom_53 : decode cX8_blowsFrom 53 = .ok (.iload 7, 2) := by decide +kernel
theorem dX8_blowsFrom_55 : decode cX8_blowsFrom 55 = .ok (.iconst 1, 1) := by decide +kernel
theorem dX8_blowsFrom_56 : decode cX8_blowsFrom 56 = .ok (.iload 6, 2) := by decide +kernel
theorem dX8_blowsFrom_58 : decode cX8_blowsFrom 58 = .ok (.invokestatic 65, 3) := by decide +kernel
theorem dX8_blowsFrom_61 : decode cX8_blowsFrom 61 = .ok (.ifCond .ne 9, 3) := by decide +kernel
theorem dX8_blowsFrom_64 : decode cX8_blowsFrom 64 = .ok (.aload_n 0, 1) := by decide +kernel
theorem dX8_blowsFrom_65 : decode cX8_blowsFrom 65 = .ok (.iconst 2, 1) := by decide +kernel
theorem dX8_blowsFrom_66 : decode cX8_blowsFrom 66 = .ok (.invokevirtual 89, 3) := by decide +kernel
theorem dX8_blowsFrom_69 : decode cX8_blowsFrom 69 = .ok (.ireturn, 1) := by decide +kernel
theorem dX8_blowsFrom_70 : decode cX8_blowsFrom 70 = .ok (.aload_n 0, 1) := by decide +kernel
theorem dX8_blowsFrom_71 : decode cX8_blowsFrom 71 = .ok (.getfield 7, 3) := by decide +kernel
theorem dX8_blowsFrom_74 : decode cX8_blowsFrom 74 = .ok (.bipush 6, 2) := by decide +kernel
theorem dX8_blowsFrom_76 : decode cX8_blowsFrom 76 = .ok (.iaload, 1) := by decide +kernel
theorem dX8_blowsFrom_77 : decode cX8_blowsFrom 77 = .ok (.bipush 6, 2) := by decide +kernel
theorem dX8_blowsFrom_79 : decode cX8_blowsFrom 79 = .ok (.if_icmp .ne 9, 3) := by decide +kernel
theorem dX8_blowsFrom_82 : decode cX8_blowsFrom 82 = .ok (.aload_n 0, 1) := by decide +kernel
theorem dX8_blowsFrom_83 : decode cX8_blowsFrom 83 = .ok (.iconst 3, 1) := by decide +kernel
theorem dX8_blowsFrom_84 : decode cX8_blowsFrom 84 = .ok (.invokevirtual 89, 3) := by decide +kernel
theorem dX8_blowsFrom_87 : decode cX8_blowsFrom 87 = .ok (.ireturn, 1) := by decide +kernel
theorem dX8_blowsFrom_88 : decode cX8_blowsFrom 88 = .ok (.aload_n 0, 1) := by decide +kernel
theorem dX8_blowsFrom_89 : decode cX8_blowsFrom 89 = .ok (.invokevirtual 92, 3) := by decide +kernel
theorem dX8_blowsFrom_92 : decode cX8_blowsFrom 92 = .ok (.bipush 66, 2) := by decide +kernel
theorem dX8_blowsFrom_94 : decode cX8_blowsFrom 94 = .ok (.bipush 8, 2) := by decide +kernel
theorem dX8_blowsFrom_96 : decode cX8_blowsFrom 96 = .ok (.aload_n 0, 1) := by decide +kernel
theorem dX8_blowsFrom_97 : decode cX8_blowsFrom 97 = .ok (.getfield 7, 3) := by decide +kernel
theorem dX8_blowsFrom_100 : decode cX8_blowsFrom 100 = .ok (.bipush 6, 2) := by decide +kernel
theorem dX8_blowsFrom_102 : decode cX8_blowsFrom 102 = .ok (.iaload, 1) := by decide +kernel
theorem dX8_blowsFrom_103 : decode cX8_blowsFrom 103 = .ok (.imul, 1) := by decide +kernel
theorem dX8_blowsFrom_104 : decode cX8_blowsFrom 104 = .ok (.iadd, 1) := by decide +kernel
theorem dX8_blowsFrom_105 : decode cX8_blowsFrom 105 = .ok (.istore 8, 2) := by decide +kernel
theorem dX8_blowsFrom_107 : decode cX8_blowsFrom 107 = .ok (.aload_n 0, 1) := by decide +kernel
theorem dX8_blowsFrom_108 : decode cX8_blowsFrom 108 = .ok (.getfield 7, 3) := by decide +kernel
theorem dX8_blowsFrom_111 : decode cX8_blowsFrom 111 = .ok (.iload 8, 2) := by decide +kernel
theorem dX8_blowsFrom_113 : decode cX8_blowsFrom 113 = .ok (.iconst 0, 1) := by decide +kernel
theorem dX8_blowsFrom_114 : decode cX8_blowsFrom 114 = .ok (.iadd, 1) := by decide +kernel
theorem dX8_blowsFrom_115 : decode cX8_blowsFrom 115 = .ok (.iload_n 1, 1) := by decide +kernel
theorem dX8_blowsFrom_116 : decode cX8_blowsFrom 116 = .ok (.iastore, 1) := by decide +kernel
theorem dX8_blowsFrom_117 : decode cX8_blowsFrom 117 = .ok (.aload_n 0, 1) := by decide +kernel
theorem dX8_blowsFrom_118 : decode cX8_blowsFrom 118 = .ok (.getfield 7, 3) := by decide +kernel
theorem dX8_blowsFrom_121 : decode cX8_blowsFrom 121 = .ok (.iload 8, 2) := by decide +kernel
theorem dX8_blowsFrom_123 : decode cX8_blowsFrom 123 = .ok (.iconst 1, 1) := by decide +kernel
theorem dX8_blowsFrom_124 : decode cX8_blowsFrom 124 = .ok (.iadd, 1) := by decide +kernel
theorem dX8_blowsFrom_125 : decode cX8_blowsFrom 125 = .ok (.iload_n 2, 1) := by decide +kernel
theorem dX8_blowsFrom_126 : decode cX8_blowsFrom 126 = .ok (.iastore, 1) := by decide +kernel
theorem dX8_blowsFrom_127 : decode cX8_blowsFrom 127 = .ok (.aload_n 0, 1) := by decide +kernel
theorem dX8_blowsFrom_128 : decode cX8_blowsFrom 128 = .ok (.getfield 7, 3) := by decide +kernel
theorem dX8_blowsFrom_131 : decode cX8_blowsFrom 131 = .ok (.iload 8, 2) := by decide +kernel
theorem dX8_blowsFrom_133 : decode cX8_blowsFrom 133 = .ok (.iconst 2, 1) := by decide +kernel
theorem dX8_blowsFrom_134 : decode cX8_blowsFrom 134 = .ok (.iadd, 1) := by decide +kernel
theorem dX8_blowsFrom_135 : decode cX8_blowsFrom 135 = .ok (.iload_n 3, 1) := by decide +kernel
theorem dX8_blowsFrom_136 : decode cX8_blowsFrom 136 = .ok (.iastore, 1) := by decide +kernel
theorem dX8_blowsFrom_137 : decode cX8_blowsFrom 137 = .ok (.aload_n 0, 1) := by decide +kernel
theorem dX8_blowsFrom_138 : decode cX8_blowsFrom 138 = .ok (.getfield 7, 3) := by decide +kernel
theorem dX8_blowsFrom_141 : decode cX8_blowsFrom 141 = .ok (.iload 8, 2) := by decide +kernel
theorem dX8_blowsFrom_143 : decode cX8_blowsFrom 143 = .ok (.iconst 3, 1) := by decide +kernel
theorem dX8_blowsFrom_144 : decode cX8_blowsFrom 144 = .ok (.iadd, 1) := by decide +kernel
theorem dX8_blowsFrom_145 : decode cX8_blowsFrom 145 = .ok (.iload 4, 2) := by decide +kernel
theorem dX8_blowsFrom_147 : decode cX8_blowsFrom 147 = .ok (.iastore, 1) := by decide +kernel
theorem dX8_blowsFrom_148 : decode cX8_blowsFrom 148 = .ok (.aload_n 0, 1) := by decide +kernel
theorem dX8_blowsFrom_149 : decode cX8_blowsFrom 149 = .ok (.getfield 7, 3) := by decide +kernel
theorem dX8_blowsFrom_152 : decode cX8_blowsFrom 152 = .ok (.iload 8, 2) := by decide +kernel
theorem dX8_blowsFrom_154 : decode cX8_blowsFrom 154 = .ok (.iconst 4, 1) := by decide +kernel
theorem dX8_blowsFrom_155 : decode cX8_blowsFrom 155 = .ok (.iadd, 1) := by decide +kernel
theorem dX8_blowsFrom_156 : decode cX8_blowsFrom 156 = .ok (.iload 5, 2) := by decide +kernel
theorem dX8_blowsFrom_158 : decode cX8_blowsFrom 158 = .ok (.iastore, 1) := by decide +kernel
theorem dX8_blowsFrom_159 : decode cX8_blowsFrom 159 = .ok (.aload_n 0, 1) := by decide +kernel
theorem dX8_blowsFrom_160 : decode cX8_blowsFrom 160 = .ok (.getfield 7, 3) := by decide +kernel
theorem dX8_blowsFrom_163 : decode cX8_blowsFrom 163 = .ok (.iload 8, 2) := by decide +kernel
theorem dX8_blowsFrom_165 : decode cX8_blowsFrom 165 = .ok (.iconst 5, 1) := by decide +kernel
theorem dX8_blowsFrom_166 : decode cX8_blowsFrom 166 = .ok (.iadd, 1) := by decide +kernel
theorem dX8_blowsFrom_167 : decode cX8_blowsFrom 167 = .ok (.iload 6, 2) := by decide +kernel
theorem dX8_blowsFrom_169 : decode cX8_blowsFrom 169 = .ok (.iastore, 1) := by decide +kernel
theorem dX8_blowsFrom_170 : decode cX8_blowsFrom 170 = .ok (.aload_n 0, 1) := by decide +kernel
theorem dX8_blowsFrom_171 : decode cX8_blowsFrom 171 = .ok (.getfield 7, 3) := by decide +kernel
theorem dX8_blowsFrom_174 : decode cX8_blowsFrom 174 = .ok (.iload 8, 2) := by decide +kernel
theorem dX8_blowsFrom_176 : decode cX8_blowsFrom 176 = .ok (.bipush 6, 2) := by decide +kernel
theorem dX8_blowsFrom_178 : decode cX8_blowsFrom 178 = .ok (.iadd, 1) := by decide +kernel
theorem dX8_blowsFrom_179 : decode cX8_blowsFrom 179 = .ok (.iload 7, 2) := by decide +kernel
theorem dX8_blowsFrom_181 : decode cX8_blowsFrom 181 = .ok (.iastore, 1) := by decide +kernel
theorem dX8_blowsFrom_182 : decode cX8_blowsFrom 182 = .ok (.aload_n 0, 1) := by decide +kernel
theorem dX8_blowsFrom_183 : decode cX8_blowsFrom 183 = .ok (.getfield 7, 3) := by decide +kernel
theorem dX8_blowsFrom_186 : decode cX8_blowsFrom 186 = .ok (.iload 8, 2) := by decide +kernel
theorem dX8_blowsFrom_188 : decode cX8_blowsFrom 188 = .ok (.bipush 7, 2) := by decide +kernel
theorem dX8_blowsFrom_190 : decode cX8_blowsFrom 190 = .ok (.iadd, 1) := by decide +kernel
theorem dX8_blowsFrom_191 : decode cX8_blowsFrom 191 = .ok (.iconst 0, 1) := by decide +kernel
theorem dX8_blowsFrom_192 : decode cX8_blowsFrom 192 = .ok (.iastore, 1) := by decide +kernel
theorem dX8_blowsFrom_193 : decode cX8_blowsFrom 193 = .ok (.aload_n 0, 1) := by decide +kernel
theorem dX8_blowsFrom_194 : decode cX8_blowsFrom 194 = .ok (.getfield 7, 3) := by decide +kernel
theorem dX8_blowsFrom_197 : decode cX8_blowsFrom 197 = .ok (.bipush 6, 2) := by decide +kernel
theorem dX8_blowsFrom_199 : decode cX8_blowsFrom 199 = .ok (.dup2, 1) := by decide +kernel
theorem dX8_blowsFrom_200 : decode cX8_blowsFrom 200 = .ok (.iaload, 1) := by decide +kernel
theorem dX8_blowsFrom_201 : decode cX8_blowsFrom 201 = .ok (.iconst 1, 1) := by decide +kernel
theorem dX8_blowsFrom_202 : decode cX8_blowsFrom 202 = .ok (.iadd, 1) := by decide +kernel
theorem dX8_blowsFrom_203 : decode cX8_blowsFrom 203 = .ok (.iastore, 1) := by decide +kernel
theorem dX8_blowsFrom_204 : decode cX8_blowsFrom 204 = .ok (.aload_n 0, 1) := by decide +kernel
theorem dX8_blowsFrom_205 : decode cX8_blowsFrom 205 = .ok (.aload_n 0, 1) := by decide +kernel
theorem dX8_blowsFrom_206 : decode cX8_blowsFrom 206 = .ok (.getfield 7, 3) := by decide +kernel
theorem dX8_blowsFrom_209 : decode cX8_blowsFrom 209 = .ok (.bipush 6, 2) := by decide +kernel
theorem dX8_blowsFrom_211 : decode cX8_blowsFrom 211 = .ok (.iaload, 1) := by decide +kernel
theorem dX8_blowsFrom_212 : decode cX8_blowsFrom 212 = .ok (.iconst 1, 1) := by decide +kernel
theorem dX8_blowsFrom_213 : decode cX8_blowsFrom 213 = .ok (.isub, 1) := by decide +kernel
theorem dX8_blowsFrom_214 : decode cX8_blowsFrom 214 = .ok (.invokevirtual 98, 3) := by decide +kernel
theorem dX8_blowsFrom_217 : decode cX8_blowsFrom 217 = .ok (.ireturn, 1) := by decide +kernel
def f_X8_blowsFrom : MX := mth 9 (sQ (sIf (cOr (cNot (cZ z_ne (eM (gd 8 f_X8_isCell) (aI (aI (aA (aN) (eLa 0)) (eLi 2)) (eLi 3))))) (cNot (cZ z_ne (eM (gd 8 f_X8_isRow) (aI (aA (aN) (eLa 0)) (eLi 4)))))) (sR (eM (gd 8 f_X8_fails) (aI (aA (aN) (eLa 0)) (eI (1))))) sN) (sQ (sIf (cOr (cOr (cOr (cB c_lt (eLi 4) (eLi 3)) (cNot (cZ z_ne (eM (f_X8_in) (aI (aI (aI (aN) (eLi 5)) (eI (0))) (eI (10000))))))) (cNot (cZ z_ne (eM (f_X8_in) (aI (aI (aI (aN) (eLi 6)) (eI (1))) (eI (60))))))) (cNot (cZ z_ne (eM (f_X8_in) (aI (aI (aI (aN) (eLi 7)) (eI (1))) (eLi 6)))))) (sR (eM (gd 8 f_X8_fails) (aI (aA (aN) (eLa 0)) (eI (2))))) sN) (sQ (sIf (cB c_eq (eAi 0 (eGa (eLa 0) 8 0) (eI (6))) (eI (6))) (sR (eM (gd 8 f_X8_fails) (aI (aA (aN) (eLa 0)) (eI (3))))) sN) (sQ (sM (gd 8 f_X8_holds) (aA (aN) (eLa 0))) (sQ (sTi 8 (eOp o_iadd (eI (66)) (eOp o_imul (eI (8)) (eAi 0 (eGa (eLa 0) 8 0) (eI (6)))))) (sQ (sAi 0 (eGa (eLa 0) 8 0) (eOp o_iadd (eLi 8) (eI (0))) (eLi 1)) (sQ (sAi 0 (eGa (eLa 0) 8 0) (eOp o_iadd (eLi 8) (eI (1))) (eLi 2)) (sQ (sAi 0 (eGa (eLa 0) 8 0) (eOp o_iadd (eLi 8) (eI (2))) (eLi 3)) (sQ (sAi 0 (eGa (eLa 0) 8 0) (eOp o_iadd (eLi 8) (eI (3))) (eLi 4)) (sQ (sAi 0 (eGa (eLa 0) 8 0) (eOp o_iadd (eLi 8) (eI (4))) (eLi 5)) (sQ (sAi 0 (eGa (eLa 0) 8 0) (eOp o_iadd (eLi 8) (eI (5))) (eLi 6)) (sQ (sAi 0 (eGa (eLa 0) 8 0) (eOp o_iadd (eLi 8) (eI (6))) (eLi 7)) (sQ (sAi 0 (eGa (eLa 0) 8 0) (eOp o_iadd (eLi 8) (eI (7))) (eI (0))) (sQ (sAo (eGa (eLa 0) 8 0) (eI (6)) o_iadd (eI (1))) (sR (eM (gd 8 f_X8_saves) (aI (aA (aN) (eLa 0)) (eOp o_isub (eAi 0 (eGa (eLa 0) 8 0) (eI (6))) (eI (1))))))))))))))))))))
theorem Y_X8_blowsFrom : Yk yX8_blowsFrom cX8_blowsFrom 9 (some .int) 7 := ⟨w1321, w16, by decide +kernel, by decide +kernel, by decide +kernel⟩
set_option maxRecDepth 20000 in
theorem k_X8_blowsFrom (l : Launch) (g : GE) : MetX l g yX8_blowsFrom cX8_blowsFrom 9 (some .int) 8 ({ frames := 3, cells := 0, slots := 0, locals := 65 } : Room) f_X8_blowsFrom := by
  unfold f_X8_blowsFrom
  exact MetX.of (own := RX8) 100 0 rfl (by decide +kernel) (by decide) (fun p e s m args below meth c Fin ad0 hr hn => ⟨_, _, Sv_seq (Sv_if (Cv_or (Cv_not (Cv_if_eq_n (Ev_call (Av_i (Av_i (Av_a (Av_nil) (Ev_aload_n dX8_blowsFrom_0 rfl)) (Ev_iload_n dX8_blowsFrom_1 rfl)) (Ev_iload_n dX8_blowsFrom_2 rfl)) (Rn_V (ci := 8) Fx8.1 rfl Y_X8_isCell (k_X8_isCell _ _) w1243 w1245 wp34 dX8_blowsFrom_3 (Nat.le_of_ble_eq_true rfl) (Nat.le_of_ble_eq_true rfl) (Nat.le_of_ble_eq_true rfl) (Nat.ne_of_beq_eq_false rfl))) (t := 18) dX8_blowsFrom_6 (by decide))) (Cv_not (Cv_if_ne_j (Ev_call (Av_i (Av_a (Av_nil) (Ev_aload_n dX8_blowsFrom_9 rfl)) (Ev_iload dX8_blowsFrom_10)) (Rn_V (ci := 8) Fx8.1 rfl Y_X8_isRow (k_X8_isRow _ _) w1251 w1253 wp36 dX8_blowsFrom_12 (Nat.le_of_ble_eq_true rfl) (Nat.le_of_ble_eq_true rfl) (Nat.le_of_ble_eq_true rfl) (Nat.ne_of_beq_eq_false rfl))) (t := 24) dX8_blowsFrom_15 (by decide)))) (Sv_ret (Ev_call (Av_i (Av_a (Av_nil) (Ev_aload_n dX8_blowsFrom_18 rfl)) (Ev_iconst dX8_blowsFrom_19 (by decide))) (Rn_V (ci := 8) Fx8.1 rfl Y_X8_fails (k_X8_fails _ _) w1212 w1214 wp29 dX8_blowsFrom_20 (Nat.le_of_ble_eq_true rfl) (Nat.le_of_ble_eq_true rfl) (Nat.le_of_ble_eq_true rfl) (Nat.ne_of_beq_eq_false rfl))) hr dX8_blowsFrom_23) Sv_nop) (Sv_seq (Sv_if (Cv_or (Cv_or (Cv_or (Cv_icmp_lt_j (Ev_iload dX8_blowsFrom_24) (Ev_iload_n dX8_blowsFrom_26 rfl) (t := 64) dX8_blowsFrom_27 (by decide)) (Cv_not (Cv_if_eq_n (Ev_call (Av_i (Av_i (Av_i (Av_nil) (Ev_iload dX8_blowsFrom_30)) (Ev_iconst dX8_blowsFrom_32 (by decide))) (Ev_sipush dX8_blowsFrom_33 (by decide))) (Rn_S Y_X8_in (k_X8_in _ _) w1209 w1210 dX8_blowsFrom_36 (Nat.le_of_ble_eq_true rfl) (Nat.le_of_ble_eq_true rfl) (Nat.le_of_ble_eq_true rfl) (Nat.ne_of_beq_eq_false rfl))) (t := 64) dX8_blowsFrom_39 (by decide)))) (Cv_not (Cv_if_eq_n (Ev_call (Av_i (Av_i (Av_i (Av_nil) (Ev_iload dX8_blowsFrom_42)) (Ev_iconst dX8_blowsFrom_44 (by decide))) (Ev_bipush dX8_blowsFrom_45 (by decide))) (Rn_S Y_X8_in (k_X8_in _ _) w1209 w1210 dX8_blowsFrom_47 (Nat.le_of_ble_eq_true rfl) (Nat.le_of_ble_eq_true rfl) (Nat.le_of_ble_eq_true rfl) (Nat.ne_of_beq_eq_false rfl))) (t := 64) dX8_blowsFrom_50 (by decide)))) (Cv_not (Cv_if_ne_j (Ev_call (Av_i (Av_i (Av_i (Av_nil) (Ev_iload dX8_blowsFrom_53)) (Ev_iconst dX8_blowsFrom_55 (by decide))) (Ev_iload dX8_blowsFrom_56)) (Rn_S Y_X8_in (k_X8_in _ _) w1209 w1210 dX8_blowsFrom_58 (Nat.le_of_ble_eq_true rfl) (Nat.le_of_ble_eq_true rfl) (Nat.le_of_ble_eq_true rfl) (Nat.ne_of_beq_eq_false rfl))) (t := 70) dX8_blowsFrom_61 (by decide)))) (Sv_ret (Ev_call (Av_i (Av_a (Av_nil) (Ev_aload_n dX8_blowsFrom_64 rfl)) (Ev_iconst dX8_blowsFrom_65 (by decide))) (Rn_V (ci := 8) Fx8.1 rfl Y_X8_fails (k_X8_fails _ _) w1212 w1214 wp29 dX8_blowsFrom_66 (Nat.le_of_ble_eq_true rfl) (Nat.le_of_ble_eq_true rfl) (Nat.le_of_ble_eq_true rfl) (Nat.ne_of_beq_eq_false rfl))) hr dX8_blowsFrom_69) Sv_nop) (Sv_seq (Sv_if (Cv_icmp_ne_n (Ev_iaload (Ev_getA Fx8 (Ev_aload_n dX8_blowsFrom_70 rfl) (k := 0) (by decide) w1143 dX8_blowsFrom_71) (Ev_bipush dX8_blowsFrom_74 (by decide)) dX8_blowsFrom_76) (Ev_bipush dX8_blowsFrom_77 (by decide)) (t := 88) dX8_blowsFrom_79 (by decide)) (Sv_ret (Ev_call (Av_i (Av_a (Av_nil) (Ev_aload_n dX8_blowsFrom_82 rfl)) (Ev_iconst dX8_blowsFrom_83 (by decide))) (Rn_V (ci := 8) Fx8.1 rfl Y_X8_fails (k_X8_fails _ _) w1212 w1214 wp29 dX8_blowsFrom_84 (Nat.le_of_ble_eq_true rfl) (Nat.le_of_ble_eq_true rfl) (Nat.le_of_ble_eq_true rfl) (Nat.ne_of_beq_eq_false rfl))) hr dX8_blowsFrom_87) Sv_nop) (Sv_seq (Sv_call (Av_a (Av_nil) (Ev_aload_n dX8_blowsFrom_88 rfl)) (Rn_V (ci := 8) Fx8.1 rfl Y_X8_holds (k_X8_holds _ _) w1216 w1218 wp30 dX8_blowsFrom_89 (Nat.le_of_ble_eq_true rfl) (Nat.le_of_ble_eq_true rfl) (Nat.le_of_ble_eq_true rfl) (Nat.ne_of_beq_eq_false rfl))) (Sv_seq (Sv_istore (Ev_iadd (Ev_bipush dX8_blowsFrom_92 (by decide)) (Ev_imul (Ev_bipush dX8_blowsFrom_94 (by decide)) (Ev_iaload (Ev_getA Fx8 (Ev_aload_n dX8_blowsFrom_96 rfl) (k := 0) (by decide) w1143 dX8_blowsFrom_97) (Ev_bipush dX8_blowsFrom_100 (by decide)) dX8_blowsFrom_102) dX8_blowsFrom_103) dX8_blowsFrom_104) dX8_blowsFrom_105 (Nat.le_of_ble_eq_true rfl) (Nat.ne_of_beq_eq_false rfl)) (Sv_seq (Sv_iastore (Ev_getA Fx8 (Ev_aload_n dX8_blowsFrom_107 rfl) (k := 0) (by decide) w1143 dX8_blowsFrom_108) (Ev_iadd (Ev_iload dX8_blowsFrom_111) (Ev_iconst dX8_blowsFrom_113 (by decide)) dX8_blowsFrom_114) (Ev_iload_n dX8_blowsFrom_115 rfl) dX8_blowsFrom_116) (Sv_seq (Sv_iastore (Ev_getA Fx8 (Ev_aload_n dX8_blowsFrom_117 rfl) (k := 0) (by decide) w1143 dX8_blowsFrom_118) (Ev_iadd (Ev_iload dX8_blowsFrom_121) (Ev_iconst dX8_blowsFrom_123 (by decide)) dX8_blowsFrom_124) (Ev_iload_n dX8_blowsFrom_125 rfl) dX8_blowsFrom_126) (Sv_seq (Sv_iastore (Ev_getA Fx8 (Ev_aload_n dX8_blowsFrom_127 rfl) (k := 0) (by decide) w1143 dX8_blowsFrom_128) (Ev_iadd (Ev_iload dX8_blowsFrom_131) (Ev_iconst dX8_blowsFrom_133 (by decide)) dX8_blowsFrom_134) (Ev_iload_n dX8_blowsFrom_135 rfl) dX8_blowsFrom_136) (Sv_seq (Sv_iastore (Ev_getA Fx8 (Ev_aload_n dX8_blowsFrom_137 rfl) (k := 0) (by decide) w1143 dX8_blowsFrom_138) (Ev_iadd (Ev_iload dX8_blowsFrom_141) (Ev_iconst dX8_blowsFrom_143 (by decide)) dX8_blowsFrom_144) (Ev_iload dX8_blowsFrom_145) dX8_blowsFrom_147) (Sv_seq (Sv_iastore (Ev_getA Fx8 (Ev_aload_n dX8_blowsFrom_148 rfl) (k := 0) (by decide) w1143 dX8_blowsFrom_149) (Ev_iadd (Ev_iload dX8_blowsFrom_152) (Ev_iconst dX8_blowsFrom_154 (by decide)) dX8_blowsFrom_155) (Ev_iload dX8_blowsFrom_156) dX8_blowsFrom_158) (Sv_seq (Sv_iastore (Ev_getA Fx8 (Ev_aload_n dX8_blowsFrom_159 rfl) (k := 0) (by decide) w1143 dX8_blowsFrom_160) (Ev_iadd (Ev_iload dX8_blowsFrom_163) (Ev_iconst dX8_blowsFrom_165 (by decide)) dX8_blowsFrom_166) (Ev_iload dX8_blowsFrom_167) dX8_blowsFrom_169) (Sv_seq (Sv_iastore (Ev_getA Fx8 (Ev_aload_n dX8_blowsFrom_170 rfl) (k := 0) (by decide) w1143 dX8_blowsFrom_171) (Ev_iadd (Ev_iload dX8_blowsFrom_174) (Ev_bipush dX8_blowsFrom_176 (by decide)) dX8_blowsFrom_178) (Ev_iload dX8_blowsFrom_179) dX8_blowsFrom_181) (Sv_seq (Sv_iastore (Ev_getA Fx8 (Ev_aload_n dX8_blowsFrom_182 rfl) (k := 0) (by decide) w1143 dX8_blowsFrom_183) (Ev_iadd (Ev_iload dX8_blowsFrom_186) (Ev_bipush dX8_blowsFrom_188 (by decide)) dX8_blowsFrom_190) (Ev_iconst dX8_blowsFrom_191 (by decide)) dX8_blowsFrom_192) (Sv_seq (Sv_aop_iadd (Ev_getA Fx8 (Ev_aload_n dX8_blowsFrom_193 rfl) (k := 0) (by decide) w1143 dX8_blowsFrom_194) (Ev_bipush dX8_blowsFrom_197 (by decide)) dX8_blowsFrom_199 dX8_blowsFrom_200 (Ev_iconst dX8_blowsFrom_201 (by decide)) dX8_blowsFrom_202 dX8_blowsFrom_203) (Sv_ret (Ev_call (Av_i (Av_a (Av_nil) (Ev_aload_n dX8_blowsFrom_204 rfl)) (Ev_isub (Ev_iaload (Ev_getA Fx8 (Ev_aload_n dX8_blowsFrom_205 rfl) (k := 0) (by decide) w1143 dX8_blowsFrom_206) (Ev_bipush dX8_blowsFrom_209 (by decide)) dX8_blowsFrom_211) (Ev_iconst dX8_blowsFrom_212 (by decide)) dX8_blowsFrom_213)) (Rn_V (ci := 8) Fx8.1 rfl Y_X8_saves (k_X8_saves _ _) w1224 w1226 wp32 dX8_blowsFrom_214 (Nat.le_of_ble_eq_true rfl) (Nat.le_of_ble_eq_true rfl) (Nat.le_of_ble_eq_true rfl) (Nat.ne_of_beq_eq_false rfl))) hr dX8_blowsFrom_217)))))))))))))), Nat.le_of_ble_eq_true rfl, Nat.le_of_ble_eq_true rfl⟩)
theorem dX8_inlet_0 : decode cX8_inlet 0 = .ok (.aload_n 0, 1) := by decide +kernel
theorem dX8_inlet_1 : decode cX8_inlet 1 = .ok (.iconst 0, 1) := by decide +kernel
theorem dX8_inlet_2 : decode cX8_inlet 2 = .ok (.iconst 0, 1) := by decide +kernel
theorem dX8_inlet_3 : decode cX8_inlet 3 = .ok (.iload_n 1, 1) := by decide +kernel
theorem dX8_inlet_4 : decode cX8_inlet 4 = .ok (.iload_n 2, 1) := by decide +kernel
theorem dX8_inlet_5 : decode cX8_inlet 5 = .ok (.iload_n 3, 1) := by decide +kernel
theorem dX8_inlet_6 : decode cX8_inlet 6 = .ok (.iload 4, 2) := by decide +kernel
theorem dX8_inlet_8 : decode cX8_inlet 8 = .ok (.iload 5, 2) := by decide +kernel
theorem dX8_inlet_10 : decode cX8_inlet 10 = .ok (.invokevirtual 127, 3) := by decide +kernel
theorem dX8_inlet_13 : decode cX8_inlet 13 = .ok (.ireturn, 1) := by decide +kernel
def f_X8_inlet : MX := mth 6 (sR (eM (gd 8 f_X8_blowsFrom) (aI (aI (aI (aI (aI (aI (aI (aA (aN) (eLa 0)) (eI (0))) (eI (0))) (eLi 1)) (eLi 2)) (eLi 3)) (eLi 4)) (eLi 5))))
theorem Y_X8_inlet : Yk yX8_inlet cX8_inlet 6 (some .int) 5 := ⟨w1317, w16, by decide +kernel, by decide +kernel, by decide +kernel⟩
set_option maxRecDepth 20000 in
theorem k_X8_inlet (l : Launch) (g : GE) : MetX l g yX8_inlet cX8_inlet 6 (some .int) 6 ({ frames := 4, cells := 0, slots := 0, locals := 93 } : Room) f_X8_inlet := by
  unfold f_X8_inlet
  exact MetX.of (own := RX8) 100 0 rfl (by decide +kernel) (by decide) (fun p e s m args below meth c Fin ad0 hr hn => ⟨_, _, Sv_ret (Ev_call (Av_i (Av_i (Av_i (Av_i (Av_i (Av_i (Av_i (Av_a (Av_nil) (Ev_aload_n dX8_inlet_0 rfl)) (Ev_iconst dX8_inlet_1 (by decide))) (Ev_iconst dX8_inlet_2 (by decide))) (Ev_iload_n dX8_inlet_3 rfl)) (Ev_iload_n dX8_inlet_4 rfl)) (Ev_iload_n dX8_inlet_5 rfl)) (Ev_iload dX8_inlet_6)) (Ev_iload dX8_inlet_8)) (Rn_V (ci := 8) Fx8.1 rfl Y_X8_blowsFrom (k_X8_blowsFrom _ _) w1318 w1320 wp42 dX8_inlet_10 (Nat.le_of_ble_eq_true rfl) (Nat.le_of_ble_eq_true rfl) (Nat.le_of_ble_eq_true rfl) (Nat.ne_of_beq_eq_false rfl))) hr dX8_inlet_13, Nat.le_of_ble_eq_true rfl, Nat.le_of_ble_eq_true rfl⟩)
theorem dX8_fan_0 : decode cX8_fan 0 = .ok (.aload_n 0, 1) := by decide +kernel
theorem dX8_fan_1 : decode cX8_fan 1 = .ok (.iconst 1, 1) := by decide +kernel
theorem dX8_fan_2 : decode cX8_fan 2 = .ok (.iload_n 1, 1) := by decide +kernel
theorem dX8_fan_3 : decode cX8_fan 3 = .ok (.iload_n 2, 1) := by decide +kernel
theorem dX8_fan_4 : decode cX8_fan 4 = .ok (.iload_n 3, 1) := by decide +kernel
theorem dX8_fan_5 : decode cX8_fan 5 = .ok (.iload 4, 2) := by decide +kernel
theorem dX8_fan_7 : decode cX8_fan 7 = .ok (.iload 5, 2) := by decide +kernel
theorem dX8_fan_9 : decode cX8_fan 9 = .ok (.iload 6, 2) := by decide +kernel
theorem dX8_fan_11 : decode cX8_fan 11 = .ok (.invokevirtual 127, 3) := by decide +kernel
theorem dX8_fan_14 : decode cX8_fan 14 = .ok (.ireturn, 1) := by decide +kernel
def f_X8_fan : MX := mth 7 (sR (eM (gd 8 f_X8_blowsFrom) (aI (aI (aI (aI (aI (aI (aI (aA (aN) (eLa 0)) (eI (1))) (eLi 1)) (eLi 2)) (eLi 3)) (eLi 4)) (eLi 5)) (eLi 6))))
theorem Y_X8_fan : Yk yX8_fan cX8_fan 7 (some .int) 6 := ⟨w1325, w16, by decide +kernel, by decide +kernel, by decide +kernel⟩
set_option maxRecDepth 20000 in
theorem k_X8_fan (l : Launch) (g : GE) : MetX l g yX8_fan cX8_fan 7 (some .int) 7 ({ frames := 4, cells := 0, slots := 0, locals := 93 } : Room) f_X8_fan := by
  unfold f_X8_fan
  exact MetX.of (own := RX8) 100 0 rfl (by decide +kernel) (by decide) (fun p e s m args below meth c Fin ad0 hr hn => ⟨_, _, Sv_ret (Ev_call (Av_i (Av_i (Av_i (Av_i (Av_i (Av_i (Av_i (Av_a (Av_nil) (Ev_aload_n dX8_fan_0 rfl)) (Ev_iconst dX8_fan_1 (by decide))) (Ev_iload_n dX8_fan_2 rfl)) (Ev_iload_n dX8_fan_3 rfl)) (Ev_iload_n dX8_fan_4 rfl)) (Ev_iload dX8_fan_5)) (Ev_iload dX8_fan_7)) (Ev_iload dX8_fan_9)) (Rn_V (ci := 8) Fx8.1 rfl Y_X8_blowsFrom (k_X8_blowsFrom _ _) w1318 w1320 wp42 dX8_fan_11 (Nat.le_of_ble_eq_true rfl) (Nat.le_of_ble_eq_true rfl) (Nat.le_of_ble_eq_true rfl) (Nat.ne_of_beq_eq_false rfl))) hr dX8_fan_14, Nat.le_of_ble_eq_true rfl, Nat.le_of_ble_eq_true rfl⟩)
theorem dX8_drain_0 : decode cX8_drain 0 = .ok (.aload_n 0, 1) := by decide +kernel
theorem dX8_drain_1 : decode cX8_drain 1 = .ok (.iconst 2, 1) := by decide +kernel
theorem dX8_drain_2 : decode cX8_drain 2 = .ok (.iload_n 1, 1) := by decide +kernel
theorem dX8_drain_3 : decode cX8_drain 3 = .ok (.iload_n 2, 1) := by decide +kernel
theorem dX8_drain_4 : decode cX8_drain 4 = .ok (.iload_n 3, 1) := by decide +kernel
theorem dX8_drain_5 : decode cX8_drain 5 = .ok (.iload 4, 2) := by decide +kernel
theorem dX8_drain_7 : decode cX8_drain 7 = .ok (.iload 5, 2) := by decide +kernel
theorem dX8_drain_9 : decode cX8_drain 9 = .ok (.iload 6, 2) := by decide +kernel
theorem dX8_drain_11 : decode cX8_drain 11 = .ok (.invokevirtual 127, 3) := by decide +kernel
theorem dX8_drain_14 : decode cX8_drain 14 = .ok (.ireturn, 1) := by decide +kernel
def f_X8_drain : MX := mth 7 (sR (eM (gd 8 f_X8_blowsFrom) (aI (aI (aI (aI (aI (aI (aI (aA (aN) (eLa 0)) (eI (2))) (eLi 1)) (eLi 2)) (eLi 3)) (eLi 4)) (eLi 5)) (eLi 6))))
theorem Y_X8_drain : Yk yX8_drain cX8_drain 7 (some .int) 6 := ⟨w1329, w16, by decide +kernel, by decide +kernel, by decide +kernel⟩
set_option maxRecDepth 20000 in
theorem k_X8_drain (l : Launch) (g : GE) : MetX l g yX8_drain cX8_drain 7 (some .int) 7 ({ frames := 4, cells := 0, slots := 0, locals := 93 } : Room) f_X8_drain := by
  unfold f_X8_drain
  exact MetX.of (own := RX8) 100 0 rfl (by decide +kernel) (by decide) (fun p e s m args below meth c Fin ad0 hr hn => ⟨_, _, Sv_ret (Ev_call (Av_i (Av_i (Av_i (Av_i (Av_i (Av_i (Av_i (Av_a (Av_nil) (Ev_aload_n dX8_drain_0 rfl)) (Ev_iconst dX8_drain_1 (by decide))) (Ev_iload_n dX8_drain_2 rfl)) (Ev_iload_n dX8_drain_3 rfl)) (Ev_iload_n dX8_drain_4 rfl)) (Ev_iload dX8_drain_5)) (Ev_iload dX8_drain_7)) (Ev_iload dX8_drain_9)) (Rn_V (ci := 8) Fx8.1 rfl Y_X8_blowsFrom (k_X8_blowsFrom _ _) w1318 w1320 wp42 dX8_drain_11 (Nat.le_of_ble_eq_true rfl) (Nat.le_of_ble_eq_true rfl) (Nat.le_of_ble_eq_true rfl) (Nat.ne_of_beq_eq_false rfl))) hr dX8_drain_14, Nat.le_of_ble_eq_true rfl, Nat.le_of_ble_eq_true rfl⟩)
theorem dX8_isGust_0 : decode cX8_isGust 0 = .ok (.iload_n 1, 1) := by decide +kernel
theorem dX8_isGust_1 : decode cX8_isGust 1 = .ok (.iconst 0, 1) := by decide +kernel
theorem dX8_isGust_2 : decode cX8_isGust 2 = .ok (.aload_n 0, 1) := by decide +kernel
theorem dX8_isGust_3 : decode cX8_isGust 3 = .ok (.getfield 7, 3) := by decide +kernel
theorem dX8_isGust_6 : decode cX8_isGust 6 = .ok (.bipush 6, 2) := by decide +kernel
theorem dX8_isGust_8 : decode cX8_isGust 8 = .ok (.iaload, 1) := by decide +kernel
theorem dX8_isGust_9 : decode cX8_isGust 9 = .ok (.iconst 1, 1) := by decide +kernel
theorem dX8_isGust_10 : decode cX8_isGust 10 = .ok (.isub, 1) := by decide +kernel
theorem dX8_isGust_11 : decode cX8_isGust 11 = .ok (.invokestatic 65, 3) := by decide +kernel
theorem dX8_isGust_14 : decode cX8_isGust 14 = .ok (.ireturn, 1) := by decide +kernel
def f_X8_isGust : MX := mth 2 (sRz (eM (f_X8_in) (aI (aI (aI (aN) (eLi 1)) (eI (0))) (eOp o_isub (eAi 0 (eGa (eLa 0) 8 0) (eI (6))) (eI (1))))))
theorem Y_X8_isGust : Yk yX8_isGust cX8_isGust 2 (some .boolean) 1 := ⟨w1337, w16, by decide +kernel, by decide +kernel, by decide +kernel⟩
set_option maxRecDepth 20000 in
theorem k_X8_isGust (l : Launch) (g : GE) : MetX l g yX8_isGust cX8_isGust 2 (some .boolean) 2 ({ frames := 1, cells := 0, slots := 0, locals := 22 } : Room) f_X8_isGust := by
  unfold f_X8_isGust
  exact MetX.of (own := RX8) 100 0 rfl (by decide +kernel) (by decide) (fun p e s m args below meth c Fin ad0 hr hn => ⟨_, _, Sv_retz (Ev_call (Av_i (Av_i (Av_i (Av_nil) (Ev_iload_n dX8_isGust_0 rfl)) (Ev_iconst dX8_isGust_1 (by decide))) (Ev_isub (Ev_iaload (Ev_getA Fx8 (Ev_aload_n dX8_isGust_2 rfl) (k := 0) (by decide) w1143 dX8_isGust_3) (Ev_bipush dX8_isGust_6 (by decide)) dX8_isGust_8) (Ev_iconst dX8_isGust_9 (by decide)) dX8_isGust_10)) (Rn_S Y_X8_in (k_X8_in _ _) w1209 w1210 dX8_isGust_11 (Nat.le_of_ble_eq_true rfl) (Nat.le_of_ble_eq_true rfl) (Nat.le_of_ble_eq_true rfl) (Nat.ne_of_beq_eq_false rfl))) hr dX8_isGust_14, Nat.le_of_ble_eq_true rfl, Nat.le_of_ble_eq_true rfl⟩)
theorem dX8_drop_0 : decode cX8_drop 0 = .ok (.aload_n 0, 1) := by decide +kernel
theorem dX8_drop_1 : decode cX8_drop 1 = .ok (.iload_n 1, 1) := by decide +kernel
theorem dX8_drop_2 : decode cX8_drop 2 = .ok (.invokevirtual 131, 3) := by decide +kernel
theorem dX8_drop_5 : decode cX8_drop 5 = .ok (.ifCond .ne 9, 3) := by decide +kernel
theorem dX8_drop_8 : decode cX8_drop 8 = .ok (.aload_n 0, 1) := by decide +kernel
theorem dX8_drop_9 : decode cX8_drop 9 = .ok (.iconst 1, 1) := by decide +kernel
theorem dX8_drop_10 : decode cX8_drop 10 = .ok (.invokevirtual 89, 3) := by decide +kernel
theorem dX8_drop_13 : decode cX8_drop 13 = .ok (.ireturn, 1) := by decide +kernel
theorem dX8_drop_14 : decode cX8_drop 14 = .ok (.aload_n 0, 1) := by decide +kernel
theorem dX8_drop_15 : decode cX8_drop 15 = .ok (.invokevirtual 92, 3) := by decide +kernel
theorem dX8_drop_18 : decode cX8_drop 18 = .ok (.bipush 8, 2) := by decide +kernel
theorem dX8_drop_20 : decode cX8_drop 20 = .ok (.iload_n 1, 1) := by decide +kernel
theorem dX8_drop_21 : decode cX8_drop 21 = .ok (.imul, 1) := by decide +kernel
theorem dX8_drop_22 : decode cX8_drop 22 = .ok (.istore_n 2, 1) := by decide +kernel
theorem dX8_drop_23 : decode cX8_drop 23 = .ok (.iload_n 2, 1) := by decide +kernel
theorem dX8_drop_24 : decode cX8_drop 24 = .ok (.bipush 8, 2) := by decide +kernel
theorem dX8_drop_26 : decode cX8_drop 26 = .ok (.aload_n 0, 1) := by decide +kernel
theorem dX8_drop_27 : decode cX8_drop 27 = .ok (.getfield 7, 3) := by decide +kernel
theorem dX8_drop_30 : decode cX8_drop 30 = .ok (.bipush 6, 2) := by decide +kernel
theorem dX8_drop_32 : decode cX8_drop 32 = .ok (.iaload, 1) := by decide +kernel
theorem dX8_drop_33 : decode cX8_drop 33 = .ok (.imul, 1) := by decide +kernel
theorem dX8_drop_34 : decode cX8_drop 34 = .ok (.bipush 8, 2) := by decide +kernel
theorem dX8_drop_36 : decode cX8_drop 36 = .ok (.isub, 1) := by decide +kernel
theorem dX8_drop_37 : decode cX8_drop 37 = .ok (.if_icmp .ge 30, 3) := by decide +kernel
theorem dX8_drop_40 : decode cX8_drop 40 = .ok (.aload_n 0, 1) := by decide +kernel
theorem dX8_drop_41 : decode cX8_drop 41 = .ok (.getfield 7, 3) := by decide +kernel
theorem dX8_drop_44 : decode cX8_drop 44 = .ok (.bipush 66, 2) := by decide +kernel
theorem dX8_drop_46 : decode cX8_drop 46 = .ok (.iload_n 2, 1) := by decide +kernel
theorem dX8_drop_47 : decode cX8_drop 47 = .ok (.iadd, 1) := by decide +kernel
theorem dX8_drop_48 : decode cX8_drop 48 = .ok (.aload_n 0, 1) := by decide +kernel
theorem dX8_drop_49 : decode cX8_drop 49 = .ok (.getfield 7, 3) := by decide +kernel
theorem dX8_drop_52 : decode cX8_drop 52 = .ok (.bipush 66, 2) := by decide +kernel
theorem dX8_drop_54 : decode cX8_drop 54 = .ok (.iload_n 2, 1) := by decide +kernel
theorem dX8_drop_55 : decode cX8_drop 55 = .ok (.iadd, 1) := by decide +kernel
theorem dX8_drop_56 : decode cX8_drop 56 = .ok (.bipush 8, 2) := by decide +kernel
theorem dX8_drop_58 : decode cX8_drop 58 = .ok (.iadd, 1) := by decide +kernel
theorem dX8_drop_59 : decode cX8_drop 59 = .ok (.iaload, 1) := by decide +kernel
theorem dX8_drop_60 : decode cX8_drop 60 = .ok (.iastore, 1) := by decide +kernel
theorem dX8_drop_61 : decode cX8_drop 61 = .ok (.iinc 2 1, 3) := by decide +kernel
theorem dX8_drop_64 : decode cX8_drop 64 = .ok (.goto (-41), 3) := by decide +kernel
theorem dX8_drop_67 : decode cX8_drop 67 = .ok (.aload_n 0, 1) := by decide +kernel
theorem dX8_drop_68 : decode cX8_drop 68 = .ok (.getfield 7, 3) := by decide +kernel
theorem dX8_drop_71 : decode cX8_drop 71 = .ok (.bipush 6, 2) := by decide +kernel
theorem dX8_drop_73 : decode cX8_drop 73 = .ok (.dup2, 1) := by decide +kernel
theorem dX8_drop_74 : decode cX8_drop 74 = .ok (.iaload, 1) := by decide +kernel
theorem dX8_drop_75 : decode cX8_drop 75 = .ok (.iconst 1, 1) := by decide +kernel
theorem dX8_drop_76 : decode cX8_drop 76 = .ok (.isub, 1) := by decide +kernel
theorem dX8_drop_77 : decode cX8_drop 77 = .ok (.iastore, 1) := by decide +kernel
theorem dX8_drop_78 : decode cX8_drop 78 = .ok (.aload_n 0, 1) := by decide +kernel
theorem dX8_drop_79 : decode cX8_drop 79 = .ok (.aload_n 0, 1) := by decide +kernel
theorem dX8_drop_80 : decode cX8_drop 80 = .ok (.getfield 7, 3) := by decide +kernel
theorem dX8_drop_83 : decode cX8_drop 83 = .ok (.bipush 6, 2) := by decide +kernel
theorem dX8_drop_85 : decode cX8_drop 85 = .ok (.iaload, 1) := by decide +kernel
theorem dX8_drop_86 : decode cX8_drop 86 = .ok (.invokevirtual 98, 3) := by decide +kernel
theorem dX8_drop_89 : decode cX8_drop 89 = .ok (.ireturn, 1) := by decide +kernel
def f_X8_drop : MX := mth 3 (sQ (sIf (cNot (cZ z_ne (eM (gd 8 f_X8_isGust) (aI (aA (aN) (eLa 0)) (eLi 1))))) (sR (eM (gd 8 f_X8_fails) (aI (aA (aN) (eLa 0)) (eI (1))))) sN) (sQ (sM (gd 8 f_X8_holds) (aA (aN) (eLa 0))) (sQ (sQ (sTi 2 (eOp o_imul (eI (8)) (eLi 1))) (sLp (cB c_lt (eLi 2) (eOp o_isub (eOp o_imul (eI (8)) (eAi 0 (eGa (eLa 0) 8 0) (eI (6)))) (eI (8)))) (sQ (sAi 0 (eGa (eLa 0) 8 0) (eOp o_iadd (eI (66)) (eLi 2)) (eAi 0 (eGa (eLa 0) 8 0) (eOp o_iadd (eOp o_iadd (eI (66)) (eLi 2)) (eI (8))))) (sInc 2 (1))) NF)) (sQ (sAo (eGa (eLa 0) 8 0) (eI (6)) o_isub (eI (1))) (sR (eM (gd 8 f_X8_saves) (aI (aA (aN) (eLa 0)) (eAi 0 (eGa (eLa 0) 8 0) (eI (6))))))))))
theorem Y_X8_drop : Yk yX8_drop cX8_drop 3 (some .int) 1 := ⟨w1333, w16, by decide +kernel, by decide +kernel, by decide +kernel⟩
set_option maxRecDepth 20000 in
theorem k_X8_drop (l : Launch) (g : GE) : MetX l g yX8_drop cX8_drop 3 (some .int) 2 ({ frames := 2, cells := 0, slots := 0, locals := 43 } : Room) f_X8_drop := by
  unfold f_X8_drop
  exact MetX.of (own := RX8) 100 0 rfl (by decide +kernel) (by decide) (fun p e s m args below meth c Fin ad0 hr hn => ⟨_, _, Sv_seq (Sv_if (Cv_not (Cv_if_ne_j (Ev_call (Av_i (Av_a (Av_nil) (Ev_aload_n dX8_drop_0 rfl)) (Ev_iload_n dX8_drop_1 rfl)) (Rn_V (ci := 8) Fx8.1 rfl Y_X8_isGust (k_X8_isGust _ _) w1334 w1336 wp43 dX8_drop_2 (Nat.le_of_ble_eq_true rfl) (Nat.le_of_ble_eq_true rfl) (Nat.le_of_ble_eq_true rfl) (Nat.ne_of_beq_eq_false rfl))) (t := 14) dX8_drop_5 (by decide))) (Sv_ret (Ev_call (Av_i (Av_a (Av_nil) (Ev_aload_n dX8_drop_8 rfl)) (Ev_iconst dX8_drop_9 (by decide))) (Rn_V (ci := 8) Fx8.1 rfl Y_X8_fails (k_X8_fails _ _) w1212 w1214 wp29 dX8_drop_10 (Nat.le_of_ble_eq_true rfl) (Nat.le_of_ble_eq_true rfl) (Nat.le_of_ble_eq_true rfl) (Nat.ne_of_beq_eq_false rfl))) hr dX8_drop_13) Sv_nop) (Sv_seq (Sv_call (Av_a (Av_nil) (Ev_aload_n dX8_drop_14 rfl)) (Rn_V (ci := 8) Fx8.1 rfl Y_X8_holds (k_X8_holds _ _) w1216 w1218 wp30 dX8_drop_15 (Nat.le_of_ble_eq_true rfl) (Nat.le_of_ble_eq_true rfl) (Nat.le_of_ble_eq_true rfl) (Nat.ne_of_beq_eq_false rfl))) (Sv_seq (Sv_seq (Sv_istore_n (Ev_imul (Ev_bipush dX8_drop_18 (by decide)) (Ev_iload_n dX8_drop_20 rfl) dX8_drop_21) dX8_drop_22 rfl (Nat.le_of_ble_eq_true rfl) (Nat.ne_of_beq_eq_false rfl)) (Sv_loop0 NF (Cv_icmp_ge_n (Ev_iload_n dX8_drop_23 rfl) (Ev_isub (Ev_imul (Ev_bipush dX8_drop_24 (by decide)) (Ev_iaload (Ev_getA Fx8 (Ev_aload_n dX8_drop_26 rfl) (k := 0) (by decide) w1143 dX8_drop_27) (Ev_bipush dX8_drop_30 (by decide)) dX8_drop_32) dX8_drop_33) (Ev_bipush dX8_drop_34 (by decide)) dX8_drop_36) (t := 67) dX8_drop_37 (by decide)) (Sv_goto (pE := 23) (Sv_seq (Sv_iastore (Ev_getA Fx8 (Ev_aload_n dX8_drop_40 rfl) (k := 0) (by decide) w1143 dX8_drop_41) (Ev_iadd (Ev_bipush dX8_drop_44 (by decide)) (Ev_iload_n dX8_drop_46 rfl) dX8_drop_47) (Ev_iaload (Ev_getA Fx8 (Ev_aload_n dX8_drop_48 rfl) (k := 0) (by decide) w1143 dX8_drop_49) (Ev_iadd (Ev_iadd (Ev_bipush dX8_drop_52 (by decide)) (Ev_iload_n dX8_drop_54 rfl) dX8_drop_55) (Ev_bipush dX8_drop_56 (by decide)) dX8_drop_58) dX8_drop_59) dX8_drop_60) (Sv_iinc dX8_drop_61 (by decide) (Nat.le_of_ble_eq_true rfl) (Nat.ne_of_beq_eq_false rfl))) dX8_drop_64 (by decide)))) (Sv_seq (Sv_aop_isub (Ev_getA Fx8 (Ev_aload_n dX8_drop_67 rfl) (k := 0) (by decide) w1143 dX8_drop_68) (Ev_bipush dX8_drop_71 (by decide)) dX8_drop_73 dX8_drop_74 (Ev_iconst dX8_drop_75 (by decide)) dX8_drop_76 dX8_drop_77) (Sv_ret (Ev_call (Av_i (Av_a (Av_nil) (Ev_aload_n dX8_drop_78 rfl)) (Ev_iaload (Ev_getA Fx8 (Ev_aload_n dX8_drop_79 rfl) (k := 0) (by decide) w1143 dX8_drop_80) (Ev_bipush dX8_drop_83 (by decide)) dX8_drop_85)) (Rn_V (ci := 8) Fx8.1 rfl Y_X8_saves (k_X8_saves _ _) w1224 w1226 wp32 dX8_drop_86 (Nat.le_of_ble_eq_true rfl) (Nat.le_of_ble_eq_true rfl) (Nat.le_of_ble_eq_true rfl) (Nat.ne_of_beq_eq_false rfl))) hr dX8_drop_89)))), Nat.le_of_ble_eq_true rfl, Nat.le_of_ble_eq_true rfl⟩)
theorem dX8_isBlowing_0 : decode cX8_isBlowing 0 = .ok (.aload_n 0, 1) := by decide +kernel
theorem dX8_isBlowing_1 : decode cX8_isBlowing 1 = .ok (.getfield 7, 3) := by decide +kernel
theorem dX8_isBlowing_4 : decode cX8_isBlowing 4 = .ok (.iconst 2, 1) := by decide +kernel
theorem dX8_isBlowing_5 : decode cX8_isBlowing 5 = .ok (.iaload, 1) := by decide +kernel
theorem dX8_isBlowing_6 : decode cX8_isBlowing 6 = .ok (.aload_n 0, 1) := by decide +kernel
theorem dX8_isBlowing_7 : decode cX8_isBlowing 7 = .ok (.iload_n 1, 1) := by decide +kernel
theorem dX8_isBlowing_8 : decode cX8_isBlowing 8 = .ok (.iconst 4, 1) := by decide +kernel
theorem dX8_isBlowing_9 : decode cX8_isBlowing 9 = .ok (.invokevirtual 134, 3) := by decide +kernel
theorem dX8_isBlowing_12 : decode cX8_isBlowing 12 = .ok (.isub, 1) := by decide +kernel
theorem dX8_isBlowing_13 : decode cX8_isBlowing 13 = .ok (.istore_n 2, 1) := by decide +kernel
theorem dX8_isBlowing_14 : decode cX8_isBlowing 14 = .ok (.iload_n 2, 1) := by decide +kernel
theorem dX8_isBlowing_15 : decode cX8_isBlowing 15 = .ok (.ifCond .lt 25, 3) := by decide +kernel
theorem dX8_isBlowing_18 : decode cX8_isBlowing 18 = .ok (.iload_n 2, 1) := by decide +kernel
theorem dX8_isBlowing_19 : decode cX8_isBlowing 19 = .ok (.aload_n 0, 1) := by decide +kernel
theorem dX8_isBlowing_20 : decode cX8_isBlowing 20 = .ok (.iload_n 1, 1) := by decide +kernel
theorem dX8_isBlowing_21 : decode cX8_isBlowing 21 = .ok (.iconst 5, 1) := by decide +kernel
theorem dX8_isBlowing_22 : decode cX8_isBlowing 22 = .ok (.invokevirtual 134, 3) := by decide +kernel
theorem dX8_isBlowing_25 : decode cX8_isBlowing 25 = .ok (.irem, 1) := by decide +kernel
theorem dX8_isBlowing_26 : decode cX8_isBlowing 26 = .ok (.aload_n 0, 1) := by decide +kernel
theorem dX8_isBlowing_27 : decode cX8_isBlowing 27 = .ok (.iload_n 1, 1) := by decide +kernel
theorem dX8_isBlowing_28 : decode cX8_isBlowing 28 = .ok (.bipush 6, 2) := by decide +kernel
theorem dX8_isBlowing_30 : decode cX8_isBlowing 30 = .ok (.invokevirtual 134, 3) := by decide +kernel
theorem dX8_isBlowing_33 : decode cX8_isBlowing 33 = .ok (.if_icmp .ge 7, 3) := by decide +kernel
theorem dX8_isBlowing_36 : decode cX8_isBlowing 36 = .ok (.iconst 1, 1) := by decide +kernel
theorem dX8_isBlowing_37 : decode cX8_isBlowing 37 = .ok (.goto 4, 3) := by decide +kernel
theorem dX8_isBlowing_40 : decode cX8_isBlowing 40 = .ok (.iconst 0, 1) := by decide +kernel
theorem dX8_isBlowing_41 : decode cX8_isBlowing 41 = .ok (.ireturn, 1) := by decide +kernel
def f_X8_isBlowing : MX := mth 3 (sQ (sTi 2 (eOp o_isub (eAi 0 (eGa (eLa 0) 8 0) (eI (2))) (eM (gd 8 f_X8_gustOf) (aI (aI (aA (aN) (eLa 0)) (eLi 1)) (eI (4)))))) (sRz (eC (cAnd (cZ z_ge (eLi 2)) (cB c_lt (eQ o_irem (eLi 2) (eM (gd 8 f_X8_gustOf) (aI (aI (aA (aN) (eLa 0)) (eLi 1)) (eI (5))))) (eM (gd 8 f_X8_gustOf) (aI (aI (aA (aN) (eLa 0)) (eLi 1)) (eI (6)))))))))
theorem Y_X8_isBlowing : Yk yX8_isBlowing cX8_isBlowing 3 (some .boolean) 1 := ⟨w1400, w16, by decide +kernel, by decide +kernel, by decide +kernel⟩
set_option maxRecDepth 20000 in
theorem k_X8_isBlowing (l : Launch) (g : GE) : MetX l g yX8_isBlowing cX8_isBlowing 3 (some .boolean) 2 ({ frames := 1, cells := 0, slots := 0, locals := 22 } : Room) f_X8_isBlowing := by
  unfold f_X8_isBlowing
  exact MetX.of (own := RX8) 100 0 rfl (by decide +kernel) (by decide) (fun p e s m args below meth c Fin ad0 hr hn => ⟨_, _, Sv_seq (Sv_istore_n (Ev_isub (Ev_iaload (Ev_getA Fx8 (Ev_aload_n dX8_isBlowing_0 rfl) (k := 0) (by decide) w1143 dX8_isBlowing_1) (Ev_iconst dX8_isBlowing_4 (by decide)) dX8_isBlowing_5) (Ev_call (Av_i (Av_i (Av_a (Av_nil) (Ev_aload_n dX8_isBlowing_6 rfl)) (Ev_iload_n dX8_isBlowing_7 rfl)) (Ev_iconst dX8_isBlowing_8 (by decide))) (Rn_V (ci := 8) Fx8.1 rfl Y_X8_gustOf (k_X8_gustOf _ _) w1401 w1403 wp53 dX8_isBlowing_9 (Nat.le_of_ble_eq_true rfl) (Nat.le_of_ble_eq_true rfl) (Nat.le_of_ble_eq_true rfl) (Nat.ne_of_beq_eq_false rfl))) dX8_isBlowing_12) dX8_isBlowing_13 rfl (Nat.le_of_ble_eq_true rfl) (Nat.ne_of_beq_eq_false rfl)) (Sv_retz (Ev_if (pT := 41) (Cv_and (Cv_if_lt_n (Ev_iload_n dX8_isBlowing_14 rfl) (t := 40) dX8_isBlowing_15 (by decide)) (Cv_icmp_ge_n (Ev_irem (Ev_iload_n dX8_isBlowing_18 rfl) (Ev_call (Av_i (Av_i (Av_a (Av_nil) (Ev_aload_n dX8_isBlowing_19 rfl)) (Ev_iload_n dX8_isBlowing_20 rfl)) (Ev_iconst dX8_isBlowing_21 (by decide))) (Rn_V (ci := 8) Fx8.1 rfl Y_X8_gustOf (k_X8_gustOf _ _) w1401 w1403 wp53 dX8_isBlowing_22 (Nat.le_of_ble_eq_true rfl) (Nat.le_of_ble_eq_true rfl) (Nat.le_of_ble_eq_true rfl) (Nat.ne_of_beq_eq_false rfl))) dX8_isBlowing_25) (Ev_call (Av_i (Av_i (Av_a (Av_nil) (Ev_aload_n dX8_isBlowing_26 rfl)) (Ev_iload_n dX8_isBlowing_27 rfl)) (Ev_bipush dX8_isBlowing_28 (by decide))) (Rn_V (ci := 8) Fx8.1 rfl Y_X8_gustOf (k_X8_gustOf _ _) w1401 w1403 wp53 dX8_isBlowing_30 (Nat.le_of_ble_eq_true rfl) (Nat.le_of_ble_eq_true rfl) (Nat.le_of_ble_eq_true rfl) (Nat.ne_of_beq_eq_false rfl))) (t := 40) dX8_isBlowing_33 (by decide))) (Ev_iconst dX8_isBlowing_36 (by decide)) dX8_isBlowing_37 (by decide) (Ev_iconst dX8_isBlowing_40 (by decide))) hr dX8_isBlowing_41), Nat.le_of_ble_eq_true rfl, Nat.le_of_ble_eq_true rfl⟩)
theorem dX8_blows_0 : decode cX8_blows 0 = .ok (.aload_n 0, 1) := by decide +kernel
theorem dX8_blows_1 : decode cX8_blows 1 = .ok (.iload_n 1, 1) := by decide +kernel
theorem dX8_blows_2 : decode cX8_blows 2 = .ok (.iconst 1, 1) := by decide +kernel
theorem dX8_blows_3 : decode cX8_blows 3 = .ok (.invokevirtual 134, 3) := by decide +kernel
theorem dX8_blows_6 : decode cX8_blows 6 = .ok (.istore_n 2, 1) := by decide +kernel
theorem dX8_blows_7 : decode cX8_blows 7 = .ok (.aload_n 0, 1) := by decide +kernel
theorem dX8_blows_8 : decode cX8_blows 8 = .ok (.iload_n 1, 1) := by decide +kernel
theorem dX8_blows_9 : decode cX8_blows 9 = .ok (.iconst 2, 1) := by decide +kernel
theorem dX8_blows_10 : decode cX8_blows 10 = .ok (.invokevirtual 134, 3) := by decide +kernel
theorem dX8_blows_13 : decode cX8_blows 13 = .ok (.istore_n 3, 1) := by decide +kernel
theorem dX8_blows_14 : decode cX8_blows 14 = .ok (.iload_n 3, 1) := by decide +kernel
theorem dX8_blows_15 : decode cX8_blows 15 = .ok (.aload_n 0, 1) := by decide +kernel
theorem dX8_blows_16 : decode cX8_blows 16 = .ok (.iload_n 1, 1) := by decide +kernel
theorem dX8_blows_17 : decode cX8_blows 17 = .ok (.iconst 3, 1) := by decide +kernel
theorem dX8_blows_18 : decode cX8_blows 18 = .ok (.invokevirtual 134, 3) := by decide +kernel
theorem dX8_blows_21 : decode cX8_blows 21 = .ok (.if_icmp .gt 222, 3) := by decide +kernel
theorem dX8_blows_24 : decode cX8_blows 24 = .ok (.aload_n 0, 1) := by decide +kernel
theorem dX8_blows_25 : decode cX8_blows 25 = .ok (.iload_n 2, 1) := by decide +kernel
theorem dX8_blows_26 : decode cX8_blows 26 = .ok (.iload_n 3, 1) := by decide +kernel
theorem dX8_blows_27 : decode cX8_blows 27 = .ok (.invokevirtual 108, 3) := by decide +kernel
theorem dX8_blows_30 : decode cX8_blows 30 = .ok (.istore 4, 2) := by decide +kernel
theorem dX8_blows_32 : decode cX8_blows 32 = .ok (.iload 4, 2) := by decide +kernel
theorem dX8_blows_34 : decode cX8_blows 34 = .ok (.istore 5, 2) := by decide +kernel
theorem dX8_blows_36 : decode cX8_blows 36 = .ok (.iload 4, 2) := by decide +kernel
theorem dX8_blows_38 : decode cX8_blows 38 = .ok (.ifCond .lt 21, 3) := by decide +kernel
theorem dX8_blows_41 : decode cX8_blows 41 = .ok (.aload_n 0, 1) := by decide +kernel
theorem dX8_blows_42 : decode cX8_blows 42 = .ok (.iload_n 1, 1) := by decide +kernel
theorem dX8_blows_43 : decode cX8_blows 43 = .ok (.iconst 0, 1) := by decide +kernel
theorem dX8_blows_44 : decode cX8_blows 44 = .ok (.invokevirtual 134, 3) := by decide +kernel
theorem dX8_blows_47 : decode cX8_blows 47 = .ok (.ifCond .ne 12, 3) := by decide +kernel
theorem dX8_blows_50 : decode cX8_blows 50 = .ok (.iload 4, 2) := by decide +kernel
theorem dX8_blows_52 : decode cX8_blows 52 = .ok (.iconst 1, 1) := by decide +kernel
theorem dX8_blows_53 : decode cX8_blows 53 = .ok (.ior, 1) := by decide +kernel
theorem dX8_blows_54 : decode cX8_blows 54 = .ok (.istore 5, 2) := by decide +kernel
theorem dX8_blows_56 : decode cX8_blows 56 = .ok (.goto 51, 3) := by decide +kernel
theorem dX8_blows_59 : decode cX8_blows 59 = .ok (.iload 4, 2) := by decide +kernel
theorem dX8_blows_61 : decode cX8_blows 61 = .ok (.ifCond .lt 38, 3) := by decide +kernel
theorem dX8_blows_64 : decode cX8_blows 64 = .ok (.aload_n 0, 1) := by decide +kernel
theorem dX8_blows_65 : decode cX8_blows 65 = .ok (.iload_n 1, 1) := by decide +kernel
theorem dX8_blows_66 : decode cX8_blows 66 = .ok (.iconst 0, 1) := by decide +kernel
theorem dX8_blows_67 : decode cX8_blows 67 = .ok (.invokevirtual 134, 3) := by decide +kernel
theorem dX8_blows_70 : decode cX8_blows 70 = .ok (.iconst 1, 1) := by decide +kernel
theorem dX8_blows_71 : decode cX8_blows 71 = .ok (.if_icmp .ne 28, 3) := by decide +kernel
theorem dX8_blows_74 : decode cX8_blows 74 = .ok (.iload 4, 2) := by decide +kernel
theorem dX8_blows_76 : decode cX8_blows 76 = .ok (.bipush 9, 2) := by decide +kernel
theorem dX8_blows_78 : decode cX8_blows 78 = .ok (.iand, 1) := by decide +kernel
theorem dX8_blows_79 : decode cX8_blows 79 = .ok (.bipush 8, 2) := by decide +kernel
theorem dX8_blows_81 : decode cX8_blows 81 = .ok (.if_icmp .ne 11, 3) := by decide +kernel
theorem dX8_blows_84 : decode cX8_blows 84 = .ok (.iload 4, 2) := by decide +kernel
theorem dX8_blows_86 : decode cX8_blows 86 = .ok (.bipush 7, 2) := by decide +kernel
theorem dX8_blows_88 : decode cX8_blows 88 = .ok (.isub, 1) := by decide +kernel
theorem dX8_blows_89 : decode cX8_blows 89 = .ok (.goto 5, 3) := by decide +kernel
theorem dX8_blows_92 : decode cX8_blows 92 = .ok (.iload 4, 2) := by decide +kernel
theorem dX8_blows_94 : decode cX8_blows 94 = .ok (.istore 5, 2) := by decide +kernel
theorem dX8_blows_96 : decode cX8_blows 96 = .ok (.goto 11, 3) := by decide +kernel
theorem dX8_blows_99 : decode cX8_blows 99 = .ok (.iload 4, 2) := by decide +kernel
theorem dX8_blows_101 : decode cX8_blows 101 = .ok (.ifCond .lt 6, 3) := by decide +kernel
theorem dX8_blows_104 : decode cX8_blows 104 = .ok (.iconst 0, 1) := by decide +kernel
theorem dX8_blows_105 : decode cX8_blows 105 = .ok (.istore 5, 2) := by decide +kernel
theorem dX8_blows_107 : decode cX8_blows 107 = .ok (.iload 5, 2) := by decide +kernel
theorem dX8_blows_109 : decode cX8_blows 109 = .ok (.iload 4, 2) := by decide +kernel
theorem dX8_blows_111 : decode cX8_blows 111 = .ok (.if_icmp .eq 126, 3) := by decide +kernel
theorem dX8_blows_114 : decode cX8_blows 114 = .ok (.aload_n 0, 1) := by decide +kernel
theorem dX8_blows_115 : decode cX8_blows 115 = .ok (.iload_n 1, 1) := by decide +kernel
theorem dX8_blows_116 : decode cX8_blows 116 = .ok (.iconst 0, 1) := by decide +kernel
theorem dX8_blows_117 : decode cX8_blows 117 = .ok (.invokevirtual 134, 3) := by decide +kernel
theorem dX8_blows_120 : decode cX8_blows 120 = .ok (.iconst 2, 1) := by decide +kernel
theorem dX8_blows_121 : decode cX8_blows 121 = .ok (.if_icmp .ne 11, 3) := by decide +kernel
theorem dX8_blows_124 : decode cX8_blows 124 = .ok (.iload 4, 2) := by decide +kernel
theorem dX8_blows_126 : decode cX8_blows 126 = .ok (.invokestatic 124, 3) := by decide +kernel
theorem dX8_blows_129 : decode cX8_blows 129 = .ok (.goto 4, 3) := by decide +kernel
theorem dX8_blows_132 : decode cX8_blows 132 = .ok (.iconst 1, 1) := by decide +kernel
theorem dX8_blows_133 : decode cX8_blows 133 = .ok (.istore 6, 2) := by decide +kernel
theorem dX8_blows_135 : decode cX8_blows 135 = .ok (.aload_n 0, 1) := by decide +kernel
theorem dX8_blows_136 : decode cX8_blows 136 = .ok (.getfield 7, 3) := by decide +kernel
theorem dX8_blows_139 : decode cX8_blows 139 = .ok (.bipush 66, 2) := by decide +kernel
theorem dX8_blows_141 : decode cX8_blows 141 = .ok (.bipush 8, 2) := by decide +kernel
theorem dX8_blows_143 : decode cX8_blows 143 = .ok (.iload_n 1, 1) := by decide +kernel
theorem dX8_blows_144 : decode cX8_blows 144 = .ok (.imul, 1) := by decide +kernel
theorem dX8_blows_145 : decode cX8_blows 145 = .ok (.iadd, 1) := by decide +kernel
theorem dX8_blows_146 : decode cX8_blows 146 = .ok (.bipush 7, 2) := by decide +kernel
theorem dX8_blows_148 : decode cX8_blows 148 = .ok (.iadd, 1) := by decide +kernel
theorem dX8_blows_149 : decode cX8_blows 149 = .ok (.dup2, 1) := by decide +kernel
theorem dX8_blows_150 : decode cX8_blows 150 = .ok (.iaload, 1) := by decide +kernel
theorem dX8_blows_151 : decode cX8_blows 151 = .ok (.iload 6, 2) := by decide +kernel
theorem dX8_blows_153 : decode cX8_blows 153 = .ok (.iadd, 1) := by decide +kernel
theorem dX8_blows_154 : decode cX8_blows 154 = .ok (.iastore, 1) := by decide +kernel
theorem dX8_blows_155 : decode cX8_blows 155 = .ok (.aload_n 0, 1) := by decide +kernel
theorem dX8_blows_156 : decode cX8_blows 156 = .ok (.getfield 7, 3) := by decide +kernel
theorem dX8_blows_159 : decode cX8_blows 159 = .ok (.bipush 9, 2) := by decide +kernel
theorem dX8_blows_161 : decode cX8_blows 161 = .ok (.dup2, 1) := by decide +kernel
theorem dX8_blows_162 : decode cX8_blows 162 = .ok (.iaload, 1) := by decide +kernel
theorem dX8_blows_163 : decode cX8_blows 163 = .ok (.aload_n 0, 1) := by decide +kernel
theorem dX8_blows_164 : decode cX8_blows 164 = .ok (.iload_n 1, 1) := by decide +kernel
theorem dX8_blows_165 : decode cX8_blows 165 = .ok (.iconst 0, 1) := by decide +kernel
theorem dX8_blows_166 : decode cX8_blows 166 = .ok (.invokevirtual 134, 3) := by decide +kernel
theorem dX8_blows_169 : decode cX8_blows 169 = .ok (.ifCond .ne 7, 3) := by decide +kernel
theorem dX8_blows_172 : decode cX8_blows 172 = .ok (.iconst 1, 1) := by decide +kernel
theorem dX8_blows_173 : decode cX8_blows 173 = .ok (.goto 4, 3) := by decide +kernel
theorem dX8_blows_176 : decode cX8_blows 176 = .ok (.iconst 0, 1) := by decide +kernel
theorem dX8_blows_177 : decode cX8_blows 177 = .ok (.iadd, 1) := by decide +kernel
theorem dX8_blows_178 : decode cX8_blows 178 = .ok (.iastore, 1) := by decide +kernel
theorem dX8_blows_179 : decode cX8_blows 179 = .ok (.aload_n 0, 1) := by decide +kernel
theorem dX8_blows_180 : decode cX8_blows 180 = .ok (.getfield 7, 3) := by decide +kernel
theorem dX8_blows_183 : decode cX8_blows 183 = .ok (.bipush 10, 2) := by decide +kernel
theorem dX8_blows_185 : decode cX8_blows 185 = .ok (.dup2, 1) := by decide +kernel
theorem dX8_blows_186 : decode cX8_blows 186 = .ok (.iaload, 1) := by decide +kernel
theorem dX8_blows_187 : decode cX8_blows 187 = .ok (.aload_n 0, 1) := by decide +kernel
theorem dX8_blows_188 : decode cX8_blows 188 = .ok (.iload_n 1, 1) := by decide +kernel
theorem dX8_blows_189 : decode cX8_blows 189 = .ok (.iconst 0, 1) := by decide +kernel
theorem dX8_blows_190 : decode cX8_blows 190 = .ok (.invokevirtual 134, 3) := by decide +kernel
theorem dX8_blows_193 : decode cX8_blows 193 = .ok (.iconst 2, 1) := by decide +kernel
theorem dX8_blows_194 : decode cX8_blows 194 = .ok (.if_icmp .ne 8, 3) := by decide +kernel
theorem dX8_blows_197 : decode cX8_blows 197 = .ok (.iload 6, 2) := by decide +kernel
theorem dX8_blows_199 : decode cX8_blows 199 = .ok (.goto 4, 3) := by decide +kernel
theorem dX8_blows_202 : decode cX8_blows 202 = .ok (.iconst 0, 1) := by decide +kernel
theorem dX8_blows_203 : decode cX8_blows 203 = .ok (.iadd, 1) := by decide +kernel
theorem dX8_blows_204 : decode cX8_blows 204 = .ok (.iastore, 1) := by decide +kernel
theorem dX8_blows_205 : decode cX8_blows 205 = .ok (.aload_n 0, 1) := by decide +kernel
theorem dX8_blows_206 : decode cX8_blows 206 = .ok (.iconst 1, 1) := by decide +kernel
theorem dX8_blows_207 : decode cX8_blows 207 = .ok (.iload 5, 2) := by decide +kernel
theorem dX8_blows_209 : decode cX8_blows 209 = .ok (.iconst 1, 1) := by decide +kernel
theorem dX8_blows_210 : decode cX8_blows 210 = .ok (.invokevirtual 121, 3) := by decide +kernel
theorem dX8_blows_213 : decode cX8_blows 213 = .ok (.aload_n 0, 1) := by decide +kernel
theorem dX8_blows_214 : decode cX8_blows 214 = .ok (.iconst 1, 1) := by decide +kernel
theorem dX8_blows_215 : decode cX8_blows 215 = .ok (.iload 4, 2) := by decide +kernel
theorem dX8_blows_217 : decode cX8_blows 217 = .ok (.iconst (-1), 1) := by decide +kernel
theorem dX8_blows_218 : decode cX8_blows 218 = .ok (.invokevirtual 121, 3) := by decide +kernel
theorem dX8_blows_221 : decode cX8_blows 221 = .ok (.aload_n 0, 1) := by decide +kernel
theorem dX8_blows_222 : decode cX8_blows 222 = .ok (.getfield 7, 3) := by decide +kernel
theorem dX8_blows_225 : decode cX8_blows 225 = .ok (.sipush 882, 3) := by decide +kernel
theorem dX8_blows_228 : decode cX8_blows 228 = .ok (.iload_n 2, 1) := by decide +kernel
theorem dX8_blows_229 : decode cX8_blows 229 = .ok (.iload_n 3, 1) := by decide +kernel
theorem dX8_blows_230 : decode cX8_blows 230 = .ok (.invokestatic 76, 3) := by decide +kernel
theorem dX8_blows_233 : decode cX8_blows 233 = .ok (.iadd, 1) := by decide +kernel
theorem dX8_blows_234 : decode cX8_blows 234 = .ok (.iload 5, 2) := by decide +kernel
theorem dX8_blows_236 : decode cX8_blows 236 = .ok (.iastore, 1) := by decide +kernel
theorem dX8_blows_237 : decode cX8_blows 237 = .ok (.iinc 3 1, 3) := by decide +kernel
theorem dX8_blows_240 : decode cX8_blows 240 = .ok (.goto (-226), 3) := by decide +kernel
theorem dX8_blows_243 : decode cX8_blows 243 = .ok (.return_, 1) := by decide +kernel
def f_X8_blows : MX := mth 7 (sQ (sQ (sTi 2 (eM (gd 8 f_X8_gustOf) (aI (aI (aA (aN) (eLa 0)) (eLi 1)) (eI (1))))) (sQ (sTi 3 (eM (gd 8 f_X8_gustOf) (aI (aI (aA (aN) (eLa 0)) (eLi 1)) (eI (2))))) (sLp (cB c_le (eLi 3) (eM (gd 8 f_X8_gustOf) (aI (aI (aA (aN) (eLa 0)) (eLi 1)) (eI (3))))) (sQ (sQ (sTi 4 (eM (gd 8 f_X8_had) (aI (aI (aA (aN) (eLa 0)) (eLi 2)) (eLi 3)))) (sQ (sTi 5 (eLi 4)) (sQ (sIf (cAnd (cZ z_ge (eLi 4)) (cZ z_eq (eM (gd 8 f_X8_gustOf) (aI (aI (aA (aN) (eLa 0)) (eLi 1)) (eI (0)))))) (sTi 5 (eOp o_ior (eLi 4) (eI (1)))) (sIf (cAnd (cZ z_ge (eLi 4)) (cB c_eq (eM (gd 8 f_X8_gustOf) (aI (aI (aA (aN) (eLa 0)) (eLi 1)) (eI (0)))) (eI (1)))) (sTi 5 (eIf (cB c_eq (eOp o_iand (eLi 4) (eI (9))) (eI (8))) (eOp o_isub (eLi 4) (eI (7))) (eLi 4))) (sIf (cZ z_ge (eLi 4)) (sTi 5 (eI (0))) sN))) (sIf (cB c_ne (eLi 5) (eLi 4)) (sQ (sTi 6 (eIf (cB c_eq (eM (gd 8 f_X8_gustOf) (aI (aI (aA (aN) (eLa 0)) (eLi 1)) (eI (0)))) (eI (2))) (eM (f_X8_ones) (aI (aN) (eLi 4))) (eI (1)))) (sQ (sAo (eGa (eLa 0) 8 0) (eOp o_iadd (eOp o_iadd (eI (66)) (eOp o_imul (eI (8)) (eLi 1))) (eI (7))) o_iadd (eLi 6)) (sQ (sAo (eGa (eLa 0) 8 0) (eI (9)) o_iadd (eIf (cZ z_eq (eM (gd 8 f_X8_gustOf) (aI (aI (aA (aN) (eLa 0)) (eLi 1)) (eI (0))))) (eI (1)) (eI (0)))) (sQ (sAo (eGa (eLa 0) 8 0) (eI (10)) o_iadd (eIf (cB c_eq (eM (gd 8 f_X8_gustOf) (aI (aI (aA (aN) (eLa 0)) (eLi 1)) (eI (0)))) (eI (2))) (eLi 6) (eI (0)))) (sQ (sM (gd 8 f_X8_books) (aI (aI (aI (aA (aN) (eLa 0)) (eI (1))) (eLi 5)) (eI (1)))) (sQ (sM (gd 8 f_X8_books) (aI (aI (aI (aA (aN) (eLa 0)) (eI (1))) (eLi 4)) (eI (-1)))) (sAi 0 (eGa (eLa 0) 8 0) (eOp o_iadd (eI (882)) (eM (f_X8_place) (aI (aI (aN) (eLi 2)) (eLi 3)))) (eLi 5)))))))) sN)))) (sInc 3 (1))) NF))) (sRv))
theorem Y_X8_blows : Yk yX8_blows cX8_blows 7 none 1 := ⟨w1408, w16, by decide +kernel, by decide +kernel, by decide +kernel⟩
set_option maxRecDepth 20000 in
theorem k_X8_blows (l : Launch) (g : GE) : MetX l g yX8_blows cX8_blows 7 none 2 ({ frames := 4, cells := 0, slots := 0, locals := 88 } : Room) f_X8_blows := by
  unfold f_X8_blows
  exact MetX.of (own := RX8) 100 0 rfl (by decide +kernel) (by decide) (fun p e s m args below meth c Fin ad0 hr hn => ⟨_, _, Sv_seq (Sv_seq (Sv_istore_n (Ev_call (Av_i (Av_i (Av_a (Av_nil) (Ev_aload_n dX8_blows_0 rfl)) (Ev_iload_n dX8_blows_1 rfl)) (Ev_iconst dX8_blows_2 (by decide))) (Rn_V (ci := 8) Fx8.1 rfl Y_X8_gustOf (k_X8_gustOf _ _) w1401 w1403 wp53 dX8_blows_3 (Nat.le_of_ble_eq_true rfl) (Nat.le_of_ble_eq_true rfl) (Nat.le_of_ble_eq_true rfl) (Nat.ne_of_beq_eq_false rfl))) dX8_blows_6 rfl (Nat.le_of_ble_eq_true rfl) (Nat.ne_of_beq_eq_false rfl)) (Sv_seq (Sv_istore_n (Ev_call (Av_i (Av_i (Av_a (Av_nil) (Ev_aload_n dX8_blows_7 rfl)) (Ev_iload_n dX8_blows_8 rfl)) (Ev_iconst dX8_blows_9 (by decide))) (Rn_V (ci := 8) Fx8.1 rfl Y_X8_gustOf (k_X8_gustOf _ _) w1401 w1403 wp53 dX8_blows_10 (Nat.le_of_ble_eq_true rfl) (Nat.le_of_ble_eq_true rfl) (Nat.le_of_ble_eq_true rfl) (Nat.ne_of_beq_eq_false rfl))) dX8_blows_13 rfl (Nat.le_of_ble_eq_true rfl) (Nat.ne_of_beq_eq_false rfl)) (Sv_loop0 NF (Cv_icmp_gt_n (Ev_iload_n dX8_blows_14 rfl) (Ev_call (Av_i (Av_i (Av_a (Av_nil) (Ev_aload_n dX8_blows_15 rfl)) (Ev_iload_n dX8_blows_16 rfl)) (Ev_iconst dX8_blows_17 (by decide))) (Rn_V (ci := 8) Fx8.1 rfl Y_X8_gustOf (k_X8_gustOf _ _) w1401 w1403 wp53 dX8_blows_18 (Nat.le_of_ble_eq_true rfl) (Nat.le_of_ble_eq_true rfl) (Nat.le_of_ble_eq_true rfl) (Nat.ne_of_beq_eq_false rfl))) (t := 243) dX8_blows_21 (by decide)) (Sv_goto (pE := 14) (Sv_seq (Sv_seq (Sv_istore (Ev_call (Av_i (Av_i (Av_a (Av_nil) (Ev_aload_n dX8_blows_24 rfl)) (Ev_iload_n dX8_blows_25 rfl)) (Ev_iload_n dX8_blows_26 rfl)) (Rn_V (ci := 8) Fx8.1 rfl Y_X8_had (k_X8_had _ _) w1255 w1257 wp37 dX8_blows_27 (Nat.le_of_ble_eq_true rfl) (Nat.le_of_ble_eq_true rfl) (Nat.le_of_ble_eq_true rfl) (Nat.ne_of_beq_eq_false rfl))) dX8_blows_30 (Nat.le_of_ble_eq_true rfl) (Nat.ne_of_beq_eq_false rfl)) (Sv_seq (Sv_istore (Ev_iload dX8_blows_32) dX8_blows_34 (Nat.le_of_ble_eq_true rfl) (Nat.ne_of_beq_eq_false rfl)) (Sv_seq (Sv_if (Cv_and (Cv_if_lt_n (Ev_iload dX8_blows_36) (t := 59) dX8_blows_38 (by decide)) (Cv_if_ne_n (Ev_call (Av_i (Av_i (Av_a (Av_nil) (Ev_aload_n dX8_blows_41 rfl)) (Ev_iload_n dX8_blows_42 rfl)) (Ev_iconst dX8_blows_43 (by decide))) (Rn_V (ci := 8) Fx8.1 rfl Y_X8_gustOf (k_X8_gustOf _ _) w1401 w1403 wp53 dX8_blows_44 (Nat.le_of_ble_eq_true rfl) (Nat.le_of_ble_eq_true rfl) (Nat.le_of_ble_eq_true rfl) (Nat.ne_of_beq_eq_false rfl))) (t := 59) dX8_blows_47 (by decide))) (Sv_goto (pE := 107) (Sv_istore (Ev_ior (Ev_iload dX8_blows_50) (Ev_iconst dX8_blows_52 (by decide)) dX8_blows_53) dX8_blows_54 (Nat.le_of_ble_eq_true rfl) (Nat.ne_of_beq_eq_false rfl)) dX8_blows_56 (by decide)) (Sv_if (Cv_and (Cv_if_lt_n (Ev_iload dX8_blows_59) (t := 99) dX8_blows_61 (by decide)) (Cv_icmp_ne_n (Ev_call (Av_i (Av_i (Av_a (Av_nil) (Ev_aload_n dX8_blows_64 rfl)) (Ev_iload_n dX8_blows_65 rfl)) (Ev_iconst dX8_blows_66 (by decide))) (Rn_V (ci := 8) Fx8.1 rfl Y_X8_gustOf (k_X8_gustOf _ _) w1401 w1403 wp53 dX8_blows_67 (Nat.le_of_ble_eq_true rfl) (Nat.le_of_ble_eq_true rfl) (Nat.le_of_ble_eq_true rfl) (Nat.ne_of_beq_eq_false rfl))) (Ev_iconst dX8_blows_70 (by decide)) (t := 99) dX8_blows_71 (by decide))) (Sv_goto (pE := 107) (Sv_istore (Ev_if (pT := 94) (Cv_icmp_ne_n (Ev_iand (Ev_iload dX8_blows_74) (Ev_bipush dX8_blows_76 (by decide)) dX8_blows_78) (Ev_bipush dX8_blows_79 (by decide)) (t := 92) dX8_blows_81 (by decide)) (Ev_isub (Ev_iload dX8_blows_84) (Ev_bipush dX8_blows_86 (by decide)) dX8_blows_88) dX8_blows_89 (by decide) (Ev_iload dX8_blows_92)) dX8_blows_94 (Nat.le_of_ble_eq_true rfl) (Nat.ne_of_beq_eq_false rfl)) dX8_blows_96 (by decide)) (Sv_if (Cv_if_lt_n (Ev_iload dX8_blows_99) (t := 107) dX8_blows_101 (by decide)) (Sv_istore (Ev_iconst dX8_blows_104 (by decide)) dX8_blows_105 (Nat.le_of_ble_eq_true rfl) (Nat.ne_of_beq_eq_false rfl)) Sv_nop))) (Sv_if (Cv_icmp_eq_n (Ev_iload dX8_blows_107) (Ev_iload dX8_blows_109) (t := 237) dX8_blows_111 (by decide)) (Sv_seq (Sv_istore (Ev_if (pT := 133) (Cv_icmp_ne_n (Ev_call (Av_i (Av_i (Av_a (Av_nil) (Ev_aload_n dX8_blows_114 rfl)) (Ev_iload_n dX8_blows_115 rfl)) (Ev_iconst dX8_blows_116 (by decide))) (Rn_V (ci := 8) Fx8.1 rfl Y_X8_gustOf (k_X8_gustOf _ _) w1401 w1403 wp53 dX8_blows_117 (Nat.le_of_ble_eq_true rfl) (Nat.le_of_ble_eq_true rfl) (Nat.le_of_ble_eq_true rfl) (Nat.ne_of_beq_eq_false rfl))) (Ev_iconst dX8_blows_120 (by decide)) (t := 132) dX8_blows_121 (by decide)) (Ev_call (Av_i (Av_nil) (Ev_iload dX8_blows_124)) (Rn_S Y_X8_ones (k_X8_ones _ _) w1307 w1308 dX8_blows_126 (Nat.le_of_ble_eq_true rfl) (Nat.le_of_ble_eq_true rfl) (Nat.le_of_ble_eq_true rfl) (Nat.ne_of_beq_eq_false rfl))) dX8_blows_129 (by decide) (Ev_iconst dX8_blows_132 (by decide))) dX8_blows_133 (Nat.le_of_ble_eq_true rfl) (Nat.ne_of_beq_eq_false rfl)) (Sv_seq (Sv_aop_iadd (Ev_getA Fx8 (Ev_aload_n dX8_blows_135 rfl) (k := 0) (by decide) w1143 dX8_blows_136) (Ev_iadd (Ev_iadd (Ev_bipush dX8_blows_139 (by decide)) (Ev_imul (Ev_bipush dX8_blows_141 (by decide)) (Ev_iload_n dX8_blows_143 rfl) dX8_blows_144) dX8_blows_145) (Ev_bipush dX8_blows_146 (by decide)) dX8_blows_148) dX8_blows_149 dX8_blows_150 (Ev_iload dX8_blows_151) dX8_blows_153 dX8_blows_154) (Sv_seq (Sv_aop_iadd (Ev_getA Fx8 (Ev_aload_n dX8_blows_155 rfl) (k := 0) (by decide) w1143 dX8_blows_156) (Ev_bipush dX8_blows_159 (by decide)) dX8_blows_161 dX8_blows_162 (Ev_if (pT := 177) (Cv_if_ne_n (Ev_call (Av_i (Av_i (Av_a (Av_nil) (Ev_aload_n dX8_blows_163 rfl)) (Ev_iload_n dX8_blows_164 rfl)) (Ev_iconst dX8_blows_165 (by decide))) (Rn_V (ci := 8) Fx8.1 rfl Y_X8_gustOf (k_X8_gustOf _ _) w1401 w1403 wp53 dX8_blows_166 (Nat.le_of_ble_eq_true rfl) (Nat.le_of_ble_eq_true rfl) (Nat.le_of_ble_eq_true rfl) (Nat.ne_of_beq_eq_false rfl))) (t := 176) dX8_blows_169 (by decide)) (Ev_iconst dX8_blows_172 (by decide)) dX8_blows_173 (by decide) (Ev_iconst dX8_blows_176 (by decide))) dX8_blows_177 dX8_blows_178) (Sv_seq (Sv_aop_iadd (Ev_getA Fx8 (Ev_aload_n dX8_blows_179 rfl) (k := 0) (by decide) w1143 dX8_blows_180) (Ev_bipush dX8_blows_183 (by decide)) dX8_blows_185 dX8_blows_186 (Ev_if (pT := 203) (Cv_icmp_ne_n (Ev_call (Av_i (Av_i (Av_a (Av_nil) (Ev_aload_n dX8_blows_187 rfl)) (Ev_iload_n dX8_blows_188 rfl)) (Ev_iconst dX8_blows_189 (by decide))) (Rn_V (ci := 8) Fx8.1 rfl Y_X8_gustOf (k_X8_gustOf _ _) w1401 w1403 wp53 dX8_blows_190 (Nat.le_of_ble_eq_true rfl) (Nat.le_of_ble_eq_true rfl) (Nat.le_of_ble_eq_true rfl) (Nat.ne_of_beq_eq_false rfl))) (Ev_iconst dX8_blows_193 (by decide)) (t := 202) dX8_blows_194 (by decide)) (Ev_iload dX8_blows_197) dX8_blows_199 (by decide) (Ev_iconst dX8_blows_202 (by decide))) dX8_blows_203 dX8_blows_204) (Sv_seq (Sv_call (Av_i (Av_i (Av_i (Av_a (Av_nil) (Ev_aload_n dX8_blows_205 rfl)) (Ev_iconst dX8_blows_206 (by decide))) (Ev_iload dX8_blows_207)) (Ev_iconst dX8_blows_209 (by decide))) (Rn_V (ci := 8) Fx8.1 rfl Y_X8_books (k_X8_books _ _) w1290 w1292 wp41 dX8_blows_210 (Nat.le_of_ble_eq_true rfl) (Nat.le_of_ble_eq_true rfl) (Nat.le_of_ble_eq_true rfl) (Nat.ne_of_beq_eq_false rfl))) (Sv_seq (Sv_call (Av_i (Av_i (Av_i (Av_a (Av_nil) (Ev_aload_n dX8_blows_213 rfl)) (Ev_iconst dX8_blows_214 (by decide))) (Ev_iload dX8_blows_215)) (Ev_iconst dX8_blows_217 (by decide))) (Rn_V (ci := 8) Fx8.1 rfl Y_X8_books (k_X8_books _ _) w1290 w1292 wp41 dX8_blows_218 (Nat.le_of_ble_eq_true rfl) (Nat.le_of_ble_eq_true rfl) (Nat.le_of_ble_eq_true rfl) (Nat.ne_of_beq_eq_false rfl))) (Sv_iastore (Ev_getA Fx8 (Ev_aload_n dX8_blows_221 rfl) (k := 0) (by decide) w1143 dX8_blows_222) (Ev_iadd (Ev_sipush dX8_blows_225 (by decide)) (Ev_call (Av_i (Av_i (Av_nil) (Ev_iload_n dX8_blows_228 rfl)) (Ev_iload_n dX8_blows_229 rfl)) (Rn_S Y_X8_place (k_X8_place _ _) w1259 w1260 dX8_blows_230 (Nat.le_of_ble_eq_true rfl) (Nat.le_of_ble_eq_true rfl) (Nat.le_of_ble_eq_true rfl) (Nat.ne_of_beq_eq_false rfl))) dX8_blows_233) (Ev_iload dX8_blows_234) dX8_blows_236))))))) Sv_nop)))) (Sv_iinc dX8_blows_237 (by decide) (Nat.le_of_ble_eq_true rfl) (Nat.ne_of_beq_eq_false rfl))) dX8_blows_240 (by decide))))) (Sv_retv hr dX8_blows_243), Nat.le_of_ble_eq_true rfl, Nat.le_of_ble_eq_true rfl⟩)
theorem dX8_type_0 : decode cX8_type 0 = .ok (.iload_n 1, 1) := by decide +kernel
theorem dX8_type_1 : decode cX8_type 1 = .ok (.bipush 33, 2) := by decide +kernel
theorem dX8_type_3 : decode cX8_type 3 = .ok (.bipush 126, 2) := by decide +kernel
theorem dX8_type_5 : decode cX8_type 5 = .ok (.invokestatic 65, 3) := by decide +kernel
theorem dX8_type_8 : decode cX8_type 8 = .ok (.ifCond .ne 9, 3) := by decide +kernel
theorem dX8_type_11 : decode cX8_type 11 = .ok (.aload_n 0, 1) := by decide +kernel
theorem dX8_type_12 : decode cX8_type 12 = .ok (.iconst 1, 1) := by decide +kernel
theorem dX8_type_13 : decode cX8_type 13 = .ok (.invokevirtual 89, 3) := by decide +kernel
theorem dX8_type_16 : decode cX8_type 16 = .ok (.ireturn, 1) := by decide +kernel
theorem dX8_type_17 : decode cX8_type 17 = .ok (.aload_n 0, 1) := by decide +kernel
theorem dX8_type_18 : decode cX8_type 18 = .ok (.getfield 137, 3) := by decide +kernel
theorem dX8_type_21 : decode cX8_type 21 = .ok (.bipush 80, 2) := by decide +kernel
theorem dX8_type_23 : decode cX8_type 23 = .ok (.if_icmp .ne 9, 3) := by decide +kernel
theorem dX8_type_26 : decode cX8_type 26 = .ok (.aload_n 0, 1) := by decide +kernel
theorem dX8_type_27 : decode cX8_type 27 = .ok (.iconst 2, 1) := by decide +kernel
theorem dX8_type_28 : decode cX8_type 28 = .ok (.invokevirtual 89, 3) := by decide +kernel
theorem dX8_type_31 : decode cX8_type 31 = .ok (.ireturn, 1) := by decide +kernel
theorem dX8_type_32 : decode cX8_type 32 = .ok (.aload_n 0, 1) := by decide +kernel
theorem dX8_type_33 : decode cX8_type 33 = .ok (.getfield 38, 3) := by decide +kernel
theorem dX8_type_36 : decode cX8_type 36 = .ok (.aload_n 0, 1) := by decide +kernel
theorem dX8_type_37 : decode cX8_type 37 = .ok (.getfield 137, 3) := by decide +kernel
theorem dX8_type_40 : decode cX8_type 40 = .ok (.iload_n 1, 1) := by decide +kernel
theorem dX8_type_41 : decode cX8_type 41 = .ok (.iastore, 1) := by decide +kernel
theorem dX8_type_42 : decode cX8_type 42 = .ok (.aload_n 0, 1) := by decide +kernel
theorem dX8_type_43 : decode cX8_type 43 = .ok (.dup, 1) := by decide +kernel
theorem dX8_type_44 : decode cX8_type 44 = .ok (.getfield 137, 3) := by decide +kernel
theorem dX8_type_47 : decode cX8_type 47 = .ok (.iconst 1, 1) := by decide +kernel
theorem dX8_type_48 : decode cX8_type 48 = .ok (.iadd, 1) := by decide +kernel
theorem dX8_type_49 : decode cX8_type 49 = .ok (.putfield 137, 3) := by decide +kernel
theorem dX8_type_52 : decode cX8_type 52 = .ok (.aload_n 0, 1) := by decide +kernel
theorem dX8_type_53 : decode cX8_type 53 = .ok (.aload_n 0, 1) := by decide +kernel
theorem dX8_type_54 : decode cX8_type 54 = .ok (.getfield 137, 3) := by decide +kernel
theorem dX8_type_57 : decode cX8_type 57 = .ok (.invokevirtual 61, 3) := by decide +kernel
theorem dX8_type_60 : decode cX8_type 60 = .ok (.ireturn, 1) := by decide +kernel
def f_X8_type : MX := mth 2 (sQ (sIf (cNot (cZ z_ne (eM (f_X8_in) (aI (aI (aI (aN) (eLi 1)) (eI (33))) (eI (126)))))) (sR (eM (gd 8 f_X8_fails) (aI (aA (aN) (eLa 0)) (eI (1))))) sN) (sQ (sIf (cB c_eq (eGi (eLa 0) 8 12) (eI (80))) (sR (eM (gd 8 f_X8_fails) (aI (aA (aN) (eLa 0)) (eI (2))))) sN) (sQ (sAi 0 (eGa (eLa 0) 8 11) (eGi (eLa 0) 8 12) (eLi 1)) (sQ (sPo (eLa 0) 8 12 o_iadd (eI (1))) (sR (eM (gd 8 f_X8_tells) (aI (aA (aN) (eLa 0)) (eGi (eLa 0) 8 12))))))))
theorem Y_X8_type : Yk yX8_type cX8_type 2 (some .int) 1 := ⟨w1341, w16, by decide +kernel, by decide +kernel, by decide +kernel⟩
set_option maxRecDepth 20000 in
theorem k_X8_type (l : Launch) (g : GE) : MetX l g yX8_type cX8_type 2 (some .int) 2 ({ frames := 1, cells := 0, slots := 0, locals := 22 } : Room) f_X8_type := by
  unfold f_X8_type
  exact MetX.of (own := RX8) 100 0 rfl (by decide +kernel) (by decide) (fun p e s m args below meth c Fin ad0 hr hn => ⟨_, _, Sv_seq (Sv_if (Cv_not (Cv_if_ne_j (Ev_call (Av_i (Av_i (Av_i (Av_nil) (Ev_iload_n dX8_type_0 rfl)) (Ev_bipush dX8_type_1 (by decide))) (Ev_bipush dX8_type_3 (by decide))) (Rn_S Y_X8_in (k_X8_in _ _) w1209 w1210 dX8_type_5 (Nat.le_of_ble_eq_true rfl) (Nat.le_of_ble_eq_true rfl) (Nat.le_of_ble_eq_true rfl) (Nat.ne_of_beq_eq_false rfl))) (t := 17) dX8_type_8 (by decide))) (Sv_ret (Ev_call (Av_i (Av_a (Av_nil) (Ev_aload_n dX8_type_11 rfl)) (Ev_iconst dX8_type_12 (by decide))) (Rn_V (ci := 8) Fx8.1 rfl Y_X8_fails (k_X8_fails _ _) w1212 w1214 wp29 dX8_type_13 (Nat.le_of_ble_eq_true rfl) (Nat.le_of_ble_eq_true rfl) (Nat.le_of_ble_eq_true rfl) (Nat.ne_of_beq_eq_false rfl))) hr dX8_type_16) Sv_nop) (Sv_seq (Sv_if (Cv_icmp_ne_n (Ev_getI Fx8 (Ev_aload_n dX8_type_17 rfl) (k := 12) (by decide) w1155 dX8_type_18) (Ev_bipush dX8_type_21 (by decide)) (t := 32) dX8_type_23 (by decide)) (Sv_ret (Ev_call (Av_i (Av_a (Av_nil) (Ev_aload_n dX8_type_26 rfl)) (Ev_iconst dX8_type_27 (by decide))) (Rn_V (ci := 8) Fx8.1 rfl Y_X8_fails (k_X8_fails _ _) w1212 w1214 wp29 dX8_type_28 (Nat.le_of_ble_eq_true rfl) (Nat.le_of_ble_eq_true rfl) (Nat.le_of_ble_eq_true rfl) (Nat.ne_of_beq_eq_false rfl))) hr dX8_type_31) Sv_nop) (Sv_seq (Sv_iastore (Ev_getA Fx8 (Ev_aload_n dX8_type_32 rfl) (k := 11) (by decide) w1154 dX8_type_33) (Ev_getI Fx8 (Ev_aload_n dX8_type_36 rfl) (k := 12) (by decide) w1155 dX8_type_37) (Ev_iload_n dX8_type_40 rfl) dX8_type_41) (Sv_seq (Sv_fop_iadd (idx2 := 0) Fx8 (Ev_aload_n dX8_type_42 rfl) dX8_type_43 dX8_type_44 (Ev_iconst dX8_type_47 (by decide)) dX8_type_48 (k := 12) (by decide) rfl rfl w1155 dX8_type_49) (Sv_ret (Ev_call (Av_i (Av_a (Av_nil) (Ev_aload_n dX8_type_52 rfl)) (Ev_getI Fx8 (Ev_aload_n dX8_type_53 rfl) (k := 12) (by decide) w1155 dX8_type_54)) (Rn_V (ci := 8) Fx8.1 rfl Y_X8_tells (k_X8_tells _ _) w1228 w1230 wp33 dX8_type_57 (Nat.le_of_ble_eq_true rfl) (Nat.le_of_ble_eq_true rfl) (Nat.le_of_ble_eq_true rfl) (Nat.ne_of_beq_eq_false rfl))) hr dX8_type_60)))), Nat.le_of_ble_eq_true rfl, Nat.le_of_ble_eq_true rfl⟩)
theorem dX8_wipe_0 : decode cX8_wipe 0 = .ok (.aload_n 0, 1) := by decide +kernel
theorem dX8_wipe_1 : decode cX8_wipe 1 = .ok (.getfield 137, 3) := by decide +kernel
theorem dX8_wipe_4 : decode cX8_wipe 4 = .ok (.istore_n 1, 1) := by decide +kernel
theorem dX8_wipe_5 : decode cX8_wipe 5 = .ok (.aload_n 0, 1) := by decide +kernel
theorem dX8_wipe_6 : decode cX8_wipe 6 = .ok (.iconst 0, 1) := by decide +kernel
theorem dX8_wipe_7 : decode cX8_wipe 7 = .ok (.putfield 137, 3) := by decide +kernel
theorem dX8_wipe_10 : decode cX8_wipe 10 = .ok (.aload_n 0, 1) := by decide +kernel
theorem dX8_wipe_11 : decode cX8_wipe 11 = .ok (.iload_n 1, 1) := by decide +kernel
theorem dX8_wipe_12 : decode cX8_wipe 12 = .ok (.invokevirtual 61, 3) := by decide +kernel
theorem dX8_wipe_15 : decode cX8_wipe 15 = .ok (.ireturn, 1) := by decide +kernel
def f_X8_wipe : MX := mth 2 (sQ (sTi 1 (eGi (eLa 0) 8 12)) (sQ (sPi (eLa 0) 8 12 (eI (0))) (sR (eM (gd 8 f_X8_tells) (aI (aA (aN) (eLa 0)) (eLi 1))))))
theorem Y_X8_wipe : Yk yX8_wipe cX8_wipe 2 (some .int) 0 := ⟨w1345, w16, by decide +kernel, by decide +kernel, by decide +kernel⟩
set_option maxRecDepth 20000 in
theorem k_X8_wipe (l : Launch) (g : GE) : MetX l g yX8_wipe cX8_wipe 2 (some .int) 1 ({ frames := 1, cells := 0, slots := 0, locals := 21 } : Room) f_X8_wipe := by
  unfold f_X8_wipe
  exact MetX.of (own := RX8) 100 0 rfl (by decide +kernel) (by decide) (fun p e s m args below meth c Fin ad0 hr hn => ⟨_, _, Sv_seq (Sv_istore_n (Ev_getI Fx8 (Ev_aload_n dX8_wipe_0 rfl) (k := 12) (by decide) w1155 dX8_wipe_1) dX8_wipe_4 rfl (Nat.le_of_ble_eq_true rfl) (Nat.ne_of_beq_eq_false rfl)) (Sv_seq (Sv_putI Fx8 (Ev_aload_n dX8_wipe_5 rfl) (Ev_iconst dX8_wipe_6 (by decide)) (k := 12) (by decide) rfl rfl w1155 dX8_wipe_7) (Sv_ret (Ev_call (Av_i (Av_a (Av_nil) (Ev_aload_n dX8_wipe_10 rfl)) (Ev_iload_n dX8_wipe_11 rfl)) (Rn_V (ci := 8) Fx8.1 rfl Y_X8_tells (k_X8_tells _ _) w1228 w1230 wp33 dX8_wipe_12 (Nat.le_of_ble_eq_true rfl) (Nat.le_of_ble_eq_true rfl) (Nat.le_of_ble_eq_true rfl) (Nat.ne_of_beq_eq_false rfl))) hr dX8_wipe_15)), Nat.le_of_ble_eq_true rfl, Nat.le_of_ble_eq_true rfl⟩)
theorem dX8_padAt_0 : decode cX8_padAt 0 = .ok (.aload_n 0, 1) := by decide +kernel
theorem dX8_padAt_1 : decode cX8_padAt 1 = .ok (.getfield 143, 3) := by decide +kernel
theorem dX8_padAt_4 : decode cX8_padAt 4 = .ok (.aload_n 0, 1) := by decide +kernel
theorem dX8_padAt_5 : decode cX8_padAt 5 = .ok (.getfield 137, 3) := by decide +kernel
theorem dX8_padAt_8 : decode cX8_padAt 8 = .ok (.if_icmp .ge 15, 3) := by decide +kernel
theorem dX8_padAt_11 : decode cX8_padAt 11 = .ok (.aload_n 0, 1) := by decide +kernel
theorem dX8_padAt_12 : decode cX8_padAt 12 = .ok (.getfield 38, 3) := by decide +kernel
theorem dX8_padAt_15 : decode cX8_padAt 15 = .ok (.aload_n 0, 1) := by decide +kernel
theorem dX8_padAt_16 : decode cX8_padAt 16 = .ok (.getfield 143, 3) := by decide +kernel
theorem dX8_padAt_19 : decode cX8_padAt 19 = .ok (.iaload, 1) := by decide +kernel
theorem dX8_padAt_20 : decode cX8_padAt 20 = .ok (.goto 4, 3) := by decide +kernel
theorem dX8_padAt_23 : decode cX8_padAt 23 = .ok (.iconst (-1), 1) := by decide +kernel
theorem dX8_padAt_24 : decode cX8_padAt 24 = .ok (.ireturn, 1) := by decide +kernel
def f_X8_padAt : MX := mth 1 (sR (eIf (cB c_lt (eGi (eLa 0) 8 13) (eGi (eLa 0) 8 12)) (eAi 0 (eGa (eLa 0) 8 11) (eGi (eLa 0) 8 13)) (eI (-1))))
theorem Y_X8_padAt : Yk yX8_padAt cX8_padAt 1 (some .int) 0 := ⟨w1365, w16, by decide +kernel, by decide +kernel, by decide +kernel⟩
set_option maxRecDepth 20000 in
theorem k_X8_padAt (l : Launch) (g : GE) : MetX l g yX8_padAt cX8_padAt 1 (some .int) 1 ({ frames := 0, cells := 0, slots := 0, locals := 0 } : Room) f_X8_padAt := by
  unfold f_X8_padAt
  exact MetX.of (own := RX8) 100 0 rfl (by decide +kernel) (by decide) (fun p e s m args below meth c Fin ad0 hr hn => ⟨_, _, Sv_ret (Ev_if (pT := 24) (Cv_icmp_ge_n (Ev_getI Fx8 (Ev_aload_n dX8_padAt_0 rfl) (k := 13) (by decide) w1156 dX8_padAt_1) (Ev_getI Fx8 (Ev_aload_n dX8_padAt_4 rfl) (k := 12) (by decide) w1155 dX8_padAt_5) (t := 23) dX8_padAt_8 (by decide)) (Ev_iaload (Ev_getA Fx8 (Ev_aload_n dX8_padAt_11 rfl) (k := 11) (by decide) w1154 dX8_padAt_12) (Ev_getI Fx8 (Ev_aload_n dX8_padAt_15 rfl) (k := 13) (by decide) w1156 dX8_padAt_16) dX8_padAt_19) dX8_padAt_20 (by decide) (Ev_iconst dX8_padAt_23 (by decide))) hr dX8_padAt_24, Nat.le_of_ble_eq_true rfl, Nat.le_of_ble_eq_true rfl⟩)
theorem dX8_faults_0 : decode cX8_faults 0 = .ok (.aload_n 0, 1) := by decide +kernel
theorem dX8_faults_1 : decode cX8_faults 1 = .ok (.getfield 146, 3) := by decide +kernel
theorem dX8_faults_4 : decode cX8_faults 4 = .ok (.ifCond .ne 13, 3) := by decide +kernel
theorem dX8_faults_7 : decode cX8_faults 7 = .ok (.aload_n 0, 1) := by decide +kernel
theorem dX8_faults_8 : decode cX8_faults 8 = .ok (.iload_n 2, 1) := by decide +kernel
theorem dX8_faults_9 : decode cX8_faults 9 = .ok (.putfield 146, 3) := by decide +kernel
theorem dX8_faults_12 : decode cX8_faults 12 = .ok (.aload_n 0, 1) := by decide +kernel
theorem dX8_faults_13 : decode cX8_faults 13 = .ok (.iload_n 1, 1) := by decide +kernel
theorem dX8_faults_14 : decode cX8_faults 14 = .ok (.putfield 149, 3) := by decide +kernel
theorem dX8_faults_17 : decode cX8_faults 17 = .ok (.return_, 1) := by decide +kernel
def f_X8_faults : MX := mth 3 (sQ (sIf (cZ z_eq (eGi (eLa 0) 8 16)) (sQ (sPi (eLa 0) 8 16 (eLi 2)) (sPi (eLa 0) 8 15 (eLi 1))) sN) (sRv))
theorem Y_X8_faults : Yk yX8_faults cX8_faults 3 none 2 := ⟨w1373, w16, by decide +kernel, by decide +kernel, by decide +kernel⟩
set_option maxRecDepth 20000 in
theorem k_X8_faults (l : Launch) (g : GE) : MetX l g yX8_faults cX8_faults 3 none 3 ({ frames := 0, cells := 0, slots := 0, locals := 0 } : Room) f_X8_faults := by
  unfold f_X8_faults
  exact MetX.of (own := RX8) 100 0 rfl (by decide +kernel) (by decide) (fun p e s m args below meth c Fin ad0 hr hn => ⟨_, _, Sv_seq (Sv_if (Cv_if_ne_n (Ev_getI Fx8 (Ev_aload_n dX8_faults_0 rfl) (k := 16) (by decide) w1159 dX8_faults_1) (t := 17) dX8_faults_4 (by decide)) (Sv_seq (Sv_putI Fx8 (Ev_aload_n dX8_faults_7 rfl) (Ev_iload_n dX8_faults_8 rfl) (k := 16) (by decide) rfl rfl w1159 dX8_faults_9) (Sv_putI Fx8 (Ev_aload_n dX8_faults_12 rfl) (Ev_iload_n dX8_faults_13 rfl) (k := 15) (by decide) rfl rfl w1158 dX8_faults_14)) Sv_nop) (Sv_retv hr dX8_faults_17), Nat.le_of_ble_eq_true rfl, Nat.le_of_ble_eq_true rfl⟩)
theorem dX8_takes_0 : decode cX8_takes 0 = .ok (.aload_n 0, 1) := by decide +kernel
theorem dX8_takes_1 : decode cX8_takes 1 = .ok (.invokevirtual 152, 3) := by decide +kernel
theorem dX8_takes_4 : decode cX8_takes 4 = .ok (.iload_n 1, 1) := by decide +kernel
theorem dX8_takes_5 : decode cX8_takes 5 = .ok (.if_icmp .ne 7, 3) := by decide +kernel
theorem dX8_takes_8 : decode cX8_takes 8 = .ok (.iconst 1, 1) := by decide +kernel
theorem dX8_takes_9 : decode cX8_takes 9 = .ok (.goto 4, 3) := by decide +kernel
theorem dX8_takes_12 : decode cX8_takes 12 = .ok (.iconst 0, 1) := by decide +kernel
theorem dX8_takes_13 : decode cX8_takes 13 = .ok (.istore_n 2, 1) := by decide +kernel
theorem dX8_takes_14 : decode cX8_takes 14 = .ok (.aload_n 0, 1) := by decide +kernel
theorem dX8_takes_15 : decode cX8_takes 15 = .ok (.dup, 1) := by decide +kernel
theorem dX8_takes_16 : decode cX8_takes 16 = .ok (.getfield 143, 3) := by decide +kernel
theorem dX8_takes_19 : decode cX8_takes 19 = .ok (.iload_n 2, 1) := by decide +kernel
theorem dX8_takes_20 : decode cX8_takes 20 = .ok (.ifCond .eq 7, 3) := by decide +kernel
theorem dX8_takes_23 : decode cX8_takes 23 = .ok (.iconst 1, 1) := by decide +kernel
theorem dX8_takes_24 : decode cX8_takes 24 = .ok (.goto 4, 3) := by decide +kernel
theorem dX8_takes_27 : decode cX8_takes 27 = .ok (.iconst 0, 1) := by decide +kernel
theorem dX8_takes_28 : decode cX8_takes 28 = .ok (.iadd, 1) := by decide +kernel
theorem dX8_takes_29 : decode cX8_takes 29 = .ok (.putfield 143, 3) := by decide +kernel
theorem dX8_takes_32 : decode cX8_takes 32 = .ok (.iload_n 2, 1) := by decide +kernel
theorem dX8_takes_33 : decode cX8_takes 33 = .ok (.ireturn, 1) := by decide +kernel
def f_X8_takes : MX := mth 3 (sQ (sTi 2 (eC (cB c_eq (eM (gd 8 f_X8_padAt) (aA (aN) (eLa 0))) (eLi 1)))) (sQ (sPo (eLa 0) 8 13 o_iadd (eIf (cZ z_ne (eLi 2)) (eI (1)) (eI (0)))) (sRz (eLi 2))))
theorem Y_X8_takes : Yk yX8_takes cX8_takes 3 (some .boolean) 1 := ⟨w1361, w16, by decide +kernel, by decide +kernel, by decide +kernel⟩
set_option maxRecDepth 20000 in
theorem k_X8_takes (l : Launch) (g : GE) : MetX l g yX8_takes cX8_takes 3 (some .boolean) 2 ({ frames := 1, cells := 0, slots := 0, locals := 20 } : Room) f_X8_takes := by
  unfold f_X8_takes
  exact MetX.of (own := RX8) 100 0 rfl (by decide +kernel) (by decide) (fun p e s m args below meth c Fin ad0 hr hn => ⟨_, _, Sv_seq (Sv_istore_n (Ev_if (pT := 13) (Cv_icmp_ne_n (Ev_call (Av_a (Av_nil) (Ev_aload_n dX8_takes_0 rfl)) (Rn_V (ci := 8) Fx8.1 rfl Y_X8_padAt (k_X8_padAt _ _) w1362 w1364 wp47 dX8_takes_1 (Nat.le_of_ble_eq_true rfl) (Nat.le_of_ble_eq_true rfl) (Nat.le_of_ble_eq_true rfl) (Nat.ne_of_beq_eq_false rfl))) (Ev_iload_n dX8_takes_4 rfl) (t := 12) dX8_takes_5 (by decide)) (Ev_iconst dX8_takes_8 (by decide)) dX8_takes_9 (by decide) (Ev_iconst dX8_takes_12 (by decide))) dX8_takes_13 rfl (Nat.le_of_ble_eq_true rfl) (Nat.ne_of_beq_eq_false rfl)) (Sv_seq (Sv_fop_iadd (idx2 := 0) Fx8 (Ev_aload_n dX8_takes_14 rfl) dX8_takes_15 dX8_takes_16 (Ev_if (pT := 28) (Cv_if_eq_n (Ev_iload_n dX8_takes_19 rfl) (t := 27) dX8_takes_20 (by decide)) (Ev_iconst dX8_takes_23 (by decide)) dX8_takes_24 (by decide) (Ev_iconst dX8_takes_27 (by decide))) dX8_takes_28 (k := 13) (by decide) rfl rfl w1156 dX8_takes_29) (Sv_retz (Ev_iload_n dX8_takes_32 rfl) hr dX8_takes_33)), Nat.le_of_ble_eq_true rfl, Nat.le_of_ble_eq_true rfl⟩)
theorem dX8_state_0 : decode cX8_state 0 = .ok (.iconst 0, 1) := by decide +kernel
theorem dX8_state_1 : decode cX8_state 1 = .ok (.istore_n 1, 1) := by decide +kernel
theorem dX8_state_2 : decode cX8_state 2 = .ok (.bipush 48, 2) := by decide +kernel
theorem dX8_state_4 : decode cX8_state 4 = .ok (.istore_n 2, 1) := by decide +kernel
theorem dX8_state_5 : decode cX8_state 5 = .ok (.aload_n 0, 1) := by decide +kernel
theorem dX8_state_6 : decode cX8_state 6 = .ok (.invokevirtual 152, 3) := by decide +kernel
theorem dX8_state_9 : decode cX8_state 9 = .ok (.iload_n 2, 1) := by decide +kernel
theorem dX8_state_10 : decode cX8_state 10 = .ok (.bipush 53, 2) := by decide +kernel
theorem dX8_state_12 : decode cX8_state 12 = .ok (.invokestatic 65, 3) := by decide +kernel
theorem dX8_state_15 : decode cX8_state 15 = .ok (.ifCond .eq 35, 3) := by decide +kernel
theorem dX8_state_18 : decode cX8_state 18 = .ok (.iload_n 1, 1) := by decide +kernel
theorem dX8_state_19 : decode cX8_state 19 = .ok (.iconst 1, 1) := by decide +kernel
theorem dX8_state_20 : decode cX8_state 20 = .ok (.aload_n 0, 1) := by decide +kernel
theorem dX8_state_21 : decode cX8_state 21 = .ok (.invokevirtual 152, 3) := by decide +kernel
theorem dX8_state_24 : decode cX8_state 24 = .ok (.bipush 48, 2) := by decide +kernel
theorem dX8_state_26 : decode cX8_state 26 = .ok (.isub, 1) := by decide +kernel
theorem dX8_state_27 : decode cX8_state 27 = .ok (.ishl, 1) := by decide +kernel
theorem dX8_state_28 : decode cX8_state 28 = .ok (.ior, 1) := by decide +kernel
theorem dX8_state_29 : decode cX8_state 29 = .ok (.istore_n 1, 1) := by decide +kernel
theorem dX8_state_30 : decode cX8_state 30 = .ok (.aload_n 0, 1) := by decide +kernel
theorem dX8_state_31 : decode cX8_state 31 = .ok (.invokevirtual 152, 3) := by decide +kernel
theorem dX8_state_34 : decode cX8_state 34 = .ok (.iconst 1, 1) := by decide +kernel
theorem dX8_state_35 : decode cX8_state 35 = .ok (.iadd, 1) := by decide +kernel
theorem dX8_state_36 : decode cX8_state 36 = .ok (.istore_n 2, 1) := by decide +kernel
theorem dX8_state_37 : decode cX8_state 37 = .ok (.aload_n 0, 1) := by decide +kernel
theorem dX8_state_38 : decode cX8_state 38 = .ok (.dup, 1) := by decide +kernel
theorem dX8_state_39 : decode cX8_state 39 = .ok (.getfield 143, 3) := by decide +kernel
theorem dX8_state_42 : decode cX8_state 42 = .ok (.iconst 1, 1) := by decide +kernel
theorem dX8_state_43 : decode cX8_state 43 = .ok (.iadd, 1) := by decide +kernel
theorem dX8_state_44 : decode cX8_state 44 = .ok (.putfield 143, 3) := by decide +kernel
theorem dX8_state_47 : decode cX8_state 47 = .ok (.goto (-42), 3) := by decide +kernel
theorem dX8_state_50 : decode cX8_state 50 = .ok (.iload_n 1, 1) := by decide +kernel
theorem dX8_state_51 : decode cX8_state 51 = .ok (.ifCond .ne 12, 3) := by decide +kernel
theorem dX8_state_54 : decode cX8_state 54 = .ok (.aload_n 0, 1) := by decide +kernel
theorem dX8_state_55 : decode cX8_state 55 = .ok (.aload_n 0, 1) := by decide +kernel
theorem dX8_state_56 : decode cX8_state 56 = .ok (.getfield 143, 3) := by decide +kernel
theorem dX8_state_59 : decode cX8_state 59 = .ok (.iconst 1, 1) := by decide +kernel
theorem dX8_state_60 : decode cX8_state 60 = .ok (.invokevirtual 156, 3) := by decide +kernel
theorem dX8_state_63 : decode cX8_state 63 = .ok (.iload_n 1, 1) := by decide +kernel
theorem dX8_state_64 : decode cX8_state 64 = .ok (.ireturn, 1) := by decide +kernel
def f_X8_state : MX := mth 3 (sQ (sTi 1 (eI (0))) (sQ (sTi 2 (eI (48))) (sQ (sLp (cZ z_ne (eM (f_X8_in) (aI (aI (aI (aN) (eM (gd 8 f_X8_padAt) (aA (aN) (eLa 0)))) (eLi 2)) (eI (53))))) (sQ (sTi 1 (eOp o_ior (eLi 1) (eOp o_ishl (eI (1)) (eOp o_isub (eM (gd 8 f_X8_padAt) (aA (aN) (eLa 0))) (eI (48)))))) (sQ (sTi 2 (eOp o_iadd (eM (gd 8 f_X8_padAt) (aA (aN) (eLa 0))) (eI (1)))) (sPo (eLa 0) 8 13 o_iadd (eI (1))))) NF) (sQ (sIf (cZ z_eq (eLi 1)) (sM (gd 8 f_X8_faults) (aI (aI (aA (aN) (eLa 0)) (eGi (eLa 0) 8 13)) (eI (1)))) sN) (sR (eLi 1))))))
theorem Y_X8_state : Yk yX8_state cX8_state 3 (some .int) 0 := ⟨w1369, w16, by decide +kernel, by decide +kernel, by decide +kernel⟩
set_option maxRecDepth 20000 in
theorem k_X8_state (l : Launch) (g : GE) : MetX l g yX8_state cX8_state 3 (some .int) 1 ({ frames := 1, cells := 0, slots := 0, locals := 22 } : Room) f_X8_state := by
  unfold f_X8_state
  exact MetX.of (own := RX8) 100 0 rfl (by decide +kernel) (by decide) (fun p e s m args below meth c Fin ad0 hr hn => ⟨_, _, Sv_seq (Sv_istore_n (Ev_iconst dX8_state_0 (by decide)) dX8_state_1 rfl (Nat.le_of_ble_eq_true rfl) (Nat.ne_of_beq_eq_false rfl)) (Sv_seq (Sv_istore_n (Ev_bipush dX8_state_2 (by decide)) dX8_state_4 rfl (Nat.le_of_ble_eq_true rfl) (Nat.ne_of_beq_eq_false rfl)) (Sv_seq (Sv_loop0 NF (Cv_if_eq_n (Ev_call (Av_i (Av_i (Av_i (Av_nil) (Ev_call (Av_a (Av_nil) (Ev_aload_n dX8_state_5 rfl)) (Rn_V (ci := 8) Fx8.1 rfl Y_X8_padAt (k_X8_padAt _ _) w1362 w1364 wp47 dX8_state_6 (Nat.le_of_ble_eq_true rfl) (Nat.le_of_ble_eq_true rfl) (Nat.le_of_ble_eq_true rfl) (Nat.ne_of_beq_eq_false rfl)))) (Ev_iload_n dX8_state_9 rfl)) (Ev_bipush dX8_state_10 (by decide))) (Rn_S Y_X8_in (k_X8_in _ _) w1209 w1210 dX8_state_12 (Nat.le_of_ble_eq_true rfl) (Nat.le_of_ble_eq_true rfl) (Nat.le_of_ble_eq_true rfl) (Nat.ne_of_beq_eq_false rfl))) (t := 50) dX8_state_15 (by decide)) (Sv_goto (pE := 5) (Sv_seq (Sv_istore_n (Ev_ior (Ev_iload_n dX8_state_18 rfl) (Ev_ishl (Ev_iconst dX8_state_19 (by decide)) (Ev_isub (Ev_call (Av_a (Av_nil) (Ev_aload_n dX8_state_20 rfl)) (Rn_V (ci := 8) Fx8.1 rfl Y_X8_padAt (k_X8_padAt _ _) w1362 w1364 wp47 dX8_state_21 (Nat.le_of_ble_eq_true rfl) (Nat.le_of_ble_eq_true rfl) (Nat.le_of_ble_eq_true rfl) (Nat.ne_of_beq_eq_false rfl))) (Ev_bipush dX8_state_24 (by decide)) dX8_state_26) dX8_state_27) dX8_state_28) dX8_state_29 rfl (Nat.le_of_ble_eq_true rfl) (Nat.ne_of_beq_eq_false rfl)) (Sv_seq (Sv_istore_n (Ev_iadd (Ev_call (Av_a (Av_nil) (Ev_aload_n dX8_state_30 rfl)) (Rn_V (ci := 8) Fx8.1 rfl Y_X8_padAt (k_X8_padAt _ _) w1362 w1364 wp47 dX8_state_31 (Nat.le_of_ble_eq_true rfl) (Nat.le_of_ble_eq_true rfl) (Nat.le_of_ble_eq_true rfl) (Nat.ne_of_beq_eq_false rfl))) (Ev_iconst dX8_state_34 (by decide)) dX8_state_35) dX8_state_36 rfl (Nat.le_of_ble_eq_true rfl) (Nat.ne_of_beq_eq_false rfl)) (Sv_fop_iadd (idx2 := 0) Fx8 (Ev_aload_n dX8_state_37 rfl) dX8_state_38 dX8_state_39 (Ev_iconst dX8_state_42 (by decide)) dX8_state_43 (k := 13) (by decide) rfl rfl w1156 dX8_state_44))) dX8_state_47 (by decide))) (Sv_seq (Sv_if (Cv_if_ne_n (Ev_iload_n dX8_state_50 rfl) (t := 63) dX8_state_51 (by decide)) (Sv_call (Av_i (Av_i (Av_a (Av_nil) (Ev_aload_n dX8_state_54 rfl)) (Ev_getI Fx8 (Ev_aload_n dX8_state_55 rfl) (k := 13) (by decide) w1156 dX8_state_56)) (Ev_iconst dX8_state_59 (by decide))) (Rn_V (ci := 8) Fx8.1 rfl Y_X8_faults (k_X8_faults _ _) w1370 w1372 wp49 dX8_state_60 (Nat.le_of_ble_eq_true rfl) (Nat.le_of_ble_eq_true rfl) (Nat.le_of_ble_eq_true rfl) (Nat.ne_of_beq_eq_false rfl))) Sv_nop) (Sv_ret (Ev_iload_n dX8_state_63 rfl) hr dX8_state_64)))), Nat.le_of_ble_eq_true rfl, Nat.le_of_ble_eq_true rfl⟩)
theorem dX8_isLike_0 : decode cX8_isLike 0 = .ok (.iload_n 0, 1) := by decide +kernel
theorem dX8_isLike_1 : decode cX8_isLike 1 = .ok (.invokestatic 124, 3) := by decide +kernel
theorem dX8_isLike_4 : decode cX8_isLike 4 = .ok (.iload_n 1, 1) := by decide +kernel
theorem dX8_isLike_5 : decode cX8_isLike 5 = .ok (.invokestatic 124, 3) := by decide +kernel
theorem dX8_isLike_8 : decode cX8_isLike 8 = .ok (.if_icmp .ne 33, 3) := by decide +kernel
theorem dX8_isLike_11 : decode cX8_isLike 11 = .ok (.iconst 0, 1) := by decide +kernel
theorem dX8_isLike_12 : decode cX8_isLike 12 = .ok (.iload_n 0, 1) := by decide +kernel
theorem dX8_isLike_13 : decode cX8_isLike 13 = .ok (.invokestatic 86, 3) := by decide +kernel
theorem dX8_isLike_16 : decode cX8_isLike 16 = .ok (.iconst 0, 1) := by decide +kernel
theorem dX8_isLike_17 : decode cX8_isLike 17 = .ok (.iload_n 1, 1) := by decide +kernel
theorem dX8_isLike_18 : decode cX8_isLike 18 = .ok (.invokestatic 86, 3) := by decide +kernel
theorem dX8_isLike_21 : decode cX8_isLike 21 = .ok (.if_icmp .ne 20, 3) := by decide +kernel
theorem dX8_isLike_24 : decode cX8_isLike 24 = .ok (.iconst 1, 1) := by decide +kernel
theorem dX8_isLike_25 : decode cX8_isLike 25 = .ok (.iload_n 0, 1) := by decide +kernel
theorem dX8_isLike_26 : decode cX8_isLike 26 = .ok (.invokestatic 86, 3) := by decide +kernel
theorem dX8_isLike_29 : decode cX8_isLike 29 = .ok (.iconst 1, 1) := by decide +kernel
theorem dX8_isLike_30 : decode cX8_isLike 30 = .ok (.iload_n 1, 1) := by decide +kernel
theorem dX8_isLike_31 : decode cX8_isLike 31 = .ok (.invokestatic 86, 3) := by decide +kernel
theorem dX8_isLike_34 : decode cX8_isLike 34 = .ok (.if_icmp .ne 7, 3) := by decide +kernel
theorem dX8_isLike_37 : decode cX8_isLike 37 = .ok (.iconst 1, 1) := by decide +kernel
theorem dX8_isLike_38 : decode cX8_isLike 38 = .ok (.goto 4, 3) := by decide +kernel
theorem dX8_isLike_41 : decode cX8_isLike 41 = .ok (.iconst 0, 1) := by decide +kernel
theorem dX8_isLike_42 : decode cX8_isLike 42 = .ok (.ireturn, 1) := by decide +kernel
def f_X8_isLike : MX := mth 2 (sRz (eC (cAnd (cAnd (cB c_eq (eM (f_X8_ones) (aI (aN) (eLi 0))) (eM (f_X8_ones) (aI (aN) (eLi 1)))) (cB c_eq (eM (f_X8_pushes) (aI (aI (aN) (eI (0))) (eLi 0))) (eM (f_X8_pushes) (aI (aI (aN) (eI (0))) (eLi 1))))) (cB c_eq (eM (f_X8_pushes) (aI (aI (aN) (eI (1))) (eLi 0))) (eM (f_X8_pushes) (aI (aI (aN) (eI (1))) (eLi 1)))))))
theorem Y_X8_isLike : Yk yX8_isLike cX8_isLike 2 (some .boolean) 2 := ⟨w1376, w16, by decide +kernel, by decide +kernel, by decide +kernel⟩
set_option maxRecDepth 20000 in
theorem k_X8_isLike (l : Launch) (g : GE) : MetX l g yX8_isLike cX8_isLike 2 (some .boolean) 2 ({ frames := 3, cells := 0, slots := 0, locals := 64 } : Room) f_X8_isLike := by
  unfold f_X8_isLike
  exact MetX.of (own := RX8) 100 0 rfl (by decide +kernel) (by decide) (fun p e s m args below meth c Fin ad0 hr hn => ⟨_, _, Sv_retz (Ev_if (pT := 42) (Cv_and (Cv_and (Cv_icmp_ne_n (Ev_call (Av_i (Av_nil) (Ev_iload_n dX8_isLike_0 rfl)) (Rn_S Y_X8_ones (k_X8_ones _ _) w1307 w1308 dX8_isLike_1 (Nat.le_of_ble_eq_true rfl) (Nat.le_of_ble_eq_true rfl) (Nat.le_of_ble_eq_true rfl) (Nat.ne_of_beq_eq_false rfl))) (Ev_call (Av_i (Av_nil) (Ev_iload_n dX8_isLike_4 rfl)) (Rn_S Y_X8_ones (k_X8_ones _ _) w1307 w1308 dX8_isLike_5 (Nat.le_of_ble_eq_true rfl) (Nat.le_of_ble_eq_true rfl) (Nat.le_of_ble_eq_true rfl) (Nat.ne_of_beq_eq_false rfl))) (t := 41) dX8_isLike_8 (by decide)) (Cv_icmp_ne_n (Ev_call (Av_i (Av_i (Av_nil) (Ev_iconst dX8_isLike_11 (by decide))) (Ev_iload_n dX8_isLike_12 rfl)) (Rn_S Y_X8_pushes (k_X8_pushes _ _) w1294 w1295 dX8_isLike_13 (Nat.le_of_ble_eq_true rfl) (Nat.le_of_ble_eq_true rfl) (Nat.le_of_ble_eq_true rfl) (Nat.ne_of_beq_eq_false rfl))) (Ev_call (Av_i (Av_i (Av_nil) (Ev_iconst dX8_isLike_16 (by decide))) (Ev_iload_n dX8_isLike_17 rfl)) (Rn_S Y_X8_pushes (k_X8_pushes _ _) w1294 w1295 dX8_isLike_18 (Nat.le_of_ble_eq_true rfl) (Nat.le_of_ble_eq_true rfl) (Nat.le_of_ble_eq_true rfl) (Nat.ne_of_beq_eq_false rfl))) (t := 41) dX8_isLike_21 (by decide))) (Cv_icmp_ne_n (Ev_call (Av_i (Av_i (Av_nil) (Ev_iconst dX8_isLike_24 (by decide))) (Ev_iload_n dX8_isLike_25 rfl)) (Rn_S Y_X8_pushes (k_X8_pushes _ _) w1294 w1295 dX8_isLike_26 (Nat.le_of_ble_eq_true rfl) (Nat.le_of_ble_eq_true rfl) (Nat.le_of_ble_eq_true rfl) (Nat.ne_of_beq_eq_false rfl))) (Ev_call (Av_i (Av_i (Av_nil) (Ev_iconst dX8_isLike_29 (by decide))) (Ev_iload_n dX8_isLike_30 rfl)) (Rn_S Y_X8_pushes (k_X8_pushes _ _) w1294 w1295 dX8_isLike_31 (Nat.le_of_ble_eq_true rfl) (Nat.le_of_ble_eq_true rfl) (Nat.le_of_ble_eq_true rfl) (Nat.ne_of_beq_eq_false rfl))) (t := 41) dX8_isLike_34 (by decide))) (Ev_iconst dX8_isLike_37 (by decide)) dX8_isLike_38 (by decide) (Ev_iconst dX8_isLike_41 (by decide))) hr dX8_isLike_42, Nat.le_of_ble_eq_true rfl, Nat.le_of_ble_eq_true rfl⟩)
theorem dX8_reads_0 : decode cX8_reads 0 = .ok (.aload_n 0, 1) := by decide +kernel
theorem dX8_reads_1 : decode cX8_reads 1 = .ok (.getfield 143, 3) := by decide +kernel
theorem dX8_reads_4 : decode cX8_reads 4 = .ok (.istore_n 1, 1) := by decide +kernel
theorem dX8_reads_5 : decode cX8_reads 5 = .ok (.aload_n 0, 1) := by decide +kernel
theorem dX8_reads_6 : decode cX8_reads 6 = .ok (.bipush 42, 2) := by decide +kernel
theorem dX8_reads_8 : decode cX8_reads 8 = .ok (.invokevirtual 160, 3) := by decide +kernel
theorem dX8_reads_11 : decode cX8_reads 11 = .ok (.ifCond .eq 8, 3) := by decide +kernel
theorem dX8_reads_14 : decode cX8_reads 14 = .ok (.bipush 6, 2) := by decide +kernel
theorem dX8_reads_16 : decode cX8_reads 16 = .ok (.goto 4, 3) := by decide +kernel
theorem dX8_reads_19 : decode cX8_reads 19 = .ok (.iconst 1, 1) := by decide +kernel
theorem dX8_reads_20 : decode cX8_reads 20 = .ok (.istore_n 2, 1) := by decide +kernel
theorem dX8_reads_21 : decode cX8_reads 21 = .ok (.aload_n 0, 1) := by decide +kernel
theorem dX8_reads_22 : decode cX8_reads 22 = .ok (.invokevirtual 163, 3) := by decide +kernel
theorem dX8_reads_25 : decode cX8_reads 25 = .ok (.istore_n 3, 1) := by decide +kernel
theorem dX8_reads_26 : decode cX8_reads 26 = .ok (.aload_n 0, 1) := by decide +kernel
theorem dX8_reads_27 : decode cX8_reads 27 = .ok (.bipush 62, 2) := by decide +kernel
theorem dX8_reads_29 : decode cX8_reads 29 = .ok (.invokevirtual 160, 3) := by decide +kernel
theorem dX8_reads_32 : decode cX8_reads 32 = .ok (.ifCond .ne 12, 3) := by decide +kernel
theorem dX8_reads_35 : decode cX8_reads 35 = .ok (.aload_n 0, 1) := by decide +kernel
theorem dX8_reads_36 : decode cX8_reads 36 = .ok (.aload_n 0, 1) := by decide +kernel
theorem dX8_reads_37 : decode cX8_reads 37 = .ok (.getfield 143, 3) := by decide +kernel
theorem dX8_reads_40 : decode cX8_reads 40 = .ok (.iconst 1, 1) := by decide +kernel
theorem dX8_reads_41 : decode cX8_reads 41 = .ok (.invokevirtual 156, 3) := by decide +kernel
theorem dX8_reads_44 : decode cX8_reads 44 = .ok (.aload_n 0, 1) := by decide +kernel
theorem dX8_reads_45 : decode cX8_reads 45 = .ok (.getfield 143, 3) := by decide +kernel
theorem dX8_reads_48 : decode cX8_reads 48 = .ok (.istore 4, 2) := by decide +kernel
theorem dX8_reads_50 : decode cX8_reads 50 = .ok (.aload_n 0, 1) := by decide +kernel
theorem dX8_reads_51 : decode cX8_reads 51 = .ok (.getfield 146, 3) := by decide +kernel
theorem dX8_reads_54 : decode cX8_reads 54 = .ok (.ifCond .ne 10, 3) := by decide +kernel
theorem dX8_reads_57 : decode cX8_reads 57 = .ok (.aload_n 0, 1) := by decide +kernel
theorem dX8_reads_58 : decode cX8_reads 58 = .ok (.invokevirtual 163, 3) := by decide +kernel
theorem dX8_reads_61 : decode cX8_reads 61 = .ok (.goto 4, 3) := by decide +kernel
theorem dX8_reads_64 : decode cX8_reads 64 = .ok (.iconst 0, 1) := by decide +kernel
theorem dX8_reads_65 : decode cX8_reads 65 = .ok (.istore 5, 2) := by decide +kernel
theorem dX8_reads_67 : decode cX8_reads 67 = .ok (.iload 4, 2) := by decide +kernel
theorem dX8_reads_69 : decode cX8_reads 69 = .ok (.istore 6, 2) := by decide +kernel
theorem dX8_reads_71 : decode cX8_reads 71 = .ok (.iload 5, 2) := by decide +kernel
theorem dX8_reads_73 : decode cX8_reads 73 = .ok (.istore 7, 2) := by decide +kernel
theorem dX8_reads_75 : decode cX8_reads 75 = .ok (.aload_n 0, 1) := by decide +kernel
theorem dX8_reads_76 : decode cX8_reads 76 = .ok (.getfield 146, 3) := by decide +kernel
theorem dX8_reads_79 : decode cX8_reads 79 = .ok (.ifCond .ne 24, 3) := by decide +kernel
theorem dX8_reads_82 : decode cX8_reads 82 = .ok (.aload_n 0, 1) := by decide +kernel
theorem dX8_reads_83 : decode cX8_reads 83 = .ok (.bipush 124, 2) := by decide +kernel
theorem dX8_reads_85 : decode cX8_reads 85 = .ok (.invokevirtual 160, 3) := by decide +kernel
theorem dX8_reads_88 : decode cX8_reads 88 = .ok (.ifCond .eq 15, 3) := by decide +kernel
theorem dX8_reads_91 : decode cX8_reads 91 = .ok (.aload_n 0, 1) := by decide +kernel
theorem dX8_reads_92 : decode cX8_reads 92 = .ok (.getfield 143, 3) := by decide +kernel
theorem dX8_reads_95 : decode cX8_reads 95 = .ok (.istore 6, 2) := by decide +kernel
theorem dX8_reads_97 : decode cX8_reads 97 = .ok (.aload_n 0, 1) := by decide +kernel
theorem dX8_reads_98 : decode cX8_reads 98 = .ok (.invokevirtual 163, 3) := by decide +kernel
theorem dX8_reads_101 : decode cX8_reads 101 = .ok (.istore 7, 2) := by decide +kernel
theorem dX8_reads_103 : decode cX8_reads 103 = .ok (.aload_n 0, 1) := by decide +kernel
theorem dX8_reads_104 : decode cX8_reads 104 = .ok (.getfield 143, 3) := by decide +kernel
theorem dX8_reads_107 : decode cX8_reads 107 = .ok (.aload_n 0, 1) := by decide +kernel
theorem dX8_reads_108 : decode cX8_reads 108 = .ok (.getfield 137, 3) := by decide +kernel
theorem dX8_reads_111 : decode cX8_reads 111 = .ok (.if_icmp .ge 21, 3) := by decide +kernel
theorem dX8_reads_114 : decode cX8_reads 114 = .ok (.aload_n 0, 1) := by decide +kernel
theorem dX8_reads_115 : decode cX8_reads 115 = .ok (.invokevirtual 152, 3) := by decide +kernel
theorem dX8_reads_118 : decode cX8_reads 118 = .ok (.bipush 59, 2) := by decide +kernel
theorem dX8_reads_120 : decode cX8_reads 120 = .ok (.if_icmp .eq 12, 3) := by decide +kernel
theorem dX8_reads_123 : decode cX8_reads 123 = .ok (.aload_n 0, 1) := by decide +kernel
theorem dX8_reads_124 : decode cX8_reads 124 = .ok (.aload_n 0, 1) := by decide +kernel
theorem dX8_reads_125 : decode cX8_reads 125 = .ok (.getfield 143, 3) := by decide +kernel
theorem dX8_reads_128 : decode cX8_reads 128 = .ok (.iconst 1, 1) := by decide +kernel
theorem dX8_reads_129 : decode cX8_reads 129 = .ok (.invokevirtual 156, 3) := by decide +kernel
theorem dX8_reads_132 : decode cX8_reads 132 = .ok (.iconst 0, 1) := by decide +kernel
theorem dX8_reads_133 : decode cX8_reads 133 = .ok (.istore 8, 2) := by decide +kernel
theorem dX8_reads_135 : decode cX8_reads 135 = .ok (.iload 8, 2) := by decide +kernel
theorem dX8_reads_137 : decode cX8_reads 137 = .ok (.iload_n 2, 1) := by decide +kernel
theorem dX8_reads_138 : decode cX8_reads 138 = .ok (.if_icmp .ge 36, 3) := by decide +kernel
theorem dX8_reads_141 : decode cX8_reads 141 = .ok (.aload_n 0, 1) := by decide +kernel
theorem dX8_reads_142 : decode cX8_reads 142 = .ok (.getfield 146, 3) := by decide +kernel
theorem dX8_reads_145 : decode cX8_reads 145 = .ok (.ifCond .ne 29, 3) := by decide +kernel
theorem dX8_reads_148 : decode cX8_reads 148 = .ok (.aload_n 0, 1) := by decide +kernel
theorem dX8_reads_149 : decode cX8_reads 149 = .ok (.getfield 44, 3) := by decide +kernel
theorem dX8_reads_152 : decode cX8_reads 152 = .ok (.iload_n 3, 1) := by decide +kernel
theorem dX8_reads_153 : decode cX8_reads 153 = .ok (.iload 8, 2) := by decide +kernel
theorem dX8_reads_155 : decode cX8_reads 155 = .ok (.invokestatic 140, 3) := by decide +kernel
theorem dX8_reads_158 : decode cX8_reads 158 = .ok (.baload, 1) := by decide +kernel
theorem dX8_reads_159 : decode cX8_reads 159 = .ok (.ifCond .eq 9, 3) := by decide +kernel
theorem dX8_reads_162 : decode cX8_reads 162 = .ok (.aload_n 0, 1) := by decide +kernel
theorem dX8_reads_163 : decode cX8_reads 163 = .ok (.iload_n 1, 1) := by decide +kernel
theorem dX8_reads_164 : decode cX8_reads 164 = .ok (.iconst 2, 1) := by decide +kernel
theorem dX8_reads_165 : decode cX8_reads 165 = .ok (.invokevirtual 156, 3) := by decide +kernel
theorem dX8_reads_168 : decode cX8_reads 168 = .ok (.iinc 8 1, 3) := by decide +kernel
theorem dX8_reads_171 : decode cX8_reads 171 = .ok (.goto (-36), 3) := by decide +kernel
theorem dX8_reads_174 : decode cX8_reads 174 = .ok (.aload_n 0, 1) := by decide +kernel
theorem dX8_reads_175 : decode cX8_reads 175 = .ok (.getfield 146, 3) := by decide +kernel
theorem dX8_reads_178 : decode cX8_reads 178 = .ok (.ifCond .ne 19, 3) := by decide +kernel
theorem dX8_reads_181 : decode cX8_reads 181 = .ok (.iload_n 3, 1) := by decide +kernel
theorem dX8_reads_182 : decode cX8_reads 182 = .ok (.iload 5, 2) := by decide +kernel
theorem dX8_reads_184 : decode cX8_reads 184 = .ok (.invokestatic 166, 3) := by decide +kernel
theorem dX8_reads_187 : decode cX8_reads 187 = .ok (.ifCond .ne 10, 3) := by decide +kernel
theorem dX8_reads_190 : decode cX8_reads 190 = .ok (.aload_n 0, 1) := by decide +kernel
theorem dX8_reads_191 : decode cX8_reads 191 = .ok (.iload 4, 2) := by decide +kernel
theorem dX8_reads_193 : decode cX8_reads 193 = .ok (.iconst 3, 1) := by decide +kernel
theorem dX8_reads_194 : decode cX8_reads 194 = .ok (.invokevirtual 156, 3) := by decide +kernel
theorem dX8_reads_197 : decode cX8_reads 197 = .ok (.aload_n 0, 1) := by decide +kernel
theorem dX8_reads_198 : decode cX8_reads 198 = .ok (.getfield 146, 3) := by decide +kernel
theorem dX8_reads_201 : decode cX8_reads 201 = .ok (.ifCond .ne 19, 3) := by decide +kernel
theorem dX8_reads_204 : decode cX8_reads 204 = .ok (.iload_n 3, 1) := by decide +kernel
theorem dX8_reads_205 : decode cX8_reads 205 = .ok (.iload 7, 2) := by decide +kernel
theorem dX8_reads_207 : decode cX8_reads 207 = .ok (.invokestatic 166, 3) := by decide +kernel
theorem dX8_reads_210 : decode cX8_reads 210 = .ok (.ifCond .ne 10, 3) := by decide +kernel
theorem dX8_reads_213 : decode cX8_reads 213 = .ok (.aload_n 0, 1) := by decide +kernel
theorem dX8_reads_214 : decode cX8_reads 214 = .ok (.iload 6, 2) := by decide +kernel
theorem dX8_reads_216 : decode cX8_reads 216 = .ok (.iconst 3, 1) := by decide +kernel
theorem dX8_reads_217 : decode cX8_reads 217 = .ok (.invokevirtual 156, 3) := by decide +kernel
theorem dX8_reads_220 : decode cX8_reads 220 = .ok (.iconst 0, 1) := by decide +kernel
theorem dX8_reads_221 : decode cX8_reads 221 = .ok (.istore 8, 2) := by decide +kernel
theorem dX8_reads_223 : decode cX8_reads 223 = .ok (.iload 8, 2) := by decide +kernel
theorem dX8_reads_225 : decode cX8_reads 225 = .ok (.iload_n 2, 1) := by decide +kernel
theorem dX8_reads_226 : decode cX8_reads 226 = .ok (.if_icmp .ge 27, 3) := by decide +kernel
theorem dX8_reads_229 : decode cX8_reads 229 = .ok (.aload_n 0, 1) := by decide +kernel
theorem dX8_reads_230 : decode cX8_reads 230 = .ok (.getfield 146, 3) := by decide +kernel
theorem dX8_reads_233 : decode cX8_reads 233 = .ok (.ifCond .ne 20, 3) := by decide +kernel
theorem dX8_reads_236 : decode cX8_reads 236 = .ok (.aload_n 0, 1) := by decide +kernel
theorem dX8_reads_237 : decode cX8_reads 237 = .ok (.iload_n 3, 1) := by decide +kernel
theorem dX8_reads_238 : decode cX8_reads 238 = .ok (.iload 5, 2) := by decide +kernel
theorem dX8_reads_240 : decode cX8_reads 240 = .ok (.iload 7, 2) := by decide +kernel
theorem dX8_reads_242 : decode cX8_reads 242 = .ok (.iload 8, 2) := by decide +kernel
theorem dX8_reads_244 : decode cX8_reads 244 = .ok (.invokevirtual 50, 3) := by decide +kernel
theorem dX8_reads_247 : decode cX8_reads 247 = .ok (.iinc 8 1, 3) := by decide +kernel
theorem dX8_reads_250 : decode cX8_reads 250 = .ok (.goto (-27), 3) := by decide +kernel
theorem dX8_reads_253 : decode cX8_reads 253 = .ok (.return_, 1) := by decide +kernel
def f_X8_reads : MX := mth 9 (sQ (sQ (sTi 1 (eGi (eLa 0) 8 13)) (sQ (sTi 2 (eIf (cZ z_ne (eM (gd 8 f_X8_takes) (aI (aA (aN) (eLa 0)) (eI (42))))) (eI (6)) (eI (1)))) (sQ (sTi 3 (eM (gd 8 f_X8_state) (aA (aN) (eLa 0)))) (sQ (sIf (cNot (cZ z_ne (eM (gd 8 f_X8_takes) (aI (aA (aN) (eLa 0)) (eI (62)))))) (sM (gd 8 f_X8_faults) (aI (aI (aA (aN) (eLa 0)) (eGi (eLa 0) 8 13)) (eI (1)))) sN) (sQ (sTi 4 (eGi (eLa 0) 8 13)) (sQ (sTi 5 (eIf (cZ z_eq (eGi (eLa 0) 8 16)) (eM (gd 8 f_X8_state) (aA (aN) (eLa 0))) (eI (0)))) (sQ (sTi 6 (eLi 4)) (sQ (sTi 7 (eLi 5)) (sQ (sIf (cAnd (cZ z_eq (eGi (eLa 0) 8 16)) (cZ z_ne (eM (gd 8 f_X8_takes) (aI (aA (aN) (eLa 0)) (eI (124)))))) (sQ (sTi 6 (eGi (eLa 0) 8 13)) (sTi 7 (eM (gd 8 f_X8_state) (aA (aN) (eLa 0))))) sN) (sQ (sIf (cAnd (cB c_lt (eGi (eLa 0) 8 13) (eGi (eLa 0) 8 12)) (cB c_ne (eM (gd 8 f_X8_padAt) (aA (aN) (eLa 0))) (eI (59)))) (sM (gd 8 f_X8_faults) (aI (aI (aA (aN) (eLa 0)) (eGi (eLa 0) 8 13)) (eI (1)))) sN) (sQ (sQ (sTi 8 (eI (0))) (sLp (cAnd (cB c_lt (eLi 8) (eLi 2)) (cZ z_eq (eGi (eLa 0) 8 16))) (sQ (sIf (cZ z_ne (eAi 2 (eGa (eLa 0) 8 18) (eM (f_X8_turned) (aI (aI (aN) (eLi 3)) (eLi 8))))) (sM (gd 8 f_X8_faults) (aI (aI (aA (aN) (eLa 0)) (eLi 1)) (eI (2)))) sN) (sInc 8 (1))) NF)) (sQ (sIf (cAnd (cZ z_eq (eGi (eLa 0) 8 16)) (cNot (cZ z_ne (eM (f_X8_isLike) (aI (aI (aN) (eLi 3)) (eLi 5)))))) (sM (gd 8 f_X8_faults) (aI (aI (aA (aN) (eLa 0)) (eLi 4)) (eI (3)))) sN) (sQ (sIf (cAnd (cZ z_eq (eGi (eLa 0) 8 16)) (cNot (cZ z_ne (eM (f_X8_isLike) (aI (aI (aN) (eLi 3)) (eLi 7)))))) (sM (gd 8 f_X8_faults) (aI (aI (aA (aN) (eLa 0)) (eLi 6)) (eI (3)))) sN) (sQ (sTi 8 (eI (0))) (sLp (cAnd (cB c_lt (eLi 8) (eLi 2)) (cZ z_eq (eGi (eLa 0) 8 16))) (sQ (sM (gd 8 f_X8_names) (aI (aI (aI (aI (aA (aN) (eLa 0)) (eLi 3)) (eLi 5)) (eLi 7)) (eLi 8))) (sInc 8 (1))) NF))))))))))))))) (sRv))
theorem Y_X8_reads : Yk yX8_reads cX8_reads 9 none 0 := ⟨w1357, w16, by decide +kernel, by decide +kernel, by decide +kernel⟩
set_option maxRecDepth 20000 in
theorem k_X8_reads (l : Launch) (g : GE) : MetX l g yX8_reads cX8_reads 9 none 1 ({ frames := 4, cells := 0, slots := 0, locals := 85 } : Room) f_X8_reads := by
  unfold f_X8_reads
  exact MetX.of (own := RX8) 100 0 rfl (by decide +kernel) (by decide) (fun p e s m args below meth c Fin ad0 hr hn => ⟨_, _, Sv_seq (Sv_seq (Sv_istore_n (Ev_getI Fx8 (Ev_aload_n dX8_reads_0 rfl) (k := 13) (by decide) w1156 dX8_reads_1) dX8_reads_4 rfl (Nat.le_of_ble_eq_true rfl) (Nat.ne_of_beq_eq_false rfl)) (Sv_seq (Sv_istore_n (Ev_if (pT := 20) (Cv_if_eq_n (Ev_call (Av_i (Av_a (Av_nil) (Ev_aload_n dX8_reads_5 rfl)) (Ev_bipush dX8_reads_6 (by decide))) (Rn_V (ci := 8) Fx8.1 rfl Y_X8_takes (k_X8_takes _ _) w1358 w1360 wp46 dX8_reads_8 (Nat.le_of_ble_eq_true rfl) (Nat.le_of_ble_eq_true rfl) (Nat.le_of_ble_eq_true rfl) (Nat.ne_of_beq_eq_false rfl))) (t := 19) dX8_reads_11 (by decide)) (Ev_bipush dX8_reads_14 (by decide)) dX8_reads_16 (by decide) (Ev_iconst dX8_reads_19 (by decide))) dX8_reads_20 rfl (Nat.le_of_ble_eq_true rfl) (Nat.ne_of_beq_eq_false rfl)) (Sv_seq (Sv_istore_n (Ev_call (Av_a (Av_nil) (Ev_aload_n dX8_reads_21 rfl)) (Rn_V (ci := 8) Fx8.1 rfl Y_X8_state (k_X8_state _ _) w1366 w1368 wp48 dX8_reads_22 (Nat.le_of_ble_eq_true rfl) (Nat.le_of_ble_eq_true rfl) (Nat.le_of_ble_eq_true rfl) (Nat.ne_of_beq_eq_false rfl))) dX8_reads_25 rfl (Nat.le_of_ble_eq_true rfl) (Nat.ne_of_beq_eq_false rfl)) (Sv_seq (Sv_if (Cv_not (Cv_if_ne_j (Ev_call (Av_i (Av_a (Av_nil) (Ev_aload_n dX8_reads_26 rfl)) (Ev_bipush dX8_reads_27 (by decide))) (Rn_V (ci := 8) Fx8.1 rfl Y_X8_takes (k_X8_takes _ _) w1358 w1360 wp46 dX8_reads_29 (Nat.le_of_ble_eq_true rfl) (Nat.le_of_ble_eq_true rfl) (Nat.le_of_ble_eq_true rfl) (Nat.ne_of_beq_eq_false rfl))) (t := 44) dX8_reads_32 (by decide))) (Sv_call (Av_i (Av_i (Av_a (Av_nil) (Ev_aload_n dX8_reads_35 rfl)) (Ev_getI Fx8 (Ev_aload_n dX8_reads_36 rfl) (k := 13) (by decide) w1156 dX8_reads_37)) (Ev_iconst dX8_reads_40 (by decide))) (Rn_V (ci := 8) Fx8.1 rfl Y_X8_faults (k_X8_faults _ _) w1370 w1372 wp49 dX8_reads_41 (Nat.le_of_ble_eq_true rfl) (Nat.le_of_ble_eq_true rfl) (Nat.le_of_ble_eq_true rfl) (Nat.ne_of_beq_eq_false rfl))) Sv_nop) (Sv_seq (Sv_istore (Ev_getI Fx8 (Ev_aload_n dX8_reads_44 rfl) (k := 13) (by decide) w1156 dX8_reads_45) dX8_reads_48 (Nat.le_of_ble_eq_true rfl) (Nat.ne_of_beq_eq_false rfl)) (Sv_seq (Sv_istore (Ev_if (pT := 65) (Cv_if_ne_n (Ev_getI Fx8 (Ev_aload_n dX8_reads_50 rfl) (k := 16) (by decide) w1159 dX8_reads_51) (t := 64) dX8_reads_54 (by decide)) (Ev_call (Av_a (Av_nil) (Ev_aload_n dX8_reads_57 rfl)) (Rn_V (ci := 8) Fx8.1 rfl Y_X8_state (k_X8_state _ _) w1366 w1368 wp48 dX8_reads_58 (Nat.le_of_ble_eq_true rfl) (Nat.le_of_ble_eq_true rfl) (Nat.le_of_ble_eq_true rfl) (Nat.ne_of_beq_eq_false rfl))) dX8_reads_61 (by decide) (Ev_iconst dX8_reads_64 (by decide))) dX8_reads_65 (Nat.le_of_ble_eq_true rfl) (Nat.ne_of_beq_eq_false rfl)) (Sv_seq (Sv_istore (Ev_iload dX8_reads_67) dX8_reads_69 (Nat.le_of_ble_eq_true rfl) (Nat.ne_of_beq_eq_false rfl)) (Sv_seq (Sv_istore (Ev_iload dX8_reads_71) dX8_reads_73 (Nat.le_of_ble_eq_true rfl) (Nat.ne_of_beq_eq_false rfl)) (Sv_seq (Sv_if (Cv_and (Cv_if_ne_n (Ev_getI Fx8 (Ev_aload_n dX8_reads_75 rfl) (k := 16) (by decide) w1159 dX8_reads_76) (t := 103) dX8_reads_79 (by decide)) (Cv_if_eq_n (Ev_call (Av_i (Av_a (Av_nil) (Ev_aload_n dX8_reads_82 rfl)) (Ev_bipush dX8_reads_83 (by decide))) (Rn_V (ci := 8) Fx8.1 rfl Y_X8_takes (k_X8_takes _ _) w1358 w1360 wp46 dX8_reads_85 (Nat.le_of_ble_eq_true rfl) (Nat.le_of_ble_eq_true rfl) (Nat.le_of_ble_eq_true rfl) (Nat.ne_of_beq_eq_false rfl))) (t := 103) dX8_reads_88 (by decide))) (Sv_seq (Sv_istore (Ev_getI Fx8 (Ev_aload_n dX8_reads_91 rfl) (k := 13) (by decide) w1156 dX8_reads_92) dX8_reads_95 (Nat.le_of_ble_eq_true rfl) (Nat.ne_of_beq_eq_false rfl)) (Sv_istore (Ev_call (Av_a (Av_nil) (Ev_aload_n dX8_reads_97 rfl)) (Rn_V (ci := 8) Fx8.1 rfl Y_X8_state (k_X8_state _ _) w1366 w1368 wp48 dX8_reads_98 (Nat.le_of_ble_eq_true rfl) (Nat.le_of_ble_eq_true rfl) (Nat.le_of_ble_eq_true rfl) (Nat.ne_of_beq_eq_false rfl))) dX8_reads_101 (Nat.le_of_ble_eq_true rfl) (Nat.ne_of_beq_eq_false rfl))) Sv_nop) (Sv_seq (Sv_if (Cv_and (Cv_icmp_ge_n (Ev_getI Fx8 (Ev_aload_n dX8_reads_103 rfl) (k := 13) (by decide) w1156 dX8_reads_104) (Ev_getI Fx8 (Ev_aload_n dX8_reads_107 rfl) (k := 12) (by decide) w1155 dX8_reads_108) (t := 132) dX8_reads_111 (by decide)) (Cv_icmp_eq_n (Ev_call (Av_a (Av_nil) (Ev_aload_n dX8_reads_114 rfl)) (Rn_V (ci := 8) Fx8.1 rfl Y_X8_padAt (k_X8_padAt _ _) w1362 w1364 wp47 dX8_reads_115 (Nat.le_of_ble_eq_true rfl) (Nat.le_of_ble_eq_true rfl) (Nat.le_of_ble_eq_true rfl) (Nat.ne_of_beq_eq_false rfl))) (Ev_bipush dX8_reads_118 (by decide)) (t := 132) dX8_reads_120 (by decide))) (Sv_call (Av_i (Av_i (Av_a (Av_nil) (Ev_aload_n dX8_reads_123 rfl)) (Ev_getI Fx8 (Ev_aload_n dX8_reads_124 rfl) (k := 13) (by decide) w1156 dX8_reads_125)) (Ev_iconst dX8_reads_128 (by decide))) (Rn_V (ci := 8) Fx8.1 rfl Y_X8_faults (k_X8_faults _ _) w1370 w1372 wp49 dX8_reads_129 (Nat.le_of_ble_eq_true rfl) (Nat.le_of_ble_eq_true rfl) (Nat.le_of_ble_eq_true rfl) (Nat.ne_of_beq_eq_false rfl))) Sv_nop) (Sv_seq (Sv_seq (Sv_istore (Ev_iconst dX8_reads_132 (by decide)) dX8_reads_133 (Nat.le_of_ble_eq_true rfl) (Nat.ne_of_beq_eq_false rfl)) (Sv_loop0 NF (Cv_and (Cv_icmp_ge_n (Ev_iload dX8_reads_135) (Ev_iload_n dX8_reads_137 rfl) (t := 174) dX8_reads_138 (by decide)) (Cv_if_ne_n (Ev_getI Fx8 (Ev_aload_n dX8_reads_141 rfl) (k := 16) (by decide) w1159 dX8_reads_142) (t := 174) dX8_reads_145 (by decide))) (Sv_goto (pE := 135) (Sv_seq (Sv_if (Cv_if_eq_n (Ev_baload (Ev_getA Fx8 (Ev_aload_n dX8_reads_148 rfl) (k := 18) (by decide) w1161 dX8_reads_149) (Ev_call (Av_i (Av_i (Av_nil) (Ev_iload_n dX8_reads_152 rfl)) (Ev_iload dX8_reads_153)) (Rn_S Y_X8_turned (k_X8_turned _ _) w1140 w1141 dX8_reads_155 (Nat.le_of_ble_eq_true rfl) (Nat.le_of_ble_eq_true rfl) (Nat.le_of_ble_eq_true rfl) (Nat.ne_of_beq_eq_false rfl))) dX8_reads_158) (t := 168) dX8_reads_159 (by decide)) (Sv_call (Av_i (Av_i (Av_a (Av_nil) (Ev_aload_n dX8_reads_162 rfl)) (Ev_iload_n dX8_reads_163 rfl)) (Ev_iconst dX8_reads_164 (by decide))) (Rn_V (ci := 8) Fx8.1 rfl Y_X8_faults (k_X8_faults _ _) w1370 w1372 wp49 dX8_reads_165 (Nat.le_of_ble_eq_true rfl) (Nat.le_of_ble_eq_true rfl) (Nat.le_of_ble_eq_true rfl) (Nat.ne_of_beq_eq_false rfl))) Sv_nop) (Sv_iinc dX8_reads_168 (by decide) (Nat.le_of_ble_eq_true rfl) (Nat.ne_of_beq_eq_false rfl))) dX8_reads_171 (by decide)))) (Sv_seq (Sv_if (Cv_and (Cv_if_ne_n (Ev_getI Fx8 (Ev_aload_n dX8_reads_174 rfl) (k := 16) (by decide) w1159 dX8_reads_175) (t := 197) dX8_reads_178 (by decide)) (Cv_not (Cv_if_ne_j (Ev_call (Av_i (Av_i (Av_nil) (Ev_iload_n dX8_reads_181 rfl)) (Ev_iload dX8_reads_182)) (Rn_S Y_X8_isLike (k_X8_isLike _ _) w1374 w1375 dX8_reads_184 (Nat.le_of_ble_eq_true rfl) (Nat.le_of_ble_eq_true rfl) (Nat.le_of_ble_eq_true rfl) (Nat.ne_of_beq_eq_false rfl))) (t := 197) dX8_reads_187 (by decide)))) (Sv_call (Av_i (Av_i (Av_a (Av_nil) (Ev_aload_n dX8_reads_190 rfl)) (Ev_iload dX8_reads_191)) (Ev_iconst dX8_reads_193 (by decide))) (Rn_V (ci := 8) Fx8.1 rfl Y_X8_faults (k_X8_faults _ _) w1370 w1372 wp49 dX8_reads_194 (Nat.le_of_ble_eq_true rfl) (Nat.le_of_ble_eq_true rfl) (Nat.le_of_ble_eq_true rfl) (Nat.ne_of_beq_eq_false rfl))) Sv_nop) (Sv_seq (Sv_if (Cv_and (Cv_if_ne_n (Ev_getI Fx8 (Ev_aload_n dX8_reads_197 rfl) (k := 16) (by decide) w1159 dX8_reads_198) (t := 220) dX8_reads_201 (by decide)) (Cv_not (Cv_if_ne_j (Ev_call (Av_i (Av_i (Av_nil) (Ev_iload_n dX8_reads_204 rfl)) (Ev_iload dX8_reads_205)) (Rn_S Y_X8_isLike (k_X8_isLike _ _) w1374 w1375 dX8_reads_207 (Nat.le_of_ble_eq_true rfl) (Nat.le_of_ble_eq_true rfl) (Nat.le_of_ble_eq_true rfl) (Nat.ne_of_beq_eq_false rfl))) (t := 220) dX8_reads_210 (by decide)))) (Sv_call (Av_i (Av_i (Av_a (Av_nil) (Ev_aload_n dX8_reads_213 rfl)) (Ev_iload dX8_reads_214)) (Ev_iconst dX8_reads_216 (by decide))) (Rn_V (ci := 8) Fx8.1 rfl Y_X8_faults (k_X8_faults _ _) w1370 w1372 wp49 dX8_reads_217 (Nat.le_of_ble_eq_true rfl) (Nat.le_of_ble_eq_true rfl) (Nat.le_of_ble_eq_true rfl) (Nat.ne_of_beq_eq_false rfl))) Sv_nop) (Sv_seq (Sv_istore (Ev_iconst dX8_reads_220 (by decide)) dX8_reads_221 (Nat.le_of_ble_eq_true rfl) (Nat.ne_of_beq_eq_false rfl)) (Sv_loop0 NF (Cv_and (Cv_icmp_ge_n (Ev_iload dX8_reads_223) (Ev_iload_n dX8_reads_225 rfl) (t := 253) dX8_reads_226 (by decide)) (Cv_if_ne_n (Ev_getI Fx8 (Ev_aload_n dX8_reads_229 rfl) (k := 16) (by decide) w1159 dX8_reads_230) (t := 253) dX8_reads_233 (by decide))) (Sv_goto (pE := 223) (Sv_seq (Sv_call (Av_i (Av_i (Av_i (Av_i (Av_a (Av_nil) (Ev_aload_n dX8_reads_236 rfl)) (Ev_iload_n dX8_reads_237 rfl)) (Ev_iload dX8_reads_238)) (Ev_iload dX8_reads_240)) (Ev_iload dX8_reads_242)) (Rn_V (ci := 8) Fx8.1 rfl Y_X8_names (k_X8_names _ _) w1136 w1138 wp28 dX8_reads_244 (Nat.le_of_ble_eq_true rfl) (Nat.le_of_ble_eq_true rfl) (Nat.le_of_ble_eq_true rfl) (Nat.ne_of_beq_eq_false rfl))) (Sv_iinc dX8_reads_247 (by decide) (Nat.le_of_ble_eq_true rfl) (Nat.ne_of_beq_eq_false rfl))) dX8_reads_250 (by decide))))))))))))))))) (Sv_retv hr dX8_reads_253), Nat.le_of_ble_eq_true rfl, Nat.le_of_ble_eq_true rfl⟩)
theorem dX8_readsAll_0 : decode cX8_readsAll 0 = .ok (.aload_n 0, 1) := by decide +kernel
theorem dX8_readsAll_1 : decode cX8_readsAll 1 = .ok (.invokevirtual 47, 3) := by decide +kernel
theorem dX8_readsAll_4 : decode cX8_readsAll 4 = .ok (.aload_n 0, 1) := by decide +kernel
theorem dX8_readsAll_5 : decode cX8_readsAll 5 = .ok (.iconst 0, 1) := by decide +kernel
theorem dX8_readsAll_6 : decode cX8_readsAll 6 = .ok (.putfield 143, 3) := by decide +kernel
theorem dX8_readsAll_9 : decode cX8_readsAll 9 = .ok (.aload_n 0, 1) := by decide +kernel
theorem dX8_readsAll_10 : decode cX8_readsAll 10 = .ok (.iconst 0, 1) := by decide +kernel
theorem dX8_readsAll_11 : decode cX8_readsAll 11 = .ok (.putfield 169, 3) := by decide +kernel
theorem dX8_readsAll_14 : decode cX8_readsAll 14 = .ok (.aload_n 0, 1) := by decide +kernel
theorem dX8_readsAll_15 : decode cX8_readsAll 15 = .ok (.iconst 0, 1) := by decide +kernel
theorem dX8_readsAll_16 : decode cX8_readsAll 16 = .ok (.putfield 146, 3) := by decide +kernel
theorem dX8_readsAll_19 : decode cX8_readsAll 19 = .ok (.aload_n 0, 1) := by decide +kernel
theorem dX8_readsAll_20 : decode cX8_readsAll 20 = .ok (.iconst (-1), 1) := by decide +kernel
theorem dX8_readsAll_21 : decode cX8_readsAll 21 = .ok (.putfield 149, 3) := by decide +kernel
theorem dX8_readsAll_24 : decode cX8_readsAll 24 = .ok (.aload_n 0, 1) := by decide +kernel
theorem dX8_readsAll_25 : decode cX8_readsAll 25 = .ok (.getfield 137, 3) := by decide +kernel
theorem dX8_readsAll_28 : decode cX8_readsAll 28 = .ok (.ifCond .le 7, 3) := by decide +kernel
theorem dX8_readsAll_31 : decode cX8_readsAll 31 = .ok (.iconst 1, 1) := by decide +kernel
theorem dX8_readsAll_32 : decode cX8_readsAll 32 = .ok (.goto 4, 3) := by decide +kernel
theorem dX8_readsAll_35 : decode cX8_readsAll 35 = .ok (.iconst 0, 1) := by decide +kernel
theorem dX8_readsAll_36 : decode cX8_readsAll 36 = .ok (.istore_n 1, 1) := by decide +kernel
theorem dX8_readsAll_37 : decode cX8_readsAll 37 = .ok (.iload_n 1, 1) := by decide +kernel
theorem dX8_readsAll_38 : decode cX8_readsAll 38 = .ok (.ifCond .eq 61, 3) := by decide +kernel
theorem dX8_readsAll_41 : decode cX8_readsAll 41 = .ok (.aload_n 0, 1) := by decide +kernel
theorem dX8_readsAll_42 : decode cX8_readsAll 42 = .ok (.invokevirtual 172, 3) := by decide +kernel
theorem dX8_readsAll_45 : decode cX8_readsAll 45 = .ok (.aload_n 0, 1) := by decide +kernel
theorem dX8_readsAll_46 : decode cX8_readsAll 46 = .ok (.getfield 146, 3) := by decide +kernel
theorem dX8_readsAll_49 : decode cX8_readsAll 49 = .ok (.ifCond .ne 18, 3) := by decide +kernel
theorem dX8_readsAll_52 : decode cX8_readsAll 52 = .ok (.aload_n 0, 1) := by decide +kernel
theorem dX8_readsAll_53 : decode cX8_readsAll 53 = .ok (.getfield 143, 3) := by decide +kernel
theorem dX8_readsAll_56 : decode cX8_readsAll 56 = .ok (.aload_n 0, 1) := by decide +kernel
theorem dX8_readsAll_57 : decode cX8_readsAll 57 = .ok (.getfield 137, 3) := by decide +kernel
theorem dX8_readsAll_60 : decode cX8_readsAll 60 = .ok (.if_icmp .ge 7, 3) := by decide +kernel
theorem dX8_readsAll_63 : decode cX8_readsAll 63 = .ok (.iconst 1, 1) := by decide +kernel
theorem dX8_readsAll_64 : decode cX8_readsAll 64 = .ok (.goto 4, 3) := by decide +kernel
theorem dX8_readsAll_67 : decode cX8_readsAll 67 = .ok (.iconst 0, 1) := by decide +kernel
theorem dX8_readsAll_68 : decode cX8_readsAll 68 = .ok (.istore_n 1, 1) := by decide +kernel
theorem dX8_readsAll_69 : decode cX8_readsAll 69 = .ok (.aload_n 0, 1) := by decide +kernel
theorem dX8_readsAll_70 : decode cX8_readsAll 70 = .ok (.getfield 146, 3) := by decide +kernel
theorem dX8_readsAll_73 : decode cX8_readsAll 73 = .ok (.ifCond .ne (-36), 3) := by decide +kernel
theorem dX8_readsAll_76 : decode cX8_readsAll 76 = .ok (.aload_n 0, 1) := by decide +kernel
theorem dX8_readsAll_77 : decode cX8_readsAll 77 = .ok (.dup, 1) := by decide +kernel
theorem dX8_readsAll_78 : decode cX8_readsAll 78 = .ok (.getfield 169, 3) := by decide +kernel
theorem dX8_readsAll_81 : decode cX8_readsAll 81 = .ok (.iconst 1, 1) := by decide +kernel
theorem dX8_readsAll_82 : decode cX8_readsAll 82 = .ok (.iadd, 1) := by decide +kernel
theorem dX8_readsAll_83 : decode cX8_readsAll 83 = .ok (.putfield 169, 3) := by decide +kernel
theorem dX8_readsAll_86 : decode cX8_readsAll 86 = .ok (.aload_n 0, 1) := by decide +kernel
theorem dX8_readsAll_87 : decode cX8_readsAll 87 = .ok (.dup, 1) := by decide +kernel
theorem dX8_readsAll_88 : decode cX8_readsAll 88 = .ok (.getfield 143, 3) := by decide +kernel
theorem dX8_readsAll_91 : decode cX8_readsAll 91 = .ok (.iconst 1, 1) := by decide +kernel
theorem dX8_readsAll_92 : decode cX8_readsAll 92 = .ok (.iadd, 1) := by decide +kernel
theorem dX8_readsAll_93 : decode cX8_readsAll 93 = .ok (.putfield 143, 3) := by decide +kernel
theorem dX8_readsAll_96 : decode cX8_readsAll 96 = .ok (.goto (-59), 3) := by decide +kernel
theorem dX8_readsAll_99 : decode cX8_readsAll 99 = .ok (.return_, 1) := by decide +kernel
def f_X8_readsAll : MX := mth 2 (sQ (sQ (sM (gd 8 f_X8_plain) (aA (aN) (eLa 0))) (sQ (sPi (eLa 0) 8 13 (eI (0))) (sQ (sPi (eLa 0) 8 14 (eI (0))) (sQ (sPi (eLa 0) 8 16 (eI (0))) (sQ (sPi (eLa 0) 8 15 (eI (-1))) (sQ (sTi 1 (eC (cZ z_gt (eGi (eLa 0) 8 12)))) (sLp (cZ z_ne (eLi 1)) (sQ (sM (gd 8 f_X8_reads) (aA (aN) (eLa 0))) (sQ (sTi 1 (eC (cAnd (cZ z_eq (eGi (eLa 0) 8 16)) (cB c_lt (eGi (eLa 0) 8 13) (eGi (eLa 0) 8 12))))) (sIf (cZ z_eq (eGi (eLa 0) 8 16)) (sQ (sPo (eLa 0) 8 14 o_iadd (eI (1))) (sPo (eLa 0) 8 13 o_iadd (eI (1)))) sN))) NF))))))) (sRv))
theorem Y_X8_readsAll : Yk yX8_readsAll cX8_readsAll 2 none 0 := ⟨w1353, w16, by decide +kernel, by decide +kernel, by decide +kernel⟩
set_option maxRecDepth 20000 in
theorem k_X8_readsAll (l : Launch) (g : GE) : MetX l g yX8_readsAll cX8_readsAll 2 none 1 ({ frames := 5, cells := 0, slots := 0, locals := 113 } : Room) f_X8_readsAll := by
  unfold f_X8_readsAll
  exact MetX.of (own := RX8) 100 0 rfl (by decide +kernel) (by decide) (fun p e s m args below meth c Fin ad0 hr hn => ⟨_, _, Sv_seq (Sv_seq (Sv_call (Av_a (Av_nil) (Ev_aload_n dX8_readsAll_0 rfl)) (Rn_V (ci := 8) Fx8.1 rfl Y_X8_plain (k_X8_plain _ _) w1132 w1134 wp27 dX8_readsAll_1 (Nat.le_of_ble_eq_true rfl) (Nat.le_of_ble_eq_true rfl) (Nat.le_of_ble_eq_true rfl) (Nat.ne_of_beq_eq_false rfl))) (Sv_seq (Sv_putI Fx8 (Ev_aload_n dX8_readsAll_4 rfl) (Ev_iconst dX8_readsAll_5 (by decide)) (k := 13) (by decide) rfl rfl w1156 dX8_readsAll_6) (Sv_seq (Sv_putI Fx8 (Ev_aload_n dX8_readsAll_9 rfl) (Ev_iconst dX8_readsAll_10 (by decide)) (k := 14) (by decide) rfl rfl w1157 dX8_readsAll_11) (Sv_seq (Sv_putI Fx8 (Ev_aload_n dX8_readsAll_14 rfl) (Ev_iconst dX8_readsAll_15 (by decide)) (k := 16) (by decide) rfl rfl w1159 dX8_readsAll_16) (Sv_seq (Sv_putI Fx8 (Ev_aload_n dX8_readsAll_19 rfl) (Ev_iconst dX8_readsAll_20 (by decide)) (k := 15) (by decide) rfl rfl w1158 dX8_readsAll_21) (Sv_seq (Sv_istore_n (Ev_if (pT := 36) (Cv_if_le_n (Ev_getI Fx8 (Ev_aload_n dX8_readsAll_24 rfl) (k := 12) (by decide) w1155 dX8_readsAll_25) (t := 35) dX8_readsAll_28 (by decide)) (Ev_iconst dX8_readsAll_31 (by decide)) dX8_readsAll_32 (by decide) (Ev_iconst dX8_readsAll_35 (by decide))) dX8_readsAll_36 rfl (Nat.le_of_ble_eq_true rfl) (Nat.ne_of_beq_eq_false rfl)) (Sv_loop0 NF (Cv_if_eq_n (Ev_iload_n dX8_readsAll_37 rfl) (t := 99) dX8_readsAll_38 (by decide)) (Sv_seq (Sv_call (Av_a (Av_nil) (Ev_aload_n dX8_readsAll_41 rfl)) (Rn_V (ci := 8) Fx8.1 rfl Y_X8_reads (k_X8_reads _ _) w1354 w1356 wp45 dX8_readsAll_42 (Nat.le_of_ble_eq_true rfl) (Nat.le_of_ble_eq_true rfl) (Nat.le_of_ble_eq_true rfl) (Nat.ne_of_beq_eq_false rfl))) (Sv_seq (Sv_istore_n (Ev_if (pT := 68) (Cv_and (Cv_if_ne_n (Ev_getI Fx8 (Ev_aload_n dX8_readsAll_45 rfl) (k := 16) (by decide) w1159 dX8_readsAll_46) (t := 67) dX8_readsAll_49 (by decide)) (Cv_icmp_ge_n (Ev_getI Fx8 (Ev_aload_n dX8_readsAll_52 rfl) (k := 13) (by decide) w1156 dX8_readsAll_53) (Ev_getI Fx8 (Ev_aload_n dX8_readsAll_56 rfl) (k := 12) (by decide) w1155 dX8_readsAll_57) (t := 67) dX8_readsAll_60 (by decide))) (Ev_iconst dX8_readsAll_63 (by decide)) dX8_readsAll_64 (by decide) (Ev_iconst dX8_readsAll_67 (by decide))) dX8_readsAll_68 rfl (Nat.le_of_ble_eq_true rfl) (Nat.ne_of_beq_eq_false rfl)) (Sv_if (Cv_if_ne_n (Ev_getI Fx8 (Ev_aload_n dX8_readsAll_69 rfl) (k := 16) (by decide) w1159 dX8_readsAll_70) (t := 37) dX8_readsAll_73 (by decide)) (Sv_goto (pE := 37) (Sv_seq (Sv_fop_iadd (idx2 := 0) Fx8 (Ev_aload_n dX8_readsAll_76 rfl) dX8_readsAll_77 dX8_readsAll_78 (Ev_iconst dX8_readsAll_81 (by decide)) dX8_readsAll_82 (k := 14) (by decide) rfl rfl w1157 dX8_readsAll_83) (Sv_fop_iadd (idx2 := 0) Fx8 (Ev_aload_n dX8_readsAll_86 rfl) dX8_readsAll_87 dX8_readsAll_88 (Ev_iconst dX8_readsAll_91 (by decide)) dX8_readsAll_92 (k := 13) (by decide) rfl rfl w1156 dX8_readsAll_93)) dX8_readsAll_96 (by decide)) Sv_nop)))))))))) (Sv_retv hr dX8_readsAll_99), Nat.le_of_ble_eq_true rfl, Nat.le_of_ble_eq_true rfl⟩)
theorem dX8_fault_0 : decode cX8_fault 0 = .ok (.iload_n 1, 1) := by decide +kernel
theorem dX8_fault_1 : decode cX8_fault 1 = .ok (.iconst 0, 1) := by decide +kernel
theorem dX8_fault_2 : decode cX8_fault 2 = .ok (.iconst 2, 1) := by decide +kernel
theorem dX8_fault_3 : decode cX8_fault 3 = .ok (.invokestatic 65, 3) := by decide +kernel
theorem dX8_fault_6 : decode cX8_fault 6 = .ok (.ifCond .ne 9, 3) := by decide +kernel
theorem dX8_fault_9 : decode cX8_fault 9 = .ok (.aload_n 0, 1) := by decide +kernel
theorem dX8_fault_10 : decode cX8_fault 10 = .ok (.iconst 1, 1) := by decide +kernel
theorem dX8_fault_11 : decode cX8_fault 11 = .ok (.invokevirtual 89, 3) := by decide +kernel
theorem dX8_fault_14 : decode cX8_fault 14 = .ok (.ireturn, 1) := by decide +kernel
theorem dX8_fault_15 : decode cX8_fault 15 = .ok (.aload_n 0, 1) := by decide +kernel
theorem dX8_fault_16 : decode cX8_fault 16 = .ok (.invokevirtual 175, 3) := by decide +kernel
theorem dX8_fault_19 : decode cX8_fault 19 = .ok (.aload_n 0, 1) := by decide +kernel
theorem dX8_fault_20 : decode cX8_fault 20 = .ok (.aload_n 0, 1) := by decide +kernel
theorem dX8_fault_21 : decode cX8_fault 21 = .ok (.getfield 146, 3) := by decide +kernel
theorem dX8_fault_24 : decode cX8_fault 24 = .ok (.ifCond .ne 7, 3) := by decide +kernel
theorem dX8_fault_27 : decode cX8_fault 27 = .ok (.iconst (-1), 1) := by decide +kernel
theorem dX8_fault_28 : decode cX8_fault 28 = .ok (.goto 30, 3) := by decide +kernel
theorem dX8_fault_31 : decode cX8_fault 31 = .ok (.iload_n 1, 1) := by decide +kernel
theorem dX8_fault_32 : decode cX8_fault 32 = .ok (.ifCond .ne 10, 3) := by decide +kernel
theorem dX8_fault_35 : decode cX8_fault 35 = .ok (.aload_n 0, 1) := by decide +kernel
theorem dX8_fault_36 : decode cX8_fault 36 = .ok (.getfield 149, 3) := by decide +kernel
theorem dX8_fault_39 : decode cX8_fault 39 = .ok (.goto 19, 3) := by decide +kernel
theorem dX8_fault_42 : decode cX8_fault 42 = .ok (.iload_n 1, 1) := by decide +kernel
theorem dX8_fault_43 : decode cX8_fault 43 = .ok (.iconst 1, 1) := by decide +kernel
theorem dX8_fault_44 : decode cX8_fault 44 = .ok (.if_icmp .ne 10, 3) := by decide +kernel
theorem dX8_fault_47 : decode cX8_fault 47 = .ok (.aload_n 0, 1) := by decide +kernel
theorem dX8_fault_48 : decode cX8_fault 48 = .ok (.getfield 146, 3) := by decide +kernel
theorem dX8_fault_51 : decode cX8_fault 51 = .ok (.goto 7, 3) := by decide +kernel
theorem dX8_fault_54 : decode cX8_fault 54 = .ok (.aload_n 0, 1) := by decide +kernel
theorem dX8_fault_55 : decode cX8_fault 55 = .ok (.getfield 169, 3) := by decide +kernel
theorem dX8_fault_58 : decode cX8_fault 58 = .ok (.invokevirtual 61, 3) := by decide +kernel
theorem dX8_fault_61 : decode cX8_fault 61 = .ok (.ireturn, 1) := by decide +kernel
def f_X8_fault : MX := mth 2 (sQ (sIf (cNot (cZ z_ne (eM (f_X8_in) (aI (aI (aI (aN) (eLi 1)) (eI (0))) (eI (2)))))) (sR (eM (gd 8 f_X8_fails) (aI (aA (aN) (eLa 0)) (eI (1))))) sN) (sQ (sM (gd 8 f_X8_readsAll) (aA (aN) (eLa 0))) (sR (eM (gd 8 f_X8_tells) (aI (aA (aN) (eLa 0)) (eIf (cZ z_eq (eGi (eLa 0) 8 16)) (eI (-1)) (eIf (cZ z_eq (eLi 1)) (eGi (eLa 0) 8 15) (eIf (cB c_eq (eLi 1) (eI (1))) (eGi (eLa 0) 8 16) (eGi (eLa 0) 8 14)))))))))
theorem Y_X8_fault : Yk yX8_fault cX8_fault 2 (some .int) 1 := ⟨w1349, w16, by decide +kernel, by decide +kernel, by decide +kernel⟩
set_option maxRecDepth 20000 in
theorem k_X8_fault (l : Launch) (g : GE) : MetX l g yX8_fault cX8_fault 2 (some .int) 2 ({ frames := 6, cells := 0, slots := 0, locals := 134 } : Room) f_X8_fault := by
  unfold f_X8_fault
  exact MetX.of (own := RX8) 100 0 rfl (by decide +kernel) (by decide) (fun p e s m args below meth c Fin ad0 hr hn => ⟨_, _, Sv_seq (Sv_if (Cv_not (Cv_if_ne_j (Ev_call (Av_i (Av_i (Av_i (Av_nil) (Ev_iload_n dX8_fault_0 rfl)) (Ev_iconst dX8_fault_1 (by decide))) (Ev_iconst dX8_fault_2 (by decide))) (Rn_S Y_X8_in (k_X8_in _ _) w1209 w1210 dX8_fault_3 (Nat.le_of_ble_eq_true rfl) (Nat.le_of_ble_eq_true rfl) (Nat.le_of_ble_eq_true rfl) (Nat.ne_of_beq_eq_false rfl))) (t := 15) dX8_fault_6 (by decide))) (Sv_ret (Ev_call (Av_i (Av_a (Av_nil) (Ev_aload_n dX8_fault_9 rfl)) (Ev_iconst dX8_fault_10 (by decide))) (Rn_V (ci := 8) Fx8.1 rfl Y_X8_fails (k_X8_fails _ _) w1212 w1214 wp29 dX8_fault_11 (Nat.le_of_ble_eq_true rfl) (Nat.le_of_ble_eq_true rfl) (Nat.le_of_ble_eq_true rfl) (Nat.ne_of_beq_eq_false rfl))) hr dX8_fault_14) Sv_nop) (Sv_seq (Sv_call (Av_a (Av_nil) (Ev_aload_n dX8_fault_15 rfl)) (Rn_V (ci := 8) Fx8.1 rfl Y_X8_readsAll (k_X8_readsAll _ _) w1350 w1352 wp44 dX8_fault_16 (Nat.le_of_ble_eq_true rfl) (Nat.le_of_ble_eq_true rfl) (Nat.le_of_ble_eq_true rfl) (Nat.ne_of_beq_eq_false rfl))) (Sv_ret (Ev_call (Av_i (Av_a (Av_nil) (Ev_aload_n dX8_fault_19 rfl)) (Ev_if (pT := 58) (Cv_if_ne_n (Ev_getI Fx8 (Ev_aload_n dX8_fault_20 rfl) (k := 16) (by decide) w1159 dX8_fault_21) (t := 31) dX8_fault_24 (by decide)) (Ev_iconst dX8_fault_27 (by decide)) dX8_fault_28 (by decide) (Ev_if (pT := 58) (Cv_if_ne_n (Ev_iload_n dX8_fault_31 rfl) (t := 42) dX8_fault_32 (by decide)) (Ev_getI Fx8 (Ev_aload_n dX8_fault_35 rfl) (k := 15) (by decide) w1158 dX8_fault_36) dX8_fault_39 (by decide) (Ev_if (pT := 58) (Cv_icmp_ne_n (Ev_iload_n dX8_fault_42 rfl) (Ev_iconst dX8_fault_43 (by decide)) (t := 54) dX8_fault_44 (by decide)) (Ev_getI Fx8 (Ev_aload_n dX8_fault_47 rfl) (k := 16) (by decide) w1159 dX8_fault_48) dX8_fault_51 (by decide) (Ev_getI Fx8 (Ev_aload_n dX8_fault_54 rfl) (k := 14) (by decide) w1157 dX8_fault_55))))) (Rn_V (ci := 8) Fx8.1 rfl Y_X8_tells (k_X8_tells _ _) w1228 w1230 wp33 dX8_fault_58 (Nat.le_of_ble_eq_true rfl) (Nat.le_of_ble_eq_true rfl) (Nat.le_of_ble_eq_true rfl) (Nat.ne_of_beq_eq_false rfl))) hr dX8_fault_61)), Nat.le_of_ble_eq_true rfl, Nat.le_of_ble_eq_true rfl⟩)
theorem dX8_rules_0 : decode cX8_rules 0 = .ok (.aload_n 0, 1) := by decide +kernel
theorem dX8_rules_1 : decode cX8_rules 1 = .ok (.invokevirtual 175, 3) := by decide +kernel
theorem dX8_rules_4 : decode cX8_rules 4 = .ok (.aload_n 0, 1) := by decide +kernel
theorem dX8_rules_5 : decode cX8_rules 5 = .ok (.getfield 146, 3) := by decide +kernel
theorem dX8_rules_8 : decode cX8_rules 8 = .ok (.ifCond .eq 9, 3) := by decide +kernel
theorem dX8_rules_11 : decode cX8_rules 11 = .ok (.aload_n 0, 1) := by decide +kernel
theorem dX8_rules_12 : decode cX8_rules 12 = .ok (.iconst 1, 1) := by decide +kernel
theorem dX8_rules_13 : decode cX8_rules 13 = .ok (.invokevirtual 89, 3) := by decide +kernel
theorem dX8_rules_16 : decode cX8_rules 16 = .ok (.ireturn, 1) := by decide +kernel
theorem dX8_rules_17 : decode cX8_rules 17 = .ok (.aload_n 0, 1) := by decide +kernel
theorem dX8_rules_18 : decode cX8_rules 18 = .ok (.invokevirtual 92, 3) := by decide +kernel
theorem dX8_rules_21 : decode cX8_rules 21 = .ok (.iconst 0, 1) := by decide +kernel
theorem dX8_rules_22 : decode cX8_rules 22 = .ok (.istore_n 1, 1) := by decide +kernel
theorem dX8_rules_23 : decode cX8_rules 23 = .ok (.iload_n 1, 1) := by decide +kernel
theorem dX8_rules_24 : decode cX8_rules 24 = .ok (.sipush 128, 3) := by decide +kernel
theorem dX8_rules_27 : decode cX8_rules 27 = .ok (.if_icmp .ge 25, 3) := by decide +kernel
theorem dX8_rules_30 : decode cX8_rules 30 = .ok (.aload_n 0, 1) := by decide +kernel
theorem dX8_rules_31 : decode cX8_rules 31 = .ok (.getfield 7, 3) := by decide +kernel
theorem dX8_rules_34 : decode cX8_rules 34 = .ok (.sipush 1394, 3) := by decide +kernel
theorem dX8_rules_37 : decode cX8_rules 37 = .ok (.iload_n 1, 1) := by decide +kernel
theorem dX8_rules_38 : decode cX8_rules 38 = .ok (.iadd, 1) := by decide +kernel
theorem dX8_rules_39 : decode cX8_rules 39 = .ok (.aload_n 0, 1) := by decide +kernel
theorem dX8_rules_40 : decode cX8_rules 40 = .ok (.getfield 41, 3) := by decide +kernel
theorem dX8_rules_43 : decode cX8_rules 43 = .ok (.iload_n 1, 1) := by decide +kernel
theorem dX8_rules_44 : decode cX8_rules 44 = .ok (.iaload, 1) := by decide +kernel
theorem dX8_rules_45 : decode cX8_rules 45 = .ok (.iastore, 1) := by decide +kernel
theorem dX8_rules_46 : decode cX8_rules 46 = .ok (.iinc 1 1, 3) := by decide +kernel
theorem dX8_rules_49 : decode cX8_rules 49 = .ok (.goto (-26), 3) := by decide +kernel
theorem dX8_rules_52 : decode cX8_rules 52 = .ok (.aload_n 0, 1) := by decide +kernel
theorem dX8_rules_53 : decode cX8_rules 53 = .ok (.getfield 7, 3) := by decide +kernel
theorem dX8_rules_56 : decode cX8_rules 56 = .ok (.sipush 1522, 3) := by decide +kernel
theorem dX8_rules_59 : decode cX8_rules 59 = .ok (.aload_n 0, 1) := by decide +kernel
theorem dX8_rules_60 : decode cX8_rules 60 = .ok (.getfield 169, 3) := by decide +kernel
theorem dX8_rules_63 : decode cX8_rules 63 = .ok (.iastore, 1) := by decide +kernel
theorem dX8_rules_64 : decode cX8_rules 64 = .ok (.aload_n 0, 1) := by decide +kernel
theorem dX8_rules_65 : decode cX8_rules 65 = .ok (.iconst 0, 1) := by decide +kernel
theorem dX8_rules_66 : decode cX8_rules 66 = .ok (.putfield 137, 3) := by decide +kernel
theorem dX8_rules_69 : decode cX8_rules 69 = .ok (.aload_n 0, 1) := by decide +kernel
theorem dX8_rules_70 : decode cX8_rules 70 = .ok (.aload_n 0, 1) := by decide +kernel
theorem dX8_rules_71 : decode cX8_rules 71 = .ok (.getfield 169, 3) := by decide +kernel
theorem dX8_rules_74 : decode cX8_rules 74 = .ok (.invokevirtual 98, 3) := by decide +kernel
theorem dX8_rules_77 : decode cX8_rules 77 = .ok (.ireturn, 1) := by decide +kernel
def f_X8_rules : MX := mth 2 (sQ (sM (gd 8 f_X8_readsAll) (aA (aN) (eLa 0))) (sQ (sIf (cZ z_ne (eGi (eLa 0) 8 16)) (sR (eM (gd 8 f_X8_fails) (aI (aA (aN) (eLa 0)) (eI (1))))) sN) (sQ (sM (gd 8 f_X8_holds) (aA (aN) (eLa 0))) (sQ (sQ (sTi 1 (eI (0))) (sLp (cB c_lt (eLi 1) (eI (128))) (sQ (sAi 0 (eGa (eLa 0) 8 0) (eOp o_iadd (eI (1394)) (eLi 1)) (eAi 0 (eGa (eLa 0) 8 17) (eLi 1))) (sInc 1 (1))) NF)) (sQ (sAi 0 (eGa (eLa 0) 8 0) (eI (1522)) (eGi (eLa 0) 8 14)) (sQ (sPi (eLa 0) 8 12 (eI (0))) (sR (eM (gd 8 f_X8_saves) (aI (aA (aN) (eLa 0)) (eGi (eLa 0) 8 14))))))))))
theorem Y_X8_rules : Yk yX8_rules cX8_rules 2 (some .int) 0 := ⟨w1380, w16, by decide +kernel, by decide +kernel, by decide +kernel⟩
set_option maxRecDepth 20000 in
theorem k_X8_rules (l : Launch) (g : GE) : MetX l g yX8_rules cX8_rules 2 (some .int) 1 ({ frames := 6, cells := 0, slots := 0, locals := 134 } : Room) f_X8_rules := by
  unfold f_X8_rules
  exact MetX.of (own := RX8) 100 0 rfl (by decide +kernel) (by decide) (fun p e s m args below meth c Fin ad0 hr hn => ⟨_, _, Sv_seq (Sv_call (Av_a (Av_nil) (Ev_aload_n dX8_rules_0 rfl)) (Rn_V (ci := 8) Fx8.1 rfl Y_X8_readsAll (k_X8_readsAll _ _) w1350 w1352 wp44 dX8_rules_1 (Nat.le_of_ble_eq_true rfl) (Nat.le_of_ble_eq_true rfl) (Nat.le_of_ble_eq_true rfl) (Nat.ne_of_beq_eq_false rfl))) (Sv_seq (Sv_if (Cv_if_eq_n (Ev_getI Fx8 (Ev_aload_n dX8_rules_4 rfl) (k := 16) (by decide) w1159 dX8_rules_5) (t := 17) dX8_rules_8 (by decide)) (Sv_ret (Ev_call (Av_i (Av_a (Av_nil) (Ev_aload_n dX8_rules_11 rfl)) (Ev_iconst dX8_rules_12 (by decide))) (Rn_V (ci := 8) Fx8.1 rfl Y_X8_fails (k_X8_fails _ _) w1212 w1214 wp29 dX8_rules_13 (Nat.le_of_ble_eq_true rfl) (Nat.le_of_ble_eq_true rfl) (Nat.le_of_ble_eq_true rfl) (Nat.ne_of_beq_eq_false rfl))) hr dX8_rules_16) Sv_nop) (Sv_seq (Sv_call (Av_a (Av_nil) (Ev_aload_n dX8_rules_17 rfl)) (Rn_V (ci := 8) Fx8.1 rfl Y_X8_holds (k_X8_holds _ _) w1216 w1218 wp30 dX8_rules_18 (Nat.le_of_ble_eq_true rfl) (Nat.le_of_ble_eq_true rfl) (Nat.le_of_ble_eq_true rfl) (Nat.ne_of_beq_eq_false rfl))) (Sv_seq (Sv_seq (Sv_istore_n (Ev_iconst dX8_rules_21 (by decide)) dX8_rules_22 rfl (Nat.le_of_ble_eq_true rfl) (Nat.ne_of_beq_eq_false rfl)) (Sv_loop0 NF (Cv_icmp_ge_n (Ev_iload_n dX8_rules_23 rfl) (Ev_sipush dX8_rules_24 (by decide)) (t := 52) dX8_rules_27 (by decide)) (Sv_goto (pE := 23) (Sv_seq (Sv_iastore (Ev_getA Fx8 (Ev_aload_n dX8_rules_30 rfl) (k := 0) (by decide) w1143 dX8_rules_31) (Ev_iadd (Ev_sipush dX8_rules_34 (by decide)) (Ev_iload_n dX8_rules_37 rfl) dX8_rules_38) (Ev_iaload (Ev_getA Fx8 (Ev_aload_n dX8_rules_39 rfl) (k := 17) (by decide) w1160 dX8_rules_40) (Ev_iload_n dX8_rules_43 rfl) dX8_rules_44) dX8_rules_45) (Sv_iinc dX8_rules_46 (by decide) (Nat.le_of_ble_eq_true rfl) (Nat.ne_of_beq_eq_false rfl))) dX8_rules_49 (by decide)))) (Sv_seq (Sv_iastore (Ev_getA Fx8 (Ev_aload_n dX8_rules_52 rfl) (k := 0) (by decide) w1143 dX8_rules_53) (Ev_sipush dX8_rules_56 (by decide)) (Ev_getI Fx8 (Ev_aload_n dX8_rules_59 rfl) (k := 14) (by decide) w1157 dX8_rules_60) dX8_rules_63) (Sv_seq (Sv_putI Fx8 (Ev_aload_n dX8_rules_64 rfl) (Ev_iconst dX8_rules_65 (by decide)) (k := 12) (by decide) rfl rfl w1155 dX8_rules_66) (Sv_ret (Ev_call (Av_i (Av_a (Av_nil) (Ev_aload_n dX8_rules_69 rfl)) (Ev_getI Fx8 (Ev_aload_n dX8_rules_70 rfl) (k := 14) (by decide) w1157 dX8_rules_71)) (Rn_V (ci := 8) Fx8.1 rfl Y_X8_saves (k_X8_saves _ _) w1224 w1226 wp32 dX8_rules_74 (Nat.le_of_ble_eq_true rfl) (Nat.le_of_ble_eq_true rfl) (Nat.le_of_ble_eq_true rfl) (Nat.ne_of_beq_eq_false rfl))) hr dX8_rules_77)))))), Nat.le_of_ble_eq_true rfl, Nat.le_of_ble_eq_true rfl⟩)
theorem dX8_becomes_0 : decode cX8_becomes 0 = .ok (.iload_n 1, 1) := by decide +kernel
theorem dX8_becomes_1 : decode cX8_becomes 1 = .ok (.iconst 0, 1) := by decide +kernel
theorem dX8_becomes_2 : decode cX8_becomes 2 = .ok (.bipush 63, 2) := by decide +kernel
theorem dX8_becomes_4 : decode cX8_becomes 4 = .ok (.invokestatic 65, 3) := by decide +kernel
theorem dX8_becomes_7 : decode cX8_becomes 7 = .ok (.ifCond .eq 31, 3) := by decide +kernel
theorem dX8_becomes_10 : decode cX8_becomes 10 = .ok (.aload_n 0, 1) := by decide +kernel
theorem dX8_becomes_11 : decode cX8_becomes 11 = .ok (.aload_n 0, 1) := by decide +kernel
theorem dX8_becomes_12 : decode cX8_becomes 12 = .ok (.getfield 7, 3) := by decide +kernel
theorem dX8_becomes_15 : decode cX8_becomes 15 = .ok (.sipush 1394, 3) := by decide +kernel
theorem dX8_becomes_18 : decode cX8_becomes 18 = .ok (.iload_n 2, 1) := by decide +kernel
theorem dX8_becomes_19 : decode cX8_becomes 19 = .ok (.ifCond .eq 8, 3) := by decide +kernel
theorem dX8_becomes_22 : decode cX8_becomes 22 = .ok (.bipush 64, 2) := by decide +kernel
theorem dX8_becomes_24 : decode cX8_becomes 24 = .ok (.goto 4, 3) := by decide +kernel
theorem dX8_becomes_27 : decode cX8_becomes 27 = .ok (.iconst 0, 1) := by decide +kernel
theorem dX8_becomes_28 : decode cX8_becomes 28 = .ok (.iadd, 1) := by decide +kernel
theorem dX8_becomes_29 : decode cX8_becomes 29 = .ok (.iload_n 1, 1) := by decide +kernel
theorem dX8_becomes_30 : decode cX8_becomes 30 = .ok (.iadd, 1) := by decide +kernel
theorem dX8_becomes_31 : decode cX8_becomes 31 = .ok (.iaload, 1) := by decide +kernel
theorem dX8_becomes_32 : decode cX8_becomes 32 = .ok (.invokevirtual 61, 3) := by decide +kernel
theorem dX8_becomes_35 : decode cX8_becomes 35 = .ok (.goto 8, 3) := by decide +kernel
theorem dX8_becomes_38 : decode cX8_becomes 38 = .ok (.aload_n 0, 1) := by decide +kernel
theorem dX8_becomes_39 : decode cX8_becomes 39 = .ok (.iconst 1, 1) := by decide +kernel
theorem dX8_becomes_40 : decode cX8_becomes 40 = .ok (.invokevirtual 89, 3) := by decide +kernel
theorem dX8_becomes_43 : decode cX8_becomes 43 = .ok (.ireturn, 1) := by decide +kernel
def f_X8_becomes : MX := mth 3 (sR (eIf (cZ z_ne (eM (f_X8_in) (aI (aI (aI (aN) (eLi 1)) (eI (0))) (eI (63))))) (eM (gd 8 f_X8_tells) (aI (aA (aN) (eLa 0)) (eAi 0 (eGa (eLa 0) 8 0) (eOp o_iadd (eOp o_iadd (eI (1394)) (eIf (cZ z_ne (eLi 2)) (eI (64)) (eI (0)))) (eLi 1))))) (eM (gd 8 f_X8_fails) (aI (aA (aN) (eLa 0)) (eI (1))))))
theorem Y_X8_becomes : Yk yX8_becomes cX8_becomes 3 (some .int) 2 := ⟨w1384, w16, by decide +kernel, by decide +kernel, by decide +kernel⟩
set_option maxRecDepth 20000 in
theorem k_X8_becomes (l : Launch) (g : GE) : MetX l g yX8_becomes cX8_becomes 3 (some .int) 3 ({ frames := 1, cells := 0, slots := 0, locals := 22 } : Room) f_X8_becomes := by
  unfold f_X8_becomes
  exact MetX.of (own := RX8) 100 0 rfl (by decide +kernel) (by decide) (fun p e s m args below meth c Fin ad0 hr hn => ⟨_, _, Sv_ret (Ev_if (pT := 43) (Cv_if_eq_n (Ev_call (Av_i (Av_i (Av_i (Av_nil) (Ev_iload_n dX8_becomes_0 rfl)) (Ev_iconst dX8_becomes_1 (by decide))) (Ev_bipush dX8_becomes_2 (by decide))) (Rn_S Y_X8_in (k_X8_in _ _) w1209 w1210 dX8_becomes_4 (Nat.le_of_ble_eq_true rfl) (Nat.le_of_ble_eq_true rfl) (Nat.le_of_ble_eq_true rfl) (Nat.ne_of_beq_eq_false rfl))) (t := 38) dX8_becomes_7 (by decide)) (Ev_call (Av_i (Av_a (Av_nil) (Ev_aload_n dX8_becomes_10 rfl)) (Ev_iaload (Ev_getA Fx8 (Ev_aload_n dX8_becomes_11 rfl) (k := 0) (by decide) w1143 dX8_becomes_12) (Ev_iadd (Ev_iadd (Ev_sipush dX8_becomes_15 (by decide)) (Ev_if (pT := 28) (Cv_if_eq_n (Ev_iload_n dX8_becomes_18 rfl) (t := 27) dX8_becomes_19 (by decide)) (Ev_bipush dX8_becomes_22 (by decide)) dX8_becomes_24 (by decide) (Ev_iconst dX8_becomes_27 (by decide))) dX8_becomes_28) (Ev_iload_n dX8_becomes_29 rfl) dX8_becomes_30) dX8_becomes_31)) (Rn_V (ci := 8) Fx8.1 rfl Y_X8_tells (k_X8_tells _ _) w1228 w1230 wp33 dX8_becomes_32 (Nat.le_of_ble_eq_true rfl) (Nat.le_of_ble_eq_true rfl) (Nat.le_of_ble_eq_true rfl) (Nat.ne_of_beq_eq_false rfl))) dX8_becomes_35 (by decide) (Ev_call (Av_i (Av_a (Av_nil) (Ev_aload_n dX8_becomes_38 rfl)) (Ev_iconst dX8_becomes_39 (by decide))) (Rn_V (ci := 8) Fx8.1 rfl Y_X8_fails (k_X8_fails _ _) w1212 w1214 wp29 dX8_becomes_40 (Nat.le_of_ble_eq_true rfl) (Nat.le_of_ble_eq_true rfl) (Nat.le_of_ble_eq_true rfl) (Nat.ne_of_beq_eq_false rfl)))) hr dX8_becomes_43, Nat.le_of_ble_eq_true rfl, Nat.le_of_ble_eq_true rfl⟩)
theorem dX8_round_0 : decode cX8_round 0 = .ok (.iload_n 0, 1) := by decide +kernel
theorem dX8_round_1 : decode cX8_round 1 = .ok (.ifCond .ne 12, 3) := by decide +kernel
theorem dX8_round_4 : decode cX8_round 4 = .ok (.iload_n 1, 1) := by decide +kernel
theorem dX8_round_5 : decode cX8_round 5 = .ok (.iconst 3, 1) := by decide +kernel
theorem dX8_round_6 : decode cX8_round 6 = .ok (.iadd, 1) := by decide +kernel
theorem dX8_round_7 : decode cX8_round 7 = .ok (.bipush 6, 2) := by decide +kernel
theorem dX8_round_9 : decode cX8_round 9 = .ok (.irem, 1) := by decide +kernel
theorem dX8_round_10 : decode cX8_round 10 = .ok (.goto 7, 3) := by decide +kernel
theorem dX8_round_13 : decode cX8_round 13 = .ok (.bipush 6, 2) := by decide +kernel
theorem dX8_round_15 : decode cX8_round 15 = .ok (.iload_n 1, 1) := by decide +kernel
theorem dX8_round_16 : decode cX8_round 16 = .ok (.isub, 1) := by decide +kernel
theorem dX8_round_17 : decode cX8_round 17 = .ok (.ireturn, 1) := by decide +kernel
def f_X8_round : MX := mth 2 (sR (eIf (cZ z_eq (eLi 0)) (eQ o_irem (eOp o_iadd (eLi 1) (eI (3))) (eI (6))) (eOp o_isub (eI (6)) (eLi 1))))
theorem Y_X8_round : Yk yX8_round cX8_round 2 (some .int) 2 := ⟨w1426, w16, by decide +kernel, by decide +kernel, by decide +kernel⟩
set_option maxRecDepth 20000 in
theorem k_X8_round (l : Launch) (g : GE) : MetX l g yX8_round cX8_round 2 (some .int) 2 ({ frames := 0, cells := 0, slots := 0, locals := 0 } : Room) f_X8_round := by
  unfold f_X8_round
  exact MetX.of (own := RX8) 100 0 rfl (by decide +kernel) (by decide) (fun p e s m args below meth c Fin ad0 hr hn => ⟨_, _, Sv_ret (Ev_if (pT := 17) (Cv_if_ne_n (Ev_iload_n dX8_round_0 rfl) (t := 13) dX8_round_1 (by decide)) (Ev_irem (Ev_iadd (Ev_iload_n dX8_round_4 rfl) (Ev_iconst dX8_round_5 (by decide)) dX8_round_6) (Ev_bipush dX8_round_7 (by decide)) dX8_round_9) dX8_round_10 (by decide) (Ev_isub (Ev_bipush dX8_round_13 (by decide)) (Ev_iload_n dX8_round_15 rfl) dX8_round_16)) hr dX8_round_17, Nat.le_of_ble_eq_true rfl, Nat.le_of_ble_eq_true rfl⟩)
theorem dX8_beside_0 : decode cX8_beside 0 = .ok (.aload_n 0, 1) := by decide +kernel
theorem dX8_beside_1 : decode cX8_beside 1 = .ok (.getfield 7, 3) := by decide +kernel
theorem dX8_beside_4 : decode cX8_beside 4 = .ok (.iconst 3, 1) := by decide +kernel
theorem dX8_beside_5 : decode cX8_beside 5 = .ok (.iaload, 1) := by decide +kernel
theorem dX8_beside_6 : decode cX8_beside 6 = .ok (.ifCond .ne 9, 3) := by decide +kernel
theorem dX8_beside_9 : decode cX8_beside 9 = .ok (.iload_n 1, 1) := by decide +kernel
theorem dX8_beside_10 : decode cX8_beside 10 = .ok (.iload_n 2, 1) := by decide +kernel
theorem dX8_beside_11 : decode cX8_beside 11 = .ok (.iadd, 1) := by decide +kernel
theorem dX8_beside_12 : decode cX8_beside 12 = .ok (.goto 20, 3) := by decide +kernel
theorem dX8_beside_15 : decode cX8_beside 15 = .ok (.iload_n 1, 1) := by decide +kernel
theorem dX8_beside_16 : decode cX8_beside 16 = .ok (.iload_n 2, 1) := by decide +kernel
theorem dX8_beside_17 : decode cX8_beside 17 = .ok (.iadd, 1) := by decide +kernel
theorem dX8_beside_18 : decode cX8_beside 18 = .ok (.aload_n 0, 1) := by decide +kernel
theorem dX8_beside_19 : decode cX8_beside 19 = .ok (.getfield 7, 3) := by decide +kernel
theorem dX8_beside_22 : decode cX8_beside 22 = .ok (.iconst 0, 1) := by decide +kernel
theorem dX8_beside_23 : decode cX8_beside 23 = .ok (.iaload, 1) := by decide +kernel
theorem dX8_beside_24 : decode cX8_beside 24 = .ok (.iadd, 1) := by decide +kernel
theorem dX8_beside_25 : decode cX8_beside 25 = .ok (.aload_n 0, 1) := by decide +kernel
theorem dX8_beside_26 : decode cX8_beside 26 = .ok (.getfield 7, 3) := by decide +kernel
theorem dX8_beside_29 : decode cX8_beside 29 = .ok (.iconst 0, 1) := by decide +kernel
theorem dX8_beside_30 : decode cX8_beside 30 = .ok (.iaload, 1) := by decide +kernel
theorem dX8_beside_31 : decode cX8_beside 31 = .ok (.irem, 1) := by decide +kernel
theorem dX8_beside_32 : decode cX8_beside 32 = .ok (.ireturn, 1) := by decide +kernel
def f_X8_beside : MX := mth 3 (sR (eIf (cZ z_eq (eAi 0 (eGa (eLa 0) 8 0) (eI (3)))) (eOp o_iadd (eLi 1) (eLi 2)) (eQ o_irem (eOp o_iadd (eOp o_iadd (eLi 1) (eLi 2)) (eAi 0 (eGa (eLa 0) 8 0) (eI (0)))) (eAi 0 (eGa (eLa 0) 8 0) (eI (0))))))
theorem Y_X8_beside : Yk yX8_beside cX8_beside 3 (some .int) 2 := ⟨w1423, w16, by decide +kernel, by decide +kernel, by decide +kernel⟩
set_option maxRecDepth 20000 in
theorem k_X8_beside (l : Launch) (g : GE) : MetX l g yX8_beside cX8_beside 3 (some .int) 3 ({ frames := 0, cells := 0, slots := 0, locals := 0 } : Room) f_X8_beside := by
  unfold f_X8_beside
  exact MetX.of (own := RX8) 100 0 rfl (by decide +kernel) (by decide) (fun p e s m args below meth c Fin ad0 hr hn => ⟨_, _, Sv_ret (Ev_if (pT := 32) (Cv_if_ne_n (Ev_iaload (Ev_getA Fx8 (Ev_aload_n dX8_beside_0 rfl) (k := 0) (by decide) w1143 dX8_beside_1) (Ev_iconst dX8_beside_4 (by decide)) dX8_beside_5) (t := 15) dX8_beside_6 (by decide)) (Ev_iadd (Ev_iload_n dX8_beside_9 rfl) (Ev_iload_n dX8_beside_10 rfl) dX8_beside_11) dX8_beside_12 (by decide) (Ev_irem (Ev_iadd (Ev_iadd (Ev_iload_n dX8_beside_15 rfl) (Ev_iload_n dX8_beside_16 rfl) dX8_beside_17) (Ev_iaload (Ev_getA Fx8 (Ev_aload_n dX8_beside_18 rfl) (k := 0) (by decide) w1143 dX8_beside_19) (Ev_iconst dX8_beside_22 (by decide)) dX8_beside_23) dX8_beside_24) (Ev_iaload (Ev_getA Fx8 (Ev_aload_n dX8_beside_25 rfl) (k := 0) (by decide) w1143 dX8_beside_26) (Ev_iconst dX8_beside_29 (by decide)) dX8_beside_30) dX8_beside_31)) hr dX8_beside_32, Nat.le_of_ble_eq_true rfl, Nat.le_of_ble_eq_true rfl⟩)
theorem dX8_gives_0 : decode cX8_gives 0 = .ok (.aload_n 0, 1) := by decide +kernel
theorem dX8_gives_1 : decode cX8_gives 1 = .ok (.getfield 35, 3) := by decide +kernel
theorem dX8_gives_4 : decode cX8_gives 4 = .ok (.iconst 2, 1) := by decide +kernel
theorem dX8_gives_5 : decode cX8_gives 5 = .ok (.iload_n 1, 1) := by decide +kernel
theorem dX8_gives_6 : decode cX8_gives 6 = .ok (.imul, 1) := by decide +kernel
theorem dX8_gives_7 : decode cX8_gives 7 = .ok (.iload_n 2, 1) := by decide +kernel
theorem dX8_gives_8 : decode cX8_gives 8 = .ok (.iadd, 1) := by decide +kernel
theorem dX8_gives_9 : decode cX8_gives 9 = .ok (.dup2, 1) := by decide +kernel
theorem dX8_gives_10 : decode cX8_gives 10 = .ok (.iaload, 1) := by decide +kernel
theorem dX8_gives_11 : decode cX8_gives 11 = .ok (.iload_n 3, 1) := by decide +kernel
theorem dX8_gives_12 : decode cX8_gives 12 = .ok (.iadd, 1) := by decide +kernel
theorem dX8_gives_13 : decode cX8_gives 13 = .ok (.iastore, 1) := by decide +kernel
theorem dX8_gives_14 : decode cX8_gives 14 = .ok (.aload_n 0, 1) := by decide +kernel
theorem dX8_gives_15 : decode cX8_gives 15 = .ok (.getfield 7, 3) := by decide +kernel
theorem dX8_gives_18 : decode cX8_gives 18 = .ok (.bipush 22, 2) := by decide +kernel
theorem dX8_gives_20 : decode cX8_gives 20 = .ok (.iconst 2, 1) := by decide +kernel
theorem dX8_gives_21 : decode cX8_gives 21 = .ok (.iload_n 1, 1) := by decide +kernel
theorem dX8_gives_22 : decode cX8_gives 22 = .ok (.imul, 1) := by decide +kernel
theorem dX8_gives_23 : decode cX8_gives 23 = .ok (.iadd, 1) := by decide +kernel
theorem dX8_gives_24 : decode cX8_gives 24 = .ok (.iload_n 2, 1) := by decide +kernel
theorem dX8_gives_25 : decode cX8_gives 25 = .ok (.iadd, 1) := by decide +kernel
theorem dX8_gives_26 : decode cX8_gives 26 = .ok (.dup2, 1) := by decide +kernel
theorem dX8_gives_27 : decode cX8_gives 27 = .ok (.iaload, 1) := by decide +kernel
theorem dX8_gives_28 : decode cX8_gives 28 = .ok (.iload_n 3, 1) := by decide +kernel
theorem dX8_gives_29 : decode cX8_gives 29 = .ok (.iadd, 1) := by decide +kernel
theorem dX8_gives_30 : decode cX8_gives 30 = .ok (.iastore, 1) := by decide +kernel
theorem dX8_gives_31 : decode cX8_gives 31 = .ok (.aload_n 0, 1) := by decide +kernel
theorem dX8_gives_32 : decode cX8_gives 32 = .ok (.getfield 7, 3) := by decide +kernel
theorem dX8_gives_35 : decode cX8_gives 35 = .ok (.bipush 12, 2) := by decide +kernel
theorem dX8_gives_37 : decode cX8_gives 37 = .ok (.iconst 5, 1) := by decide +kernel
theorem dX8_gives_38 : decode cX8_gives 38 = .ok (.iload_n 2, 1) := by decide +kernel
theorem dX8_gives_39 : decode cX8_gives 39 = .ok (.imul, 1) := by decide +kernel
theorem dX8_gives_40 : decode cX8_gives 40 = .ok (.iadd, 1) := by decide +kernel
theorem dX8_gives_41 : decode cX8_gives 41 = .ok (.iconst 2, 1) := by decide +kernel
theorem dX8_gives_42 : decode cX8_gives 42 = .ok (.iadd, 1) := by decide +kernel
theorem dX8_gives_43 : decode cX8_gives 43 = .ok (.dup2, 1) := by decide +kernel
theorem dX8_gives_44 : decode cX8_gives 44 = .ok (.iaload, 1) := by decide +kernel
theorem dX8_gives_45 : decode cX8_gives 45 = .ok (.iload_n 3, 1) := by decide +kernel
theorem dX8_gives_46 : decode cX8_gives 46 = .ok (.iadd, 1) := by decide +kernel
theorem dX8_gives_47 : decode cX8_gives 47 = .ok (.iastore, 1) := by decide +kernel
theorem dX8_gives_48 : decode cX8_gives 48 = .ok (.return_, 1) := by decide +kernel
def f_X8_gives : MX := mth 4 (sQ (sQ (sAo (eGa (eLa 0) 8 8) (eOp o_iadd (eOp o_imul (eI (2)) (eLi 1)) (eLi 2)) o_iadd (eLi 3)) (sQ (sAo (eGa (eLa 0) 8 0) (eOp o_iadd (eOp o_iadd (eI (22)) (eOp o_imul (eI (2)) (eLi 1))) (eLi 2)) o_iadd (eLi 3)) (sAo (eGa (eLa 0) 8 0) (eOp o_iadd (eOp o_iadd (eI (12)) (eOp o_imul (eI (5)) (eLi 2))) (eI (2))) o_iadd (eLi 3)))) (sRv))
theorem Y_X8_gives : Yk yX8_gives cX8_gives 4 none 3 := ⟨w1430, w16, by decide +kernel, by decide +kernel, by decide +kernel⟩
set_option maxRecDepth 20000 in
theorem k_X8_gives (l : Launch) (g : GE) : MetX l g yX8_gives cX8_gives 4 none 4 ({ frames := 0, cells := 0, slots := 0, locals := 0 } : Room) f_X8_gives := by
  unfold f_X8_gives
  exact MetX.of (own := RX8) 100 0 rfl (by decide +kernel) (by decide) (fun p e s m args below meth c Fin ad0 hr hn => ⟨_, _, Sv_seq (Sv_seq (Sv_aop_iadd (Ev_getA Fx8 (Ev_aload_n dX8_gives_0 rfl) (k := 8) (by decide) w1151 dX8_gives_1) (Ev_iadd (Ev_imul (Ev_iconst dX8_gives_4 (by decide)) (Ev_iload_n dX8_gives_5 rfl) dX8_gives_6) (Ev_iload_n dX8_gives_7 rfl) dX8_gives_8) dX8_gives_9 dX8_gives_10 (Ev_iload_n dX8_gives_11 rfl) dX8_gives_12 dX8_gives_13) (Sv_seq (Sv_aop_iadd (Ev_getA Fx8 (Ev_aload_n dX8_gives_14 rfl) (k := 0) (by decide) w1143 dX8_gives_15) (Ev_iadd (Ev_iadd (Ev_bipush dX8_gives_18 (by decide)) (Ev_imul (Ev_iconst dX8_gives_20 (by decide)) (Ev_iload_n dX8_gives_21 rfl) dX8_gives_22) dX8_gives_23) (Ev_iload_n dX8_gives_24 rfl) dX8_gives_25) dX8_gives_26 dX8_gives_27 (Ev_iload_n dX8_gives_28 rfl) dX8_gives_29 dX8_gives_30) (Sv_aop_iadd (Ev_getA Fx8 (Ev_aload_n dX8_gives_31 rfl) (k := 0) (by decide) w1143 dX8_gives_32) (Ev_iadd (Ev_iadd (Ev_bipush dX8_gives_35 (by decide)) (Ev_imul (Ev_iconst dX8_gives_37 (by decide)) (Ev_iload_n dX8_gives_38 rfl) dX8_gives_39) dX8_gives_40) (Ev_iconst dX8_gives_41 (by decide)) dX8_gives_42) dX8_gives_43 dX8_gives_44 (Ev_iload_n dX8_gives_45 rfl) dX8_gives_46 dX8_gives_47))) (Sv_retv hr dX8_gives_48), Nat.le_of_ble_eq_true rfl, Nat.le_of_ble_eq_true rfl⟩)
theorem dX8_step_0 : decode cX8_step 0 = .ok (.iload_n 2, 1) := by decide +kernel
theorem dX8_step_1 : decode cX8_step 1 = .ok (.iload_n 3, 1) := by decide +kernel
theorem dX8_step_2 : decode cX8_step 2 = .ok (.invokestatic 80, 3) := by decide +kernel
theorem dX8_step_5 : decode cX8_step 5 = .ok (.iadd, 1) := by decide +kernel
theorem dX8_step_6 : decode cX8_step 6 = .ok (.istore 4, 2) := by decide +kernel
theorem dX8_step_8 : decode cX8_step 8 = .ok (.aload_n 0, 1) := by decide +kernel
theorem dX8_step_9 : decode cX8_step 9 = .ok (.iload_n 1, 1) := by decide +kernel
theorem dX8_step_10 : decode cX8_step 10 = .ok (.iload_n 2, 1) := by decide +kernel
theorem dX8_step_11 : decode cX8_step 11 = .ok (.iload_n 3, 1) := by decide +kernel
theorem dX8_step_12 : decode cX8_step 12 = .ok (.invokestatic 178, 3) := by decide +kernel
theorem dX8_step_15 : decode cX8_step 15 = .ok (.invokevirtual 181, 3) := by decide +kernel
theorem dX8_step_18 : decode cX8_step 18 = .ok (.istore 5, 2) := by decide +kernel
theorem dX8_step_20 : decode cX8_step 20 = .ok (.aload_n 0, 1) := by decide +kernel
theorem dX8_step_21 : decode cX8_step 21 = .ok (.iload 4, 2) := by decide +kernel
theorem dX8_step_23 : decode cX8_step 23 = .ok (.invokevirtual 73, 3) := by decide +kernel
theorem dX8_step_26 : decode cX8_step 26 = .ok (.ifCond .ne 66, 3) := by decide +kernel
theorem dX8_step_29 : decode cX8_step 29 = .ok (.iload 4, 2) := by decide +kernel
theorem dX8_step_31 : decode cX8_step 31 = .ok (.ifCond .ge 12, 3) := by decide +kernel
theorem dX8_step_34 : decode cX8_step 34 = .ok (.aload_n 0, 1) := by decide +kernel
theorem dX8_step_35 : decode cX8_step 35 = .ok (.getfield 7, 3) := by decide +kernel
theorem dX8_step_38 : decode cX8_step 38 = .ok (.iconst 4, 1) := by decide +kernel
theorem dX8_step_39 : decode cX8_step 39 = .ok (.iaload, 1) := by decide +kernel
theorem dX8_step_40 : decode cX8_step 40 = .ok (.goto 9, 3) := by decide +kernel
theorem dX8_step_43 : decode cX8_step 43 = .ok (.aload_n 0, 1) := by decide +kernel
theorem dX8_step_44 : decode cX8_step 44 = .ok (.getfield 7, 3) := by decide +kernel
theorem dX8_step_47 : decode cX8_step 47 = .ok (.iconst 5, 1) := by decide +kernel
theorem dX8_step_48 : decode cX8_step 48 = .ok (.iaload, 1) := by decide +kernel
theorem dX8_step_49 : decode cX8_step 49 = .ok (.iload_n 3, 1) := by decide +kernel
theorem dX8_step_50 : decode cX8_step 50 = .ok (.invokestatic 184, 3) := by decide +kernel
theorem dX8_step_53 : decode cX8_step 53 = .ok (.istore 6, 2) := by decide +kernel
theorem dX8_step_55 : decode cX8_step 55 = .ok (.aload_n 0, 1) := by decide +kernel
theorem dX8_step_56 : decode cX8_step 56 = .ok (.getfield 32, 3) := by decide +kernel
theorem dX8_step_59 : decode cX8_step 59 = .ok (.iload_n 1, 1) := by decide +kernel
theorem dX8_step_60 : decode cX8_step 60 = .ok (.iload_n 2, 1) := by decide +kernel
theorem dX8_step_61 : decode cX8_step 61 = .ok (.invokestatic 76, 3) := by decide +kernel
theorem dX8_step_64 : decode cX8_step 64 = .ok (.dup2, 1) := by decide +kernel
theorem dX8_step_65 : decode cX8_step 65 = .ok (.iaload, 1) := by decide +kernel
theorem dX8_step_66 : decode cX8_step 66 = .ok (.iconst 1, 1) := by decide +kernel
theorem dX8_step_67 : decode cX8_step 67 = .ok (.iload 6, 2) := by decide +kernel
theorem dX8_step_69 : decode cX8_step 69 = .ok (.ishl, 1) := by decide +kernel
theorem dX8_step_70 : decode cX8_step 70 = .ok (.ior, 1) := by decide +kernel
theorem dX8_step_71 : decode cX8_step 71 = .ok (.iastore, 1) := by decide +kernel
theorem dX8_step_72 : decode cX8_step 72 = .ok (.aload_n 0, 1) := by decide +kernel
theorem dX8_step_73 : decode cX8_step 73 = .ok (.iconst 3, 1) := by decide +kernel
theorem dX8_step_74 : decode cX8_step 74 = .ok (.iconst 1, 1) := by decide +kernel
theorem dX8_step_75 : decode cX8_step 75 = .ok (.iload_n 3, 1) := by decide +kernel
theorem dX8_step_76 : decode cX8_step 76 = .ok (.ishl, 1) := by decide +kernel
theorem dX8_step_77 : decode cX8_step 77 = .ok (.iconst 1, 1) := by decide +kernel
theorem dX8_step_78 : decode cX8_step 78 = .ok (.invokevirtual 121, 3) := by decide +kernel
theorem dX8_step_81 : decode cX8_step 81 = .ok (.aload_n 0, 1) := by decide +kernel
theorem dX8_step_82 : decode cX8_step 82 = .ok (.iconst 3, 1) := by decide +kernel
theorem dX8_step_83 : decode cX8_step 83 = .ok (.iconst 1, 1) := by decide +kernel
theorem dX8_step_84 : decode cX8_step 84 = .ok (.iload 6, 2) := by decide +kernel
theorem dX8_step_86 : decode cX8_step 86 = .ok (.ishl, 1) := by decide +kernel
theorem dX8_step_87 : decode cX8_step 87 = .ok (.iconst (-1), 1) := by decide +kernel
theorem dX8_step_88 : decode cX8_step 88 = .ok (.invokevirtual 121, 3) := by decide +kernel
theorem dX8_step_91 : decode cX8_step 91 = .ok (.return_, 1) := by decide +kernel
theorem dX8_step_92 : decode cX8_step 92 = .ok (.aload_n 0, 1) := by decide +kernel
theorem dX8_step_93 : decode cX8_step 93 = .ok (.iload 5, 2) := by decide +kernel
theorem dX8_step_95 : decode cX8_step 95 = .ok (.invokevirtual 69, 3) := by decide +kernel
theorem dX8_step_98 : decode cX8_step 98 = .ok (.ifCond .ne 53, 3) := by decide +kernel
theorem dX8_step_101 : decode cX8_step 101 = .ok (.aload_n 0, 1) := by decide +kernel
theorem dX8_step_102 : decode cX8_step 102 = .ok (.getfield 7, 3) := by decide +kernel
theorem dX8_step_105 : decode cX8_step 105 = .ok (.bipush 11, 2) := by decide +kernel
theorem dX8_step_107 : decode cX8_step 107 = .ok (.dup2, 1) := by decide +kernel
theorem dX8_step_108 : decode cX8_step 108 = .ok (.iaload, 1) := by decide +kernel
theorem dX8_step_109 : decode cX8_step 109 = .ok (.iconst 1, 1) := by decide +kernel
theorem dX8_step_110 : decode cX8_step 110 = .ok (.iadd, 1) := by decide +kernel
theorem dX8_step_111 : decode cX8_step 111 = .ok (.iastore, 1) := by decide +kernel
theorem dX8_step_112 : decode cX8_step 112 = .ok (.aload_n 0, 1) := by decide +kernel
theorem dX8_step_113 : decode cX8_step 113 = .ok (.iconst 4, 1) := by decide +kernel
theorem dX8_step_114 : decode cX8_step 114 = .ok (.iconst 1, 1) := by decide +kernel
theorem dX8_step_115 : decode cX8_step 115 = .ok (.iload_n 3, 1) := by decide +kernel
theorem dX8_step_116 : decode cX8_step 116 = .ok (.ishl, 1) := by decide +kernel
theorem dX8_step_117 : decode cX8_step 117 = .ok (.iconst 1, 1) := by decide +kernel
theorem dX8_step_118 : decode cX8_step 118 = .ok (.invokevirtual 121, 3) := by decide +kernel
theorem dX8_step_121 : decode cX8_step 121 = .ok (.aload_n 0, 1) := by decide +kernel
theorem dX8_step_122 : decode cX8_step 122 = .ok (.getfield 7, 3) := by decide +kernel
theorem dX8_step_125 : decode cX8_step 125 = .ok (.bipush 34, 2) := by decide +kernel
theorem dX8_step_127 : decode cX8_step 127 = .ok (.aload_n 0, 1) := by decide +kernel
theorem dX8_step_128 : decode cX8_step 128 = .ok (.getfield 7, 3) := by decide +kernel
theorem dX8_step_131 : decode cX8_step 131 = .ok (.iconst 0, 1) := by decide +kernel
theorem dX8_step_132 : decode cX8_step 132 = .ok (.iaload, 1) := by decide +kernel
theorem dX8_step_133 : decode cX8_step 133 = .ok (.iadd, 1) := by decide +kernel
theorem dX8_step_134 : decode cX8_step 134 = .ok (.iconst 1, 1) := by decide +kernel
theorem dX8_step_135 : decode cX8_step 135 = .ok (.isub, 1) := by decide +kernel
theorem dX8_step_136 : decode cX8_step 136 = .ok (.dup2, 1) := by decide +kernel
theorem dX8_step_137 : decode cX8_step 137 = .ok (.iaload, 1) := by decide +kernel
theorem dX8_step_138 : decode cX8_step 138 = .ok (.iload 5, 2) := by decide +kernel
theorem dX8_step_140 : decode cX8_step 140 = .ok (.ifCond .le 7, 3) := by decide +kernel
theorem dX8_step_143 : decode cX8_step 143 = .ok (.iconst 1, 1) := by decide +kernel
theorem dX8_step_144 : decode cX8_step 144 = .ok (.goto 4, 3) := by decide +kernel
theorem dX8_step_147 : decode cX8_step 147 = .ok (.iconst 0, 1) := by decide +kernel
theorem dX8_step_148 : decode cX8_step 148 = .ok (.iadd, 1) := by decide +kernel
theorem dX8_step_149 : decode cX8_step 149 = .ok (.iastore, 1) := by decide +kernel
theorem dX8_step_150 : decode cX8_step 150 = .ok (.return_, 1) := by decide +kernel
theorem dX8_step_151 : decode cX8_step 151 = .ok (.aload_n 0, 1) := by decide +kernel
theorem dX8_step_152 : decode cX8_step 152 = .ok (.iload 5, 2) := by decide +kernel
theorem dX8_step_154 : decode cX8_step 154 = .ok (.iload 4, 2) := by decide +kernel
theorem dX8_step_156 : decode cX8_step 156 = .ok (.invokevirtual 108, 3) := by decide +kernel
theorem dX8_step_159 : decode cX8_step 159 = .ok (.istore 6, 2) := by decide +kernel
theorem dX8_step_161 : decode cX8_step 161 = .ok (.iload 6, 2) := by decide +kernel
theorem dX8_step_163 : decode cX8_step 163 = .ok (.ifCond .ge 57, 3) := by decide +kernel
theorem dX8_step_166 : decode cX8_step 166 = .ok (.aload_n 0, 1) := by decide +kernel
theorem dX8_step_167 : decode cX8_step 167 = .ok (.getfield 32, 3) := by decide +kernel
theorem dX8_step_170 : decode cX8_step 170 = .ok (.iload_n 1, 1) := by decide +kernel
theorem dX8_step_171 : decode cX8_step 171 = .ok (.iload_n 2, 1) := by decide +kernel
theorem dX8_step_172 : decode cX8_step 172 = .ok (.invokestatic 76, 3) := by decide +kernel
theorem dX8_step_175 : decode cX8_step 175 = .ok (.dup2, 1) := by decide +kernel
theorem dX8_step_176 : decode cX8_step 176 = .ok (.iaload, 1) := by decide +kernel
theorem dX8_step_177 : decode cX8_step 177 = .ok (.iconst 1, 1) := by decide +kernel
theorem dX8_step_178 : decode cX8_step 178 = .ok (.iload_n 3, 1) := by decide +kernel
theorem dX8_step_179 : decode cX8_step 179 = .ok (.iconst 3, 1) := by decide +kernel
theorem dX8_step_180 : decode cX8_step 180 = .ok (.iadd, 1) := by decide +kernel
theorem dX8_step_181 : decode cX8_step 181 = .ok (.bipush 6, 2) := by decide +kernel
theorem dX8_step_183 : decode cX8_step 183 = .ok (.irem, 1) := by decide +kernel
theorem dX8_step_184 : decode cX8_step 184 = .ok (.ishl, 1) := by decide +kernel
theorem dX8_step_185 : decode cX8_step 185 = .ok (.ior, 1) := by decide +kernel
theorem dX8_step_186 : decode cX8_step 186 = .ok (.iastore, 1) := by decide +kernel
theorem dX8_step_187 : decode cX8_step 187 = .ok (.aload_n 0, 1) := by decide +kernel
theorem dX8_step_188 : decode cX8_step 188 = .ok (.iconst (-1), 1) := by decide +kernel
theorem dX8_step_189 : decode cX8_step 189 = .ok (.iload 6, 2) := by decide +kernel
theorem dX8_step_191 : decode cX8_step 191 = .ok (.isub, 1) := by decide +kernel
theorem dX8_step_192 : decode cX8_step 192 = .ok (.iconst 0, 1) := by decide +kernel
theorem dX8_step_193 : decode cX8_step 193 = .ok (.iconst 2, 1) := by decide +kernel
theorem dX8_step_194 : decode cX8_step 194 = .ok (.iconst 0, 1) := by decide +kernel
theorem dX8_step_195 : decode cX8_step 195 = .ok (.iload_n 3, 1) := by decide +kernel
theorem dX8_step_196 : decode cX8_step 196 = .ok (.invokestatic 83, 3) := by decide +kernel
theorem dX8_step_199 : decode cX8_step 199 = .ok (.imul, 1) := by decide +kernel
theorem dX8_step_200 : decode cX8_step 200 = .ok (.invokevirtual 187, 3) := by decide +kernel
theorem dX8_step_203 : decode cX8_step 203 = .ok (.aload_n 0, 1) := by decide +kernel
theorem dX8_step_204 : decode cX8_step 204 = .ok (.iconst (-1), 1) := by decide +kernel
theorem dX8_step_205 : decode cX8_step 205 = .ok (.iload 6, 2) := by decide +kernel
theorem dX8_step_207 : decode cX8_step 207 = .ok (.isub, 1) := by decide +kernel
theorem dX8_step_208 : decode cX8_step 208 = .ok (.iconst 1, 1) := by decide +kernel
theorem dX8_step_209 : decode cX8_step 209 = .ok (.iconst 2, 1) := by decide +kernel
theorem dX8_step_210 : decode cX8_step 210 = .ok (.iconst 1, 1) := by decide +kernel
theorem dX8_step_211 : decode cX8_step 211 = .ok (.iload_n 3, 1) := by decide +kernel
theorem dX8_step_212 : decode cX8_step 212 = .ok (.invokestatic 83, 3) := by decide +kernel
theorem dX8_step_215 : decode cX8_step 215 = .ok (.imul, 1) := by decide +kernel
theorem dX8_step_216 : decode cX8_step 216 = .ok (.invokevirtual 187, 3) := by decide +kernel
theorem dX8_step_219 : decode cX8_step 219 = .ok (.return_, 1) := by decide +kernel
theorem dX8_step_220 : decode cX8_step 220 = .ok (.aload_n 0, 1) := by decide +kernel
theorem dX8_step_221 : decode cX8_step 221 = .ok (.getfield 32, 3) := by decide +kernel
theorem dX8_step_224 : decode cX8_step 224 = .ok (.iload 5, 2) := by decide +kernel
theorem dX8_step_226 : decode cX8_step 226 = .ok (.iload 4, 2) := by decide +kernel
theorem dX8_step_228 : decode cX8_step 228 = .ok (.invokestatic 76, 3) := by decide +kernel
theorem dX8_step_231 : decode cX8_step 231 = .ok (.dup2, 1) := by decide +kernel
theorem dX8_step_232 : decode cX8_step 232 = .ok (.iaload, 1) := by decide +kernel
theorem dX8_step_233 : decode cX8_step 233 = .ok (.iconst 1, 1) := by decide +kernel
theorem dX8_step_234 : decode cX8_step 234 = .ok (.iload_n 3, 1) := by decide +kernel
theorem dX8_step_235 : decode cX8_step 235 = .ok (.ishl, 1) := by decide +kernel
theorem dX8_step_236 : decode cX8_step 236 = .ok (.ior, 1) := by decide +kernel
theorem dX8_step_237 : decode cX8_step 237 = .ok (.iastore, 1) := by decide +kernel
theorem dX8_step_238 : decode cX8_step 238 = .ok (.aload_n 0, 1) := by decide +kernel
theorem dX8_step_239 : decode cX8_step 239 = .ok (.getfield 7, 3) := by decide +kernel
theorem dX8_step_242 : decode cX8_step 242 = .ok (.bipush 34, 2) := by decide +kernel
theorem dX8_step_244 : decode cX8_step 244 = .ok (.iload_n 1, 1) := by decide +kernel
theorem dX8_step_245 : decode cX8_step 245 = .ok (.iadd, 1) := by decide +kernel
theorem dX8_step_246 : decode cX8_step 246 = .ok (.dup2, 1) := by decide +kernel
theorem dX8_step_247 : decode cX8_step 247 = .ok (.iaload, 1) := by decide +kernel
theorem dX8_step_248 : decode cX8_step 248 = .ok (.iload_n 2, 1) := by decide +kernel
theorem dX8_step_249 : decode cX8_step 249 = .ok (.iload_n 3, 1) := by decide +kernel
theorem dX8_step_250 : decode cX8_step 250 = .ok (.invokestatic 178, 3) := by decide +kernel
theorem dX8_step_253 : decode cX8_step 253 = .ok (.iconst 1, 1) := by decide +kernel
theorem dX8_step_254 : decode cX8_step 254 = .ok (.if_icmp .ne 7, 3) := by decide +kernel
theorem dX8_step_257 : decode cX8_step 257 = .ok (.iconst 1, 1) := by decide +kernel
theorem dX8_step_258 : decode cX8_step 258 = .ok (.goto 4, 3) := by decide +kernel
theorem dX8_step_261 : decode cX8_step 261 = .ok (.iconst 0, 1) := by decide +kernel
theorem dX8_step_262 : decode cX8_step 262 = .ok (.iadd, 1) := by decide +kernel
theorem dX8_step_263 : decode cX8_step 263 = .ok (.iastore, 1) := by decide +kernel
theorem dX8_step_264 : decode cX8_step 264 = .ok (.aload_n 0, 1) := by decide +kernel
theorem dX8_step_265 : decode cX8_step 265 = .ok (.getfield 7, 3) := by decide +kernel
theorem dX8_step_268 : decode cX8_step 268 = .ok (.bipush 34, 2) := by decide +kernel
theorem dX8_step_270 : decode cX8_step 270 = .ok (.iload 5, 2) := by decide +kernel
theorem dX8_step_272 : decode cX8_step 272 = .ok (.iadd, 1) := by decide +kernel
theorem dX8_step_273 : decode cX8_step 273 = .ok (.dup2, 1) := by decide +kernel
theorem dX8_step_274 : decode cX8_step 274 = .ok (.iaload, 1) := by decide +kernel
theorem dX8_step_275 : decode cX8_step 275 = .ok (.iload_n 2, 1) := by decide +kernel
theorem dX8_step_276 : decode cX8_step 276 = .ok (.iload_n 3, 1) := by decide +kernel
theorem dX8_step_277 : decode cX8_step 277 = .ok (.invokestatic 178, 3) := by decide +kernel
theorem dX8_step_280 : decode cX8_step 280 = .ok (.iconst (-1), 1) := by decide +kernel
theorem dX8_step_281 : decode cX8_step 281 = .ok (.if_icmp .ne 7, 3) := by decide +kernel
theorem dX8_step_284 : decode cX8_step 284 = .ok (.iconst 1, 1) := by decide +kernel
theorem dX8_step_285 : decode cX8_step 285 = .ok (.goto 4, 3) := by decide +kernel
theorem dX8_step_288 : decode cX8_step 288 = .ok (.iconst 0, 1) := by decide +kernel
theorem dX8_step_289 : decode cX8_step 289 = .ok (.isub, 1) := by decide +kernel
theorem dX8_step_290 : decode cX8_step 290 = .ok (.iastore, 1) := by decide +kernel
theorem dX8_step_291 : decode cX8_step 291 = .ok (.return_, 1) := by decide +kernel
def f_X8_step : MX := mth 7 (sQ (sQ (sTi 4 (eOp o_iadd (eLi 2) (eM (f_X8_down) (aI (aN) (eLi 3))))) (sQ (sTi 5 (eM (gd 8 f_X8_beside) (aI (aI (aA (aN) (eLa 0)) (eLi 1)) (eM (f_X8_right) (aI (aI (aN) (eLi 2)) (eLi 3)))))) (sQ (sIf (cNot (cZ z_ne (eM (gd 8 f_X8_isRow) (aI (aA (aN) (eLa 0)) (eLi 4))))) (sQ (sTi 6 (eM (f_X8_round) (aI (aI (aN) (eIf (cZ z_lt (eLi 4)) (eAi 0 (eGa (eLa 0) 8 0) (eI (4))) (eAi 0 (eGa (eLa 0) 8 0) (eI (5))))) (eLi 3)))) (sQ (sAo (eGa (eLa 0) 8 7) (eM (f_X8_place) (aI (aI (aN) (eLi 1)) (eLi 2))) o_ior (eOp o_ishl (eI (1)) (eLi 6))) (sQ (sM (gd 8 f_X8_books) (aI (aI (aI (aA (aN) (eLa 0)) (eI (3))) (eOp o_ishl (eI (1)) (eLi 3))) (eI (1)))) (sQ (sM (gd 8 f_X8_books) (aI (aI (aI (aA (aN) (eLa 0)) (eI (3))) (eOp o_ishl (eI (1)) (eLi 6))) (eI (-1)))) (sRv))))) sN) (sQ (sIf (cNot (cZ z_ne (eM (gd 8 f_X8_isColumn) (aI (aA (aN) (eLa 0)) (eLi 5))))) (sQ (sAo (eGa (eLa 0) 8 0) (eI (11)) o_iadd (eI (1))) (sQ (sM (gd 8 f_X8_books) (aI (aI (aI (aA (aN) (eLa 0)) (eI (4))) (eOp o_ishl (eI (1)) (eLi 3))) (eI (1)))) (sQ (sAo (eGa (eLa 0) 8 0) (eOp o_isub (eOp o_iadd (eI (34)) (eAi 0 (eGa (eLa 0) 8 0) (eI (0)))) (eI (1))) o_iadd (eIf (cZ z_gt (eLi 5)) (eI (1)) (eI (0)))) (sRv)))) sN) (sQ (sTi 6 (eM (gd 8 f_X8_had) (aI (aI (aA (aN) (eLa 0)) (eLi 5)) (eLi 4)))) (sQ (sIf (cZ z_lt (eLi 6)) (sQ (sAo (eGa (eLa 0) 8 7) (eM (f_X8_place) (aI (aI (aN) (eLi 1)) (eLi 2))) o_ior (eOp o_ishl (eI (1)) (eQ o_irem (eOp o_iadd (eLi 3) (eI (3))) (eI (6))))) (sQ (sM (gd 8 f_X8_gives) (aI (aI (aI (aA (aN) (eLa 0)) (eOp o_isub (eI (-1)) (eLi 6))) (eI (0))) (eOp o_imul (eI (2)) (eM (f_X8_push) (aI (aI (aN) (eI (0))) (eLi 3)))))) (sQ (sM (gd 8 f_X8_gives) (aI (aI (aI (aA (aN) (eLa 0)) (eOp o_isub (eI (-1)) (eLi 6))) (eI (1))) (eOp o_imul (eI (2)) (eM (f_X8_push) (aI (aI (aN) (eI (1))) (eLi 3)))))) (sRv)))) sN) (sQ (sAo (eGa (eLa 0) 8 7) (eM (f_X8_place) (aI (aI (aN) (eLi 5)) (eLi 4))) o_ior (eOp o_ishl (eI (1)) (eLi 3))) (sQ (sAo (eGa (eLa 0) 8 0) (eOp o_iadd (eI (34)) (eLi 1)) o_iadd (eIf (cB c_eq (eM (f_X8_right) (aI (aI (aN) (eLi 2)) (eLi 3))) (eI (1))) (eI (1)) (eI (0)))) (sAo (eGa (eLa 0) 8 0) (eOp o_iadd (eI (34)) (eLi 5)) o_isub (eIf (cB c_eq (eM (f_X8_right) (aI (aI (aN) (eLi 2)) (eLi 3))) (eI (-1))) (eI (1)) (eI (0)))))))))))) (sRv))
theorem Y_X8_step : Yk yX8_step cX8_step 7 none 3 := ⟨w1416, w16, by decide +kernel, by decide +kernel, by decide +kernel⟩
set_option maxRecDepth 20000 in
theorem k_X8_step (l : Launch) (g : GE) : MetX l g yX8_step cX8_step 7 none 4 ({ frames := 4, cells := 0, slots := 0, locals := 88 } : Room) f_X8_step := by
  unfold f_X8_step
  exact MetX.of (own := RX8) 100 0 rfl (by decide +kernel) (by decide) (fun p e s m args below meth c Fin ad0 hr hn => ⟨_, _, Sv_seq (Sv_seq (Sv_istore (Ev_iadd (Ev_iload_n dX8_step_0 rfl) (Ev_call (Av_i (Av_nil) (Ev_iload_n dX8_step_1 rfl)) (Rn_S Y_X8_down (k_X8_down _ _) w1300 w1301 dX8_step_2 (Nat.le_of_ble_eq_true rfl) (Nat.le_of_ble_eq_true rfl) (Nat.le_of_ble_eq_true rfl) (Nat.ne_of_beq_eq_false rfl))) dX8_step_5) dX8_step_6 (Nat.le_of_ble_eq_true rfl) (Nat.ne_of_beq_eq_false rfl)) (Sv_seq (Sv_istore (Ev_call (Av_i (Av_i (Av_a (Av_nil) (Ev_aload_n dX8_step_8 rfl)) (Ev_iload_n dX8_step_9 rfl)) (Ev_call (Av_i (Av_i (Av_nil) (Ev_iload_n dX8_step_10 rfl)) (Ev_iload_n dX8_step_11 rfl)) (Rn_S Y_X8_right (k_X8_right _ _) w1417 w1418 dX8_step_12 (Nat.le_of_ble_eq_true rfl) (Nat.le_of_ble_eq_true rfl) (Nat.le_of_ble_eq_true rfl) (Nat.ne_of_beq_eq_false rfl)))) (Rn_V (ci := 8) Fx8.1 rfl Y_X8_beside (k_X8_beside _ _) w1420 w1422 wp57 dX8_step_15 (Nat.le_of_ble_eq_true rfl) (Nat.le_of_ble_eq_true rfl) (Nat.le_of_ble_eq_true rfl) (Nat.ne_of_beq_eq_false rfl))) dX8_step_18 (Nat.le_of_ble_eq_true rfl) (Nat.ne_of_beq_eq_false rfl)) (Sv_seq (Sv_if (Cv_not (Cv_if_ne_j (Ev_call (Av_i (Av_a (Av_nil) (Ev_aload_n dX8_step_20 rfl)) (Ev_iload dX8_step_21)) (Rn_V (ci := 8) Fx8.1 rfl Y_X8_isRow (k_X8_isRow _ _) w1251 w1253 wp36 dX8_step_23 (Nat.le_of_ble_eq_true rfl) (Nat.le_of_ble_eq_true rfl) (Nat.le_of_ble_eq_true rfl) (Nat.ne_of_beq_eq_false rfl))) (t := 92) dX8_step_26 (by decide))) (Sv_seq (Sv_istore (Ev_call (Av_i (Av_i (Av_nil) (Ev_if (pT := 49) (Cv_if_ge_n (Ev_iload dX8_step_29) (t := 43) dX8_step_31 (by decide)) (Ev_iaload (Ev_getA Fx8 (Ev_aload_n dX8_step_34 rfl) (k := 0) (by decide) w1143 dX8_step_35) (Ev_iconst dX8_step_38 (by decide)) dX8_step_39) dX8_step_40 (by decide) (Ev_iaload (Ev_getA Fx8 (Ev_aload_n dX8_step_43 rfl) (k := 0) (by decide) w1143 dX8_step_44) (Ev_iconst dX8_step_47 (by decide)) dX8_step_48))) (Ev_iload_n dX8_step_49 rfl)) (Rn_S Y_X8_round (k_X8_round _ _) w1424 w1425 dX8_step_50 (Nat.le_of_ble_eq_true rfl) (Nat.le_of_ble_eq_true rfl) (Nat.le_of_ble_eq_true rfl) (Nat.ne_of_beq_eq_false rfl))) dX8_step_53 (Nat.le_of_ble_eq_true rfl) (Nat.ne_of_beq_eq_false rfl)) (Sv_seq (Sv_aop_ior (Ev_getA Fx8 (Ev_aload_n dX8_step_55 rfl) (k := 7) (by decide) w1150 dX8_step_56) (Ev_call (Av_i (Av_i (Av_nil) (Ev_iload_n dX8_step_59 rfl)) (Ev_iload_n dX8_step_60 rfl)) (Rn_S Y_X8_place (k_X8_place _ _) w1259 w1260 dX8_step_61 (Nat.le_of_ble_eq_true rfl) (Nat.le_of_ble_eq_true rfl) (Nat.le_of_ble_eq_true rfl) (Nat.ne_of_beq_eq_false rfl))) dX8_step_64 dX8_step_65 (Ev_ishl (Ev_iconst dX8_step_66 (by decide)) (Ev_iload dX8_step_67) dX8_step_69) dX8_step_70 dX8_step_71) (Sv_seq (Sv_call (Av_i (Av_i (Av_i (Av_a (Av_nil) (Ev_aload_n dX8_step_72 rfl)) (Ev_iconst dX8_step_73 (by decide))) (Ev_ishl (Ev_iconst dX8_step_74 (by decide)) (Ev_iload_n dX8_step_75 rfl) dX8_step_76)) (Ev_iconst dX8_step_77 (by decide))) (Rn_V (ci := 8) Fx8.1 rfl Y_X8_books (k_X8_books _ _) w1290 w1292 wp41 dX8_step_78 (Nat.le_of_ble_eq_true rfl) (Nat.le_of_ble_eq_true rfl) (Nat.le_of_ble_eq_true rfl) (Nat.ne_of_beq_eq_false rfl))) (Sv_seq (Sv_call (Av_i (Av_i (Av_i (Av_a (Av_nil) (Ev_aload_n dX8_step_81 rfl)) (Ev_iconst dX8_step_82 (by decide))) (Ev_ishl (Ev_iconst dX8_step_83 (by decide)) (Ev_iload dX8_step_84) dX8_step_86)) (Ev_iconst dX8_step_87 (by decide))) (Rn_V (ci := 8) Fx8.1 rfl Y_X8_books (k_X8_books _ _) w1290 w1292 wp41 dX8_step_88 (Nat.le_of_ble_eq_true rfl) (Nat.le_of_ble_eq_true rfl) (Nat.le_of_ble_eq_true rfl) (Nat.ne_of_beq_eq_false rfl))) (Sv_retv hr dX8_step_91))))) Sv_nop) (Sv_seq (Sv_if (Cv_not (Cv_if_ne_j (Ev_call (Av_i (Av_a (Av_nil) (Ev_aload_n dX8_step_92 rfl)) (Ev_iload dX8_step_93)) (Rn_V (ci := 8) Fx8.1 rfl Y_X8_isColumn (k_X8_isColumn _ _) w1247 w1249 wp35 dX8_step_95 (Nat.le_of_ble_eq_true rfl) (Nat.le_of_ble_eq_true rfl) (Nat.le_of_ble_eq_true rfl) (Nat.ne_of_beq_eq_false rfl))) (t := 151) dX8_step_98 (by decide))) (Sv_seq (Sv_aop_iadd (Ev_getA Fx8 (Ev_aload_n dX8_step_101 rfl) (k := 0) (by decide) w1143 dX8_step_102) (Ev_bipush dX8_step_105 (by decide)) dX8_step_107 dX8_step_108 (Ev_iconst dX8_step_109 (by decide)) dX8_step_110 dX8_step_111) (Sv_seq (Sv_call (Av_i (Av_i (Av_i (Av_a (Av_nil) (Ev_aload_n dX8_step_112 rfl)) (Ev_iconst dX8_step_113 (by decide))) (Ev_ishl (Ev_iconst dX8_step_114 (by decide)) (Ev_iload_n dX8_step_115 rfl) dX8_step_116)) (Ev_iconst dX8_step_117 (by decide))) (Rn_V (ci := 8) Fx8.1 rfl Y_X8_books (k_X8_books _ _) w1290 w1292 wp41 dX8_step_118 (Nat.le_of_ble_eq_true rfl) (Nat.le_of_ble_eq_true rfl) (Nat.le_of_ble_eq_true rfl) (Nat.ne_of_beq_eq_false rfl))) (Sv_seq (Sv_aop_iadd (Ev_getA Fx8 (Ev_aload_n dX8_step_121 rfl) (k := 0) (by decide) w1143 dX8_step_122) (Ev_isub (Ev_iadd (Ev_bipush dX8_step_125 (by decide)) (Ev_iaload (Ev_getA Fx8 (Ev_aload_n dX8_step_127 rfl) (k := 0) (by decide) w1143 dX8_step_128) (Ev_iconst dX8_step_131 (by decide)) dX8_step_132) dX8_step_133) (Ev_iconst dX8_step_134 (by decide)) dX8_step_135) dX8_step_136 dX8_step_137 (Ev_if (pT := 148) (Cv_if_le_n (Ev_iload dX8_step_138) (t := 147) dX8_step_140 (by decide)) (Ev_iconst dX8_step_143 (by decide)) dX8_step_144 (by decide) (Ev_iconst dX8_step_147 (by decide))) dX8_step_148 dX8_step_149) (Sv_retv hr dX8_step_150)))) Sv_nop) (Sv_seq (Sv_istore (Ev_call (Av_i (Av_i (Av_a (Av_nil) (Ev_aload_n dX8_step_151 rfl)) (Ev_iload dX8_step_152)) (Ev_iload dX8_step_154)) (Rn_V (ci := 8) Fx8.1 rfl Y_X8_had (k_X8_had _ _) w1255 w1257 wp37 dX8_step_156 (Nat.le_of_ble_eq_true rfl) (Nat.le_of_ble_eq_true rfl) (Nat.le_of_ble_eq_true rfl) (Nat.ne_of_beq_eq_false rfl))) dX8_step_159 (Nat.le_of_ble_eq_true rfl) (Nat.ne_of_beq_eq_false rfl)) (Sv_seq (Sv_if (Cv_if_ge_n (Ev_iload dX8_step_161) (t := 220) dX8_step_163 (by decide)) (Sv_seq (Sv_aop_ior (Ev_getA Fx8 (Ev_aload_n dX8_step_166 rfl) (k := 7) (by decide) w1150 dX8_step_167) (Ev_call (Av_i (Av_i (Av_nil) (Ev_iload_n dX8_step_170 rfl)) (Ev_iload_n dX8_step_171 rfl)) (Rn_S Y_X8_place (k_X8_place _ _) w1259 w1260 dX8_step_172 (Nat.le_of_ble_eq_true rfl) (Nat.le_of_ble_eq_true rfl) (Nat.le_of_ble_eq_true rfl) (Nat.ne_of_beq_eq_false rfl))) dX8_step_175 dX8_step_176 (Ev_ishl (Ev_iconst dX8_step_177 (by decide)) (Ev_irem (Ev_iadd (Ev_iload_n dX8_step_178 rfl) (Ev_iconst dX8_step_179 (by decide)) dX8_step_180) (Ev_bipush dX8_step_181 (by decide)) dX8_step_183) dX8_step_184) dX8_step_185 dX8_step_186) (Sv_seq (Sv_call (Av_i (Av_i (Av_i (Av_a (Av_nil) (Ev_aload_n dX8_step_187 rfl)) (Ev_isub (Ev_iconst dX8_step_188 (by decide)) (Ev_iload dX8_step_189) dX8_step_191)) (Ev_iconst dX8_step_192 (by decide))) (Ev_imul (Ev_iconst dX8_step_193 (by decide)) (Ev_call (Av_i (Av_i (Av_nil) (Ev_iconst dX8_step_194 (by decide))) (Ev_iload_n dX8_step_195 rfl)) (Rn_S Y_X8_push (k_X8_push _ _) w1297 w1298 dX8_step_196 (Nat.le_of_ble_eq_true rfl) (Nat.le_of_ble_eq_true rfl) (Nat.le_of_ble_eq_true rfl) (Nat.ne_of_beq_eq_false rfl))) dX8_step_199)) (Rn_V (ci := 8) Fx8.1 rfl Y_X8_gives (k_X8_gives _ _) w1427 w1429 wp58 dX8_step_200 (Nat.le_of_ble_eq_true rfl) (Nat.le_of_ble_eq_true rfl) (Nat.le_of_ble_eq_true rfl) (Nat.ne_of_beq_eq_false rfl))) (Sv_seq (Sv_call (Av_i (Av_i (Av_i (Av_a (Av_nil) (Ev_aload_n dX8_step_203 rfl)) (Ev_isub (Ev_iconst dX8_step_204 (by decide)) (Ev_iload dX8_step_205) dX8_step_207)) (Ev_iconst dX8_step_208 (by decide))) (Ev_imul (Ev_iconst dX8_step_209 (by decide)) (Ev_call (Av_i (Av_i (Av_nil) (Ev_iconst dX8_step_210 (by decide))) (Ev_iload_n dX8_step_211 rfl)) (Rn_S Y_X8_push (k_X8_push _ _) w1297 w1298 dX8_step_212 (Nat.le_of_ble_eq_true rfl) (Nat.le_of_ble_eq_true rfl) (Nat.le_of_ble_eq_true rfl) (Nat.ne_of_beq_eq_false rfl))) dX8_step_215)) (Rn_V (ci := 8) Fx8.1 rfl Y_X8_gives (k_X8_gives _ _) w1427 w1429 wp58 dX8_step_216 (Nat.le_of_ble_eq_true rfl) (Nat.le_of_ble_eq_true rfl) (Nat.le_of_ble_eq_true rfl) (Nat.ne_of_beq_eq_false rfl))) (Sv_retv hr dX8_step_219)))) Sv_nop) (Sv_seq (Sv_aop_ior (Ev_getA Fx8 (Ev_aload_n dX8_step_220 rfl) (k := 7) (by decide) w1150 dX8_step_221) (Ev_call (Av_i (Av_i (Av_nil) (Ev_iload dX8_step_224)) (Ev_iload dX8_step_226)) (Rn_S Y_X8_place (k_X8_place _ _) w1259 w1260 dX8_step_228 (Nat.le_of_ble_eq_true rfl) (Nat.le_of_ble_eq_true rfl) (Nat.le_of_ble_eq_true rfl) (Nat.ne_of_beq_eq_false rfl))) dX8_step_231 dX8_step_232 (Ev_ishl (Ev_iconst dX8_step_233 (by decide)) (Ev_iload_n dX8_step_234 rfl) dX8_step_235) dX8_step_236 dX8_step_237) (Sv_seq (Sv_aop_iadd (Ev_getA Fx8 (Ev_aload_n dX8_step_238 rfl) (k := 0) (by decide) w1143 dX8_step_239) (Ev_iadd (Ev_bipush dX8_step_242 (by decide)) (Ev_iload_n dX8_step_244 rfl) dX8_step_245) dX8_step_246 dX8_step_247 (Ev_if (pT := 262) (Cv_icmp_ne_n (Ev_call (Av_i (Av_i (Av_nil) (Ev_iload_n dX8_step_248 rfl)) (Ev_iload_n dX8_step_249 rfl)) (Rn_S Y_X8_right (k_X8_right _ _) w1417 w1418 dX8_step_250 (Nat.le_of_ble_eq_true rfl) (Nat.le_of_ble_eq_true rfl) (Nat.le_of_ble_eq_true rfl) (Nat.ne_of_beq_eq_false rfl))) (Ev_iconst dX8_step_253 (by decide)) (t := 261) dX8_step_254 (by decide)) (Ev_iconst dX8_step_257 (by decide)) dX8_step_258 (by decide) (Ev_iconst dX8_step_261 (by decide))) dX8_step_262 dX8_step_263) (Sv_aop_isub (Ev_getA Fx8 (Ev_aload_n dX8_step_264 rfl) (k := 0) (by decide) w1143 dX8_step_265) (Ev_iadd (Ev_bipush dX8_step_268 (by decide)) (Ev_iload dX8_step_270) dX8_step_272) dX8_step_273 dX8_step_274 (Ev_if (pT := 289) (Cv_icmp_ne_n (Ev_call (Av_i (Av_i (Av_nil) (Ev_iload_n dX8_step_275 rfl)) (Ev_iload_n dX8_step_276 rfl)) (Rn_S Y_X8_right (k_X8_right _ _) w1417 w1418 dX8_step_277 (Nat.le_of_ble_eq_true rfl) (Nat.le_of_ble_eq_true rfl) (Nat.le_of_ble_eq_true rfl) (Nat.ne_of_beq_eq_false rfl))) (Ev_iconst dX8_step_280 (by decide)) (t := 288) dX8_step_281 (by decide)) (Ev_iconst dX8_step_284 (by decide)) dX8_step_285 (by decide) (Ev_iconst dX8_step_288 (by decide))) dX8_step_289 dX8_step_290))))))))) (Sv_retv hr dX8_step_291), Nat.le_of_ble_eq_true rfl, Nat.le_of_ble_eq_true rfl⟩)
theorem dX8_records_0 : decode cX8_records 0 = .ok (.aload_n 0, 1) := by decide +kernel
theorem dX8_records_1 : decode cX8_records 1 = .ok (.getfield 7, 3) := by decide +kernel
theorem dX8_records_4 : decode cX8_records 4 = .ok (.bipush 7, 2) := by decide +kernel
theorem dX8_records_6 : decode cX8_records 6 = .ok (.iaload, 1) := by decide +kernel
theorem dX8_records_7 : decode cX8_records 7 = .ok (.bipush 64, 2) := by decide +kernel
theorem dX8_records_9 : decode cX8_records 9 = .ok (.if_icmp .ne 48, 3) := by decide +kernel
theorem dX8_records_12 : decode cX8_records 12 = .ok (.iconst 0, 1) := by decide +kernel
theorem dX8_records_13 : decode cX8_records 13 = .ok (.istore_n 1, 1) := by decide +kernel
theorem dX8_records_14 : decode cX8_records 14 = .ok (.iload_n 1, 1) := by decide +kernel
theorem dX8_records_15 : decode cX8_records 15 = .ok (.sipush 756, 3) := by decide +kernel
theorem dX8_records_18 : decode cX8_records 18 = .ok (.if_icmp .ge 30, 3) := by decide +kernel
theorem dX8_records_21 : decode cX8_records 21 = .ok (.aload_n 0, 1) := by decide +kernel
theorem dX8_records_22 : decode cX8_records 22 = .ok (.getfield 7, 3) := by decide +kernel
theorem dX8_records_25 : decode cX8_records 25 = .ok (.bipush 114, 2) := by decide +kernel
theorem dX8_records_27 : decode cX8_records 27 = .ok (.iload_n 1, 1) := by decide +kernel
theorem dX8_records_28 : decode cX8_records 28 = .ok (.iadd, 1) := by decide +kernel
theorem dX8_records_29 : decode cX8_records 29 = .ok (.aload_n 0, 1) := by decide +kernel
theorem dX8_records_30 : decode cX8_records 30 = .ok (.getfield 7, 3) := by decide +kernel
theorem dX8_records_33 : decode cX8_records 33 = .ok (.bipush 114, 2) := by decide +kernel
theorem dX8_records_35 : decode cX8_records 35 = .ok (.iload_n 1, 1) := by decide +kernel
theorem dX8_records_36 : decode cX8_records 36 = .ok (.iadd, 1) := by decide +kernel
theorem dX8_records_37 : decode cX8_records 37 = .ok (.bipush 12, 2) := by decide +kernel
theorem dX8_records_39 : decode cX8_records 39 = .ok (.iadd, 1) := by decide +kernel
theorem dX8_records_40 : decode cX8_records 40 = .ok (.iaload, 1) := by decide +kernel
theorem dX8_records_41 : decode cX8_records 41 = .ok (.iastore, 1) := by decide +kernel
theorem dX8_records_42 : decode cX8_records 42 = .ok (.iinc 1 1, 3) := by decide +kernel
theorem dX8_records_45 : decode cX8_records 45 = .ok (.goto (-31), 3) := by decide +kernel
theorem dX8_records_48 : decode cX8_records 48 = .ok (.aload_n 0, 1) := by decide +kernel
theorem dX8_records_49 : decode cX8_records 49 = .ok (.getfield 7, 3) := by decide +kernel
theorem dX8_records_52 : decode cX8_records 52 = .ok (.bipush 7, 2) := by decide +kernel
theorem dX8_records_54 : decode cX8_records 54 = .ok (.bipush 63, 2) := by decide +kernel
theorem dX8_records_56 : decode cX8_records 56 = .ok (.iastore, 1) := by decide +kernel
theorem dX8_records_57 : decode cX8_records 57 = .ok (.iconst 0, 1) := by decide +kernel
theorem dX8_records_58 : decode cX8_records 58 = .ok (.istore_n 1, 1) := by decide +kernel
theorem dX8_records_59 : decode cX8_records 59 = .ok (.iload_n 1, 1) := by decide +kernel
theorem dX8_records_60 : decode cX8_records 60 = .ok (.bipush 12, 2) := by decide +kernel
theorem dX8_records_62 : decode cX8_records 62 = .ok (.if_icmp .ge 35, 3) := by decide +kernel
theorem dX8_records_65 : decode cX8_records 65 = .ok (.aload_n 0, 1) := by decide +kernel
theorem dX8_records_66 : decode cX8_records 66 = .ok (.getfield 7, 3) := by decide +kernel
theorem dX8_records_69 : decode cX8_records 69 = .ok (.bipush 114, 2) := by decide +kernel
theorem dX8_records_71 : decode cX8_records 71 = .ok (.bipush 12, 2) := by decide +kernel
theorem dX8_records_73 : decode cX8_records 73 = .ok (.aload_n 0, 1) := by decide +kernel
theorem dX8_records_74 : decode cX8_records 74 = .ok (.getfield 7, 3) := by decide +kernel
theorem dX8_records_77 : decode cX8_records 77 = .ok (.bipush 7, 2) := by decide +kernel
theorem dX8_records_79 : decode cX8_records 79 = .ok (.iaload, 1) := by decide +kernel
theorem dX8_records_80 : decode cX8_records 80 = .ok (.imul, 1) := by decide +kernel
theorem dX8_records_81 : decode cX8_records 81 = .ok (.iadd, 1) := by decide +kernel
theorem dX8_records_82 : decode cX8_records 82 = .ok (.iload_n 1, 1) := by decide +kernel
theorem dX8_records_83 : decode cX8_records 83 = .ok (.iadd, 1) := by decide +kernel
theorem dX8_records_84 : decode cX8_records 84 = .ok (.aload_n 0, 1) := by decide +kernel
theorem dX8_records_85 : decode cX8_records 85 = .ok (.getfield 35, 3) := by decide +kernel
theorem dX8_records_88 : decode cX8_records 88 = .ok (.iload_n 1, 1) := by decide +kernel
theorem dX8_records_89 : decode cX8_records 89 = .ok (.iaload, 1) := by decide +kernel
theorem dX8_records_90 : decode cX8_records 90 = .ok (.iastore, 1) := by decide +kernel
theorem dX8_records_91 : decode cX8_records 91 = .ok (.iinc 1 1, 3) := by decide +kernel
theorem dX8_records_94 : decode cX8_records 94 = .ok (.goto (-35), 3) := by decide +kernel
theorem dX8_records_97 : decode cX8_records 97 = .ok (.aload_n 0, 1) := by decide +kernel
theorem dX8_records_98 : decode cX8_records 98 = .ok (.getfield 7, 3) := by decide +kernel
theorem dX8_records_101 : decode cX8_records 101 = .ok (.bipush 7, 2) := by decide +kernel
theorem dX8_records_103 : decode cX8_records 103 = .ok (.dup2, 1) := by decide +kernel
theorem dX8_records_104 : decode cX8_records 104 = .ok (.iaload, 1) := by decide +kernel
theorem dX8_records_105 : decode cX8_records 105 = .ok (.iconst 1, 1) := by decide +kernel
theorem dX8_records_106 : decode cX8_records 106 = .ok (.iadd, 1) := by decide +kernel
theorem dX8_records_107 : decode cX8_records 107 = .ok (.iastore, 1) := by decide +kernel
theorem dX8_records_108 : decode cX8_records 108 = .ok (.return_, 1) := by decide +kernel
def f_X8_records : MX := mth 2 (sQ (sQ (sIf (cB c_eq (eAi 0 (eGa (eLa 0) 8 0) (eI (7))) (eI (64))) (sQ (sQ (sTi 1 (eI (0))) (sLp (cB c_lt (eLi 1) (eI (756))) (sQ (sAi 0 (eGa (eLa 0) 8 0) (eOp o_iadd (eI (114)) (eLi 1)) (eAi 0 (eGa (eLa 0) 8 0) (eOp o_iadd (eOp o_iadd (eI (114)) (eLi 1)) (eI (12))))) (sInc 1 (1))) NF)) (sAi 0 (eGa (eLa 0) 8 0) (eI (7)) (eI (63)))) sN) (sQ (sQ (sTi 1 (eI (0))) (sLp (cB c_lt (eLi 1) (eI (12))) (sQ (sAi 0 (eGa (eLa 0) 8 0) (eOp o_iadd (eOp o_iadd (eI (114)) (eOp o_imul (eI (12)) (eAi 0 (eGa (eLa 0) 8 0) (eI (7))))) (eLi 1)) (eAi 0 (eGa (eLa 0) 8 8) (eLi 1))) (sInc 1 (1))) NF)) (sAo (eGa (eLa 0) 8 0) (eI (7)) o_iadd (eI (1))))) (sRv))
theorem Y_X8_records : Yk yX8_records cX8_records 2 none 0 := ⟨w1438, w16, by decide +kernel, by decide +kernel, by decide +kernel⟩
set_option maxRecDepth 20000 in
theorem k_X8_records (l : Launch) (g : GE) : MetX l g yX8_records cX8_records 2 none 1 ({ frames := 0, cells := 0, slots := 0, locals := 0 } : Room) f_X8_records := by
  unfold f_X8_records
  exact MetX.of (own := RX8) 100 0 rfl (by decide +kernel) (by decide) (fun p e s m args below meth c Fin ad0 hr hn => ⟨_, _, Sv_seq (Sv_seq (Sv_if (Cv_icmp_ne_n (Ev_iaload (Ev_getA Fx8 (Ev_aload_n dX8_records_0 rfl) (k := 0) (by decide) w1143 dX8_records_1) (Ev_bipush dX8_records_4 (by decide)) dX8_records_6) (Ev_bipush dX8_records_7 (by decide)) (t := 57) dX8_records_9 (by decide)) (Sv_seq (Sv_seq (Sv_istore_n (Ev_iconst dX8_records_12 (by decide)) dX8_records_13 rfl (Nat.le_of_ble_eq_true rfl) (Nat.ne_of_beq_eq_false rfl)) (Sv_loop0 NF (Cv_icmp_ge_n (Ev_iload_n dX8_records_14 rfl) (Ev_sipush dX8_records_15 (by decide)) (t := 48) dX8_records_18 (by decide)) (Sv_goto (pE := 14) (Sv_seq (Sv_iastore (Ev_getA Fx8 (Ev_aload_n dX8_records_21 rfl) (k := 0) (by decide) w1143 dX8_records_22) (Ev_iadd (Ev_bipush dX8_records_25 (by decide)) (Ev_iload_n dX8_records_27 rfl) dX8_records_28) (Ev_iaload (Ev_getA Fx8 (Ev_aload_n dX8_records_29 rfl) (k := 0) (by decide) w1143 dX8_records_30) (Ev_iadd (Ev_iadd (Ev_bipush dX8_records_33 (by decide)) (Ev_iload_n dX8_records_35 rfl) dX8_records_36) (Ev_bipush dX8_records_37 (by decide)) dX8_records_39) dX8_records_40) dX8_records_41) (Sv_iinc dX8_records_42 (by decide) (Nat.le_of_ble_eq_true rfl) (Nat.ne_of_beq_eq_false rfl))) dX8_records_45 (by decide)))) (Sv_iastore (Ev_getA Fx8 (Ev_aload_n dX8_records_48 rfl) (k := 0) (by decide) w1143 dX8_records_49) (Ev_bipush dX8_records_52 (by decide)) (Ev_bipush dX8_records_54 (by decide)) dX8_records_56)) Sv_nop) (Sv_seq (Sv_seq (Sv_istore_n (Ev_iconst dX8_records_57 (by decide)) dX8_records_58 rfl (Nat.le_of_ble_eq_true rfl) (Nat.ne_of_beq_eq_false rfl)) (Sv_loop0 NF (Cv_icmp_ge_n (Ev_iload_n dX8_records_59 rfl) (Ev_bipush dX8_records_60 (by decide)) (t := 97) dX8_records_62 (by decide)) (Sv_goto (pE := 59) (Sv_seq (Sv_iastore (Ev_getA Fx8 (Ev_aload_n dX8_records_65 rfl) (k := 0) (by decide) w1143 dX8_records_66) (Ev_iadd (Ev_iadd (Ev_bipush dX8_records_69 (by decide)) (Ev_imul (Ev_bipush dX8_records_71 (by decide)) (Ev_iaload (Ev_getA Fx8 (Ev_aload_n dX8_records_73 rfl) (k := 0) (by decide) w1143 dX8_records_74) (Ev_bipush dX8_records_77 (by decide)) dX8_records_79) dX8_records_80) dX8_records_81) (Ev_iload_n dX8_records_82 rfl) dX8_records_83) (Ev_iaload (Ev_getA Fx8 (Ev_aload_n dX8_records_84 rfl) (k := 8) (by decide) w1151 dX8_records_85) (Ev_iload_n dX8_records_88 rfl) dX8_records_89) dX8_records_90) (Sv_iinc dX8_records_91 (by decide) (Nat.le_of_ble_eq_true rfl) (Nat.ne_of_beq_eq_false rfl))) dX8_records_94 (by decide)))) (Sv_aop_iadd (Ev_getA Fx8 (Ev_aload_n dX8_records_97 rfl) (k := 0) (by decide) w1143 dX8_records_98) (Ev_bipush dX8_records_101 (by decide)) dX8_records_103 dX8_records_104 (Ev_iconst dX8_records_105 (by decide)) dX8_records_106 dX8_records_107))) (Sv_retv hr dX8_records_108), Nat.le_of_ble_eq_true rfl, Nat.le_of_ble_eq_true rfl⟩)
theorem dX8_becomesNext_0 : decode cX8_becomesNext 0 = .ok (.iconst 0, 1) := by decide +kernel
theorem dX8_becomesNext_1 : decode cX8_becomesNext 1 = .ok (.istore_n 1, 1) := by decide +kernel
theorem dX8_becomesNext_2 : decode cX8_becomesNext 2 = .ok (.iload_n 1, 1) := by decide +kernel
theorem dX8_becomesNext_3 : decode cX8_becomesNext 3 = .ok (.aload_n 0, 1) := by decide +kernel
theorem dX8_becomesNext_4 : decode cX8_becomesNext 4 = .ok (.getfield 7, 3) := by decide +kernel
theorem dX8_becomesNext_7 : decode cX8_becomesNext 7 = .ok (.iconst 1, 1) := by decide +kernel
theorem dX8_becomesNext_8 : decode cX8_becomesNext 8 = .ok (.iaload, 1) := by decide +kernel
theorem dX8_becomesNext_9 : decode cX8_becomesNext 9 = .ok (.if_icmp .ge 69, 3) := by decide +kernel
theorem dX8_becomesNext_12 : decode cX8_becomesNext 12 = .ok (.iconst 0, 1) := by decide +kernel
theorem dX8_becomesNext_13 : decode cX8_becomesNext 13 = .ok (.istore_n 2, 1) := by decide +kernel
theorem dX8_becomesNext_14 : decode cX8_becomesNext 14 = .ok (.iload_n 2, 1) := by decide +kernel
theorem dX8_becomesNext_15 : decode cX8_becomesNext 15 = .ok (.aload_n 0, 1) := by decide +kernel
theorem dX8_becomesNext_16 : decode cX8_becomesNext 16 = .ok (.getfield 7, 3) := by decide +kernel
theorem dX8_becomesNext_19 : decode cX8_becomesNext 19 = .ok (.iconst 0, 1) := by decide +kernel
theorem dX8_becomesNext_20 : decode cX8_becomesNext 20 = .ok (.iaload, 1) := by decide +kernel
theorem dX8_becomesNext_21 : decode cX8_becomesNext 21 = .ok (.if_icmp .ge 51, 3) := by decide +kernel
theorem dX8_becomesNext_24 : decode cX8_becomesNext 24 = .ok (.aload_n 0, 1) := by decide +kernel
theorem dX8_becomesNext_25 : decode cX8_becomesNext 25 = .ok (.getfield 7, 3) := by decide +kernel
theorem dX8_becomesNext_28 : decode cX8_becomesNext 28 = .ok (.sipush 882, 3) := by decide +kernel
theorem dX8_becomesNext_31 : decode cX8_becomesNext 31 = .ok (.iload_n 2, 1) := by decide +kernel
theorem dX8_becomesNext_32 : decode cX8_becomesNext 32 = .ok (.iload_n 1, 1) := by decide +kernel
theorem dX8_becomesNext_33 : decode cX8_becomesNext 33 = .ok (.invokestatic 76, 3) := by decide +kernel
theorem dX8_becomesNext_36 : decode cX8_becomesNext 36 = .ok (.iadd, 1) := by decide +kernel
theorem dX8_becomesNext_37 : decode cX8_becomesNext 37 = .ok (.aload_n 0, 1) := by decide +kernel
theorem dX8_becomesNext_38 : decode cX8_becomesNext 38 = .ok (.iload_n 2, 1) := by decide +kernel
theorem dX8_becomesNext_39 : decode cX8_becomesNext 39 = .ok (.iload_n 1, 1) := by decide +kernel
theorem dX8_becomesNext_40 : decode cX8_becomesNext 40 = .ok (.invokevirtual 108, 3) := by decide +kernel
theorem dX8_becomesNext_43 : decode cX8_becomesNext 43 = .ok (.ifCond .ge 12, 3) := by decide +kernel
theorem dX8_becomesNext_46 : decode cX8_becomesNext 46 = .ok (.aload_n 0, 1) := by decide +kernel
theorem dX8_becomesNext_47 : decode cX8_becomesNext 47 = .ok (.iload_n 2, 1) := by decide +kernel
theorem dX8_becomesNext_48 : decode cX8_becomesNext 48 = .ok (.iload_n 1, 1) := by decide +kernel
theorem dX8_becomesNext_49 : decode cX8_becomesNext 49 = .ok (.invokevirtual 108, 3) := by decide +kernel
theorem dX8_becomesNext_52 : decode cX8_becomesNext 52 = .ok (.goto 13, 3) := by decide +kernel
theorem dX8_becomesNext_55 : decode cX8_becomesNext 55 = .ok (.aload_n 0, 1) := by decide +kernel
theorem dX8_becomesNext_56 : decode cX8_becomesNext 56 = .ok (.getfield 32, 3) := by decide +kernel
theorem dX8_becomesNext_59 : decode cX8_becomesNext 59 = .ok (.iload_n 2, 1) := by decide +kernel
theorem dX8_becomesNext_60 : decode cX8_becomesNext 60 = .ok (.iload_n 1, 1) := by decide +kernel
theorem dX8_becomesNext_61 : decode cX8_becomesNext 61 = .ok (.invokestatic 76, 3) := by decide +kernel
theorem dX8_becomesNext_64 : decode cX8_becomesNext 64 = .ok (.iaload, 1) := by decide +kernel
theorem dX8_becomesNext_65 : decode cX8_becomesNext 65 = .ok (.iastore, 1) := by decide +kernel
theorem dX8_becomesNext_66 : decode cX8_becomesNext 66 = .ok (.iinc 2 1, 3) := by decide +kernel
theorem dX8_becomesNext_69 : decode cX8_becomesNext 69 = .ok (.goto (-55), 3) := by decide +kernel
theorem dX8_becomesNext_72 : decode cX8_becomesNext 72 = .ok (.iinc 1 1, 3) := by decide +kernel
theorem dX8_becomesNext_75 : decode cX8_becomesNext 75 = .ok (.goto (-73), 3) := by decide +kernel
theorem dX8_becomesNext_78 : decode cX8_becomesNext 78 = .ok (.return_, 1) := by decide +kernel
def f_X8_becomesNext : MX := mth 3 (sQ (sQ (sTi 1 (eI (0))) (sLp (cB c_lt (eLi 1) (eAi 0 (eGa (eLa 0) 8 0) (eI (1)))) (sQ (sQ (sTi 2 (eI (0))) (sLp (cB c_lt (eLi 2) (eAi 0 (eGa (eLa 0) 8 0) (eI (0)))) (sQ (sAi 0 (eGa (eLa 0) 8 0) (eOp o_iadd (eI (882)) (eM (f_X8_place) (aI (aI (aN) (eLi 2)) (eLi 1)))) (eIf (cZ z_lt (eM (gd 8 f_X8_had) (aI (aI (aA (aN) (eLa 0)) (eLi 2)) (eLi 1)))) (eM (gd 8 f_X8_had) (aI (aI (aA (aN) (eLa 0)) (eLi 2)) (eLi 1))) (eAi 0 (eGa (eLa 0) 8 7) (eM (f_X8_place) (aI (aI (aN) (eLi 2)) (eLi 1)))))) (sInc 2 (1))) NF)) (sInc 1 (1))) NF)) (sRv))
theorem Y_X8_becomesNext : Yk yX8_becomesNext cX8_becomesNext 3 none 0 := ⟨w1434, w16, by decide +kernel, by decide +kernel, by decide +kernel⟩
set_option maxRecDepth 20000 in
theorem k_X8_becomesNext (l : Launch) (g : GE) : MetX l g yX8_becomesNext cX8_becomesNext 3 none 1 ({ frames := 2, cells := 0, slots := 0, locals := 43 } : Room) f_X8_becomesNext := by
  unfold f_X8_becomesNext
  exact MetX.of (own := RX8) 100 0 rfl (by decide +kernel) (by decide) (fun p e s m args below meth c Fin ad0 hr hn => ⟨_, _, Sv_seq (Sv_seq (Sv_istore_n (Ev_iconst dX8_becomesNext_0 (by decide)) dX8_becomesNext_1 rfl (Nat.le_of_ble_eq_true rfl) (Nat.ne_of_beq_eq_false rfl)) (Sv_loop0 NF (Cv_icmp_ge_n (Ev_iload_n dX8_becomesNext_2 rfl) (Ev_iaload (Ev_getA Fx8 (Ev_aload_n dX8_becomesNext_3 rfl) (k := 0) (by decide) w1143 dX8_becomesNext_4) (Ev_iconst dX8_becomesNext_7 (by decide)) dX8_becomesNext_8) (t := 78) dX8_becomesNext_9 (by decide)) (Sv_goto (pE := 2) (Sv_seq (Sv_seq (Sv_istore_n (Ev_iconst dX8_becomesNext_12 (by decide)) dX8_becomesNext_13 rfl (Nat.le_of_ble_eq_true rfl) (Nat.ne_of_beq_eq_false rfl)) (Sv_loop0 NF (Cv_icmp_ge_n (Ev_iload_n dX8_becomesNext_14 rfl) (Ev_iaload (Ev_getA Fx8 (Ev_aload_n dX8_becomesNext_15 rfl) (k := 0) (by decide) w1143 dX8_becomesNext_16) (Ev_iconst dX8_becomesNext_19 (by decide)) dX8_becomesNext_20) (t := 72) dX8_becomesNext_21 (by decide)) (Sv_goto (pE := 14) (Sv_seq (Sv_iastore (Ev_getA Fx8 (Ev_aload_n dX8_becomesNext_24 rfl) (k := 0) (by decide) w1143 dX8_becomesNext_25) (Ev_iadd (Ev_sipush dX8_becomesNext_28 (by decide)) (Ev_call (Av_i (Av_i (Av_nil) (Ev_iload_n dX8_becomesNext_31 rfl)) (Ev_iload_n dX8_becomesNext_32 rfl)) (Rn_S Y_X8_place (k_X8_place _ _) w1259 w1260 dX8_becomesNext_33 (Nat.le_of_ble_eq_true rfl) (Nat.le_of_ble_eq_true rfl) (Nat.le_of_ble_eq_true rfl) (Nat.ne_of_beq_eq_false rfl))) dX8_becomesNext_36) (Ev_if (pT := 65) (Cv_if_ge_n (Ev_call (Av_i (Av_i (Av_a (Av_nil) (Ev_aload_n dX8_becomesNext_37 rfl)) (Ev_iload_n dX8_becomesNext_38 rfl)) (Ev_iload_n dX8_becomesNext_39 rfl)) (Rn_V (ci := 8) Fx8.1 rfl Y_X8_had (k_X8_had _ _) w1255 w1257 wp37 dX8_becomesNext_40 (Nat.le_of_ble_eq_true rfl) (Nat.le_of_ble_eq_true rfl) (Nat.le_of_ble_eq_true rfl) (Nat.ne_of_beq_eq_false rfl))) (t := 55) dX8_becomesNext_43 (by decide)) (Ev_call (Av_i (Av_i (Av_a (Av_nil) (Ev_aload_n dX8_becomesNext_46 rfl)) (Ev_iload_n dX8_becomesNext_47 rfl)) (Ev_iload_n dX8_becomesNext_48 rfl)) (Rn_V (ci := 8) Fx8.1 rfl Y_X8_had (k_X8_had _ _) w1255 w1257 wp37 dX8_becomesNext_49 (Nat.le_of_ble_eq_true rfl) (Nat.le_of_ble_eq_true rfl) (Nat.le_of_ble_eq_true rfl) (Nat.ne_of_beq_eq_false rfl))) dX8_becomesNext_52 (by decide) (Ev_iaload (Ev_getA Fx8 (Ev_aload_n dX8_becomesNext_55 rfl) (k := 7) (by decide) w1150 dX8_becomesNext_56) (Ev_call (Av_i (Av_i (Av_nil) (Ev_iload_n dX8_becomesNext_59 rfl)) (Ev_iload_n dX8_becomesNext_60 rfl)) (Rn_S Y_X8_place (k_X8_place _ _) w1259 w1260 dX8_becomesNext_61 (Nat.le_of_ble_eq_true rfl) (Nat.le_of_ble_eq_true rfl) (Nat.le_of_ble_eq_true rfl) (Nat.ne_of_beq_eq_false rfl))) dX8_becomesNext_64)) dX8_becomesNext_65) (Sv_iinc dX8_becomesNext_66 (by decide) (Nat.le_of_ble_eq_true rfl) (Nat.ne_of_beq_eq_false rfl))) dX8_becomesNext_69 (by decide)))) (Sv_iinc dX8_becomesNext_72 (by decide) (Nat.le_of_ble_eq_true rfl) (Nat.ne_of_beq_eq_false rfl))) dX8_becomesNext_75 (by decide)))) (Sv_retv hr dX8_becomesNext_78), Nat.le_of_ble_eq_true rfl, Nat.le_of_ble_eq_true rfl⟩)
theorem dX8_begins_0 : decode cX8_begins 0 = .ok (.iconst 0, 1) := by decide +kernel
theorem dX8_begins_1 : decode cX8_begins 1 = .ok (.istore_n 1, 1) := by decide +kernel
theorem dX8_begins_2 : decode cX8_begins 2 = .ok (.iload_n 1, 1) := by decide +kernel
theorem dX8_begins_3 : decode cX8_begins 3 = .ok (.bipush 12, 2) := by decide +kernel
theorem dX8_begins_5 : decode cX8_begins 5 = .ok (.if_icmp .ge 16, 3) := by decide +kernel
theorem dX8_begins_8 : decode cX8_begins 8 = .ok (.aload_n 0, 1) := by decide +kernel
theorem dX8_begins_9 : decode cX8_begins 9 = .ok (.getfield 35, 3) := by decide +kernel
theorem dX8_begins_12 : decode cX8_begins 12 = .ok (.iload_n 1, 1) := by decide +kernel
theorem dX8_begins_13 : decode cX8_begins 13 = .ok (.iconst 0, 1) := by decide +kernel
theorem dX8_begins_14 : decode cX8_begins 14 = .ok (.iastore, 1) := by decide +kernel
theorem dX8_begins_15 : decode cX8_begins 15 = .ok (.iinc 1 1, 3) := by decide +kernel
theorem dX8_begins_18 : decode cX8_begins 18 = .ok (.goto (-16), 3) := by decide +kernel
theorem dX8_begins_21 : decode cX8_begins 21 = .ok (.iconst 0, 1) := by decide +kernel
theorem dX8_begins_22 : decode cX8_begins 22 = .ok (.istore_n 1, 1) := by decide +kernel
theorem dX8_begins_23 : decode cX8_begins 23 = .ok (.iload_n 1, 1) := by decide +kernel
theorem dX8_begins_24 : decode cX8_begins 24 = .ok (.bipush 32, 2) := by decide +kernel
theorem dX8_begins_26 : decode cX8_begins 26 = .ok (.if_icmp .ge 19, 3) := by decide +kernel
theorem dX8_begins_29 : decode cX8_begins 29 = .ok (.aload_n 0, 1) := by decide +kernel
theorem dX8_begins_30 : decode cX8_begins 30 = .ok (.getfield 7, 3) := by decide +kernel
theorem dX8_begins_33 : decode cX8_begins 33 = .ok (.bipush 34, 2) := by decide +kernel
theorem dX8_begins_35 : decode cX8_begins 35 = .ok (.iload_n 1, 1) := by decide +kernel
theorem dX8_begins_36 : decode cX8_begins 36 = .ok (.iadd, 1) := by decide +kernel
theorem dX8_begins_37 : decode cX8_begins 37 = .ok (.iconst 0, 1) := by decide +kernel
theorem dX8_begins_38 : decode cX8_begins 38 = .ok (.iastore, 1) := by decide +kernel
theorem dX8_begins_39 : decode cX8_begins 39 = .ok (.iinc 1 1, 3) := by decide +kernel
theorem dX8_begins_42 : decode cX8_begins 42 = .ok (.goto (-19), 3) := by decide +kernel
theorem dX8_begins_45 : decode cX8_begins 45 = .ok (.iconst 0, 1) := by decide +kernel
theorem dX8_begins_46 : decode cX8_begins 46 = .ok (.istore_n 1, 1) := by decide +kernel
theorem dX8_begins_47 : decode cX8_begins 47 = .ok (.iload_n 1, 1) := by decide +kernel
theorem dX8_begins_48 : decode cX8_begins 48 = .ok (.sipush 512, 3) := by decide +kernel
theorem dX8_begins_51 : decode cX8_begins 51 = .ok (.if_icmp .ge 16, 3) := by decide +kernel
theorem dX8_begins_54 : decode cX8_begins 54 = .ok (.aload_n 0, 1) := by decide +kernel
theorem dX8_begins_55 : decode cX8_begins 55 = .ok (.getfield 32, 3) := by decide +kernel
theorem dX8_begins_58 : decode cX8_begins 58 = .ok (.iload_n 1, 1) := by decide +kernel
theorem dX8_begins_59 : decode cX8_begins 59 = .ok (.iconst 0, 1) := by decide +kernel
theorem dX8_begins_60 : decode cX8_begins 60 = .ok (.iastore, 1) := by decide +kernel
theorem dX8_begins_61 : decode cX8_begins 61 = .ok (.iinc 1 1, 3) := by decide +kernel
theorem dX8_begins_64 : decode cX8_begins 64 = .ok (.goto (-17), 3) := by decide +kernel
theorem dX8_begins_67 : decode cX8_begins 67 = .ok (.return_, 1) := by decide +kernel
def f_X8_begins : MX := mth 2 (sQ (sQ (sQ (sTi 1 (eI (0))) (sLp (cB c_lt (eLi 1) (eI (12))) (sQ (sAi 0 (eGa (eLa 0) 8 8) (eLi 1) (eI (0))) (sInc 1 (1))) NF)) (sQ (sQ (sTi 1 (eI (0))) (sLp (cB c_lt (eLi 1) (eI (32))) (sQ (sAi 0 (eGa (eLa 0) 8 0) (eOp o_iadd (eI (34)) (eLi 1)) (eI (0))) (sInc 1 (1))) NF)) (sQ (sTi 1 (eI (0))) (sLp (cB c_lt (eLi 1) (eI (512))) (sQ (sAi 0 (eGa (eLa 0) 8 7) (eLi 1) (eI (0))) (sInc 1 (1))) NF)))) (sRv))
theorem Y_X8_begins : Yk yX8_begins cX8_begins 2 none 0 := ⟨w1412, w16, by decide +kernel, by decide +kernel, by decide +kernel⟩
set_option maxRecDepth 20000 in
theorem k_X8_begins (l : Launch) (g : GE) : MetX l g yX8_begins cX8_begins 2 none 1 ({ frames := 0, cells := 0, slots := 0, locals := 0 } : Room) f_X8_begins := by
  unfold f_X8_begins
  exact MetX.of (own := RX8) 100 0 rfl (by decide +kernel) (by decide) (fun p e s m args below meth c Fin ad0 hr hn => ⟨_, _, Sv_seq (Sv_seq (Sv_seq (Sv_istore_n (Ev_iconst dX8_begins_0 (by decide)) dX8_begins_1 rfl (Nat.le_of_ble_eq_true rfl) (Nat.ne_of_beq_eq_false rfl)) (Sv_loop0 NF (Cv_icmp_ge_n (Ev_iload_n dX8_begins_2 rfl) (Ev_bipush dX8_begins_3 (by decide)) (t := 21) dX8_begins_5 (by decide)) (Sv_goto (pE := 2) (Sv_seq (Sv_iastore (Ev_getA Fx8 (Ev_aload_n dX8_begins_8 rfl) (k := 8) (by decide) w1151 dX8_begins_9) (Ev_iload_n dX8_begins_12 rfl) (Ev_iconst dX8_begins_13 (by decide)) dX8_begins_14) (Sv_iinc dX8_begins_15 (by decide) (Nat.le_of_ble_eq_true rfl) (Nat.ne_of_beq_eq_false rfl))) dX8_begins_18 (by decide)))) (Sv_seq (Sv_seq (Sv_istore_n (Ev_iconst dX8_begins_21 (by decide)) dX8_begins_22 rfl (Nat.le_of_ble_eq_true rfl) (Nat.ne_of_beq_eq_false rfl)) (Sv_loop0 NF (Cv_icmp_ge_n (Ev_iload_n dX8_begins_23 rfl) (Ev_bipush dX8_begins_24 (by decide)) (t := 45) dX8_begins_26 (by decide)) (Sv_goto (pE := 23) (Sv_seq (Sv_iastore (Ev_getA Fx8 (Ev_aload_n dX8_begins_29 rfl) (k := 0) (by decide) w1143 dX8_begins_30) (Ev_iadd (Ev_bipush dX8_begins_33 (by decide)) (Ev_iload_n dX8_begins_35 rfl) dX8_begins_36) (Ev_iconst dX8_begins_37 (by decide)) dX8_begins_38) (Sv_iinc dX8_begins_39 (by decide) (Nat.le_of_ble_eq_true rfl) (Nat.ne_of_beq_eq_false rfl))) dX8_begins_42 (by decide)))) (Sv_seq (Sv_istore_n (Ev_iconst dX8_begins_45 (by decide)) dX8_begins_46 rfl (Nat.le_of_ble_eq_true rfl) (Nat.ne_of_beq_eq_false rfl)) (Sv_loop0 NF (Cv_icmp_ge_n (Ev_iload_n dX8_begins_47 rfl) (Ev_sipush dX8_begins_48 (by decide)) (t := 67) dX8_begins_51 (by decide)) (Sv_goto (pE := 47) (Sv_seq (Sv_iastore (Ev_getA Fx8 (Ev_aload_n dX8_begins_54 rfl) (k := 7) (by decide) w1150 dX8_begins_55) (Ev_iload_n dX8_begins_58 rfl) (Ev_iconst dX8_begins_59 (by decide)) dX8_begins_60) (Sv_iinc dX8_begins_61 (by decide) (Nat.le_of_ble_eq_true rfl) (Nat.ne_of_beq_eq_false rfl))) dX8_begins_64 (by decide)))))) (Sv_retv hr dX8_begins_67), Nat.le_of_ble_eq_true rfl, Nat.le_of_ble_eq_true rfl⟩)
theorem dX8_tick_0 : decode cX8_tick 0 = .ok (.iconst 0, 1) := by decide +kernel
theorem dX8_tick_1 : decode cX8_tick 1 = .ok (.istore_n 1, 1) := by decide +kernel
theorem dX8_tick_2 : decode cX8_tick 2 = .ok (.iload_n 1, 1) := by decide +kernel
theorem dX8_tick_3 : decode cX8_tick 3 = .ok (.aload_n 0, 1) := by decide +kernel
theorem dX8_tick_4 : decode cX8_tick 4 = .ok (.getfield 7, 3) := by decide +kernel
theorem dX8_tick_7 : decode cX8_tick 7 = .ok (.bipush 6, 2) := by decide +kernel
theorem dX8_tick_9 : decode cX8_tick 9 = .ok (.iaload, 1) := by decide +kernel
theorem dX8_tick_10 : decode cX8_tick 10 = .ok (.if_icmp .ge 22, 3) := by decide +kernel
theorem dX8_tick_13 : decode cX8_tick 13 = .ok (.aload_n 0, 1) := by decide +kernel
theorem dX8_tick_14 : decode cX8_tick 14 = .ok (.iload_n 1, 1) := by decide +kernel
theorem dX8_tick_15 : decode cX8_tick 15 = .ok (.invokevirtual 190, 3) := by decide +kernel
theorem dX8_tick_18 : decode cX8_tick 18 = .ok (.ifCond .eq 8, 3) := by decide +kernel
theorem dX8_tick_21 : decode cX8_tick 21 = .ok (.aload_n 0, 1) := by decide +kernel
theorem dX8_tick_22 : decode cX8_tick 22 = .ok (.iload_n 1, 1) := by decide +kernel
theorem dX8_tick_23 : decode cX8_tick 23 = .ok (.invokevirtual 193, 3) := by decide +kernel
theorem dX8_tick_26 : decode cX8_tick 26 = .ok (.iinc 1 1, 3) := by decide +kernel
theorem dX8_tick_29 : decode cX8_tick 29 = .ok (.goto (-27), 3) := by decide +kernel
theorem dX8_tick_32 : decode cX8_tick 32 = .ok (.aload_n 0, 1) := by decide +kernel
theorem dX8_tick_33 : decode cX8_tick 33 = .ok (.invokevirtual 197, 3) := by decide +kernel
theorem dX8_tick_36 : decode cX8_tick 36 = .ok (.iconst 0, 1) := by decide +kernel
theorem dX8_tick_37 : decode cX8_tick 37 = .ok (.istore_n 1, 1) := by decide +kernel
theorem dX8_tick_38 : decode cX8_tick 38 = .ok (.iload_n 1, 1) := by decide +kernel
theorem dX8_tick_39 : decode cX8_tick 39 = .ok (.aload_n 0, 1) := by decide +kernel
theorem dX8_tick_40 : decode cX8_tick 40 = .ok (.getfield 7, 3) := by decide +kernel
theorem dX8_tick_43 : decode cX8_tick 43 = .ok (.iconst 1, 1) := by decide +kernel
theorem dX8_tick_44 : decode cX8_tick 44 = .ok (.iaload, 1) := by decide +kernel
theorem dX8_tick_45 : decode cX8_tick 45 = .ok (.if_icmp .ge 81, 3) := by decide +kernel
theorem dX8_tick_48 : decode cX8_tick 48 = .ok (.iconst 0, 1) := by decide +kernel
theorem dX8_tick_49 : decode cX8_tick 49 = .ok (.istore_n 2, 1) := by decide +kernel
theorem dX8_tick_50 : decode cX8_tick 50 = .ok (.iload_n 2, 1) := by decide +kernel
theorem dX8_tick_51 : decode cX8_tick 51 = .ok (.aload_n 0, 1) := by decide +kernel
theorem dX8_tick_52 : decode cX8_tick 52 = .ok (.getfield 7, 3) := by decide +kernel
theorem dX8_tick_55 : decode cX8_tick 55 = .ok (.iconst 0, 1) := by decide +kernel
theorem dX8_tick_56 : decode cX8_tick 56 = .ok (.iaload, 1) := by decide +kernel
theorem dX8_tick_57 : decode cX8_tick 57 = .ok (.if_icmp .ge 63, 3) := by decide +kernel
theorem dX8_tick_60 : decode cX8_tick 60 = .ok (.aload_n 0, 1) := by decide +kernel
theorem dX8_tick_61 : decode cX8_tick 61 = .ok (.iload_n 2, 1) := by decide +kernel
theorem dX8_tick_62 : decode cX8_tick 62 = .ok (.iload_n 1, 1) := by decide +kernel
theorem dX8_tick_63 : decode cX8_tick 63 = .ok (.invokevirtual 108, 3) := by decide +kernel
theorem dX8_tick_66 : decode cX8_tick 66 = .ok (.ifCond .le 48, 3) := by decide +kernel
theorem dX8_tick_69 : decode cX8_tick 69 = .ok (.aload_n 0, 1) := by decide +kernel
theorem dX8_tick_70 : decode cX8_tick 70 = .ok (.getfield 7, 3) := by decide +kernel
theorem dX8_tick_73 : decode cX8_tick 73 = .ok (.sipush 882, 3) := by decide +kernel
theorem dX8_tick_76 : decode cX8_tick 76 = .ok (.iload_n 2, 1) := by decide +kernel
theorem dX8_tick_77 : decode cX8_tick 77 = .ok (.iload_n 1, 1) := by decide +kernel
theorem dX8_tick_78 : decode cX8_tick 78 = .ok (.invokestatic 76, 3) := by decide +kernel
theorem dX8_tick_81 : decode cX8_tick 81 = .ok (.iadd, 1) := by decide +kernel
theorem dX8_tick_82 : decode cX8_tick 82 = .ok (.aload_n 0, 1) := by decide +kernel
theorem dX8_tick_83 : decode cX8_tick 83 = .ok (.getfield 7, 3) := by decide +kernel
theorem dX8_tick_86 : decode cX8_tick 86 = .ok (.sipush 1394, 3) := by decide +kernel
theorem dX8_tick_89 : decode cX8_tick 89 = .ok (.bipush 64, 2) := by decide +kernel
theorem dX8_tick_91 : decode cX8_tick 91 = .ok (.iload_n 2, 1) := by decide +kernel
theorem dX8_tick_92 : decode cX8_tick 92 = .ok (.iload_n 1, 1) := by decide +kernel
theorem dX8_tick_93 : decode cX8_tick 93 = .ok (.iadd, 1) := by decide +kernel
theorem dX8_tick_94 : decode cX8_tick 94 = .ok (.aload_n 0, 1) := by decide +kernel
theorem dX8_tick_95 : decode cX8_tick 95 = .ok (.getfield 7, 3) := by decide +kernel
theorem dX8_tick_98 : decode cX8_tick 98 = .ok (.iconst 2, 1) := by decide +kernel
theorem dX8_tick_99 : decode cX8_tick 99 = .ok (.iaload, 1) := by decide +kernel
theorem dX8_tick_100 : decode cX8_tick 100 = .ok (.iadd, 1) := by decide +kernel
theorem dX8_tick_101 : decode cX8_tick 101 = .ok (.iconst 2, 1) := by decide +kernel
theorem dX8_tick_102 : decode cX8_tick 102 = .ok (.irem, 1) := by decide +kernel
theorem dX8_tick_103 : decode cX8_tick 103 = .ok (.imul, 1) := by decide +kernel
theorem dX8_tick_104 : decode cX8_tick 104 = .ok (.iadd, 1) := by decide +kernel
theorem dX8_tick_105 : decode cX8_tick 105 = .ok (.aload_n 0, 1) := by decide +kernel
theorem dX8_tick_106 : decode cX8_tick 106 = .ok (.iload_n 2, 1) := by decide +kernel
theorem dX8_tick_107 : decode cX8_tick 107 = .ok (.iload_n 1, 1) := by decide +kernel
theorem dX8_tick_108 : decode cX8_tick 108 = .ok (.invokevirtual 108, 3) := by decide +kernel
theorem dX8_tick_111 : decode cX8_tick 111 = .ok (.iadd, 1) := by decide +kernel
theorem dX8_tick_112 : decode cX8_tick 112 = .ok (.iaload, 1) := by decide +kernel
theorem dX8_tick_113 : decode cX8_tick 113 = .ok (.iastore, 1) := by decide +kernel
theorem dX8_tick_114 : decode cX8_tick 114 = .ok (.iinc 2 1, 3) := by decide +kernel
theorem dX8_tick_117 : decode cX8_tick 117 = .ok (.goto (-67), 3) := by decide +kernel
theorem dX8_tick_120 : decode cX8_tick 120 = .ok (.iinc 1 1, 3) := by decide +kernel
theorem dX8_tick_123 : decode cX8_tick 123 = .ok (.goto (-85), 3) := by decide +kernel
theorem dX8_tick_126 : decode cX8_tick 126 = .ok (.iconst 0, 1) := by decide +kernel
theorem dX8_tick_127 : decode cX8_tick 127 = .ok (.istore_n 1, 1) := by decide +kernel
theorem dX8_tick_128 : decode cX8_tick 128 = .ok (.iload_n 1, 1) := by decide +kernel
theorem dX8_tick_129 : decode cX8_tick 129 = .ok (.aload_n 0, 1) := by decide +kernel
theorem dX8_tick_130 : decode cX8_tick 130 = .ok (.getfield 7, 3) := by decide +kernel
theorem dX8_tick_133 : decode cX8_tick 133 = .ok (.iconst 1, 1) := by decide +kernel
theorem dX8_tick_134 : decode cX8_tick 134 = .ok (.iaload, 1) := by decide +kernel
theorem dX8_tick_135 : decode cX8_tick 135 = .ok (.if_icmp .ge 71, 3) := by decide +kernel
theorem dX8_tick_138 : decode cX8_tick 138 = .ok (.iconst 0, 1) := by decide +kernel
theorem dX8_tick_139 : decode cX8_tick 139 = .ok (.istore_n 2, 1) := by decide +kernel
theorem dX8_tick_140 : decode cX8_tick 140 = .ok (.iload_n 2, 1) := by decide +kernel
theorem dX8_tick_141 : decode cX8_tick 141 = .ok (.aload_n 0, 1) := by decide +kernel
theorem dX8_tick_142 : decode cX8_tick 142 = .ok (.getfield 7, 3) := by decide +kernel
theorem dX8_tick_145 : decode cX8_tick 145 = .ok (.iconst 0, 1) := by decide +kernel
theorem dX8_tick_146 : decode cX8_tick 146 = .ok (.iaload, 1) := by decide +kernel
theorem dX8_tick_147 : decode cX8_tick 147 = .ok (.if_icmp .ge 53, 3) := by decide +kernel
theorem dX8_tick_150 : decode cX8_tick 150 = .ok (.iconst 0, 1) := by decide +kernel
theorem dX8_tick_151 : decode cX8_tick 151 = .ok (.istore_n 3, 1) := by decide +kernel
theorem dX8_tick_152 : decode cX8_tick 152 = .ok (.iload_n 3, 1) := by decide +kernel
theorem dX8_tick_153 : decode cX8_tick 153 = .ok (.bipush 6, 2) := by decide +kernel
theorem dX8_tick_155 : decode cX8_tick 155 = .ok (.if_icmp .ge 39, 3) := by decide +kernel
theorem dX8_tick_158 : decode cX8_tick 158 = .ok (.aload_n 0, 1) := by decide +kernel
theorem dX8_tick_159 : decode cX8_tick 159 = .ok (.iload_n 2, 1) := by decide +kernel
theorem dX8_tick_160 : decode cX8_tick 160 = .ok (.iload_n 1, 1) := by decide +kernel
theorem dX8_tick_161 : decode cX8_tick 161 = .ok (.invokevirtual 108, 3) := by decide +kernel
theorem dX8_tick_164 : decode cX8_tick 164 = .ok (.ifCond .le 24, 3) := by decide +kernel
theorem dX8_tick_167 : decode cX8_tick 167 = .ok (.aload_n 0, 1) := by decide +kernel
theorem dX8_tick_168 : decode cX8_tick 168 = .ok (.iload_n 2, 1) := by decide +kernel
theorem dX8_tick_169 : decode cX8_tick 169 = .ok (.iload_n 1, 1) := by decide +kernel
theorem dX8_tick_170 : decode cX8_tick 170 = .ok (.invokevirtual 108, 3) := by decide +kernel
theorem dX8_tick_173 : decode cX8_tick 173 = .ok (.iload_n 3, 1) := by decide +kernel
theorem dX8_tick_174 : decode cX8_tick 174 = .ok (.ishr, 1) := by decide +kernel
theorem dX8_tick_175 : decode cX8_tick 175 = .ok (.iconst 1, 1) := by decide +kernel
theorem dX8_tick_176 : decode cX8_tick 176 = .ok (.iand, 1) := by decide +kernel
theorem dX8_tick_177 : decode cX8_tick 177 = .ok (.iconst 1, 1) := by decide +kernel
theorem dX8_tick_178 : decode cX8_tick 178 = .ok (.if_icmp .ne 10, 3) := by decide +kernel
theorem dX8_tick_181 : decode cX8_tick 181 = .ok (.aload_n 0, 1) := by decide +kernel
theorem dX8_tick_182 : decode cX8_tick 182 = .ok (.iload_n 2, 1) := by decide +kernel
theorem dX8_tick_183 : decode cX8_tick 183 = .ok (.iload_n 1, 1) := by decide +kernel
theorem dX8_tick_184 : decode cX8_tick 184 = .ok (.iload_n 3, 1) := by decide +kernel
theorem dX8_tick_185 : decode cX8_tick 185 = .ok (.invokevirtual 200, 3) := by decide +kernel
theorem dX8_tick_188 : decode cX8_tick 188 = .ok (.iinc 3 1, 3) := by decide +kernel
theorem dX8_tick_191 : decode cX8_tick 191 = .ok (.goto (-39), 3) := by decide +kernel
theorem dX8_tick_194 : decode cX8_tick 194 = .ok (.iinc 2 1, 3) := by decide +kernel
theorem dX8_tick_197 : decode cX8_tick 197 = .ok (.goto (-57), 3) := by decide +kernel
theorem dX8_tick_200 : decode cX8_tick 200 = .ok (.iinc 1 1, 3) := by decide +kernel
theorem dX8_tick_203 : decode cX8_tick 203 = .ok (.goto (-75), 3) := by decide +kernel
theorem dX8_tick_206 : decode cX8_tick 206 = .ok (.aload_n 0, 1) := by decide +kernel
theorem dX8_tick_207 : decode cX8_tick 207 = .ok (.invokevirtual 203, 3) := by decide +kernel
theorem dX8_tick_210 : decode cX8_tick 210 = .ok (.aload_n 0, 1) := by decide +kernel
theorem dX8_tick_211 : decode cX8_tick 211 = .ok (.invokevirtual 206, 3) := by decide +kernel
theorem dX8_tick_214 : decode cX8_tick 214 = .ok (.aload_n 0, 1) := by decide +kernel
theorem dX8_tick_215 : decode cX8_tick 215 = .ok (.getfield 7, 3) := by decide +kernel
theorem dX8_tick_218 : decode cX8_tick 218 = .ok (.iconst 2, 1) := by decide +kernel
theorem dX8_tick_219 : decode cX8_tick 219 = .ok (.dup2, 1) := by decide +kernel
theorem dX8_tick_220 : decode cX8_tick 220 = .ok (.iaload, 1) := by decide +kernel
theorem dX8_tick_221 : decode cX8_tick 221 = .ok (.iconst 1, 1) := by decide +kernel
theorem dX8_tick_222 : decode cX8_tick 222 = .ok (.iadd, 1) := by decide +kernel
theorem dX8_tick_223 : decode cX8_tick 223 = .ok (.iastore, 1) := by decide +kernel
theorem dX8_tick_224 : decode cX8_tick 224 = .ok (.return_, 1) := by decide +kernel
def f_X8_tick : MX := mth 4 (sQ (sQ (sQ (sTi 1 (eI (0))) (sLp (cB c_lt (eLi 1) (eAi 0 (eGa (eLa 0) 8 0) (eI (6)))) (sQ (sIf (cZ z_ne (eM (gd 8 f_X8_isBlowing) (aI (aA (aN) (eLa 0)) (eLi 1)))) (sM (gd 8 f_X8_blows) (aI (aA (aN) (eLa 0)) (eLi 1))) sN) (sInc 1 (1))) NF)) (sQ (sM (gd 8 f_X8_begins) (aA (aN) (eLa 0))) (sQ (sQ (sTi 1 (eI (0))) (sLp (cB c_lt (eLi 1) (eAi 0 (eGa (eLa 0) 8 0) (eI (1)))) (sQ (sQ (sTi 2 (eI (0))) (sLp (cB c_lt (eLi 2) (eAi 0 (eGa (eLa 0) 8 0) (eI (0)))) (sQ (sIf (cZ z_gt (eM (gd 8 f_X8_had) (aI (aI (aA (aN) (eLa 0)) (eLi 2)) (eLi 1)))) (sAi 0 (eGa (eLa 0) 8 0) (eOp o_iadd (eI (882)) (eM (f_X8_place) (aI (aI (aN) (eLi 2)) (eLi 1)))) (eAi 0 (eGa (eLa 0) 8 0) (eOp o_iadd (eOp o_iadd (eI (1394)) (eOp o_imul (eI (64)) (eQ o_irem (eOp o_iadd (eOp o_iadd (eLi 2) (eLi 1)) (eAi 0 (eGa (eLa 0) 8 0) (eI (2)))) (eI (2))))) (eM (gd 8 f_X8_had) (aI (aI (aA (aN) (eLa 0)) (eLi 2)) (eLi 1)))))) sN) (sInc 2 (1))) NF)) (sInc 1 (1))) NF)) (sQ (sQ (sTi 1 (eI (0))) (sLp (cB c_lt (eLi 1) (eAi 0 (eGa (eLa 0) 8 0) (eI (1)))) (sQ (sQ (sTi 2 (eI (0))) (sLp (cB c_lt (eLi 2) (eAi 0 (eGa (eLa 0) 8 0) (eI (0)))) (sQ (sQ (sTi 3 (eI (0))) (sLp (cB c_lt (eLi 3) (eI (6))) (sQ (sIf (cAnd (cZ z_gt (eM (gd 8 f_X8_had) (aI (aI (aA (aN) (eLa 0)) (eLi 2)) (eLi 1)))) (cB c_eq (eOp o_iand (eOp o_ishr (eM (gd 8 f_X8_had) (aI (aI (aA (aN) (eLa 0)) (eLi 2)) (eLi 1))) (eLi 3)) (eI (1))) (eI (1)))) (sM (gd 8 f_X8_step) (aI (aI (aI (aA (aN) (eLa 0)) (eLi 2)) (eLi 1)) (eLi 3))) sN) (sInc 3 (1))) NF)) (sInc 2 (1))) NF)) (sInc 1 (1))) NF)) (sQ (sM (gd 8 f_X8_becomesNext) (aA (aN) (eLa 0))) (sQ (sM (gd 8 f_X8_records) (aA (aN) (eLa 0))) (sAo (eGa (eLa 0) 8 0) (eI (2)) o_iadd (eI (1))))))))) (sRv))
theorem Y_X8_tick : Yk yX8_tick cX8_tick 4 none 0 := ⟨w1396, w16, by decide +kernel, by decide +kernel, by decide +kernel⟩
set_option maxRecDepth 20000 in
theorem k_X8_tick (l : Launch) (g : GE) : MetX l g yX8_tick cX8_tick 4 none 1 ({ frames := 5, cells := 0, slots := 0, locals := 114 } : Room) f_X8_tick := by
  unfold f_X8_tick
  exact MetX.of (own := RX8) 100 0 rfl (by decide +kernel) (by decide) (fun p e s m args below meth c Fin ad0 hr hn => ⟨_, _, Sv_seq (Sv_seq (Sv_seq (Sv_istore_n (Ev_iconst dX8_tick_0 (by decide)) dX8_tick_1 rfl (Nat.le_of_ble_eq_true rfl) (Nat.ne_of_beq_eq_false rfl)) (Sv_loop0 NF (Cv_icmp_ge_n (Ev_iload_n dX8_tick_2 rfl) (Ev_iaload (Ev_getA Fx8 (Ev_aload_n dX8_tick_3 rfl) (k := 0) (by decide) w1143 dX8_tick_4) (Ev_bipush dX8_tick_7 (by decide)) dX8_tick_9) (t := 32) dX8_tick_10 (by decide)) (Sv_goto (pE := 2) (Sv_seq (Sv_if (Cv_if_eq_n (Ev_call (Av_i (Av_a (Av_nil) (Ev_aload_n dX8_tick_13 rfl)) (Ev_iload_n dX8_tick_14 rfl)) (Rn_V (ci := 8) Fx8.1 rfl Y_X8_isBlowing (k_X8_isBlowing _ _) w1397 w1399 wp52 dX8_tick_15 (Nat.le_of_ble_eq_true rfl) (Nat.le_of_ble_eq_true rfl) (Nat.le_of_ble_eq_true rfl) (Nat.ne_of_beq_eq_false rfl))) (t := 26) dX8_tick_18 (by decide)) (Sv_call (Av_i (Av_a (Av_nil) (Ev_aload_n dX8_tick_21 rfl)) (Ev_iload_n dX8_tick_22 rfl)) (Rn_V (ci := 8) Fx8.1 rfl Y_X8_blows (k_X8_blows _ _) w1405 w1407 wp54 dX8_tick_23 (Nat.le_of_ble_eq_true rfl) (Nat.le_of_ble_eq_true rfl) (Nat.le_of_ble_eq_true rfl) (Nat.ne_of_beq_eq_false rfl))) Sv_nop) (Sv_iinc dX8_tick_26 (by decide) (Nat.le_of_ble_eq_true rfl) (Nat.ne_of_beq_eq_false rfl))) dX8_tick_29 (by decide)))) (Sv_seq (Sv_call (Av_a (Av_nil) (Ev_aload_n dX8_tick_32 rfl)) (Rn_V (ci := 8) Fx8.1 rfl Y_X8_begins (k_X8_begins _ _) w1409 w1411 wp55 dX8_tick_33 (Nat.le_of_ble_eq_true rfl) (Nat.le_of_ble_eq_true rfl) (Nat.le_of_ble_eq_true rfl) (Nat.ne_of_beq_eq_false rfl))) (Sv_seq (Sv_seq (Sv_istore_n (Ev_iconst dX8_tick_36 (by decide)) dX8_tick_37 rfl (Nat.le_of_ble_eq_true rfl) (Nat.ne_of_beq_eq_false rfl)) (Sv_loop0 NF (Cv_icmp_ge_n (Ev_iload_n dX8_tick_38 rfl) (Ev_iaload (Ev_getA Fx8 (Ev_aload_n dX8_tick_39 rfl) (k := 0) (by decide) w1143 dX8_tick_40) (Ev_iconst dX8_tick_43 (by decide)) dX8_tick_44) (t := 126) dX8_tick_45 (by decide)) (Sv_goto (pE := 38) (Sv_seq (Sv_seq (Sv_istore_n (Ev_iconst dX8_tick_48 (by decide)) dX8_tick_49 rfl (Nat.le_of_ble_eq_true rfl) (Nat.ne_of_beq_eq_false rfl)) (Sv_loop0 NF (Cv_icmp_ge_n (Ev_iload_n dX8_tick_50 rfl) (Ev_iaload (Ev_getA Fx8 (Ev_aload_n dX8_tick_51 rfl) (k := 0) (by decide) w1143 dX8_tick_52) (Ev_iconst dX8_tick_55 (by decide)) dX8_tick_56) (t := 120) dX8_tick_57 (by decide)) (Sv_goto (pE := 50) (Sv_seq (Sv_if (Cv_if_le_n (Ev_call (Av_i (Av_i (Av_a (Av_nil) (Ev_aload_n dX8_tick_60 rfl)) (Ev_iload_n dX8_tick_61 rfl)) (Ev_iload_n dX8_tick_62 rfl)) (Rn_V (ci := 8) Fx8.1 rfl Y_X8_had (k_X8_had _ _) w1255 w1257 wp37 dX8_tick_63 (Nat.le_of_ble_eq_true rfl) (Nat.le_of_ble_eq_true rfl) (Nat.le_of_ble_eq_true rfl) (Nat.ne_of_beq_eq_false rfl))) (t := 114) dX8_tick_66 (by decide)) (Sv_iastore (Ev_getA Fx8 (Ev_aload_n dX8_tick_69 rfl) (k := 0) (by decide) w1143 dX8_tick_70) (Ev_iadd (Ev_sipush dX8_tick_73 (by decide)) (Ev_call (Av_i (Av_i (Av_nil) (Ev_iload_n dX8_tick_76 rfl)) (Ev_iload_n dX8_tick_77 rfl)) (Rn_S Y_X8_place (k_X8_place _ _) w1259 w1260 dX8_tick_78 (Nat.le_of_ble_eq_true rfl) (Nat.le_of_ble_eq_true rfl) (Nat.le_of_ble_eq_true rfl) (Nat.ne_of_beq_eq_false rfl))) dX8_tick_81) (Ev_iaload (Ev_getA Fx8 (Ev_aload_n dX8_tick_82 rfl) (k := 0) (by decide) w1143 dX8_tick_83) (Ev_iadd (Ev_iadd (Ev_sipush dX8_tick_86 (by decide)) (Ev_imul (Ev_bipush dX8_tick_89 (by decide)) (Ev_irem (Ev_iadd (Ev_iadd (Ev_iload_n dX8_tick_91 rfl) (Ev_iload_n dX8_tick_92 rfl) dX8_tick_93) (Ev_iaload (Ev_getA Fx8 (Ev_aload_n dX8_tick_94 rfl) (k := 0) (by decide) w1143 dX8_tick_95) (Ev_iconst dX8_tick_98 (by decide)) dX8_tick_99) dX8_tick_100) (Ev_iconst dX8_tick_101 (by decide)) dX8_tick_102) dX8_tick_103) dX8_tick_104) (Ev_call (Av_i (Av_i (Av_a (Av_nil) (Ev_aload_n dX8_tick_105 rfl)) (Ev_iload_n dX8_tick_106 rfl)) (Ev_iload_n dX8_tick_107 rfl)) (Rn_V (ci := 8) Fx8.1 rfl Y_X8_had (k_X8_had _ _) w1255 w1257 wp37 dX8_tick_108 (Nat.le_of_ble_eq_true rfl) (Nat.le_of_ble_eq_true rfl) (Nat.le_of_ble_eq_true rfl) (Nat.ne_of_beq_eq_false rfl))) dX8_tick_111) dX8_tick_112) dX8_tick_113) Sv_nop) (Sv_iinc dX8_tick_114 (by decide) (Nat.le_of_ble_eq_true rfl) (Nat.ne_of_beq_eq_false rfl))) dX8_tick_117 (by decide)))) (Sv_iinc dX8_tick_120 (by decide) (Nat.le_of_ble_eq_true rfl) (Nat.ne_of_beq_eq_false rfl))) dX8_tick_123 (by decide)))) (Sv_seq (Sv_seq (Sv_istore_n (Ev_iconst dX8_tick_126 (by decide)) dX8_tick_127 rfl (Nat.le_of_ble_eq_true rfl) (Nat.ne_of_beq_eq_false rfl)) (Sv_loop0 NF (Cv_icmp_ge_n (Ev_iload_n dX8_tick_128 rfl) (Ev_iaload (Ev_getA Fx8 (Ev_aload_n dX8_tick_129 rfl) (k := 0) (by decide) w1143 dX8_tick_130) (Ev_iconst dX8_tick_133 (by decide)) dX8_tick_134) (t := 206) dX8_tick_135 (by decide)) (Sv_goto (pE := 128) (Sv_seq (Sv_seq (Sv_istore_n (Ev_iconst dX8_tick_138 (by decide)) dX8_tick_139 rfl (Nat.le_of_ble_eq_true rfl) (Nat.ne_of_beq_eq_false rfl)) (Sv_loop0 NF (Cv_icmp_ge_n (Ev_iload_n dX8_tick_140 rfl) (Ev_iaload (Ev_getA Fx8 (Ev_aload_n dX8_tick_141 rfl) (k := 0) (by decide) w1143 dX8_tick_142) (Ev_iconst dX8_tick_145 (by decide)) dX8_tick_146) (t := 200) dX8_tick_147 (by decide)) (Sv_goto (pE := 140) (Sv_seq (Sv_seq (Sv_istore_n (Ev_iconst dX8_tick_150 (by decide)) dX8_tick_151 rfl (Nat.le_of_ble_eq_true rfl) (Nat.ne_of_beq_eq_false rfl)) (Sv_loop0 NF (Cv_icmp_ge_n (Ev_iload_n dX8_tick_152 rfl) (Ev_bipush dX8_tick_153 (by decide)) (t := 194) dX8_tick_155 (by decide)) (Sv_goto (pE := 152) (Sv_seq (Sv_if (Cv_and (Cv_if_le_n (Ev_call (Av_i (Av_i (Av_a (Av_nil) (Ev_aload_n dX8_tick_158 rfl)) (Ev_iload_n dX8_tick_159 rfl)) (Ev_iload_n dX8_tick_160 rfl)) (Rn_V (ci := 8) Fx8.1 rfl Y_X8_had (k_X8_had _ _) w1255 w1257 wp37 dX8_tick_161 (Nat.le_of_ble_eq_true rfl) (Nat.le_of_ble_eq_true rfl) (Nat.le_of_ble_eq_true rfl) (Nat.ne_of_beq_eq_false rfl))) (t := 188) dX8_tick_164 (by decide)) (Cv_icmp_ne_n (Ev_iand (Ev_ishr (Ev_call (Av_i (Av_i (Av_a (Av_nil) (Ev_aload_n dX8_tick_167 rfl)) (Ev_iload_n dX8_tick_168 rfl)) (Ev_iload_n dX8_tick_169 rfl)) (Rn_V (ci := 8) Fx8.1 rfl Y_X8_had (k_X8_had _ _) w1255 w1257 wp37 dX8_tick_170 (Nat.le_of_ble_eq_true rfl) (Nat.le_of_ble_eq_true rfl) (Nat.le_of_ble_eq_true rfl) (Nat.ne_of_beq_eq_false rfl))) (Ev_iload_n dX8_tick_173 rfl) dX8_tick_174) (Ev_iconst dX8_tick_175 (by decide)) dX8_tick_176) (Ev_iconst dX8_tick_177 (by decide)) (t := 188) dX8_tick_178 (by decide))) (Sv_call (Av_i (Av_i (Av_i (Av_a (Av_nil) (Ev_aload_n dX8_tick_181 rfl)) (Ev_iload_n dX8_tick_182 rfl)) (Ev_iload_n dX8_tick_183 rfl)) (Ev_iload_n dX8_tick_184 rfl)) (Rn_V (ci := 8) Fx8.1 rfl Y_X8_step (k_X8_step _ _) w1413 w1415 wp56 dX8_tick_185 (Nat.le_of_ble_eq_true rfl) (Nat.le_of_ble_eq_true rfl) (Nat.le_of_ble_eq_true rfl) (Nat.ne_of_beq_eq_false rfl))) Sv_nop) (Sv_iinc dX8_tick_188 (by decide) (Nat.le_of_ble_eq_true rfl) (Nat.ne_of_beq_eq_false rfl))) dX8_tick_191 (by decide)))) (Sv_iinc dX8_tick_194 (by decide) (Nat.le_of_ble_eq_true rfl) (Nat.ne_of_beq_eq_false rfl))) dX8_tick_197 (by decide)))) (Sv_iinc dX8_tick_200 (by decide) (Nat.le_of_ble_eq_true rfl) (Nat.ne_of_beq_eq_false rfl))) dX8_tick_203 (by decide)))) (Sv_seq (Sv_call (Av_a (Av_nil) (Ev_aload_n dX8_tick_206 rfl)) (Rn_V (ci := 8) Fx8.1 rfl Y_X8_becomesNext (k_X8_becomesNext _ _) w1431 w1433 wp59 dX8_tick_207 (Nat.le_of_ble_eq_true rfl) (Nat.le_of_ble_eq_true rfl) (Nat.le_of_ble_eq_true rfl) (Nat.ne_of_beq_eq_false rfl))) (Sv_seq (Sv_call (Av_a (Av_nil) (Ev_aload_n dX8_tick_210 rfl)) (Rn_V (ci := 8) Fx8.1 rfl Y_X8_records (k_X8_records _ _) w1435 w1437 wp60 dX8_tick_211 (Nat.le_of_ble_eq_true rfl) (Nat.le_of_ble_eq_true rfl) (Nat.le_of_ble_eq_true rfl) (Nat.ne_of_beq_eq_false rfl))) (Sv_aop_iadd (Ev_getA Fx8 (Ev_aload_n dX8_tick_214 rfl) (k := 0) (by decide) w1143 dX8_tick_215) (Ev_iconst dX8_tick_218 (by decide)) dX8_tick_219 dX8_tick_220 (Ev_iconst dX8_tick_221 (by decide)) dX8_tick_222 dX8_tick_223))))))) (Sv_retv hr dX8_tick_224), Nat.le_of_ble_eq_true rfl, Nat.le_of_ble_eq_true rfl⟩)
theorem dX8_ticks_0 : decode cX8_ticks 0 = .ok (.iconst 0, 1) := by decide +kernel
theorem dX8_ticks_1 : decode cX8_ticks 1 = .ok (.istore_n 2, 1) := by decide +kernel
theorem dX8_ticks_2 : decode cX8_ticks 2 = .ok (.iload_n 2, 1) := by decide +kernel
theorem dX8_ticks_3 : decode cX8_ticks 3 = .ok (.iload_n 1, 1) := by decide +kernel
theorem dX8_ticks_4 : decode cX8_ticks 4 = .ok (.if_icmp .ge 13, 3) := by decide +kernel
theorem dX8_ticks_7 : decode cX8_ticks 7 = .ok (.aload_n 0, 1) := by decide +kernel
theorem dX8_ticks_8 : decode cX8_ticks 8 = .ok (.invokevirtual 209, 3) := by decide +kernel
theorem dX8_ticks_11 : decode cX8_ticks 11 = .ok (.iinc 2 1, 3) := by decide +kernel
theorem dX8_ticks_14 : decode cX8_ticks 14 = .ok (.goto (-12), 3) := by decide +kernel
theorem dX8_ticks_17 : decode cX8_ticks 17 = .ok (.return_, 1) := by decide +kernel
def f_X8_ticks : MX := mth 3 (sQ (sQ (sTi 2 (eI (0))) (sLp (cB c_lt (eLi 2) (eLi 1)) (sQ (sM (gd 8 f_X8_tick) (aA (aN) (eLa 0))) (sInc 2 (1))) NF)) (sRv))
theorem Y_X8_ticks : Yk yX8_ticks cX8_ticks 3 none 1 := ⟨w1392, w16, by decide +kernel, by decide +kernel, by decide +kernel⟩
set_option maxRecDepth 20000 in
theorem k_X8_ticks (l : Launch) (g : GE) : MetX l g yX8_ticks cX8_ticks 3 none 2 ({ frames := 6, cells := 0, slots := 0, locals := 137 } : Room) f_X8_ticks := by
  unfold f_X8_ticks
  exact MetX.of (own := RX8) 100 0 rfl (by decide +kernel) (by decide) (fun p e s m args below meth c Fin ad0 hr hn => ⟨_, _, Sv_seq (Sv_seq (Sv_istore_n (Ev_iconst dX8_ticks_0 (by decide)) dX8_ticks_1 rfl (Nat.le_of_ble_eq_true rfl) (Nat.ne_of_beq_eq_false rfl)) (Sv_loop0 NF (Cv_icmp_ge_n (Ev_iload_n dX8_ticks_2 rfl) (Ev_iload_n dX8_ticks_3 rfl) (t := 17) dX8_ticks_4 (by decide)) (Sv_goto (pE := 2) (Sv_seq (Sv_call (Av_a (Av_nil) (Ev_aload_n dX8_ticks_7 rfl)) (Rn_V (ci := 8) Fx8.1 rfl Y_X8_tick (k_X8_tick _ _) w1393 w1395 wp51 dX8_ticks_8 (Nat.le_of_ble_eq_true rfl) (Nat.le_of_ble_eq_true rfl) (Nat.le_of_ble_eq_true rfl) (Nat.ne_of_beq_eq_false rfl))) (Sv_iinc dX8_ticks_11 (by decide) (Nat.le_of_ble_eq_true rfl) (Nat.ne_of_beq_eq_false rfl))) dX8_ticks_14 (by decide)))) (Sv_retv hr dX8_ticks_17), Nat.le_of_ble_eq_true rfl, Nat.le_of_ble_eq_true rfl⟩)
theorem dX8_run_0 : decode cX8_run 0 = .ok (.iload_n 1, 1) := by decide +kernel
theorem dX8_run_1 : decode cX8_run 1 = .ok (.iconst 1, 1) := by decide +kernel
theorem dX8_run_2 : decode cX8_run 2 = .ok (.bipush 40, 2) := by decide +kernel
theorem dX8_run_4 : decode cX8_run 4 = .ok (.invokestatic 65, 3) := by decide +kernel
theorem dX8_run_7 : decode cX8_run 7 = .ok (.ifCond .ne 9, 3) := by decide +kernel
theorem dX8_run_10 : decode cX8_run 10 = .ok (.aload_n 0, 1) := by decide +kernel
theorem dX8_run_11 : decode cX8_run 11 = .ok (.iconst 1, 1) := by decide +kernel
theorem dX8_run_12 : decode cX8_run 12 = .ok (.invokevirtual 89, 3) := by decide +kernel
theorem dX8_run_15 : decode cX8_run 15 = .ok (.ireturn, 1) := by decide +kernel
theorem dX8_run_16 : decode cX8_run 16 = .ok (.aload_n 0, 1) := by decide +kernel
theorem dX8_run_17 : decode cX8_run 17 = .ok (.invokevirtual 92, 3) := by decide +kernel
theorem dX8_run_20 : decode cX8_run 20 = .ok (.aload_n 0, 1) := by decide +kernel
theorem dX8_run_21 : decode cX8_run 21 = .ok (.iload_n 1, 1) := by decide +kernel
theorem dX8_run_22 : decode cX8_run 22 = .ok (.invokevirtual 212, 3) := by decide +kernel
theorem dX8_run_25 : decode cX8_run 25 = .ok (.aload_n 0, 1) := by decide +kernel
theorem dX8_run_26 : decode cX8_run 26 = .ok (.aload_n 0, 1) := by decide +kernel
theorem dX8_run_27 : decode cX8_run 27 = .ok (.getfield 7, 3) := by decide +kernel
theorem dX8_run_30 : decode cX8_run 30 = .ok (.iconst 2, 1) := by decide +kernel
theorem dX8_run_31 : decode cX8_run 31 = .ok (.iaload, 1) := by decide +kernel
theorem dX8_run_32 : decode cX8_run 32 = .ok (.invokevirtual 98, 3) := by decide +kernel
theorem dX8_run_35 : decode cX8_run 35 = .ok (.ireturn, 1) := by decide +kernel
def f_X8_run : MX := mth 2 (sQ (sIf (cNot (cZ z_ne (eM (f_X8_in) (aI (aI (aI (aN) (eLi 1)) (eI (1))) (eI (40)))))) (sR (eM (gd 8 f_X8_fails) (aI (aA (aN) (eLa 0)) (eI (1))))) sN) (sQ (sM (gd 8 f_X8_holds) (aA (aN) (eLa 0))) (sQ (sM (gd 8 f_X8_ticks) (aI (aA (aN) (eLa 0)) (eLi 1))) (sR (eM (gd 8 f_X8_saves) (aI (aA (aN) (eLa 0)) (eAi 0 (eGa (eLa 0) 8 0) (eI (2)))))))))
theorem Y_X8_run : Yk yX8_run cX8_run 2 (some .int) 1 := ⟨w1388, w16, by decide +kernel, by decide +kernel, by decide +kernel⟩
set_option maxRecDepth 20000 in
theorem k_X8_run (l : Launch) (g : GE) : MetX l g yX8_run cX8_run 2 (some .int) 2 ({ frames := 7, cells := 0, slots := 0, locals := 159 } : Room) f_X8_run := by
  unfold f_X8_run
  exact MetX.of (own := RX8) 100 0 rfl (by decide +kernel) (by decide) (fun p e s m args below meth c Fin ad0 hr hn => ⟨_, _, Sv_seq (Sv_if (Cv_not (Cv_if_ne_j (Ev_call (Av_i (Av_i (Av_i (Av_nil) (Ev_iload_n dX8_run_0 rfl)) (Ev_iconst dX8_run_1 (by decide))) (Ev_bipush dX8_run_2 (by decide))) (Rn_S Y_X8_in (k_X8_in _ _) w1209 w1210 dX8_run_4 (Nat.le_of_ble_eq_true rfl) (Nat.le_of_ble_eq_true rfl) (Nat.le_of_ble_eq_true rfl) (Nat.ne_of_beq_eq_false rfl))) (t := 16) dX8_run_7 (by decide))) (Sv_ret (Ev_call (Av_i (Av_a (Av_nil) (Ev_aload_n dX8_run_10 rfl)) (Ev_iconst dX8_run_11 (by decide))) (Rn_V (ci := 8) Fx8.1 rfl Y_X8_fails (k_X8_fails _ _) w1212 w1214 wp29 dX8_run_12 (Nat.le_of_ble_eq_true rfl) (Nat.le_of_ble_eq_true rfl) (Nat.le_of_ble_eq_true rfl) (Nat.ne_of_beq_eq_false rfl))) hr dX8_run_15) Sv_nop) (Sv_seq (Sv_call (Av_a (Av_nil) (Ev_aload_n dX8_run_16 rfl)) (Rn_V (ci := 8) Fx8.1 rfl Y_X8_holds (k_X8_holds _ _) w1216 w1218 wp30 dX8_run_17 (Nat.le_of_ble_eq_true rfl) (Nat.le_of_ble_eq_true rfl) (Nat.le_of_ble_eq_true rfl) (Nat.ne_of_beq_eq_false rfl))) (Sv_seq (Sv_call (Av_i (Av_a (Av_nil) (Ev_aload_n dX8_run_20 rfl)) (Ev_iload_n dX8_run_21 rfl)) (Rn_V (ci := 8) Fx8.1 rfl Y_X8_ticks (k_X8_ticks _ _) w1389 w1391 wp50 dX8_run_22 (Nat.le_of_ble_eq_true rfl) (Nat.le_of_ble_eq_true rfl) (Nat.le_of_ble_eq_true rfl) (Nat.ne_of_beq_eq_false rfl))) (Sv_ret (Ev_call (Av_i (Av_a (Av_nil) (Ev_aload_n dX8_run_25 rfl)) (Ev_iaload (Ev_getA Fx8 (Ev_aload_n dX8_run_26 rfl) (k := 0) (by decide) w1143 dX8_run_27) (Ev_iconst dX8_run_30 (by decide)) dX8_run_31)) (Rn_V (ci := 8) Fx8.1 rfl Y_X8_saves (k_X8_saves _ _) w1224 w1226 wp32 dX8_run_32 (Nat.le_of_ble_eq_true rfl) (Nat.le_of_ble_eq_true rfl) (Nat.le_of_ble_eq_true rfl) (Nat.ne_of_beq_eq_false rfl))) hr dX8_run_35))), Nat.le_of_ble_eq_true rfl, Nat.le_of_ble_eq_true rfl⟩)
theorem dX8_isReversible_0 : decode cX8_isReversible 0 = .ok (.aload_n 0, 1) := by decide +kernel
theorem dX8_isReversible_1 : decode cX8_isReversible 1 = .ok (.getfield 7, 3) := by decide +kernel
theorem dX8_isReversible_4 : decode cX8_isReversible 4 = .ok (.iconst 3, 1) := by decide +kernel
theorem dX8_isReversible_5 : decode cX8_isReversible 5 = .ok (.iaload, 1) := by decide +kernel
theorem dX8_isReversible_6 : decode cX8_isReversible 6 = .ok (.iconst 1, 1) := by decide +kernel
theorem dX8_isReversible_7 : decode cX8_isReversible 7 = .ok (.if_icmp .ne 17, 3) := by decide +kernel
theorem dX8_isReversible_10 : decode cX8_isReversible 10 = .ok (.aload_n 0, 1) := by decide +kernel
theorem dX8_isReversible_11 : decode cX8_isReversible 11 = .ok (.getfield 7, 3) := by decide +kernel
theorem dX8_isReversible_14 : decode cX8_isReversible 14 = .ok (.bipush 6, 2) := by decide +kernel
theorem dX8_isReversible_16 : decode cX8_isReversible 16 = .ok (.iaload, 1) := by decide +kernel
theorem dX8_isReversible_17 : decode cX8_isReversible 17 = .ok (.ifCond .ne 7, 3) := by decide +kernel
theorem dX8_isReversible_20 : decode cX8_isReversible 20 = .ok (.iconst 1, 1) := by decide +kernel
theorem dX8_isReversible_21 : decode cX8_isReversible 21 = .ok (.goto 4, 3) := by decide +kernel
theorem dX8_isReversible_24 : decode cX8_isReversible 24 = .ok (.iconst 0, 1) := by decide +kernel
theorem dX8_isReversible_25 : decode cX8_isReversible 25 = .ok (.istore_n 1, 1) := by decide +kernel
theorem dX8_isReversible_26 : decode cX8_isReversible 26 = .ok (.iconst 0, 1) := by decide +kernel
theorem dX8_isReversible_27 : decode cX8_isReversible 27 = .ok (.istore_n 2, 1) := by decide +kernel
theorem dX8_isReversible_28 : decode cX8_isReversible 28 = .ok (.iload_n 2, 1) := by decide +kernel
theorem dX8_isReversible_29 : decode cX8_isReversible 29 = .ok (.sipush 128, 3) := by decide +kernel
theorem dX8_isReversible_32 : decode cX8_isReversible 32 = .ok (.if_icmp .ge 84, 3) := by decide +kernel
theorem dX8_isReversible_35 : decode cX8_isReversible 35 = .ok (.iload_n 1, 1) := by decide +kernel
theorem dX8_isReversible_36 : decode cX8_isReversible 36 = .ok (.ifCond .eq 80, 3) := by decide +kernel
theorem dX8_isReversible_39 : decode cX8_isReversible 39 = .ok (.iconst 0, 1) := by decide +kernel
theorem dX8_isReversible_40 : decode cX8_isReversible 40 = .ok (.istore_n 3, 1) := by decide +kernel
theorem dX8_isReversible_41 : decode cX8_isReversible 41 = .ok (.iload_n 3, 1) := by decide +kernel
theorem dX8_isReversible_42 : decode cX8_isReversible 42 = .ok (.bipush 64, 2) := by decide +kernel
theorem dX8_isReversible_44 : decode cX8_isReversible 44 = .ok (.if_icmp .ge 66, 3) := by decide +kernel
theorem dX8_isReversible_47 : decode cX8_isReversible 47 = .ok (.iload_n 1, 1) := by decide +kernel
theorem dX8_isReversible_48 : decode cX8_isReversible 48 = .ok (.ifCond .eq 62, 3) := by decide +kernel
theorem dX8_isReversible_51 : decode cX8_isReversible 51 = .ok (.iconst 0, 1) := by decide +kernel
theorem dX8_isReversible_52 : decode cX8_isReversible 52 = .ok (.istore 4, 2) := by decide +kernel
theorem dX8_isReversible_54 : decode cX8_isReversible 54 = .ok (.iload 4, 2) := by decide +kernel
theorem dX8_isReversible_56 : decode cX8_isReversible 56 = .ok (.iload_n 3, 1) := by decide +kernel
theorem dX8_isReversible_57 : decode cX8_isReversible 57 = .ok (.if_icmp .ge 47, 3) := by decide +kernel
theorem dX8_isReversible_60 : decode cX8_isReversible 60 = .ok (.iload_n 1, 1) := by decide +kernel
theorem dX8_isReversible_61 : decode cX8_isReversible 61 = .ok (.ifCond .eq 35, 3) := by decide +kernel
theorem dX8_isReversible_64 : decode cX8_isReversible 64 = .ok (.aload_n 0, 1) := by decide +kernel
theorem dX8_isReversible_65 : decode cX8_isReversible 65 = .ok (.getfield 7, 3) := by decide +kernel
theorem dX8_isReversible_68 : decode cX8_isReversible 68 = .ok (.sipush 1394, 3) := by decide +kernel
theorem dX8_isReversible_71 : decode cX8_isReversible 71 = .ok (.iload_n 2, 1) := by decide +kernel
theorem dX8_isReversible_72 : decode cX8_isReversible 72 = .ok (.iadd, 1) := by decide +kernel
theorem dX8_isReversible_73 : decode cX8_isReversible 73 = .ok (.iload_n 3, 1) := by decide +kernel
theorem dX8_isReversible_74 : decode cX8_isReversible 74 = .ok (.iadd, 1) := by decide +kernel
theorem dX8_isReversible_75 : decode cX8_isReversible 75 = .ok (.iaload, 1) := by decide +kernel
theorem dX8_isReversible_76 : decode cX8_isReversible 76 = .ok (.aload_n 0, 1) := by decide +kernel
theorem dX8_isReversible_77 : decode cX8_isReversible 77 = .ok (.getfield 7, 3) := by decide +kernel
theorem dX8_isReversible_80 : decode cX8_isReversible 80 = .ok (.sipush 1394, 3) := by decide +kernel
theorem dX8_isReversible_83 : decode cX8_isReversible 83 = .ok (.iload_n 2, 1) := by decide +kernel
theorem dX8_isReversible_84 : decode cX8_isReversible 84 = .ok (.iadd, 1) := by decide +kernel
theorem dX8_isReversible_85 : decode cX8_isReversible 85 = .ok (.iload 4, 2) := by decide +kernel
theorem dX8_isReversible_87 : decode cX8_isReversible 87 = .ok (.iadd, 1) := by decide +kernel
theorem dX8_isReversible_88 : decode cX8_isReversible 88 = .ok (.iaload, 1) := by decide +kernel
theorem dX8_isReversible_89 : decode cX8_isReversible 89 = .ok (.if_icmp .eq 7, 3) := by decide +kernel
theorem dX8_isReversible_92 : decode cX8_isReversible 92 = .ok (.iconst 1, 1) := by decide +kernel
theorem dX8_isReversible_93 : decode cX8_isReversible 93 = .ok (.goto 4, 3) := by decide +kernel
theorem dX8_isReversible_96 : decode cX8_isReversible 96 = .ok (.iconst 0, 1) := by decide +kernel
theorem dX8_isReversible_97 : decode cX8_isReversible 97 = .ok (.istore_n 1, 1) := by decide +kernel
theorem dX8_isReversible_98 : decode cX8_isReversible 98 = .ok (.iinc 4 1, 3) := by decide +kernel
theorem dX8_isReversible_101 : decode cX8_isReversible 101 = .ok (.goto (-47), 3) := by decide +kernel
theorem dX8_isReversible_104 : decode cX8_isReversible 104 = .ok (.iinc 3 1, 3) := by decide +kernel
theorem dX8_isReversible_107 : decode cX8_isReversible 107 = .ok (.goto (-66), 3) := by decide +kernel
theorem dX8_isReversible_110 : decode cX8_isReversible 110 = .ok (.iinc 2 64, 3) := by decide +kernel
theorem dX8_isReversible_113 : decode cX8_isReversible 113 = .ok (.goto (-85), 3) := by decide +kernel
theorem dX8_isReversible_116 : decode cX8_isReversible 116 = .ok (.iload_n 1, 1) := by decide +kernel
theorem dX8_isReversible_117 : decode cX8_isReversible 117 = .ok (.ireturn, 1) := by decide +kernel
def f_X8_isReversible : MX := mth 5 (sQ (sTi 1 (eC (cAnd (cB c_eq (eAi 0 (eGa (eLa 0) 8 0) (eI (3))) (eI (1))) (cZ z_eq (eAi 0 (eGa (eLa 0) 8 0) (eI (6))))))) (sQ (sQ (sTi 2 (eI (0))) (sLp (cAnd (cB c_lt (eLi 2) (eI (128))) (cZ z_ne (eLi 1))) (sQ (sQ (sTi 3 (eI (0))) (sLp (cAnd (cB c_lt (eLi 3) (eI (64))) (cZ z_ne (eLi 1))) (sQ (sQ (sTi 4 (eI (0))) (sLp (cB c_lt (eLi 4) (eLi 3)) (sQ (sTi 1 (eC (cAnd (cZ z_ne (eLi 1)) (cB c_ne (eAi 0 (eGa (eLa 0) 8 0) (eOp o_iadd (eOp o_iadd (eI (1394)) (eLi 2)) (eLi 3))) (eAi 0 (eGa (eLa 0) 8 0) (eOp o_iadd (eOp o_iadd (eI (1394)) (eLi 2)) (eLi 4))))))) (sInc 4 (1))) NF)) (sInc 3 (1))) NF)) (sInc 2 (64))) NF)) (sRz (eLi 1))))
theorem Y_X8_isReversible : Yk yX8_isReversible cX8_isReversible 5 (some .boolean) 0 := ⟨w1446, w16, by decide +kernel, by decide +kernel, by decide +kernel⟩
set_option maxRecDepth 20000 in
theorem k_X8_isReversible (l : Launch) (g : GE) : MetX l g yX8_isReversible cX8_isReversible 5 (some .boolean) 1 ({ frames := 0, cells := 0, slots := 0, locals := 0 } : Room) f_X8_isReversible := by
  unfold f_X8_isReversible
  exact MetX.of (own := RX8) 100 0 rfl (by decide +kernel) (by decide) (fun p e s m args below meth c Fin ad0 hr hn => ⟨_, _, Sv_seq (Sv_istore_n (Ev_if (pT := 25) (Cv_and (Cv_icmp_ne_n (Ev_iaload (Ev_getA Fx8 (Ev_aload_n dX8_isReversible_0 rfl) (k := 0) (by decide) w1143 dX8_isReversible_1) (Ev_iconst dX8_isReversible_4 (by decide)) dX8_isReversible_5) (Ev_iconst dX8_isReversible_6 (by decide)) (t := 24) dX8_isReversible_7 (by decide)) (Cv_if_ne_n (Ev_iaload (Ev_getA Fx8 (Ev_aload_n dX8_isReversible_10 rfl) (k := 0) (by decide) w1143 dX8_isReversible_11) (Ev_bipush dX8_isReversible_14 (by decide)) dX8_isReversible_16) (t := 24) dX8_isReversible_17 (by decide))) (Ev_iconst dX8_isReversible_20 (by decide)) dX8_isReversible_21 (by decide) (Ev_iconst dX8_isReversible_24 (by decide))) dX8_isReversible_25 rfl (Nat.le_of_ble_eq_true rfl) (Nat.ne_of_beq_eq_false rfl)) (Sv_seq (Sv_seq (Sv_istore_n (Ev_iconst dX8_isReversible_26 (by decide)) dX8_isReversible_27 rfl (Nat.le_of_ble_eq_true rfl) (Nat.ne_of_beq_eq_false rfl)) (Sv_loop0 NF (Cv_and (Cv_icmp_ge_n (Ev_iload_n dX8_isReversible_28 rfl) (Ev_sipush dX8_isReversible_29 (by decide)) (t := 116) dX8_isReversible_32 (by decide)) (Cv_if_eq_n (Ev_iload_n dX8_isReversible_35 rfl) (t := 116) dX8_isReversible_36 (by decide))) (Sv_goto (pE := 28) (Sv_seq (Sv_seq (Sv_istore_n (Ev_iconst dX8_isReversible_39 (by decide)) dX8_isReversible_40 rfl (Nat.le_of_ble_eq_true rfl) (Nat.ne_of_beq_eq_false rfl)) (Sv_loop0 NF (Cv_and (Cv_icmp_ge_n (Ev_iload_n dX8_isReversible_41 rfl) (Ev_bipush dX8_isReversible_42 (by decide)) (t := 110) dX8_isReversible_44 (by decide)) (Cv_if_eq_n (Ev_iload_n dX8_isReversible_47 rfl) (t := 110) dX8_isReversible_48 (by decide))) (Sv_goto (pE := 41) (Sv_seq (Sv_seq (Sv_istore (Ev_iconst dX8_isReversible_51 (by decide)) dX8_isReversible_52 (Nat.le_of_ble_eq_true rfl) (Nat.ne_of_beq_eq_false rfl)) (Sv_loop0 NF (Cv_icmp_ge_n (Ev_iload dX8_isReversible_54) (Ev_iload_n dX8_isReversible_56 rfl) (t := 104) dX8_isReversible_57 (by decide)) (Sv_goto (pE := 54) (Sv_seq (Sv_istore_n (Ev_if (pT := 97) (Cv_and (Cv_if_eq_n (Ev_iload_n dX8_isReversible_60 rfl) (t := 96) dX8_isReversible_61 (by decide)) (Cv_icmp_eq_n (Ev_iaload (Ev_getA Fx8 (Ev_aload_n dX8_isReversible_64 rfl) (k := 0) (by decide) w1143 dX8_isReversible_65) (Ev_iadd (Ev_iadd (Ev_sipush dX8_isReversible_68 (by decide)) (Ev_iload_n dX8_isReversible_71 rfl) dX8_isReversible_72) (Ev_iload_n dX8_isReversible_73 rfl) dX8_isReversible_74) dX8_isReversible_75) (Ev_iaload (Ev_getA Fx8 (Ev_aload_n dX8_isReversible_76 rfl) (k := 0) (by decide) w1143 dX8_isReversible_77) (Ev_iadd (Ev_iadd (Ev_sipush dX8_isReversible_80 (by decide)) (Ev_iload_n dX8_isReversible_83 rfl) dX8_isReversible_84) (Ev_iload dX8_isReversible_85) dX8_isReversible_87) dX8_isReversible_88) (t := 96) dX8_isReversible_89 (by decide))) (Ev_iconst dX8_isReversible_92 (by decide)) dX8_isReversible_93 (by decide) (Ev_iconst dX8_isReversible_96 (by decide))) dX8_isReversible_97 rfl (Nat.le_of_ble_eq_true rfl) (Nat.ne_of_beq_eq_false rfl)) (Sv_iinc dX8_isReversible_98 (by decide) (Nat.le_of_ble_eq_true rfl) (Nat.ne_of_beq_eq_false rfl))) dX8_isReversible_101 (by decide)))) (Sv_iinc dX8_isReversible_104 (by decide) (Nat.le_of_ble_eq_true rfl) (Nat.ne_of_beq_eq_false rfl))) dX8_isReversible_107 (by decide)))) (Sv_iinc dX8_isReversible_110 (by decide) (Nat.le_of_ble_eq_true rfl) (Nat.ne_of_beq_eq_false rfl))) dX8_isReversible_113 (by decide)))) (Sv_retz (Ev_iload_n dX8_isReversible_116 rfl) hr dX8_isReversible_117)), Nat.le_of_ble_eq_true rfl, Nat.le_of_ble_eq_true rfl⟩)
theorem dX8_reversible_0 : decode cX8_reversible 0 = .ok (.aload_n 0, 1) := by decide +kernel
theorem dX8_reversible_1 : decode cX8_reversible 1 = .ok (.iconst 0, 1) := by decide +kernel
theorem dX8_reversible_2 : decode cX8_reversible 2 = .ok (.putfield 54, 3) := by decide +kernel
theorem dX8_reversible_5 : decode cX8_reversible 5 = .ok (.aload_n 0, 1) := by decide +kernel
theorem dX8_reversible_6 : decode cX8_reversible 6 = .ok (.invokevirtual 215, 3) := by decide +kernel
theorem dX8_reversible_9 : decode cX8_reversible 9 = .ok (.ireturn, 1) := by decide +kernel
def f_X8_reversible : MX := mth 1 (sQ (sPi (eLa 0) 8 10 (eI (0))) (sRz (eM (gd 8 f_X8_isReversible) (aA (aN) (eLa 0)))))
theorem Y_X8_reversible : Yk yX8_reversible cX8_reversible 1 (some .boolean) 0 := ⟨w1442, w16, by decide +kernel, by decide +kernel, by decide +kernel⟩
set_option maxRecDepth 20000 in
theorem k_X8_reversible (l : Launch) (g : GE) : MetX l g yX8_reversible cX8_reversible 1 (some .boolean) 1 ({ frames := 1, cells := 0, slots := 0, locals := 24 } : Room) f_X8_reversible := by
  unfold f_X8_reversible
  exact MetX.of (own := RX8) 100 0 rfl (by decide +kernel) (by decide) (fun p e s m args below meth c Fin ad0 hr hn => ⟨_, _, Sv_seq (Sv_putI Fx8 (Ev_aload_n dX8_reversible_0 rfl) (Ev_iconst dX8_reversible_1 (by decide)) (k := 10) (by decide) rfl rfl w1153 dX8_reversible_2) (Sv_retz (Ev_call (Av_a (Av_nil) (Ev_aload_n dX8_reversible_5 rfl)) (Rn_V (ci := 8) Fx8.1 rfl Y_X8_isReversible (k_X8_isReversible _ _) w1443 w1445 wp61 dX8_reversible_6 (Nat.le_of_ble_eq_true rfl) (Nat.le_of_ble_eq_true rfl) (Nat.le_of_ble_eq_true rfl) (Nat.ne_of_beq_eq_false rfl))) hr dX8_reversible_9), Nat.le_of_ble_eq_true rfl, Nat.le_of_ble_eq_true rfl⟩)
theorem dX8_stepBack_0 : decode cX8_stepBack 0 = .ok (.iload_n 3, 1) := by decide +kernel
theorem dX8_stepBack_1 : decode cX8_stepBack 1 = .ok (.iconst 3, 1) := by decide +kernel
theorem dX8_stepBack_2 : decode cX8_stepBack 2 = .ok (.iadd, 1) := by decide +kernel
theorem dX8_stepBack_3 : decode cX8_stepBack 3 = .ok (.bipush 6, 2) := by decide +kernel
theorem dX8_stepBack_5 : decode cX8_stepBack 5 = .ok (.irem, 1) := by decide +kernel
theorem dX8_stepBack_6 : decode cX8_stepBack 6 = .ok (.istore 4, 2) := by decide +kernel
theorem dX8_stepBack_8 : decode cX8_stepBack 8 = .ok (.iload_n 2, 1) := by decide +kernel
theorem dX8_stepBack_9 : decode cX8_stepBack 9 = .ok (.iload 4, 2) := by decide +kernel
theorem dX8_stepBack_11 : decode cX8_stepBack 11 = .ok (.invokestatic 80, 3) := by decide +kernel
theorem dX8_stepBack_14 : decode cX8_stepBack 14 = .ok (.iadd, 1) := by decide +kernel
theorem dX8_stepBack_15 : decode cX8_stepBack 15 = .ok (.istore 5, 2) := by decide +kernel
theorem dX8_stepBack_17 : decode cX8_stepBack 17 = .ok (.aload_n 0, 1) := by decide +kernel
theorem dX8_stepBack_18 : decode cX8_stepBack 18 = .ok (.iload_n 1, 1) := by decide +kernel
theorem dX8_stepBack_19 : decode cX8_stepBack 19 = .ok (.iload_n 2, 1) := by decide +kernel
theorem dX8_stepBack_20 : decode cX8_stepBack 20 = .ok (.iload 4, 2) := by decide +kernel
theorem dX8_stepBack_22 : decode cX8_stepBack 22 = .ok (.invokestatic 178, 3) := by decide +kernel
theorem dX8_stepBack_25 : decode cX8_stepBack 25 = .ok (.invokevirtual 181, 3) := by decide +kernel
theorem dX8_stepBack_28 : decode cX8_stepBack 28 = .ok (.istore 6, 2) := by decide +kernel
theorem dX8_stepBack_30 : decode cX8_stepBack 30 = .ok (.aload_n 0, 1) := by decide +kernel
theorem dX8_stepBack_31 : decode cX8_stepBack 31 = .ok (.iload 5, 2) := by decide +kernel
theorem dX8_stepBack_33 : decode cX8_stepBack 33 = .ok (.invokevirtual 73, 3) := by decide +kernel
theorem dX8_stepBack_36 : decode cX8_stepBack 36 = .ok (.ifCond .ne 66, 3) := by decide +kernel
theorem dX8_stepBack_39 : decode cX8_stepBack 39 = .ok (.iload 5, 2) := by decide +kernel
theorem dX8_stepBack_41 : decode cX8_stepBack 41 = .ok (.ifCond .ge 12, 3) := by decide +kernel
theorem dX8_stepBack_44 : decode cX8_stepBack 44 = .ok (.aload_n 0, 1) := by decide +kernel
theorem dX8_stepBack_45 : decode cX8_stepBack 45 = .ok (.getfield 7, 3) := by decide +kernel
theorem dX8_stepBack_48 : decode cX8_stepBack 48 = .ok (.iconst 4, 1) := by decide +kernel
theorem dX8_stepBack_49 : decode cX8_stepBack 49 = .ok (.iaload, 1) := by decide +kernel
theorem dX8_stepBack_50 : decode cX8_stepBack 50 = .ok (.goto 9, 3) := by decide +kernel
theorem dX8_stepBack_53 : decode cX8_stepBack 53 = .ok (.aload_n 0, 1) := by decide +kernel
theorem dX8_stepBack_54 : decode cX8_stepBack 54 = .ok (.getfield 7, 3) := by decide +kernel
theorem dX8_stepBack_57 : decode cX8_stepBack 57 = .ok (.iconst 5, 1) := by decide +kernel
theorem dX8_stepBack_58 : decode cX8_stepBack 58 = .ok (.iaload, 1) := by decide +kernel
theorem dX8_stepBack_59 : decode cX8_stepBack 59 = .ok (.iload_n 3, 1) := by decide +kernel
theorem dX8_stepBack_60 : decode cX8_stepBack 60 = .ok (.invokestatic 184, 3) := by decide +kernel
theorem dX8_stepBack_63 : decode cX8_stepBack 63 = .ok (.istore 7, 2) := by decide +kernel
theorem dX8_stepBack_65 : decode cX8_stepBack 65 = .ok (.aload_n 0, 1) := by decide +kernel
theorem dX8_stepBack_66 : decode cX8_stepBack 66 = .ok (.getfield 32, 3) := by decide +kernel
theorem dX8_stepBack_69 : decode cX8_stepBack 69 = .ok (.iload_n 1, 1) := by decide +kernel
theorem dX8_stepBack_70 : decode cX8_stepBack 70 = .ok (.iload_n 2, 1) := by decide +kernel
theorem dX8_stepBack_71 : decode cX8_stepBack 71 = .ok (.invokestatic 76, 3) := by decide +kernel
theorem dX8_stepBack_74 : decode cX8_stepBack 74 = .ok (.dup2, 1) := by decide +kernel
theorem dX8_stepBack_75 : decode cX8_stepBack 75 = .ok (.iaload, 1) := by decide +kernel
theorem dX8_stepBack_76 : decode cX8_stepBack 76 = .ok (.iconst 1, 1) := by decide +kernel
theorem dX8_stepBack_77 : decode cX8_stepBack 77 = .ok (.iload 7, 2) := by decide +kernel
theorem dX8_stepBack_79 : decode cX8_stepBack 79 = .ok (.ishl, 1) := by decide +kernel
theorem dX8_stepBack_80 : decode cX8_stepBack 80 = .ok (.ior, 1) := by decide +kernel
theorem dX8_stepBack_81 : decode cX8_stepBack 81 = .ok (.iastore, 1) := by decide +kernel
theorem dX8_stepBack_82 : decode cX8_stepBack 82 = .ok (.aload_n 0, 1) := by decide +kernel
theorem dX8_stepBack_83 : decode cX8_stepBack 83 = .ok (.iconst 3, 1) := by decide +kernel
theorem dX8_stepBack_84 : decode cX8_stepBack 84 = .ok (.iconst 1, 1) := by decide +kernel
theorem dX8_stepBack_85 : decode cX8_stepBack 85 = .ok (.iload 7, 2) := by decide +kernel
theorem dX8_stepBack_87 : decode cX8_stepBack 87 = .ok (.ishl, 1) := by decide +kernel
theorem dX8_stepBack_88 : decode cX8_stepBack 88 = .ok (.iconst (-1), 1) := by decide +kernel
theorem dX8_stepBack_89 : decode cX8_stepBack 89 = .ok (.invokevirtual 121, 3) := by decide +kernel
theorem dX8_stepBack_92 : decode cX8_stepBack 92 = .ok (.aload_n 0, 1) := by decide +kernel
theorem dX8_stepBack_93 : decode cX8_stepBack 93 = .ok (.iconst 3, 1) := by decide +kernel
theorem dX8_stepBack_94 : decode cX8_stepBack 94 = .ok (.iconst 1, 1) := by decide +kernel
theorem dX8_stepBack_95 : decode cX8_stepBack 95 = .ok (.iload_n 3, 1) := by decide +kernel
theorem dX8_stepBack_96 : decode cX8_stepBack 96 = .ok (.ishl, 1) := by decide +kernel
theorem dX8_stepBack_97 : decode cX8_stepBack 97 = .ok (.iconst 1, 1) := by decide +kernel
theorem dX8_stepBack_98 : decode cX8_stepBack 98 = .ok (.invokevirtual 121, 3) := by decide +kernel
theorem dX8_stepBack_101 : decode cX8_stepBack 101 = .ok (.return_, 1) := by decide +kernel
theorem dX8_stepBack_102 : decode cX8_stepBack 102 = .ok (.aload_n 0, 1) := by decide +kernel
theorem dX8_stepBack_103 : decode cX8_stepBack 103 = .ok (.iload 6, 2) := by decide +kernel
theorem dX8_stepBack_105 : decode cX8_stepBack 105 = .ok (.iload 5, 2) := by decide +kernel
theorem dX8_stepBack_107 : decode cX8_stepBack 107 = .ok (.invokevirtual 108, 3) := by decide +kernel
theorem dX8_stepBack_110 : decode cX8_stepBack 110 = .ok (.istore 7, 2) := by decide +kernel
theorem dX8_stepBack_112 : decode cX8_stepBack 112 = .ok (.iload 7, 2) := by decide +kernel
theorem dX8_stepBack_114 : decode cX8_stepBack 114 = .ok (.ifCond .ge 57, 3) := by decide +kernel
theorem dX8_stepBack_117 : decode cX8_stepBack 117 = .ok (.aload_n 0, 1) := by decide +kernel
theorem dX8_stepBack_118 : decode cX8_stepBack 118 = .ok (.getfield 32, 3) := by decide +kernel
theorem dX8_stepBack_121 : decode cX8_stepBack 121 = .ok (.iload_n 1, 1) := by decide +kernel
theorem dX8_stepBack_122 : decode cX8_stepBack 122 = .ok (.iload_n 2, 1) := by decide +kernel
theorem dX8_stepBack_123 : decode cX8_stepBack 123 = .ok (.invokestatic 76, 3) := by decide +kernel
theorem dX8_stepBack_126 : decode cX8_stepBack 126 = .ok (.dup2, 1) := by decide +kernel
theorem dX8_stepBack_127 : decode cX8_stepBack 127 = .ok (.iaload, 1) := by decide +kernel
theorem dX8_stepBack_128 : decode cX8_stepBack 128 = .ok (.iconst 1, 1) := by decide +kernel
theorem dX8_stepBack_129 : decode cX8_stepBack 129 = .ok (.iload 4, 2) := by decide +kernel
theorem dX8_stepBack_131 : decode cX8_stepBack 131 = .ok (.ishl, 1) := by decide +kernel
theorem dX8_stepBack_132 : decode cX8_stepBack 132 = .ok (.ior, 1) := by decide +kernel
theorem dX8_stepBack_133 : decode cX8_stepBack 133 = .ok (.iastore, 1) := by decide +kernel
theorem dX8_stepBack_134 : decode cX8_stepBack 134 = .ok (.aload_n 0, 1) := by decide +kernel
theorem dX8_stepBack_135 : decode cX8_stepBack 135 = .ok (.iconst (-1), 1) := by decide +kernel
theorem dX8_stepBack_136 : decode cX8_stepBack 136 = .ok (.iload 7, 2) := by decide +kernel
theorem dX8_stepBack_138 : decode cX8_stepBack 138 = .ok (.isub, 1) := by decide +kernel
theorem dX8_stepBack_139 : decode cX8_stepBack 139 = .ok (.iconst 0, 1) := by decide +kernel
theorem dX8_stepBack_140 : decode cX8_stepBack 140 = .ok (.bipush (-2), 2) := by decide +kernel
theorem dX8_stepBack_142 : decode cX8_stepBack 142 = .ok (.iconst 0, 1) := by decide +kernel
theorem dX8_stepBack_143 : decode cX8_stepBack 143 = .ok (.iload 4, 2) := by decide +kernel
theorem dX8_stepBack_145 : decode cX8_stepBack 145 = .ok (.invokestatic 83, 3) := by decide +kernel
theorem dX8_stepBack_148 : decode cX8_stepBack 148 = .ok (.imul, 1) := by decide +kernel
theorem dX8_stepBack_149 : decode cX8_stepBack 149 = .ok (.invokevirtual 187, 3) := by decide +kernel
theorem dX8_stepBack_152 : decode cX8_stepBack 152 = .ok (.aload_n 0, 1) := by decide +kernel
theorem dX8_stepBack_153 : decode cX8_stepBack 153 = .ok (.iconst (-1), 1) := by decide +kernel
theorem dX8_stepBack_154 : decode cX8_stepBack 154 = .ok (.iload 7, 2) := by decide +kernel
theorem dX8_stepBack_156 : decode cX8_stepBack 156 = .ok (.isub, 1) := by decide +kernel
theorem dX8_stepBack_157 : decode cX8_stepBack 157 = .ok (.iconst 1, 1) := by decide +kernel
theorem dX8_stepBack_158 : decode cX8_stepBack 158 = .ok (.bipush (-2), 2) := by decide +kernel
theorem dX8_stepBack_160 : decode cX8_stepBack 160 = .ok (.iconst 1, 1) := by decide +kernel
theorem dX8_stepBack_161 : decode cX8_stepBack 161 = .ok (.iload 4, 2) := by decide +kernel
theorem dX8_stepBack_163 : decode cX8_stepBack 163 = .ok (.invokestatic 83, 3) := by decide +kernel
theorem dX8_stepBack_166 : decode cX8_stepBack 166 = .ok (.imul, 1) := by decide +kernel
theorem dX8_stepBack_167 : decode cX8_stepBack 167 = .ok (.invokevirtual 187, 3) := by decide +kernel
theorem dX8_stepBack_170 : decode cX8_stepBack 170 = .ok (.return_, 1) := by decide +kernel
theorem dX8_stepBack_171 : decode cX8_stepBack 171 = .ok (.aload_n 0, 1) := by decide +kernel
theorem dX8_stepBack_172 : decode cX8_stepBack 172 = .ok (.getfield 32, 3) := by decide +kernel
theorem dX8_stepBack_175 : decode cX8_stepBack 175 = .ok (.iload 6, 2) := by decide +kernel
theorem dX8_stepBack_177 : decode cX8_stepBack 177 = .ok (.iload 5, 2) := by decide +kernel
theorem dX8_stepBack_179 : decode cX8_stepBack 179 = .ok (.invokestatic 76, 3) := by decide +kernel
theorem dX8_stepBack_182 : decode cX8_stepBack 182 = .ok (.dup2, 1) := by decide +kernel
theorem dX8_stepBack_183 : decode cX8_stepBack 183 = .ok (.iaload, 1) := by decide +kernel
theorem dX8_stepBack_184 : decode cX8_stepBack 184 = .ok (.iconst 1, 1) := by decide +kernel
theorem dX8_stepBack_185 : decode cX8_stepBack 185 = .ok (.iload_n 3, 1) := by decide +kernel
theorem dX8_stepBack_186 : decode cX8_stepBack 186 = .ok (.ishl, 1) := by decide +kernel
theorem dX8_stepBack_187 : decode cX8_stepBack 187 = .ok (.ior, 1) := by decide +kernel
theorem dX8_stepBack_188 : decode cX8_stepBack 188 = .ok (.iastore, 1) := by decide +kernel
theorem dX8_stepBack_189 : decode cX8_stepBack 189 = .ok (.return_, 1) := by decide +kernel
def f_X8_stepBack : MX := mth 8 (sQ (sQ (sTi 4 (eQ o_irem (eOp o_iadd (eLi 3) (eI (3))) (eI (6)))) (sQ (sTi 5 (eOp o_iadd (eLi 2) (eM (f_X8_down) (aI (aN) (eLi 4))))) (sQ (sTi 6 (eM (gd 8 f_X8_beside) (aI (aI (aA (aN) (eLa 0)) (eLi 1)) (eM (f_X8_right) (aI (aI (aN) (eLi 2)) (eLi 4)))))) (sQ (sIf (cNot (cZ z_ne (eM (gd 8 f_X8_isRow) (aI (aA (aN) (eLa 0)) (eLi 5))))) (sQ (sTi 7 (eM (f_X8_round) (aI (aI (aN) (eIf (cZ z_lt (eLi 5)) (eAi 0 (eGa (eLa 0) 8 0) (eI (4))) (eAi 0 (eGa (eLa 0) 8 0) (eI (5))))) (eLi 3)))) (sQ (sAo (eGa (eLa 0) 8 7) (eM (f_X8_place) (aI (aI (aN) (eLi 1)) (eLi 2))) o_ior (eOp o_ishl (eI (1)) (eLi 7))) (sQ (sM (gd 8 f_X8_books) (aI (aI (aI (aA (aN) (eLa 0)) (eI (3))) (eOp o_ishl (eI (1)) (eLi 7))) (eI (-1)))) (sQ (sM (gd 8 f_X8_books) (aI (aI (aI (aA (aN) (eLa 0)) (eI (3))) (eOp o_ishl (eI (1)) (eLi 3))) (eI (1)))) (sRv))))) sN) (sQ (sTi 7 (eM (gd 8 f_X8_had) (aI (aI (aA (aN) (eLa 0)) (eLi 6)) (eLi 5)))) (sQ (sIf (cZ z_lt (eLi 7)) (sQ (sAo (eGa (eLa 0) 8 7) (eM (f_X8_place) (aI (aI (aN) (eLi 1)) (eLi 2))) o_ior (eOp o_ishl (eI (1)) (eLi 4))) (sQ (sM (gd 8 f_X8_gives) (aI (aI (aI (aA (aN) (eLa 0)) (eOp o_isub (eI (-1)) (eLi 7))) (eI (0))) (eOp o_imul (eI (-2)) (eM (f_X8_push) (aI (aI (aN) (eI (0))) (eLi 4)))))) (sQ (sM (gd 8 f_X8_gives) (aI (aI (aI (aA (aN) (eLa 0)) (eOp o_isub (eI (-1)) (eLi 7))) (eI (1))) (eOp o_imul (eI (-2)) (eM (f_X8_push) (aI (aI (aN) (eI (1))) (eLi 4)))))) (sRv)))) sN) (sAo (eGa (eLa 0) 8 7) (eM (f_X8_place) (aI (aI (aN) (eLi 6)) (eLi 5))) o_ior (eOp o_ishl (eI (1)) (eLi 3))))))))) (sRv))
theorem Y_X8_stepBack : Yk yX8_stepBack cX8_stepBack 8 none 3 := ⟨w1458, w16, by decide +kernel, by decide +kernel, by decide +kernel⟩
set_option maxRecDepth 20000 in
theorem k_X8_stepBack (l : Launch) (g : GE) : MetX l g yX8_stepBack cX8_stepBack 8 none 4 ({ frames := 4, cells := 0, slots := 0, locals := 88 } : Room) f_X8_stepBack := by
  unfold f_X8_stepBack
  exact MetX.of (own := RX8) 100 0 rfl (by decide +kernel) (by decide) (fun p e s m args below meth c Fin ad0 hr hn => ⟨_, _, Sv_seq (Sv_seq (Sv_istore (Ev_irem (Ev_iadd (Ev_iload_n dX8_stepBack_0 rfl) (Ev_iconst dX8_stepBack_1 (by decide)) dX8_stepBack_2) (Ev_bipush dX8_stepBack_3 (by decide)) dX8_stepBack_5) dX8_stepBack_6 (Nat.le_of_ble_eq_true rfl) (Nat.ne_of_beq_eq_false rfl)) (Sv_seq (Sv_istore (Ev_iadd (Ev_iload_n dX8_stepBack_8 rfl) (Ev_call (Av_i (Av_nil) (Ev_iload dX8_stepBack_9)) (Rn_S Y_X8_down (k_X8_down _ _) w1300 w1301 dX8_stepBack_11 (Nat.le_of_ble_eq_true rfl) (Nat.le_of_ble_eq_true rfl) (Nat.le_of_ble_eq_true rfl) (Nat.ne_of_beq_eq_false rfl))) dX8_stepBack_14) dX8_stepBack_15 (Nat.le_of_ble_eq_true rfl) (Nat.ne_of_beq_eq_false rfl)) (Sv_seq (Sv_istore (Ev_call (Av_i (Av_i (Av_a (Av_nil) (Ev_aload_n dX8_stepBack_17 rfl)) (Ev_iload_n dX8_stepBack_18 rfl)) (Ev_call (Av_i (Av_i (Av_nil) (Ev_iload_n dX8_stepBack_19 rfl)) (Ev_iload dX8_stepBack_20)) (Rn_S Y_X8_right (k_X8_right _ _) w1417 w1418 dX8_stepBack_22 (Nat.le_of_ble_eq_true rfl) (Nat.le_of_ble_eq_true rfl) (Nat.le_of_ble_eq_true rfl) (Nat.ne_of_beq_eq_false rfl)))) (Rn_V (ci := 8) Fx8.1 rfl Y_X8_beside (k_X8_beside _ _) w1420 w1422 wp57 dX8_stepBack_25 (Nat.le_of_ble_eq_true rfl) (Nat.le_of_ble_eq_true rfl) (Nat.le_of_ble_eq_true rfl) (Nat.ne_of_beq_eq_false rfl))) dX8_stepBack_28 (Nat.le_of_ble_eq_true rfl) (Nat.ne_of_beq_eq_false rfl)) (Sv_seq (Sv_if (Cv_not (Cv_if_ne_j (Ev_call (Av_i (Av_a (Av_nil) (Ev_aload_n dX8_stepBack_30 rfl)) (Ev_iload dX8_stepBack_31)) (Rn_V (ci := 8) Fx8.1 rfl Y_X8_isRow (k_X8_isRow _ _) w1251 w1253 wp36 dX8_stepBack_33 (Nat.le_of_ble_eq_true rfl) (Nat.le_of_ble_eq_true rfl) (Nat.le_of_ble_eq_true rfl) (Nat.ne_of_beq_eq_false rfl))) (t := 102) dX8_stepBack_36 (by decide))) (Sv_seq (Sv_istore (Ev_call (Av_i (Av_i (Av_nil) (Ev_if (pT := 59) (Cv_if_ge_n (Ev_iload dX8_stepBack_39) (t := 53) dX8_stepBack_41 (by decide)) (Ev_iaload (Ev_getA Fx8 (Ev_aload_n dX8_stepBack_44 rfl) (k := 0) (by decide) w1143 dX8_stepBack_45) (Ev_iconst dX8_stepBack_48 (by decide)) dX8_stepBack_49) dX8_stepBack_50 (by decide) (Ev_iaload (Ev_getA Fx8 (Ev_aload_n dX8_stepBack_53 rfl) (k := 0) (by decide) w1143 dX8_stepBack_54) (Ev_iconst dX8_stepBack_57 (by decide)) dX8_stepBack_58))) (Ev_iload_n dX8_stepBack_59 rfl)) (Rn_S Y_X8_round (k_X8_round _ _) w1424 w1425 dX8_stepBack_60 (Nat.le_of_ble_eq_true rfl) (Nat.le_of_ble_eq_true rfl) (Nat.le_of_ble_eq_true rfl) (Nat.ne_of_beq_eq_false rfl))) dX8_stepBack_63 (Nat.le_of_ble_eq_true rfl) (Nat.ne_of_beq_eq_false rfl)) (Sv_seq (Sv_aop_ior (Ev_getA Fx8 (Ev_aload_n dX8_stepBack_65 rfl) (k := 7) (by decide) w1150 dX8_stepBack_66) (Ev_call (Av_i (Av_i (Av_nil) (Ev_iload_n dX8_stepBack_69 rfl)) (Ev_iload_n dX8_stepBack_70 rfl)) (Rn_S Y_X8_place (k_X8_place _ _) w1259 w1260 dX8_stepBack_71 (Nat.le_of_ble_eq_true rfl) (Nat.le_of_ble_eq_true rfl) (Nat.le_of_ble_eq_true rfl) (Nat.ne_of_beq_eq_false rfl))) dX8_stepBack_74 dX8_stepBack_75 (Ev_ishl (Ev_iconst dX8_stepBack_76 (by decide)) (Ev_iload dX8_stepBack_77) dX8_stepBack_79) dX8_stepBack_80 dX8_stepBack_81) (Sv_seq (Sv_call (Av_i (Av_i (Av_i (Av_a (Av_nil) (Ev_aload_n dX8_stepBack_82 rfl)) (Ev_iconst dX8_stepBack_83 (by decide))) (Ev_ishl (Ev_iconst dX8_stepBack_84 (by decide)) (Ev_iload dX8_stepBack_85) dX8_stepBack_87)) (Ev_iconst dX8_stepBack_88 (by decide))) (Rn_V (ci := 8) Fx8.1 rfl Y_X8_books (k_X8_books _ _) w1290 w1292 wp41 dX8_stepBack_89 (Nat.le_of_ble_eq_true rfl) (Nat.le_of_ble_eq_true rfl) (Nat.le_of_ble_eq_true rfl) (Nat.ne_of_beq_eq_false rfl))) (Sv_seq (Sv_call (Av_i (Av_i (Av_i (Av_a (Av_nil) (Ev_aload_n dX8_stepBack_92 rfl)) (Ev_iconst dX8_stepBack_93 (by decide))) (Ev_ishl (Ev_iconst dX8_stepBack_94 (by decide)) (Ev_iload_n dX8_stepBack_95 rfl) dX8_stepBack_96)) (Ev_iconst dX8_stepBack_97 (by decide))) (Rn_V (ci := 8) Fx8.1 rfl Y_X8_books (k_X8_books _ _) w1290 w1292 wp41 dX8_stepBack_98 (Nat.le_of_ble_eq_true rfl) (Nat.le_of_ble_eq_true rfl) (Nat.le_of_ble_eq_true rfl) (Nat.ne_of_beq_eq_false rfl))) (Sv_retv hr dX8_stepBack_101))))) Sv_nop) (Sv_seq (Sv_istore (Ev_call (Av_i (Av_i (Av_a (Av_nil) (Ev_aload_n dX8_stepBack_102 rfl)) (Ev_iload dX8_stepBack_103)) (Ev_iload dX8_stepBack_105)) (Rn_V (ci := 8) Fx8.1 rfl Y_X8_had (k_X8_had _ _) w1255 w1257 wp37 dX8_stepBack_107 (Nat.le_of_ble_eq_true rfl) (Nat.le_of_ble_eq_true rfl) (Nat.le_of_ble_eq_true rfl) (Nat.ne_of_beq_eq_false rfl))) dX8_stepBack_110 (Nat.le_of_ble_eq_true rfl) (Nat.ne_of_beq_eq_false rfl)) (Sv_seq (Sv_if (Cv_if_ge_n (Ev_iload dX8_stepBack_112) (t := 171) dX8_stepBack_114 (by decide)) (Sv_seq (Sv_aop_ior (Ev_getA Fx8 (Ev_aload_n dX8_stepBack_117 rfl) (k := 7) (by decide) w1150 dX8_stepBack_118) (Ev_call (Av_i (Av_i (Av_nil) (Ev_iload_n dX8_stepBack_121 rfl)) (Ev_iload_n dX8_stepBack_122 rfl)) (Rn_S Y_X8_place (k_X8_place _ _) w1259 w1260 dX8_stepBack_123 (Nat.le_of_ble_eq_true rfl) (Nat.le_of_ble_eq_true rfl) (Nat.le_of_ble_eq_true rfl) (Nat.ne_of_beq_eq_false rfl))) dX8_stepBack_126 dX8_stepBack_127 (Ev_ishl (Ev_iconst dX8_stepBack_128 (by decide)) (Ev_iload dX8_stepBack_129) dX8_stepBack_131) dX8_stepBack_132 dX8_stepBack_133) (Sv_seq (Sv_call (Av_i (Av_i (Av_i (Av_a (Av_nil) (Ev_aload_n dX8_stepBack_134 rfl)) (Ev_isub (Ev_iconst dX8_stepBack_135 (by decide)) (Ev_iload dX8_stepBack_136) dX8_stepBack_138)) (Ev_iconst dX8_stepBack_139 (by decide))) (Ev_imul (Ev_bipush dX8_stepBack_140 (by decide)) (Ev_call (Av_i (Av_i (Av_nil) (Ev_iconst dX8_stepBack_142 (by decide))) (Ev_iload dX8_stepBack_143)) (Rn_S Y_X8_push (k_X8_push _ _) w1297 w1298 dX8_stepBack_145 (Nat.le_of_ble_eq_true rfl) (Nat.le_of_ble_eq_true rfl) (Nat.le_of_ble_eq_true rfl) (Nat.ne_of_beq_eq_false rfl))) dX8_stepBack_148)) (Rn_V (ci := 8) Fx8.1 rfl Y_X8_gives (k_X8_gives _ _) w1427 w1429 wp58 dX8_stepBack_149 (Nat.le_of_ble_eq_true rfl) (Nat.le_of_ble_eq_true rfl) (Nat.le_of_ble_eq_true rfl) (Nat.ne_of_beq_eq_false rfl))) (Sv_seq (Sv_call (Av_i (Av_i (Av_i (Av_a (Av_nil) (Ev_aload_n dX8_stepBack_152 rfl)) (Ev_isub (Ev_iconst dX8_stepBack_153 (by decide)) (Ev_iload dX8_stepBack_154) dX8_stepBack_156)) (Ev_iconst dX8_stepBack_157 (by decide))) (Ev_imul (Ev_bipush dX8_stepBack_158 (by decide)) (Ev_call (Av_i (Av_i (Av_nil) (Ev_iconst dX8_stepBack_160 (by decide))) (Ev_iload dX8_stepBack_161)) (Rn_S Y_X8_push (k_X8_push _ _) w1297 w1298 dX8_stepBack_163 (Nat.le_of_ble_eq_true rfl) (Nat.le_of_ble_eq_true rfl) (Nat.le_of_ble_eq_true rfl) (Nat.ne_of_beq_eq_false rfl))) dX8_stepBack_166)) (Rn_V (ci := 8) Fx8.1 rfl Y_X8_gives (k_X8_gives _ _) w1427 w1429 wp58 dX8_stepBack_167 (Nat.le_of_ble_eq_true rfl) (Nat.le_of_ble_eq_true rfl) (Nat.le_of_ble_eq_true rfl) (Nat.ne_of_beq_eq_false rfl))) (Sv_retv hr dX8_stepBack_170)))) Sv_nop) (Sv_aop_ior (Ev_getA Fx8 (Ev_aload_n dX8_stepBack_171 rfl) (k := 7) (by decide) w1150 dX8_stepBack_172) (Ev_call (Av_i (Av_i (Av_nil) (Ev_iload dX8_stepBack_175)) (Ev_iload dX8_stepBack_177)) (Rn_S Y_X8_place (k_X8_place _ _) w1259 w1260 dX8_stepBack_179 (Nat.le_of_ble_eq_true rfl) (Nat.le_of_ble_eq_true rfl) (Nat.le_of_ble_eq_true rfl) (Nat.ne_of_beq_eq_false rfl))) dX8_stepBack_182 dX8_stepBack_183 (Ev_ishl (Ev_iconst dX8_stepBack_184 (by decide)) (Ev_iload_n dX8_stepBack_185 rfl) dX8_stepBack_186) dX8_stepBack_187 dX8_stepBack_188))))))) (Sv_retv hr dX8_stepBack_189), Nat.le_of_ble_eq_true rfl, Nat.le_of_ble_eq_true rfl⟩)
theorem dX8_comesOf_0 : decode cX8_comesOf 0 = .ok (.iconst 0, 1) := by decide +kernel
theorem dX8_comesOf_1 : decode cX8_comesOf 1 = .ok (.istore_n 3, 1) := by decide +kernel
theorem dX8_comesOf_2 : decode cX8_comesOf 2 = .ok (.aload_n 0, 1) := by decide +kernel
theorem dX8_comesOf_3 : decode cX8_comesOf 3 = .ok (.getfield 7, 3) := by decide +kernel
theorem dX8_comesOf_6 : decode cX8_comesOf 6 = .ok (.sipush 1394, 3) := by decide +kernel
theorem dX8_comesOf_9 : decode cX8_comesOf 9 = .ok (.bipush 64, 2) := by decide +kernel
theorem dX8_comesOf_11 : decode cX8_comesOf 11 = .ok (.iload_n 2, 1) := by decide +kernel
theorem dX8_comesOf_12 : decode cX8_comesOf 12 = .ok (.imul, 1) := by decide +kernel
theorem dX8_comesOf_13 : decode cX8_comesOf 13 = .ok (.iadd, 1) := by decide +kernel
theorem dX8_comesOf_14 : decode cX8_comesOf 14 = .ok (.iload_n 3, 1) := by decide +kernel
theorem dX8_comesOf_15 : decode cX8_comesOf 15 = .ok (.iadd, 1) := by decide +kernel
theorem dX8_comesOf_16 : decode cX8_comesOf 16 = .ok (.iaload, 1) := by decide +kernel
theorem dX8_comesOf_17 : decode cX8_comesOf 17 = .ok (.iload_n 1, 1) := by decide +kernel
theorem dX8_comesOf_18 : decode cX8_comesOf 18 = .ok (.if_icmp .eq 9, 3) := by decide +kernel
theorem dX8_comesOf_21 : decode cX8_comesOf 21 = .ok (.iinc 3 1, 3) := by decide +kernel
theorem dX8_comesOf_24 : decode cX8_comesOf 24 = .ok (.goto (-22), 3) := by decide +kernel
theorem dX8_comesOf_27 : decode cX8_comesOf 27 = .ok (.iload_n 3, 1) := by decide +kernel
theorem dX8_comesOf_28 : decode cX8_comesOf 28 = .ok (.ireturn, 1) := by decide +kernel
def f_X8_comesOf : MX := mth 4 (sQ (sTi 3 (eI (0))) (sQ (sLp (cB c_ne (eAi 0 (eGa (eLa 0) 8 0) (eOp o_iadd (eOp o_iadd (eI (1394)) (eOp o_imul (eI (64)) (eLi 2))) (eLi 3))) (eLi 1)) (sInc 3 (1)) NF) (sR (eLi 3))))
theorem Y_X8_comesOf : Yk yX8_comesOf cX8_comesOf 4 (some .int) 2 := ⟨w1462, w16, by decide +kernel, by decide +kernel, by decide +kernel⟩
set_option maxRecDepth 20000 in
theorem k_X8_comesOf (l : Launch) (g : GE) : MetX l g yX8_comesOf cX8_comesOf 4 (some .int) 3 ({ frames := 0, cells := 0, slots := 0, locals := 0 } : Room) f_X8_comesOf := by
  unfold f_X8_comesOf
  exact MetX.of (own := RX8) 100 0 rfl (by decide +kernel) (by decide) (fun p e s m args below meth c Fin ad0 hr hn => ⟨_, _, Sv_seq (Sv_istore_n (Ev_iconst dX8_comesOf_0 (by decide)) dX8_comesOf_1 rfl (Nat.le_of_ble_eq_true rfl) (Nat.ne_of_beq_eq_false rfl)) (Sv_seq (Sv_loop0 NF (Cv_icmp_eq_n (Ev_iaload (Ev_getA Fx8 (Ev_aload_n dX8_comesOf_2 rfl) (k := 0) (by decide) w1143 dX8_comesOf_3) (Ev_iadd (Ev_iadd (Ev_sipush dX8_comesOf_6 (by decide)) (Ev_imul (Ev_bipush dX8_comesOf_9 (by decide)) (Ev_iload_n dX8_comesOf_11 rfl) dX8_comesOf_12) dX8_comesOf_13) (Ev_iload_n dX8_comesOf_14 rfl) dX8_comesOf_15) dX8_comesOf_16) (Ev_iload_n dX8_comesOf_17 rfl) (t := 27) dX8_comesOf_18 (by decide)) (Sv_goto (pE := 2) (Sv_iinc dX8_comesOf_21 (by decide) (Nat.le_of_ble_eq_true rfl) (Nat.ne_of_beq_eq_false rfl)) dX8_comesOf_24 (by decide))) (Sv_ret (Ev_iload_n dX8_comesOf_27 rfl) hr dX8_comesOf_28)), Nat.le_of_ble_eq_true rfl, Nat.le_of_ble_eq_true rfl⟩)
theorem dX8_tickBack_0 : decode cX8_tickBack 0 = .ok (.aload_n 0, 1) := by decide +kernel
theorem dX8_tickBack_1 : decode cX8_tickBack 1 = .ok (.invokevirtual 197, 3) := by decide +kernel
theorem dX8_tickBack_4 : decode cX8_tickBack 4 = .ok (.iconst 0, 1) := by decide +kernel
theorem dX8_tickBack_5 : decode cX8_tickBack 5 = .ok (.istore_n 1, 1) := by decide +kernel
theorem dX8_tickBack_6 : decode cX8_tickBack 6 = .ok (.iload_n 1, 1) := by decide +kernel
theorem dX8_tickBack_7 : decode cX8_tickBack 7 = .ok (.aload_n 0, 1) := by decide +kernel
theorem dX8_tickBack_8 : decode cX8_tickBack 8 = .ok (.getfield 7, 3) := by decide +kernel
theorem dX8_tickBack_11 : decode cX8_tickBack 11 = .ok (.iconst 1, 1) := by decide +kernel
theorem dX8_tickBack_12 : decode cX8_tickBack 12 = .ok (.iaload, 1) := by decide +kernel
theorem dX8_tickBack_13 : decode cX8_tickBack 13 = .ok (.if_icmp .ge 71, 3) := by decide +kernel
theorem dX8_tickBack_16 : decode cX8_tickBack 16 = .ok (.iconst 0, 1) := by decide +kernel
theorem dX8_tickBack_17 : decode cX8_tickBack 17 = .ok (.istore_n 2, 1) := by decide +kernel
theorem dX8_tickBack_18 : decode cX8_tickBack 18 = .ok (.iload_n 2, 1) := by decide +kernel
theorem dX8_tickBack_19 : decode cX8_tickBack 19 = .ok (.aload_n 0, 1) := by decide +kernel
theorem dX8_tickBack_20 : decode cX8_tickBack 20 = .ok (.getfield 7, 3) := by decide +kernel
theorem dX8_tickBack_23 : decode cX8_tickBack 23 = .ok (.iconst 0, 1) := by decide +kernel
theorem dX8_tickBack_24 : decode cX8_tickBack 24 = .ok (.iaload, 1) := by decide +kernel
theorem dX8_tickBack_25 : decode cX8_tickBack 25 = .ok (.if_icmp .ge 53, 3) := by decide +kernel
theorem dX8_tickBack_28 : decode cX8_tickBack 28 = .ok (.iconst 0, 1) := by decide +kernel
theorem dX8_tickBack_29 : decode cX8_tickBack 29 = .ok (.istore_n 3, 1) := by decide +kernel
theorem dX8_tickBack_30 : decode cX8_tickBack 30 = .ok (.iload_n 3, 1) := by decide +kernel
theorem dX8_tickBack_31 : decode cX8_tickBack 31 = .ok (.bipush 6, 2) := by decide +kernel
theorem dX8_tickBack_33 : decode cX8_tickBack 33 = .ok (.if_icmp .ge 39, 3) := by decide +kernel
theorem dX8_tickBack_36 : decode cX8_tickBack 36 = .ok (.aload_n 0, 1) := by decide +kernel
theorem dX8_tickBack_37 : decode cX8_tickBack 37 = .ok (.iload_n 2, 1) := by decide +kernel
theorem dX8_tickBack_38 : decode cX8_tickBack 38 = .ok (.iload_n 1, 1) := by decide +kernel
theorem dX8_tickBack_39 : decode cX8_tickBack 39 = .ok (.invokevirtual 108, 3) := by decide +kernel
theorem dX8_tickBack_42 : decode cX8_tickBack 42 = .ok (.ifCond .le 24, 3) := by decide +kernel
theorem dX8_tickBack_45 : decode cX8_tickBack 45 = .ok (.aload_n 0, 1) := by decide +kernel
theorem dX8_tickBack_46 : decode cX8_tickBack 46 = .ok (.iload_n 2, 1) := by decide +kernel
theorem dX8_tickBack_47 : decode cX8_tickBack 47 = .ok (.iload_n 1, 1) := by decide +kernel
theorem dX8_tickBack_48 : decode cX8_tickBack 48 = .ok (.invokevirtual 108, 3) := by decide +kernel
theorem dX8_tickBack_51 : decode cX8_tickBack 51 = .ok (.iload_n 3, 1) := by decide +kernel
theorem dX8_tickBack_52 : decode cX8_tickBack 52 = .ok (.ishr, 1) := by decide +kernel
theorem dX8_tickBack_53 : decode cX8_tickBack 53 = .ok (.iconst 1, 1) := by decide +kernel
theorem dX8_tickBack_54 : decode cX8_tickBack 54 = .ok (.iand, 1) := by decide +kernel
theorem dX8_tickBack_55 : decode cX8_tickBack 55 = .ok (.iconst 1, 1) := by decide +kernel
theorem dX8_tickBack_56 : decode cX8_tickBack 56 = .ok (.if_icmp .ne 10, 3) := by decide +kernel
theorem dX8_tickBack_59 : decode cX8_tickBack 59 = .ok (.aload_n 0, 1) := by decide +kernel
theorem dX8_tickBack_60 : decode cX8_tickBack 60 = .ok (.iload_n 2, 1) := by decide +kernel
theorem dX8_tickBack_61 : decode cX8_tickBack 61 = .ok (.iload_n 1, 1) := by decide +kernel
theorem dX8_tickBack_62 : decode cX8_tickBack 62 = .ok (.iload_n 3, 1) := by decide +kernel
theorem dX8_tickBack_63 : decode cX8_tickBack 63 = .ok (.invokevirtual 219, 3) := by decide +kernel
theorem dX8_tickBack_66 : decode cX8_tickBack 66 = .ok (.iinc 3 1, 3) := by decide +kernel
theorem dX8_tickBack_69 : decode cX8_tickBack 69 = .ok (.goto (-39), 3) := by decide +kernel
theorem dX8_tickBack_72 : decode cX8_tickBack 72 = .ok (.iinc 2 1, 3) := by decide +kernel
theorem dX8_tickBack_75 : decode cX8_tickBack 75 = .ok (.goto (-57), 3) := by decide +kernel
theorem dX8_tickBack_78 : decode cX8_tickBack 78 = .ok (.iinc 1 1, 3) := by decide +kernel
theorem dX8_tickBack_81 : decode cX8_tickBack 81 = .ok (.goto (-75), 3) := by decide +kernel
theorem dX8_tickBack_84 : decode cX8_tickBack 84 = .ok (.aload_n 0, 1) := by decide +kernel
theorem dX8_tickBack_85 : decode cX8_tickBack 85 = .ok (.invokevirtual 203, 3) := by decide +kernel
theorem dX8_tickBack_88 : decode cX8_tickBack 88 = .ok (.aload_n 0, 1) := by decide +kernel
theorem dX8_tickBack_89 : decode cX8_tickBack 89 = .ok (.getfield 7, 3) := by decide +kernel
theorem dX8_tickBack_92 : decode cX8_tickBack 92 = .ok (.iconst 2, 1) := by decide +kernel
theorem dX8_tickBack_93 : decode cX8_tickBack 93 = .ok (.dup2, 1) := by decide +kernel
theorem dX8_tickBack_94 : decode cX8_tickBack 94 = .ok (.iaload, 1) := by decide +kernel
theorem dX8_tickBack_95 : decode cX8_tickBack 95 = .ok (.iconst 1, 1) := by decide +kernel
theorem dX8_tickBack_96 : decode cX8_tickBack 96 = .ok (.isub, 1) := by decide +kernel
theorem dX8_tickBack_97 : decode cX8_tickBack 97 = .ok (.iastore, 1) := by decide +kernel
theorem dX8_tickBack_98 : decode cX8_tickBack 98 = .ok (.iconst 0, 1) := by decide +kernel
theorem dX8_tickBack_99 : decode cX8_tickBack 99 = .ok (.istore_n 1, 1) := by decide +kernel
theorem dX8_tickBack_100 : decode cX8_tickBack 100 = .ok (.iload_n 1, 1) := by decide +kernel
theorem dX8_tickBack_101 : decode cX8_tickBack 101 = .ok (.aload_n 0, 1) := by decide +kernel
theorem dX8_tickBack_102 : decode cX8_tickBack 102 = .ok (.getfield 7, 3) := by decide +kernel
theorem dX8_tickBack_105 : decode cX8_tickBack 105 = .ok (.iconst 1, 1) := by decide +kernel
theorem dX8_tickBack_106 : decode cX8_tickBack 106 = .ok (.iaload, 1) := by decide +kernel
theorem dX8_tickBack_107 : decode cX8_tickBack 107 = .ok (.if_icmp .ge 72, 3) := by decide +kernel
theorem dX8_tickBack_110 : decode cX8_tickBack 110 = .ok (.iconst 0, 1) := by decide +kernel
theorem dX8_tickBack_111 : decode cX8_tickBack 111 = .ok (.istore_n 2, 1) := by decide +kernel
theorem dX8_tickBack_112 : decode cX8_tickBack 112 = .ok (.iload_n 2, 1) := by decide +kernel
theorem dX8_tickBack_113 : decode cX8_tickBack 113 = .ok (.aload_n 0, 1) := by decide +kernel
theorem dX8_tickBack_114 : decode cX8_tickBack 114 = .ok (.getfield 7, 3) := by decide +kernel
theorem dX8_tickBack_117 : decode cX8_tickBack 117 = .ok (.iconst 0, 1) := by decide +kernel
theorem dX8_tickBack_118 : decode cX8_tickBack 118 = .ok (.iaload, 1) := by decide +kernel
theorem dX8_tickBack_119 : decode cX8_tickBack 119 = .ok (.if_icmp .ge 54, 3) := by decide +kernel
theorem dX8_tickBack_122 : decode cX8_tickBack 122 = .ok (.aload_n 0, 1) := by decide +kernel
theorem dX8_tickBack_123 : decode cX8_tickBack 123 = .ok (.iload_n 2, 1) := by decide +kernel
theorem dX8_tickBack_124 : decode cX8_tickBack 124 = .ok (.iload_n 1, 1) := by decide +kernel
theorem dX8_tickBack_125 : decode cX8_tickBack 125 = .ok (.invokevirtual 108, 3) := by decide +kernel
theorem dX8_tickBack_128 : decode cX8_tickBack 128 = .ok (.ifCond .le 39, 3) := by decide +kernel
theorem dX8_tickBack_131 : decode cX8_tickBack 131 = .ok (.aload_n 0, 1) := by decide +kernel
theorem dX8_tickBack_132 : decode cX8_tickBack 132 = .ok (.getfield 7, 3) := by decide +kernel
theorem dX8_tickBack_135 : decode cX8_tickBack 135 = .ok (.sipush 882, 3) := by decide +kernel
theorem dX8_tickBack_138 : decode cX8_tickBack 138 = .ok (.iload_n 2, 1) := by decide +kernel
theorem dX8_tickBack_139 : decode cX8_tickBack 139 = .ok (.iload_n 1, 1) := by decide +kernel
theorem dX8_tickBack_140 : decode cX8_tickBack 140 = .ok (.invokestatic 76, 3) := by decide +kernel
theorem dX8_tickBack_143 : decode cX8_tickBack 143 = .ok (.iadd, 1) := by decide +kernel
theorem dX8_tickBack_144 : decode cX8_tickBack 144 = .ok (.aload_n 0, 1) := by decide +kernel
theorem dX8_tickBack_145 : decode cX8_tickBack 145 = .ok (.aload_n 0, 1) := by decide +kernel
theorem dX8_tickBack_146 : decode cX8_tickBack 146 = .ok (.iload_n 2, 1) := by decide +kernel
theorem dX8_tickBack_147 : decode cX8_tickBack 147 = .ok (.iload_n 1, 1) := by decide +kernel
theorem dX8_tickBack_148 : decode cX8_tickBack 148 = .ok (.invokevirtual 108, 3) := by decide +kernel
theorem dX8_tickBack_151 : decode cX8_tickBack 151 = .ok (.iload_n 2, 1) := by decide +kernel
theorem dX8_tickBack_152 : decode cX8_tickBack 152 = .ok (.iload_n 1, 1) := by decide +kernel
theorem dX8_tickBack_153 : decode cX8_tickBack 153 = .ok (.iadd, 1) := by decide +kernel
theorem dX8_tickBack_154 : decode cX8_tickBack 154 = .ok (.aload_n 0, 1) := by decide +kernel
theorem dX8_tickBack_155 : decode cX8_tickBack 155 = .ok (.getfield 7, 3) := by decide +kernel
theorem dX8_tickBack_158 : decode cX8_tickBack 158 = .ok (.iconst 2, 1) := by decide +kernel
theorem dX8_tickBack_159 : decode cX8_tickBack 159 = .ok (.iaload, 1) := by decide +kernel
theorem dX8_tickBack_160 : decode cX8_tickBack 160 = .ok (.iadd, 1) := by decide +kernel
theorem dX8_tickBack_161 : decode cX8_tickBack 161 = .ok (.iconst 2, 1) := by decide +kernel
theorem dX8_tickBack_162 : decode cX8_tickBack 162 = .ok (.irem, 1) := by decide +kernel
theorem dX8_tickBack_163 : decode cX8_tickBack 163 = .ok (.invokevirtual 222, 3) := by decide +kernel
theorem dX8_tickBack_166 : decode cX8_tickBack 166 = .ok (.iastore, 1) := by decide +kernel
theorem dX8_tickBack_167 : decode cX8_tickBack 167 = .ok (.iinc 2 1, 3) := by decide +kernel
theorem dX8_tickBack_170 : decode cX8_tickBack 170 = .ok (.goto (-58), 3) := by decide +kernel
theorem dX8_tickBack_173 : decode cX8_tickBack 173 = .ok (.iinc 1 1, 3) := by decide +kernel
theorem dX8_tickBack_176 : decode cX8_tickBack 176 = .ok (.goto (-76), 3) := by decide +kernel
theorem dX8_tickBack_179 : decode cX8_tickBack 179 = .ok (.aload_n 0, 1) := by decide +kernel
theorem dX8_tickBack_180 : decode cX8_tickBack 180 = .ok (.getfield 7, 3) := by decide +kernel
theorem dX8_tickBack_183 : decode cX8_tickBack 183 = .ok (.bipush 7, 2) := by decide +kernel
theorem dX8_tickBack_185 : decode cX8_tickBack 185 = .ok (.dup2, 1) := by decide +kernel
theorem dX8_tickBack_186 : decode cX8_tickBack 186 = .ok (.iaload, 1) := by decide +kernel
theorem dX8_tickBack_187 : decode cX8_tickBack 187 = .ok (.aload_n 0, 1) := by decide +kernel
theorem dX8_tickBack_188 : decode cX8_tickBack 188 = .ok (.getfield 7, 3) := by decide +kernel
theorem dX8_tickBack_191 : decode cX8_tickBack 191 = .ok (.bipush 7, 2) := by decide +kernel
theorem dX8_tickBack_193 : decode cX8_tickBack 193 = .ok (.iaload, 1) := by decide +kernel
theorem dX8_tickBack_194 : decode cX8_tickBack 194 = .ok (.ifCond .le 7, 3) := by decide +kernel
theorem dX8_tickBack_197 : decode cX8_tickBack 197 = .ok (.iconst 1, 1) := by decide +kernel
theorem dX8_tickBack_198 : decode cX8_tickBack 198 = .ok (.goto 4, 3) := by decide +kernel
theorem dX8_tickBack_201 : decode cX8_tickBack 201 = .ok (.iconst 0, 1) := by decide +kernel
theorem dX8_tickBack_202 : decode cX8_tickBack 202 = .ok (.isub, 1) := by decide +kernel
theorem dX8_tickBack_203 : decode cX8_tickBack 203 = .ok (.iastore, 1) := by decide +kernel
theorem dX8_tickBack_204 : decode cX8_tickBack 204 = .ok (.return_, 1) := by decide +kernel
def f_X8_tickBack : MX := mth 4 (sQ (sQ (sM (gd 8 f_X8_begins) (aA (aN) (eLa 0))) (sQ (sQ (sTi 1 (eI (0))) (sLp (cB c_lt (eLi 1) (eAi 0 (eGa (eLa 0) 8 0) (eI (1)))) (sQ (sQ (sTi 2 (eI (0))) (sLp (cB c_lt (eLi 2) (eAi 0 (eGa (eLa 0) 8 0) (eI (0)))) (sQ (sQ (sTi 3 (eI (0))) (sLp (cB c_lt (eLi 3) (eI (6))) (sQ (sIf (cAnd (cZ z_gt (eM (gd 8 f_X8_had) (aI (aI (aA (aN) (eLa 0)) (eLi 2)) (eLi 1)))) (cB c_eq (eOp o_iand (eOp o_ishr (eM (gd 8 f_X8_had) (aI (aI (aA (aN) (eLa 0)) (eLi 2)) (eLi 1))) (eLi 3)) (eI (1))) (eI (1)))) (sM (gd 8 f_X8_stepBack) (aI (aI (aI (aA (aN) (eLa 0)) (eLi 2)) (eLi 1)) (eLi 3))) sN) (sInc 3 (1))) NF)) (sInc 2 (1))) NF)) (sInc 1 (1))) NF)) (sQ (sM (gd 8 f_X8_becomesNext) (aA (aN) (eLa 0))) (sQ (sAo (eGa (eLa 0) 8 0) (eI (2)) o_isub (eI (1))) (sQ (sQ (sTi 1 (eI (0))) (sLp (cB c_lt (eLi 1) (eAi 0 (eGa (eLa 0) 8 0) (eI (1)))) (sQ (sQ (sTi 2 (eI (0))) (sLp (cB c_lt (eLi 2) (eAi 0 (eGa (eLa 0) 8 0) (eI (0)))) (sQ (sIf (cZ z_gt (eM (gd 8 f_X8_had) (aI (aI (aA (aN) (eLa 0)) (eLi 2)) (eLi 1)))) (sAi 0 (eGa (eLa 0) 8 0) (eOp o_iadd (eI (882)) (eM (f_X8_place) (aI (aI (aN) (eLi 2)) (eLi 1)))) (eM (gd 8 f_X8_comesOf) (aI (aI (aA (aN) (eLa 0)) (eM (gd 8 f_X8_had) (aI (aI (aA (aN) (eLa 0)) (eLi 2)) (eLi 1)))) (eQ o_irem (eOp o_iadd (eOp o_iadd (eLi 2) (eLi 1)) (eAi 0 (eGa (eLa 0) 8 0) (eI (2)))) (eI (2)))))) sN) (sInc 2 (1))) NF)) (sInc 1 (1))) NF)) (sAo (eGa (eLa 0) 8 0) (eI (7)) o_isub (eIf (cZ z_gt (eAi 0 (eGa (eLa 0) 8 0) (eI (7)))) (eI (1)) (eI (0))))))))) (sRv))
theorem Y_X8_tickBack : Yk yX8_tickBack cX8_tickBack 4 none 0 := ⟨w1454, w16, by decide +kernel, by decide +kernel, by decide +kernel⟩
set_option maxRecDepth 20000 in
theorem k_X8_tickBack (l : Launch) (g : GE) : MetX l g yX8_tickBack cX8_tickBack 4 none 1 ({ frames := 5, cells := 0, slots := 0, locals := 115 } : Room) f_X8_tickBack := by
  unfold f_X8_tickBack
  exact MetX.of (own := RX8) 100 0 rfl (by decide +kernel) (by decide) (fun p e s m args below meth c Fin ad0 hr hn => ⟨_, _, Sv_seq (Sv_seq (Sv_call (Av_a (Av_nil) (Ev_aload_n dX8_tickBack_0 rfl)) (Rn_V (ci := 8) Fx8.1 rfl Y_X8_begins (k_X8_begins _ _) w1409 w1411 wp55 dX8_tickBack_1 (Nat.le_of_ble_eq_true rfl) (Nat.le_of_ble_eq_true rfl) (Nat.le_of_ble_eq_true rfl) (Nat.ne_of_beq_eq_false rfl))) (Sv_seq (Sv_seq (Sv_istore_n (Ev_iconst dX8_tickBack_4 (by decide)) dX8_tickBack_5 rfl (Nat.le_of_ble_eq_true rfl) (Nat.ne_of_beq_eq_false rfl)) (Sv_loop0 NF (Cv_icmp_ge_n (Ev_iload_n dX8_tickBack_6 rfl) (Ev_iaload (Ev_getA Fx8 (Ev_aload_n dX8_tickBack_7 rfl) (k := 0) (by decide) w1143 dX8_tickBack_8) (Ev_iconst dX8_tickBack_11 (by decide)) dX8_tickBack_12) (t := 84) dX8_tickBack_13 (by decide)) (Sv_goto (pE := 6) (Sv_seq (Sv_seq (Sv_istore_n (Ev_iconst dX8_tickBack_16 (by decide)) dX8_tickBack_17 rfl (Nat.le_of_ble_eq_true rfl) (Nat.ne_of_beq_eq_false rfl)) (Sv_loop0 NF (Cv_icmp_ge_n (Ev_iload_n dX8_tickBack_18 rfl) (Ev_iaload (Ev_getA Fx8 (Ev_aload_n dX8_tickBack_19 rfl) (k := 0) (by decide) w1143 dX8_tickBack_20) (Ev_iconst dX8_tickBack_23 (by decide)) dX8_tickBack_24) (t := 78) dX8_tickBack_25 (by decide)) (Sv_goto (pE := 18) (Sv_seq (Sv_seq (Sv_istore_n (Ev_iconst dX8_tickBack_28 (by decide)) dX8_tickBack_29 rfl (Nat.le_of_ble_eq_true rfl) (Nat.ne_of_beq_eq_false rfl)) (Sv_loop0 NF (Cv_icmp_ge_n (Ev_iload_n dX8_tickBack_30 rfl) (Ev_bipush dX8_tickBack_31 (by decide)) (t := 72) dX8_tickBack_33 (by decide)) (Sv_goto (pE := 30) (Sv_seq (Sv_if (Cv_and (Cv_if_le_n (Ev_call (Av_i (Av_i (Av_a (Av_nil) (Ev_aload_n dX8_tickBack_36 rfl)) (Ev_iload_n dX8_tickBack_37 rfl)) (Ev_iload_n dX8_tickBack_38 rfl)) (Rn_V (ci := 8) Fx8.1 rfl Y_X8_had (k_X8_had _ _) w1255 w1257 wp37 dX8_tickBack_39 (Nat.le_of_ble_eq_true rfl) (Nat.le_of_ble_eq_true rfl) (Nat.le_of_ble_eq_true rfl) (Nat.ne_of_beq_eq_false rfl))) (t := 66) dX8_tickBack_42 (by decide)) (Cv_icmp_ne_n (Ev_iand (Ev_ishr (Ev_call (Av_i (Av_i (Av_a (Av_nil) (Ev_aload_n dX8_tickBack_45 rfl)) (Ev_iload_n dX8_tickBack_46 rfl)) (Ev_iload_n dX8_tickBack_47 rfl)) (Rn_V (ci := 8) Fx8.1 rfl Y_X8_had (k_X8_had _ _) w1255 w1257 wp37 dX8_tickBack_48 (Nat.le_of_ble_eq_true rfl) (Nat.le_of_ble_eq_true rfl) (Nat.le_of_ble_eq_true rfl) (Nat.ne_of_beq_eq_false rfl))) (Ev_iload_n dX8_tickBack_51 rfl) dX8_tickBack_52) (Ev_iconst dX8_tickBack_53 (by decide)) dX8_tickBack_54) (Ev_iconst dX8_tickBack_55 (by decide)) (t := 66) dX8_tickBack_56 (by decide))) (Sv_call (Av_i (Av_i (Av_i (Av_a (Av_nil) (Ev_aload_n dX8_tickBack_59 rfl)) (Ev_iload_n dX8_tickBack_60 rfl)) (Ev_iload_n dX8_tickBack_61 rfl)) (Ev_iload_n dX8_tickBack_62 rfl)) (Rn_V (ci := 8) Fx8.1 rfl Y_X8_stepBack (k_X8_stepBack _ _) w1455 w1457 wp63 dX8_tickBack_63 (Nat.le_of_ble_eq_true rfl) (Nat.le_of_ble_eq_true rfl) (Nat.le_of_ble_eq_true rfl) (Nat.ne_of_beq_eq_false rfl))) Sv_nop) (Sv_iinc dX8_tickBack_66 (by decide) (Nat.le_of_ble_eq_true rfl) (Nat.ne_of_beq_eq_false rfl))) dX8_tickBack_69 (by decide)))) (Sv_iinc dX8_tickBack_72 (by decide) (Nat.le_of_ble_eq_true rfl) (Nat.ne_of_beq_eq_false rfl))) dX8_tickBack_75 (by decide)))) (Sv_iinc dX8_tickBack_78 (by decide) (Nat.le_of_ble_eq_true rfl) (Nat.ne_of_beq_eq_false rfl))) dX8_tickBack_81 (by decide)))) (Sv_seq (Sv_call (Av_a (Av_nil) (Ev_aload_n dX8_tickBack_84 rfl)) (Rn_V (ci := 8) Fx8.1 rfl Y_X8_becomesNext (k_X8_becomesNext _ _) w1431 w1433 wp59 dX8_tickBack_85 (Nat.le_of_ble_eq_true rfl) (Nat.le_of_ble_eq_true rfl) (Nat.le_of_ble_eq_true rfl) (Nat.ne_of_beq_eq_false rfl))) (Sv_seq (Sv_aop_isub (Ev_getA Fx8 (Ev_aload_n dX8_tickBack_88 rfl) (k := 0) (by decide) w1143 dX8_tickBack_89) (Ev_iconst dX8_tickBack_92 (by decide)) dX8_tickBack_93 dX8_tickBack_94 (Ev_iconst dX8_tickBack_95 (by decide)) dX8_tickBack_96 dX8_tickBack_97) (Sv_seq (Sv_seq (Sv_istore_n (Ev_iconst dX8_tickBack_98 (by decide)) dX8_tickBack_99 rfl (Nat.le_of_ble_eq_true rfl) (Nat.ne_of_beq_eq_false rfl)) (Sv_loop0 NF (Cv_icmp_ge_n (Ev_iload_n dX8_tickBack_100 rfl) (Ev_iaload (Ev_getA Fx8 (Ev_aload_n dX8_tickBack_101 rfl) (k := 0) (by decide) w1143 dX8_tickBack_102) (Ev_iconst dX8_tickBack_105 (by decide)) dX8_tickBack_106) (t := 179) dX8_tickBack_107 (by decide)) (Sv_goto (pE := 100) (Sv_seq (Sv_seq (Sv_istore_n (Ev_iconst dX8_tickBack_110 (by decide)) dX8_tickBack_111 rfl (Nat.le_of_ble_eq_true rfl) (Nat.ne_of_beq_eq_false rfl)) (Sv_loop0 NF (Cv_icmp_ge_n (Ev_iload_n dX8_tickBack_112 rfl) (Ev_iaload (Ev_getA Fx8 (Ev_aload_n dX8_tickBack_113 rfl) (k := 0) (by decide) w1143 dX8_tickBack_114) (Ev_iconst dX8_tickBack_117 (by decide)) dX8_tickBack_118) (t := 173) dX8_tickBack_119 (by decide)) (Sv_goto (pE := 112) (Sv_seq (Sv_if (Cv_if_le_n (Ev_call (Av_i (Av_i (Av_a (Av_nil) (Ev_aload_n dX8_tickBack_122 rfl)) (Ev_iload_n dX8_tickBack_123 rfl)) (Ev_iload_n dX8_tickBack_124 rfl)) (Rn_V (ci := 8) Fx8.1 rfl Y_X8_had (k_X8_had _ _) w1255 w1257 wp37 dX8_tickBack_125 (Nat.le_of_ble_eq_true rfl) (Nat.le_of_ble_eq_true rfl) (Nat.le_of_ble_eq_true rfl) (Nat.ne_of_beq_eq_false rfl))) (t := 167) dX8_tickBack_128 (by decide)) (Sv_iastore (Ev_getA Fx8 (Ev_aload_n dX8_tickBack_131 rfl) (k := 0) (by decide) w1143 dX8_tickBack_132) (Ev_iadd (Ev_sipush dX8_tickBack_135 (by decide)) (Ev_call (Av_i (Av_i (Av_nil) (Ev_iload_n dX8_tickBack_138 rfl)) (Ev_iload_n dX8_tickBack_139 rfl)) (Rn_S Y_X8_place (k_X8_place _ _) w1259 w1260 dX8_tickBack_140 (Nat.le_of_ble_eq_true rfl) (Nat.le_of_ble_eq_true rfl) (Nat.le_of_ble_eq_true rfl) (Nat.ne_of_beq_eq_false rfl))) dX8_tickBack_143) (Ev_call (Av_i (Av_i (Av_a (Av_nil) (Ev_aload_n dX8_tickBack_144 rfl)) (Ev_call (Av_i (Av_i (Av_a (Av_nil) (Ev_aload_n dX8_tickBack_145 rfl)) (Ev_iload_n dX8_tickBack_146 rfl)) (Ev_iload_n dX8_tickBack_147 rfl)) (Rn_V (ci := 8) Fx8.1 rfl Y_X8_had (k_X8_had _ _) w1255 w1257 wp37 dX8_tickBack_148 (Nat.le_of_ble_eq_true rfl) (Nat.le_of_ble_eq_true rfl) (Nat.le_of_ble_eq_true rfl) (Nat.ne_of_beq_eq_false rfl)))) (Ev_irem (Ev_iadd (Ev_iadd (Ev_iload_n dX8_tickBack_151 rfl) (Ev_iload_n dX8_tickBack_152 rfl) dX8_tickBack_153) (Ev_iaload (Ev_getA Fx8 (Ev_aload_n dX8_tickBack_154 rfl) (k := 0) (by decide) w1143 dX8_tickBack_155) (Ev_iconst dX8_tickBack_158 (by decide)) dX8_tickBack_159) dX8_tickBack_160) (Ev_iconst dX8_tickBack_161 (by decide)) dX8_tickBack_162)) (Rn_V (ci := 8) Fx8.1 rfl Y_X8_comesOf (k_X8_comesOf _ _) w1459 w1461 wp64 dX8_tickBack_163 (Nat.le_of_ble_eq_true rfl) (Nat.le_of_ble_eq_true rfl) (Nat.le_of_ble_eq_true rfl) (Nat.ne_of_beq_eq_false rfl))) dX8_tickBack_166) Sv_nop) (Sv_iinc dX8_tickBack_167 (by decide) (Nat.le_of_ble_eq_true rfl) (Nat.ne_of_beq_eq_false rfl))) dX8_tickBack_170 (by decide)))) (Sv_iinc dX8_tickBack_173 (by decide) (Nat.le_of_ble_eq_true rfl) (Nat.ne_of_beq_eq_false rfl))) dX8_tickBack_176 (by decide)))) (Sv_aop_isub (Ev_getA Fx8 (Ev_aload_n dX8_tickBack_179 rfl) (k := 0) (by decide) w1143 dX8_tickBack_180) (Ev_bipush dX8_tickBack_183 (by decide)) dX8_tickBack_185 dX8_tickBack_186 (Ev_if (pT := 202) (Cv_if_le_n (Ev_iaload (Ev_getA Fx8 (Ev_aload_n dX8_tickBack_187 rfl) (k := 0) (by decide) w1143 dX8_tickBack_188) (Ev_bipush dX8_tickBack_191 (by decide)) dX8_tickBack_193) (t := 201) dX8_tickBack_194 (by decide)) (Ev_iconst dX8_tickBack_197 (by decide)) dX8_tickBack_198 (by decide) (Ev_iconst dX8_tickBack_201 (by decide))) dX8_tickBack_202 dX8_tickBack_203)))))) (Sv_retv hr dX8_tickBack_204), Nat.le_of_ble_eq_true rfl, Nat.le_of_ble_eq_true rfl⟩)
theorem dX8_back_0 : decode cX8_back 0 = .ok (.iload_n 1, 1) := by decide +kernel
theorem dX8_back_1 : decode cX8_back 1 = .ok (.iconst 1, 1) := by decide +kernel
theorem dX8_back_2 : decode cX8_back 2 = .ok (.bipush 40, 2) := by decide +kernel
theorem dX8_back_4 : decode cX8_back 4 = .ok (.invokestatic 65, 3) := by decide +kernel
theorem dX8_back_7 : decode cX8_back 7 = .ok (.ifCond .ne 9, 3) := by decide +kernel
theorem dX8_back_10 : decode cX8_back 10 = .ok (.aload_n 0, 1) := by decide +kernel
theorem dX8_back_11 : decode cX8_back 11 = .ok (.iconst 1, 1) := by decide +kernel
theorem dX8_back_12 : decode cX8_back 12 = .ok (.invokevirtual 89, 3) := by decide +kernel
theorem dX8_back_15 : decode cX8_back 15 = .ok (.ireturn, 1) := by decide +kernel
theorem dX8_back_16 : decode cX8_back 16 = .ok (.aload_n 0, 1) := by decide +kernel
theorem dX8_back_17 : decode cX8_back 17 = .ok (.invokevirtual 215, 3) := by decide +kernel
theorem dX8_back_20 : decode cX8_back 20 = .ok (.ifCond .eq 13, 3) := by decide +kernel
theorem dX8_back_23 : decode cX8_back 23 = .ok (.aload_n 0, 1) := by decide +kernel
theorem dX8_back_24 : decode cX8_back 24 = .ok (.getfield 7, 3) := by decide +kernel
theorem dX8_back_27 : decode cX8_back 27 = .ok (.iconst 2, 1) := by decide +kernel
theorem dX8_back_28 : decode cX8_back 28 = .ok (.iaload, 1) := by decide +kernel
theorem dX8_back_29 : decode cX8_back 29 = .ok (.iload_n 1, 1) := by decide +kernel
theorem dX8_back_30 : decode cX8_back 30 = .ok (.if_icmp .ge 9, 3) := by decide +kernel
theorem dX8_back_33 : decode cX8_back 33 = .ok (.aload_n 0, 1) := by decide +kernel
theorem dX8_back_34 : decode cX8_back 34 = .ok (.iconst 2, 1) := by decide +kernel
theorem dX8_back_35 : decode cX8_back 35 = .ok (.invokevirtual 89, 3) := by decide +kernel
theorem dX8_back_38 : decode cX8_back 38 = .ok (.ireturn, 1) := by decide +kernel
theorem dX8_back_39 : decode cX8_back 39 = .ok (.aload_n 0, 1) := by decide +kernel
theorem dX8_back_40 : decode cX8_back 40 = .ok (.invokevirtual 92, 3) := by decide +kernel
theorem dX8_back_43 : decode cX8_back 43 = .ok (.iconst 0, 1) := by decide +kernel
theorem dX8_back_44 : decode cX8_back 44 = .ok (.istore_n 2, 1) := by decide +kernel
theorem dX8_back_45 : decode cX8_back 45 = .ok (.iload_n 2, 1) := by decide +kernel
theorem dX8_back_46 : decode cX8_back 46 = .ok (.iload_n 1, 1) := by decide +kernel
theorem dX8_back_47 : decode cX8_back 47 = .ok (.if_icmp .ge 13, 3) := by decide +kernel
theorem dX8_back_50 : decode cX8_back 50 = .ok (.aload_n 0, 1) := by decide +kernel
theorem dX8_back_51 : decode cX8_back 51 = .ok (.invokevirtual 225, 3) := by decide +kernel
theorem dX8_back_54 : decode cX8_back 54 = .ok (.iinc 2 1, 3) := by decide +kernel
theorem dX8_back_57 : decode cX8_back 57 = .ok (.goto (-12), 3) := by decide +kernel
theorem dX8_back_60 : decode cX8_back 60 = .ok (.aload_n 0, 1) := by decide +kernel
theorem dX8_back_61 : decode cX8_back 61 = .ok (.aload_n 0, 1) := by decide +kernel
theorem dX8_back_62 : decode cX8_back 62 = .ok (.getfield 7, 3) := by decide +kernel
theorem dX8_back_65 : decode cX8_back 65 = .ok (.iconst 2, 1) := by decide +kernel
theorem dX8_back_66 : decode cX8_back 66 = .ok (.iaload, 1) := by decide +kernel
theorem dX8_back_67 : decode cX8_back 67 = .ok (.invokevirtual 98, 3) := by decide +kernel
theorem dX8_back_70 : decode cX8_back 70 = .ok (.ireturn, 1) := by decide +kernel
def f_X8_back : MX := mth 3 (sQ (sIf (cNot (cZ z_ne (eM (f_X8_in) (aI (aI (aI (aN) (eLi 1)) (eI (1))) (eI (40)))))) (sR (eM (gd 8 f_X8_fails) (aI (aA (aN) (eLa 0)) (eI (1))))) sN) (sQ (sIf (cOr (cNot (cZ z_ne (eM (gd 8 f_X8_isReversible) (aA (aN) (eLa 0))))) (cB c_lt (eAi 0 (eGa (eLa 0) 8 0) (eI (2))) (eLi 1))) (sR (eM (gd 8 f_X8_fails) (aI (aA (aN) (eLa 0)) (eI (2))))) sN) (sQ (sM (gd 8 f_X8_holds) (aA (aN) (eLa 0))) (sQ (sQ (sTi 2 (eI (0))) (sLp (cB c_lt (eLi 2) (eLi 1)) (sQ (sM (gd 8 f_X8_tickBack) (aA (aN) (eLa 0))) (sInc 2 (1))) NF)) (sR (eM (gd 8 f_X8_saves) (aI (aA (aN) (eLa 0)) (eAi 0 (eGa (eLa 0) 8 0) (eI (2))))))))))
theorem Y_X8_back : Yk yX8_back cX8_back 3 (some .int) 1 := ⟨w1450, w16, by decide +kernel, by decide +kernel, by decide +kernel⟩
set_option maxRecDepth 20000 in
theorem k_X8_back (l : Launch) (g : GE) : MetX l g yX8_back cX8_back 3 (some .int) 2 ({ frames := 6, cells := 0, slots := 0, locals := 138 } : Room) f_X8_back := by
  unfold f_X8_back
  exact MetX.of (own := RX8) 100 0 rfl (by decide +kernel) (by decide) (fun p e s m args below meth c Fin ad0 hr hn => ⟨_, _, Sv_seq (Sv_if (Cv_not (Cv_if_ne_j (Ev_call (Av_i (Av_i (Av_i (Av_nil) (Ev_iload_n dX8_back_0 rfl)) (Ev_iconst dX8_back_1 (by decide))) (Ev_bipush dX8_back_2 (by decide))) (Rn_S Y_X8_in (k_X8_in _ _) w1209 w1210 dX8_back_4 (Nat.le_of_ble_eq_true rfl) (Nat.le_of_ble_eq_true rfl) (Nat.le_of_ble_eq_true rfl) (Nat.ne_of_beq_eq_false rfl))) (t := 16) dX8_back_7 (by decide))) (Sv_ret (Ev_call (Av_i (Av_a (Av_nil) (Ev_aload_n dX8_back_10 rfl)) (Ev_iconst dX8_back_11 (by decide))) (Rn_V (ci := 8) Fx8.1 rfl Y_X8_fails (k_X8_fails _ _) w1212 w1214 wp29 dX8_back_12 (Nat.le_of_ble_eq_true rfl) (Nat.le_of_ble_eq_true rfl) (Nat.le_of_ble_eq_true rfl) (Nat.ne_of_beq_eq_false rfl))) hr dX8_back_15) Sv_nop) (Sv_seq (Sv_if (Cv_or (Cv_not (Cv_if_eq_n (Ev_call (Av_a (Av_nil) (Ev_aload_n dX8_back_16 rfl)) (Rn_V (ci := 8) Fx8.1 rfl Y_X8_isReversible (k_X8_isReversible _ _) w1443 w1445 wp61 dX8_back_17 (Nat.le_of_ble_eq_true rfl) (Nat.le_of_ble_eq_true rfl) (Nat.le_of_ble_eq_true rfl) (Nat.ne_of_beq_eq_false rfl))) (t := 33) dX8_back_20 (by decide))) (Cv_icmp_ge_n (Ev_iaload (Ev_getA Fx8 (Ev_aload_n dX8_back_23 rfl) (k := 0) (by decide) w1143 dX8_back_24) (Ev_iconst dX8_back_27 (by decide)) dX8_back_28) (Ev_iload_n dX8_back_29 rfl) (t := 39) dX8_back_30 (by decide))) (Sv_ret (Ev_call (Av_i (Av_a (Av_nil) (Ev_aload_n dX8_back_33 rfl)) (Ev_iconst dX8_back_34 (by decide))) (Rn_V (ci := 8) Fx8.1 rfl Y_X8_fails (k_X8_fails _ _) w1212 w1214 wp29 dX8_back_35 (Nat.le_of_ble_eq_true rfl) (Nat.le_of_ble_eq_true rfl) (Nat.le_of_ble_eq_true rfl) (Nat.ne_of_beq_eq_false rfl))) hr dX8_back_38) Sv_nop) (Sv_seq (Sv_call (Av_a (Av_nil) (Ev_aload_n dX8_back_39 rfl)) (Rn_V (ci := 8) Fx8.1 rfl Y_X8_holds (k_X8_holds _ _) w1216 w1218 wp30 dX8_back_40 (Nat.le_of_ble_eq_true rfl) (Nat.le_of_ble_eq_true rfl) (Nat.le_of_ble_eq_true rfl) (Nat.ne_of_beq_eq_false rfl))) (Sv_seq (Sv_seq (Sv_istore_n (Ev_iconst dX8_back_43 (by decide)) dX8_back_44 rfl (Nat.le_of_ble_eq_true rfl) (Nat.ne_of_beq_eq_false rfl)) (Sv_loop0 NF (Cv_icmp_ge_n (Ev_iload_n dX8_back_45 rfl) (Ev_iload_n dX8_back_46 rfl) (t := 60) dX8_back_47 (by decide)) (Sv_goto (pE := 45) (Sv_seq (Sv_call (Av_a (Av_nil) (Ev_aload_n dX8_back_50 rfl)) (Rn_V (ci := 8) Fx8.1 rfl Y_X8_tickBack (k_X8_tickBack _ _) w1451 w1453 wp62 dX8_back_51 (Nat.le_of_ble_eq_true rfl) (Nat.le_of_ble_eq_true rfl) (Nat.le_of_ble_eq_true rfl) (Nat.ne_of_beq_eq_false rfl))) (Sv_iinc dX8_back_54 (by decide) (Nat.le_of_ble_eq_true rfl) (Nat.ne_of_beq_eq_false rfl))) dX8_back_57 (by decide)))) (Sv_ret (Ev_call (Av_i (Av_a (Av_nil) (Ev_aload_n dX8_back_60 rfl)) (Ev_iaload (Ev_getA Fx8 (Ev_aload_n dX8_back_61 rfl) (k := 0) (by decide) w1143 dX8_back_62) (Ev_iconst dX8_back_65 (by decide)) dX8_back_66)) (Rn_V (ci := 8) Fx8.1 rfl Y_X8_saves (k_X8_saves _ _) w1224 w1226 wp32 dX8_back_67 (Nat.le_of_ble_eq_true rfl) (Nat.le_of_ble_eq_true rfl) (Nat.le_of_ble_eq_true rfl) (Nat.ne_of_beq_eq_false rfl))) hr dX8_back_70)))), Nat.le_of_ble_eq_true rfl, Nat.le_of_ble_eq_true rfl⟩)
theorem dX8_cell_0 : decode cX8_cell 0 = .ok (.aload_n 0, 1) := by decide +kernel
theorem dX8_cell_1 : decode cX8_cell 1 = .ok (.iload_n 1, 1) := by decide +kernel
theorem dX8_cell_2 : decode cX8_cell 2 = .ok (.iload_n 2, 1) := by decide +kernel
theorem dX8_cell_3 : decode cX8_cell 3 = .ok (.invokevirtual 104, 3) := by decide +kernel
theorem dX8_cell_6 : decode cX8_cell 6 = .ok (.ifCond .eq 16, 3) := by decide +kernel
theorem dX8_cell_9 : decode cX8_cell 9 = .ok (.aload_n 0, 1) := by decide +kernel
theorem dX8_cell_10 : decode cX8_cell 10 = .ok (.aload_n 0, 1) := by decide +kernel
theorem dX8_cell_11 : decode cX8_cell 11 = .ok (.iload_n 1, 1) := by decide +kernel
theorem dX8_cell_12 : decode cX8_cell 12 = .ok (.iload_n 2, 1) := by decide +kernel
theorem dX8_cell_13 : decode cX8_cell 13 = .ok (.invokevirtual 108, 3) := by decide +kernel
theorem dX8_cell_16 : decode cX8_cell 16 = .ok (.invokevirtual 61, 3) := by decide +kernel
theorem dX8_cell_19 : decode cX8_cell 19 = .ok (.goto 8, 3) := by decide +kernel
theorem dX8_cell_22 : decode cX8_cell 22 = .ok (.aload_n 0, 1) := by decide +kernel
theorem dX8_cell_23 : decode cX8_cell 23 = .ok (.iconst 1, 1) := by decide +kernel
theorem dX8_cell_24 : decode cX8_cell 24 = .ok (.invokevirtual 89, 3) := by decide +kernel
theorem dX8_cell_27 : decode cX8_cell 27 = .ok (.ireturn, 1) := by decide +kernel
def f_X8_cell : MX := mth 3 (sR (eIf (cZ z_ne (eM (gd 8 f_X8_isCell) (aI (aI (aA (aN) (eLa 0)) (eLi 1)) (eLi 2)))) (eM (gd 8 f_X8_tells) (aI (aA (aN) (eLa 0)) (eM (gd 8 f_X8_had) (aI (aI (aA (aN) (eLa 0)) (eLi 1)) (eLi 2))))) (eM (gd 8 f_X8_fails) (aI (aA (aN) (eLa 0)) (eI (1))))))
theorem Y_X8_cell : Yk yX8_cell cX8_cell 3 (some .int) 2 := ⟨w1466, w16, by decide +kernel, by decide +kernel, by decide +kernel⟩
set_option maxRecDepth 20000 in
theorem k_X8_cell (l : Launch) (g : GE) : MetX l g yX8_cell cX8_cell 3 (some .int) 3 ({ frames := 3, cells := 0, slots := 0, locals := 65 } : Room) f_X8_cell := by
  unfold f_X8_cell
  exact MetX.of (own := RX8) 100 0 rfl (by decide +kernel) (by decide) (fun p e s m args below meth c Fin ad0 hr hn => ⟨_, _, Sv_ret (Ev_if (pT := 27) (Cv_if_eq_n (Ev_call (Av_i (Av_i (Av_a (Av_nil) (Ev_aload_n dX8_cell_0 rfl)) (Ev_iload_n dX8_cell_1 rfl)) (Ev_iload_n dX8_cell_2 rfl)) (Rn_V (ci := 8) Fx8.1 rfl Y_X8_isCell (k_X8_isCell _ _) w1243 w1245 wp34 dX8_cell_3 (Nat.le_of_ble_eq_true rfl) (Nat.le_of_ble_eq_true rfl) (Nat.le_of_ble_eq_true rfl) (Nat.ne_of_beq_eq_false rfl))) (t := 22) dX8_cell_6 (by decide)) (Ev_call (Av_i (Av_a (Av_nil) (Ev_aload_n dX8_cell_9 rfl)) (Ev_call (Av_i (Av_i (Av_a (Av_nil) (Ev_aload_n dX8_cell_10 rfl)) (Ev_iload_n dX8_cell_11 rfl)) (Ev_iload_n dX8_cell_12 rfl)) (Rn_V (ci := 8) Fx8.1 rfl Y_X8_had (k_X8_had _ _) w1255 w1257 wp37 dX8_cell_13 (Nat.le_of_ble_eq_true rfl) (Nat.le_of_ble_eq_true rfl) (Nat.le_of_ble_eq_true rfl) (Nat.ne_of_beq_eq_false rfl)))) (Rn_V (ci := 8) Fx8.1 rfl Y_X8_tells (k_X8_tells _ _) w1228 w1230 wp33 dX8_cell_16 (Nat.le_of_ble_eq_true rfl) (Nat.le_of_ble_eq_true rfl) (Nat.le_of_ble_eq_true rfl) (Nat.ne_of_beq_eq_false rfl))) dX8_cell_19 (by decide) (Ev_call (Av_i (Av_a (Av_nil) (Ev_aload_n dX8_cell_22 rfl)) (Ev_iconst dX8_cell_23 (by decide))) (Rn_V (ci := 8) Fx8.1 rfl Y_X8_fails (k_X8_fails _ _) w1212 w1214 wp29 dX8_cell_24 (Nat.le_of_ble_eq_true rfl) (Nat.le_of_ble_eq_true rfl) (Nat.le_of_ble_eq_true rfl) (Nat.ne_of_beq_eq_false rfl)))) hr dX8_cell_27, Nat.le_of_ble_eq_true rfl, Nat.le_of_ble_eq_true rfl⟩)
theorem dX8_sumOf_0 : decode cX8_sumOf 0 = .ok (.iconst 0, 1) := by decide +kernel
theorem dX8_sumOf_1 : decode cX8_sumOf 1 = .ok (.istore 6, 2) := by decide +kernel
theorem dX8_sumOf_3 : decode cX8_sumOf 3 = .ok (.iload_n 3, 1) := by decide +kernel
theorem dX8_sumOf_4 : decode cX8_sumOf 4 = .ok (.istore 7, 2) := by decide +kernel
theorem dX8_sumOf_6 : decode cX8_sumOf 6 = .ok (.iload 7, 2) := by decide +kernel
theorem dX8_sumOf_8 : decode cX8_sumOf 8 = .ok (.iload 5, 2) := by decide +kernel
theorem dX8_sumOf_10 : decode cX8_sumOf 10 = .ok (.if_icmp .gt 73, 3) := by decide +kernel
theorem dX8_sumOf_13 : decode cX8_sumOf 13 = .ok (.iload_n 2, 1) := by decide +kernel
theorem dX8_sumOf_14 : decode cX8_sumOf 14 = .ok (.istore 8, 2) := by decide +kernel
theorem dX8_sumOf_16 : decode cX8_sumOf 16 = .ok (.iload 8, 2) := by decide +kernel
theorem dX8_sumOf_18 : decode cX8_sumOf 18 = .ok (.iload 4, 2) := by decide +kernel
theorem dX8_sumOf_20 : decode cX8_sumOf 20 = .ok (.if_icmp .gt 57, 3) := by decide +kernel
theorem dX8_sumOf_23 : decode cX8_sumOf 23 = .ok (.aload_n 0, 1) := by decide +kernel
theorem dX8_sumOf_24 : decode cX8_sumOf 24 = .ok (.iload 8, 2) := by decide +kernel
theorem dX8_sumOf_26 : decode cX8_sumOf 26 = .ok (.iload 7, 2) := by decide +kernel
theorem dX8_sumOf_28 : decode cX8_sumOf 28 = .ok (.invokevirtual 108, 3) := by decide +kernel
theorem dX8_sumOf_31 : decode cX8_sumOf 31 = .ok (.ifCond .ge 7, 3) := by decide +kernel
theorem dX8_sumOf_34 : decode cX8_sumOf 34 = .ok (.iconst 0, 1) := by decide +kernel
theorem dX8_sumOf_35 : decode cX8_sumOf 35 = .ok (.goto 11, 3) := by decide +kernel
theorem dX8_sumOf_38 : decode cX8_sumOf 38 = .ok (.aload_n 0, 1) := by decide +kernel
theorem dX8_sumOf_39 : decode cX8_sumOf 39 = .ok (.iload 8, 2) := by decide +kernel
theorem dX8_sumOf_41 : decode cX8_sumOf 41 = .ok (.iload 7, 2) := by decide +kernel
theorem dX8_sumOf_43 : decode cX8_sumOf 43 = .ok (.invokevirtual 108, 3) := by decide +kernel
theorem dX8_sumOf_46 : decode cX8_sumOf 46 = .ok (.istore 9, 2) := by decide +kernel
theorem dX8_sumOf_48 : decode cX8_sumOf 48 = .ok (.iload 6, 2) := by decide +kernel
theorem dX8_sumOf_50 : decode cX8_sumOf 50 = .ok (.iload_n 1, 1) := by decide +kernel
theorem dX8_sumOf_51 : decode cX8_sumOf 51 = .ok (.ifCond .ge 11, 3) := by decide +kernel
theorem dX8_sumOf_54 : decode cX8_sumOf 54 = .ok (.iload 9, 2) := by decide +kernel
theorem dX8_sumOf_56 : decode cX8_sumOf 56 = .ok (.invokestatic 124, 3) := by decide +kernel
theorem dX8_sumOf_59 : decode cX8_sumOf 59 = .ok (.goto 9, 3) := by decide +kernel
theorem dX8_sumOf_62 : decode cX8_sumOf 62 = .ok (.iload_n 1, 1) := by decide +kernel
theorem dX8_sumOf_63 : decode cX8_sumOf 63 = .ok (.iload 9, 2) := by decide +kernel
theorem dX8_sumOf_65 : decode cX8_sumOf 65 = .ok (.invokestatic 86, 3) := by decide +kernel
theorem dX8_sumOf_68 : decode cX8_sumOf 68 = .ok (.iadd, 1) := by decide +kernel
theorem dX8_sumOf_69 : decode cX8_sumOf 69 = .ok (.istore 6, 2) := by decide +kernel
theorem dX8_sumOf_71 : decode cX8_sumOf 71 = .ok (.iinc 8 1, 3) := by decide +kernel
theorem dX8_sumOf_74 : decode cX8_sumOf 74 = .ok (.goto (-58), 3) := by decide +kernel
theorem dX8_sumOf_77 : decode cX8_sumOf 77 = .ok (.iinc 7 1, 3) := by decide +kernel
theorem dX8_sumOf_80 : decode cX8_sumOf 80 = .ok (.goto (-74), 3) := by decide +kernel
theorem dX8_sumOf_83 : decode cX8_sumOf 83 = .ok (.iload 6, 2) := by decide +kernel
theorem dX8_sumOf_85 : decode cX8_sumOf 85 = .ok (.ireturn, 1) := by decide +kernel
def f_X8_sumOf : MX := mth 10 (sQ (sTi 6 (eI (0))) (sQ (sQ (sTi 7 (eLi 3)) (sLp (cB c_le (eLi 7) (eLi 5)) (sQ (sQ (sTi 8 (eLi 2)) (sLp (cB c_le (eLi 8) (eLi 4)) (sQ (sQ (sTi 9 (eIf (cZ z_lt (eM (gd 8 f_X8_had) (aI (aI (aA (aN) (eLa 0)) (eLi 8)) (eLi 7)))) (eI (0)) (eM (gd 8 f_X8_had) (aI (aI (aA (aN) (eLa 0)) (eLi 8)) (eLi 7))))) (sTi 6 (eOp o_iadd (eLi 6) (eIf (cZ z_lt (eLi 1)) (eM (f_X8_ones) (aI (aN) (eLi 9))) (eM (f_X8_pushes) (aI (aI (aN) (eLi 1)) (eLi 9))))))) (sInc 8 (1))) NF)) (sInc 7 (1))) NF)) (sR (eLi 6))))
theorem Y_X8_sumOf : Yk yX8_sumOf cX8_sumOf 10 (some .int) 5 := ⟨w1474, w16, by decide +kernel, by decide +kernel, by decide +kernel⟩
set_option maxRecDepth 20000 in
theorem k_X8_sumOf (l : Launch) (g : GE) : MetX l g yX8_sumOf cX8_sumOf 10 (some .int) 6 ({ frames := 3, cells := 0, slots := 0, locals := 64 } : Room) f_X8_sumOf := by
  unfold f_X8_sumOf
  exact MetX.of (own := RX8) 100 0 rfl (by decide +kernel) (by decide) (fun p e s m args below meth c Fin ad0 hr hn => ⟨_, _, Sv_seq (Sv_istore (Ev_iconst dX8_sumOf_0 (by decide)) dX8_sumOf_1 (Nat.le_of_ble_eq_true rfl) (Nat.ne_of_beq_eq_false rfl)) (Sv_seq (Sv_seq (Sv_istore (Ev_iload_n dX8_sumOf_3 rfl) dX8_sumOf_4 (Nat.le_of_ble_eq_true rfl) (Nat.ne_of_beq_eq_false rfl)) (Sv_loop0 NF (Cv_icmp_gt_n (Ev_iload dX8_sumOf_6) (Ev_iload dX8_sumOf_8) (t := 83) dX8_sumOf_10 (by decide)) (Sv_goto (pE := 6) (Sv_seq (Sv_seq (Sv_istore (Ev_iload_n dX8_sumOf_13 rfl) dX8_sumOf_14 (Nat.le_of_ble_eq_true rfl) (Nat.ne_of_beq_eq_false rfl)) (Sv_loop0 NF (Cv_icmp_gt_n (Ev_iload dX8_sumOf_16) (Ev_iload dX8_sumOf_18) (t := 77) dX8_sumOf_20 (by decide)) (Sv_goto (pE := 16) (Sv_seq (Sv_seq (Sv_istore (Ev_if (pT := 46) (Cv_if_ge_n (Ev_call (Av_i (Av_i (Av_a (Av_nil) (Ev_aload_n dX8_sumOf_23 rfl)) (Ev_iload dX8_sumOf_24)) (Ev_iload dX8_sumOf_26)) (Rn_V (ci := 8) Fx8.1 rfl Y_X8_had (k_X8_had _ _) w1255 w1257 wp37 dX8_sumOf_28 (Nat.le_of_ble_eq_true rfl) (Nat.le_of_ble_eq_true rfl) (Nat.le_of_ble_eq_true rfl) (Nat.ne_of_beq_eq_false rfl))) (t := 38) dX8_sumOf_31 (by decide)) (Ev_iconst dX8_sumOf_34 (by decide)) dX8_sumOf_35 (by decide) (Ev_call (Av_i (Av_i (Av_a (Av_nil) (Ev_aload_n dX8_sumOf_38 rfl)) (Ev_iload dX8_sumOf_39)) (Ev_iload dX8_sumOf_41)) (Rn_V (ci := 8) Fx8.1 rfl Y_X8_had (k_X8_had _ _) w1255 w1257 wp37 dX8_sumOf_43 (Nat.le_of_ble_eq_true rfl) (Nat.le_of_ble_eq_true rfl) (Nat.le_of_ble_eq_true rfl) (Nat.ne_of_beq_eq_false rfl)))) dX8_sumOf_46 (Nat.le_of_ble_eq_true rfl) (Nat.ne_of_beq_eq_false rfl)) (Sv_istore (Ev_iadd (Ev_iload dX8_sumOf_48) (Ev_if (pT := 68) (Cv_if_ge_n (Ev_iload_n dX8_sumOf_50 rfl) (t := 62) dX8_sumOf_51 (by decide)) (Ev_call (Av_i (Av_nil) (Ev_iload dX8_sumOf_54)) (Rn_S Y_X8_ones (k_X8_ones _ _) w1307 w1308 dX8_sumOf_56 (Nat.le_of_ble_eq_true rfl) (Nat.le_of_ble_eq_true rfl) (Nat.le_of_ble_eq_true rfl) (Nat.ne_of_beq_eq_false rfl))) dX8_sumOf_59 (by decide) (Ev_call (Av_i (Av_i (Av_nil) (Ev_iload_n dX8_sumOf_62 rfl)) (Ev_iload dX8_sumOf_63)) (Rn_S Y_X8_pushes (k_X8_pushes _ _) w1294 w1295 dX8_sumOf_65 (Nat.le_of_ble_eq_true rfl) (Nat.le_of_ble_eq_true rfl) (Nat.le_of_ble_eq_true rfl) (Nat.ne_of_beq_eq_false rfl)))) dX8_sumOf_68) dX8_sumOf_69 (Nat.le_of_ble_eq_true rfl) (Nat.ne_of_beq_eq_false rfl))) (Sv_iinc dX8_sumOf_71 (by decide) (Nat.le_of_ble_eq_true rfl) (Nat.ne_of_beq_eq_false rfl))) dX8_sumOf_74 (by decide)))) (Sv_iinc dX8_sumOf_77 (by decide) (Nat.le_of_ble_eq_true rfl) (Nat.ne_of_beq_eq_false rfl))) dX8_sumOf_80 (by decide)))) (Sv_ret (Ev_iload dX8_sumOf_83) hr dX8_sumOf_85)), Nat.le_of_ble_eq_true rfl, Nat.le_of_ble_eq_true rfl⟩)
theorem dX8_density_0 : decode cX8_density 0 = .ok (.aload_n 0, 1) := by decide +kernel
theorem dX8_density_1 : decode cX8_density 1 = .ok (.iload_n 1, 1) := by decide +kernel
theorem dX8_density_2 : decode cX8_density 2 = .ok (.iload_n 2, 1) := by decide +kernel
theorem dX8_density_3 : decode cX8_density 3 = .ok (.invokevirtual 104, 3) := by decide +kernel
theorem dX8_density_6 : decode cX8_density 6 = .ok (.ifCond .eq 13, 3) := by decide +kernel
theorem dX8_density_9 : decode cX8_density 9 = .ok (.aload_n 0, 1) := by decide +kernel
theorem dX8_density_10 : decode cX8_density 10 = .ok (.iload_n 3, 1) := by decide +kernel
theorem dX8_density_11 : decode cX8_density 11 = .ok (.iload 4, 2) := by decide +kernel
theorem dX8_density_13 : decode cX8_density 13 = .ok (.invokevirtual 104, 3) := by decide +kernel
theorem dX8_density_16 : decode cX8_density 16 = .ok (.ifCond .ne 9, 3) := by decide +kernel
theorem dX8_density_19 : decode cX8_density 19 = .ok (.aload_n 0, 1) := by decide +kernel
theorem dX8_density_20 : decode cX8_density 20 = .ok (.iconst 1, 1) := by decide +kernel
theorem dX8_density_21 : decode cX8_density 21 = .ok (.invokevirtual 89, 3) := by decide +kernel
theorem dX8_density_24 : decode cX8_density 24 = .ok (.ireturn, 1) := by decide +kernel
theorem dX8_density_25 : decode cX8_density 25 = .ok (.iload_n 3, 1) := by decide +kernel
theorem dX8_density_26 : decode cX8_density 26 = .ok (.iload_n 1, 1) := by decide +kernel
theorem dX8_density_27 : decode cX8_density 27 = .ok (.if_icmp .lt 9, 3) := by decide +kernel
theorem dX8_density_30 : decode cX8_density 30 = .ok (.iload 4, 2) := by decide +kernel
theorem dX8_density_32 : decode cX8_density 32 = .ok (.iload_n 2, 1) := by decide +kernel
theorem dX8_density_33 : decode cX8_density 33 = .ok (.if_icmp .ge 11, 3) := by decide +kernel
theorem dX8_density_36 : decode cX8_density 36 = .ok (.aload_n 0, 1) := by decide +kernel
theorem dX8_density_37 : decode cX8_density 37 = .ok (.iconst 2, 1) := by decide +kernel
theorem dX8_density_38 : decode cX8_density 38 = .ok (.invokevirtual 89, 3) := by decide +kernel
theorem dX8_density_41 : decode cX8_density 41 = .ok (.goto 17, 3) := by decide +kernel
theorem dX8_density_44 : decode cX8_density 44 = .ok (.aload_n 0, 1) := by decide +kernel
theorem dX8_density_45 : decode cX8_density 45 = .ok (.aload_n 0, 1) := by decide +kernel
theorem dX8_density_46 : decode cX8_density 46 = .ok (.iconst (-1), 1) := by decide +kernel
theorem dX8_density_47 : decode cX8_density 47 = .ok (.iload_n 1, 1) := by decide +kernel
theorem dX8_density_48 : decode cX8_density 48 = .ok (.iload_n 2, 1) := by decide +kernel
theorem dX8_density_49 : decode cX8_density 49 = .ok (.iload_n 3, 1) := by decide +kernel
theorem dX8_density_50 : decode cX8_density 50 = .ok (.iload 4, 2) := by decide +kernel
theorem dX8_density_52 : decode cX8_density 52 = .ok (.invokevirtual 228, 3) := by decide +kernel
theorem dX8_density_55 : decode cX8_density 55 = .ok (.invokevirtual 61, 3) := by decide +kernel
theorem dX8_density_58 : decode cX8_density 58 = .ok (.ireturn, 1) := by decide +kernel
def f_X8_density : MX := mth 5 (sQ (sIf (cOr (cNot (cZ z_ne (eM (gd 8 f_X8_isCell) (aI (aI (aA (aN) (eLa 0)) (eLi 1)) (eLi 2))))) (cNot (cZ z_ne (eM (gd 8 f_X8_isCell) (aI (aI (aA (aN) (eLa 0)) (eLi 3)) (eLi 4)))))) (sR (eM (gd 8 f_X8_fails) (aI (aA (aN) (eLa 0)) (eI (1))))) sN) (sR (eIf (cOr (cB c_lt (eLi 3) (eLi 1)) (cB c_lt (eLi 4) (eLi 2))) (eM (gd 8 f_X8_fails) (aI (aA (aN) (eLa 0)) (eI (2)))) (eM (gd 8 f_X8_tells) (aI (aA (aN) (eLa 0)) (eM (gd 8 f_X8_sumOf) (aI (aI (aI (aI (aI (aA (aN) (eLa 0)) (eI (-1))) (eLi 1)) (eLi 2)) (eLi 3)) (eLi 4))))))))
theorem Y_X8_density : Yk yX8_density cX8_density 5 (some .int) 4 := ⟨w1470, w16, by decide +kernel, by decide +kernel, by decide +kernel⟩
set_option maxRecDepth 20000 in
theorem k_X8_density (l : Launch) (g : GE) : MetX l g yX8_density cX8_density 5 (some .int) 5 ({ frames := 4, cells := 0, slots := 0, locals := 93 } : Room) f_X8_density := by
  unfold f_X8_density
  exact MetX.of (own := RX8) 100 0 rfl (by decide +kernel) (by decide) (fun p e s m args below meth c Fin ad0 hr hn => ⟨_, _, Sv_seq (Sv_if (Cv_or (Cv_not (Cv_if_eq_n (Ev_call (Av_i (Av_i (Av_a (Av_nil) (Ev_aload_n dX8_density_0 rfl)) (Ev_iload_n dX8_density_1 rfl)) (Ev_iload_n dX8_density_2 rfl)) (Rn_V (ci := 8) Fx8.1 rfl Y_X8_isCell (k_X8_isCell _ _) w1243 w1245 wp34 dX8_density_3 (Nat.le_of_ble_eq_true rfl) (Nat.le_of_ble_eq_true rfl) (Nat.le_of_ble_eq_true rfl) (Nat.ne_of_beq_eq_false rfl))) (t := 19) dX8_density_6 (by decide))) (Cv_not (Cv_if_ne_j (Ev_call (Av_i (Av_i (Av_a (Av_nil) (Ev_aload_n dX8_density_9 rfl)) (Ev_iload_n dX8_density_10 rfl)) (Ev_iload dX8_density_11)) (Rn_V (ci := 8) Fx8.1 rfl Y_X8_isCell (k_X8_isCell _ _) w1243 w1245 wp34 dX8_density_13 (Nat.le_of_ble_eq_true rfl) (Nat.le_of_ble_eq_true rfl) (Nat.le_of_ble_eq_true rfl) (Nat.ne_of_beq_eq_false rfl))) (t := 25) dX8_density_16 (by decide)))) (Sv_ret (Ev_call (Av_i (Av_a (Av_nil) (Ev_aload_n dX8_density_19 rfl)) (Ev_iconst dX8_density_20 (by decide))) (Rn_V (ci := 8) Fx8.1 rfl Y_X8_fails (k_X8_fails _ _) w1212 w1214 wp29 dX8_density_21 (Nat.le_of_ble_eq_true rfl) (Nat.le_of_ble_eq_true rfl) (Nat.le_of_ble_eq_true rfl) (Nat.ne_of_beq_eq_false rfl))) hr dX8_density_24) Sv_nop) (Sv_ret (Ev_if (pT := 58) (Cv_or (Cv_icmp_lt_j (Ev_iload_n dX8_density_25 rfl) (Ev_iload_n dX8_density_26 rfl) (t := 36) dX8_density_27 (by decide)) (Cv_icmp_ge_n (Ev_iload dX8_density_30) (Ev_iload_n dX8_density_32 rfl) (t := 44) dX8_density_33 (by decide))) (Ev_call (Av_i (Av_a (Av_nil) (Ev_aload_n dX8_density_36 rfl)) (Ev_iconst dX8_density_37 (by decide))) (Rn_V (ci := 8) Fx8.1 rfl Y_X8_fails (k_X8_fails _ _) w1212 w1214 wp29 dX8_density_38 (Nat.le_of_ble_eq_true rfl) (Nat.le_of_ble_eq_true rfl) (Nat.le_of_ble_eq_true rfl) (Nat.ne_of_beq_eq_false rfl))) dX8_density_41 (by decide) (Ev_call (Av_i (Av_a (Av_nil) (Ev_aload_n dX8_density_44 rfl)) (Ev_call (Av_i (Av_i (Av_i (Av_i (Av_i (Av_a (Av_nil) (Ev_aload_n dX8_density_45 rfl)) (Ev_iconst dX8_density_46 (by decide))) (Ev_iload_n dX8_density_47 rfl)) (Ev_iload_n dX8_density_48 rfl)) (Ev_iload_n dX8_density_49 rfl)) (Ev_iload dX8_density_50)) (Rn_V (ci := 8) Fx8.1 rfl Y_X8_sumOf (k_X8_sumOf _ _) w1471 w1473 wp65 dX8_density_52 (Nat.le_of_ble_eq_true rfl) (Nat.le_of_ble_eq_true rfl) (Nat.le_of_ble_eq_true rfl) (Nat.ne_of_beq_eq_false rfl)))) (Rn_V (ci := 8) Fx8.1 rfl Y_X8_tells (k_X8_tells _ _) w1228 w1230 wp33 dX8_density_55 (Nat.le_of_ble_eq_true rfl) (Nat.le_of_ble_eq_true rfl) (Nat.le_of_ble_eq_true rfl) (Nat.ne_of_beq_eq_false rfl)))) hr dX8_density_58), Nat.le_of_ble_eq_true rfl, Nat.le_of_ble_eq_true rfl⟩)
theorem dX8_wind_0 : decode cX8_wind 0 = .ok (.aload_n 0, 1) := by decide +kernel
theorem dX8_wind_1 : decode cX8_wind 1 = .ok (.iload_n 2, 1) := by decide +kernel
theorem dX8_wind_2 : decode cX8_wind 2 = .ok (.iload_n 3, 1) := by decide +kernel
theorem dX8_wind_3 : decode cX8_wind 3 = .ok (.invokevirtual 104, 3) := by decide +kernel
theorem dX8_wind_6 : decode cX8_wind 6 = .ok (.ifCond .eq 14, 3) := by decide +kernel
theorem dX8_wind_9 : decode cX8_wind 9 = .ok (.aload_n 0, 1) := by decide +kernel
theorem dX8_wind_10 : decode cX8_wind 10 = .ok (.iload 4, 2) := by decide +kernel
theorem dX8_wind_12 : decode cX8_wind 12 = .ok (.iload 5, 2) := by decide +kernel
theorem dX8_wind_14 : decode cX8_wind 14 = .ok (.invokevirtual 104, 3) := by decide +kernel
theorem dX8_wind_17 : decode cX8_wind 17 = .ok (.ifCond .ne 9, 3) := by decide +kernel
theorem dX8_wind_20 : decode cX8_wind 20 = .ok (.aload_n 0, 1) := by decide +kernel
theorem dX8_wind_21 : decode cX8_wind 21 = .ok (.iconst 1, 1) := by decide +kernel
theorem dX8_wind_22 : decode cX8_wind 22 = .ok (.invokevirtual 89, 3) := by decide +kernel
theorem dX8_wind_25 : decode cX8_wind 25 = .ok (.ireturn, 1) := by decide +kernel
theorem dX8_wind_26 : decode cX8_wind 26 = .ok (.iload_n 1, 1) := by decide +kernel
theorem dX8_wind_27 : decode cX8_wind 27 = .ok (.iconst 0, 1) := by decide +kernel
theorem dX8_wind_28 : decode cX8_wind 28 = .ok (.iconst 1, 1) := by decide +kernel
theorem dX8_wind_29 : decode cX8_wind 29 = .ok (.invokestatic 65, 3) := by decide +kernel
theorem dX8_wind_32 : decode cX8_wind 32 = .ok (.ifCond .eq 15, 3) := by decide +kernel
theorem dX8_wind_35 : decode cX8_wind 35 = .ok (.iload 4, 2) := by decide +kernel
theorem dX8_wind_37 : decode cX8_wind 37 = .ok (.iload_n 2, 1) := by decide +kernel
theorem dX8_wind_38 : decode cX8_wind 38 = .ok (.if_icmp .lt 9, 3) := by decide +kernel
theorem dX8_wind_41 : decode cX8_wind 41 = .ok (.iload 5, 2) := by decide +kernel
theorem dX8_wind_43 : decode cX8_wind 43 = .ok (.iload_n 3, 1) := by decide +kernel
theorem dX8_wind_44 : decode cX8_wind 44 = .ok (.if_icmp .ge 11, 3) := by decide +kernel
theorem dX8_wind_47 : decode cX8_wind 47 = .ok (.aload_n 0, 1) := by decide +kernel
theorem dX8_wind_48 : decode cX8_wind 48 = .ok (.iconst 2, 1) := by decide +kernel
theorem dX8_wind_49 : decode cX8_wind 49 = .ok (.invokevirtual 89, 3) := by decide +kernel
theorem dX8_wind_52 : decode cX8_wind 52 = .ok (.goto 18, 3) := by decide +kernel
theorem dX8_wind_55 : decode cX8_wind 55 = .ok (.aload_n 0, 1) := by decide +kernel
theorem dX8_wind_56 : decode cX8_wind 56 = .ok (.aload_n 0, 1) := by decide +kernel
theorem dX8_wind_57 : decode cX8_wind 57 = .ok (.iload_n 1, 1) := by decide +kernel
theorem dX8_wind_58 : decode cX8_wind 58 = .ok (.iload_n 2, 1) := by decide +kernel
theorem dX8_wind_59 : decode cX8_wind 59 = .ok (.iload_n 3, 1) := by decide +kernel
theorem dX8_wind_60 : decode cX8_wind 60 = .ok (.iload 4, 2) := by decide +kernel
theorem dX8_wind_62 : decode cX8_wind 62 = .ok (.iload 5, 2) := by decide +kernel
theorem dX8_wind_64 : decode cX8_wind 64 = .ok (.invokevirtual 228, 3) := by decide +kernel
theorem dX8_wind_67 : decode cX8_wind 67 = .ok (.invokevirtual 61, 3) := by decide +kernel
theorem dX8_wind_70 : decode cX8_wind 70 = .ok (.ireturn, 1) := by decide +kernel
def f_X8_wind : MX := mth 6 (sQ (sIf (cOr (cNot (cZ z_ne (eM (gd 8 f_X8_isCell) (aI (aI (aA (aN) (eLa 0)) (eLi 2)) (eLi 3))))) (cNot (cZ z_ne (eM (gd 8 f_X8_isCell) (aI (aI (aA (aN) (eLa 0)) (eLi 4)) (eLi 5)))))) (sR (eM (gd 8 f_X8_fails) (aI (aA (aN) (eLa 0)) (eI (1))))) sN) (sR (eIf (cOr (cOr (cNot (cZ z_ne (eM (f_X8_in) (aI (aI (aI (aN) (eLi 1)) (eI (0))) (eI (1)))))) (cB c_lt (eLi 4) (eLi 2))) (cB c_lt (eLi 5) (eLi 3))) (eM (gd 8 f_X8_fails) (aI (aA (aN) (eLa 0)) (eI (2)))) (eM (gd 8 f_X8_tells) (aI (aA (aN) (eLa 0)) (eM (gd 8 f_X8_sumOf) (aI (aI (aI (aI (aI (aA (aN) (eLa 0)) (eLi 1)) (eLi 2)) (eLi 3)) (eLi 4)) (eLi 5))))))))
theorem Y_X8_wind : Yk yX8_wind cX8_wind 6 (some .int) 5 := ⟨w1478, w16, by decide +kernel, by decide +kernel, by decide +kernel⟩
set_option maxRecDepth 20000 in
theorem k_X8_wind (l : Launch) (g : GE) : MetX l g yX8_wind cX8_wind 6 (some .int) 6 ({ frames := 4, cells := 0, slots := 0, locals := 93 } : Room) f_X8_wind := by
  unfold f_X8_wind
  exact MetX.of (own := RX8) 100 0 rfl (by decide +kernel) (by decide) (fun p e s m args below meth c Fin ad0 hr hn => ⟨_, _, Sv_seq (Sv_if (Cv_or (Cv_not (Cv_if_eq_n (Ev_call (Av_i (Av_i (Av_a (Av_nil) (Ev_aload_n dX8_wind_0 rfl)) (Ev_iload_n dX8_wind_1 rfl)) (Ev_iload_n dX8_wind_2 rfl)) (Rn_V (ci := 8) Fx8.1 rfl Y_X8_isCell (k_X8_isCell _ _) w1243 w1245 wp34 dX8_wind_3 (Nat.le_of_ble_eq_true rfl) (Nat.le_of_ble_eq_true rfl) (Nat.le_of_ble_eq_true rfl) (Nat.ne_of_beq_eq_false rfl))) (t := 20) dX8_wind_6 (by decide))) (Cv_not (Cv_if_ne_j (Ev_call (Av_i (Av_i (Av_a (Av_nil) (Ev_aload_n dX8_wind_9 rfl)) (Ev_iload dX8_wind_10)) (Ev_iload dX8_wind_12)) (Rn_V (ci := 8) Fx8.1 rfl Y_X8_isCell (k_X8_isCell _ _) w1243 w1245 wp34 dX8_wind_14 (Nat.le_of_ble_eq_true rfl) (Nat.le_of_ble_eq_true rfl) (Nat.le_of_ble_eq_true rfl) (Nat.ne_of_beq_eq_false rfl))) (t := 26) dX8_wind_17 (by decide)))) (Sv_ret (Ev_call (Av_i (Av_a (Av_nil) (Ev_aload_n dX8_wind_20 rfl)) (Ev_iconst dX8_wind_21 (by decide))) (Rn_V (ci := 8) Fx8.1 rfl Y_X8_fails (k_X8_fails _ _) w1212 w1214 wp29 dX8_wind_22 (Nat.le_of_ble_eq_true rfl) (Nat.le_of_ble_eq_true rfl) (Nat.le_of_ble_eq_true rfl) (Nat.ne_of_beq_eq_false rfl))) hr dX8_wind_25) Sv_nop) (Sv_ret (Ev_if (pT := 70) (Cv_or (Cv_or (Cv_not (Cv_if_eq_n (Ev_call (Av_i (Av_i (Av_i (Av_nil) (Ev_iload_n dX8_wind_26 rfl)) (Ev_iconst dX8_wind_27 (by decide))) (Ev_iconst dX8_wind_28 (by decide))) (Rn_S Y_X8_in (k_X8_in _ _) w1209 w1210 dX8_wind_29 (Nat.le_of_ble_eq_true rfl) (Nat.le_of_ble_eq_true rfl) (Nat.le_of_ble_eq_true rfl) (Nat.ne_of_beq_eq_false rfl))) (t := 47) dX8_wind_32 (by decide))) (Cv_icmp_lt_j (Ev_iload dX8_wind_35) (Ev_iload_n dX8_wind_37 rfl) (t := 47) dX8_wind_38 (by decide))) (Cv_icmp_ge_n (Ev_iload dX8_wind_41) (Ev_iload_n dX8_wind_43 rfl) (t := 55) dX8_wind_44 (by decide))) (Ev_call (Av_i (Av_a (Av_nil) (Ev_aload_n dX8_wind_47 rfl)) (Ev_iconst dX8_wind_48 (by decide))) (Rn_V (ci := 8) Fx8.1 rfl Y_X8_fails (k_X8_fails _ _) w1212 w1214 wp29 dX8_wind_49 (Nat.le_of_ble_eq_true rfl) (Nat.le_of_ble_eq_true rfl) (Nat.le_of_ble_eq_true rfl) (Nat.ne_of_beq_eq_false rfl))) dX8_wind_52 (by decide) (Ev_call (Av_i (Av_a (Av_nil) (Ev_aload_n dX8_wind_55 rfl)) (Ev_call (Av_i (Av_i (Av_i (Av_i (Av_i (Av_a (Av_nil) (Ev_aload_n dX8_wind_56 rfl)) (Ev_iload_n dX8_wind_57 rfl)) (Ev_iload_n dX8_wind_58 rfl)) (Ev_iload_n dX8_wind_59 rfl)) (Ev_iload dX8_wind_60)) (Ev_iload dX8_wind_62)) (Rn_V (ci := 8) Fx8.1 rfl Y_X8_sumOf (k_X8_sumOf _ _) w1471 w1473 wp65 dX8_wind_64 (Nat.le_of_ble_eq_true rfl) (Nat.le_of_ble_eq_true rfl) (Nat.le_of_ble_eq_true rfl) (Nat.ne_of_beq_eq_false rfl)))) (Rn_V (ci := 8) Fx8.1 rfl Y_X8_tells (k_X8_tells _ _) w1228 w1230 wp33 dX8_wind_67 (Nat.le_of_ble_eq_true rfl) (Nat.le_of_ble_eq_true rfl) (Nat.le_of_ble_eq_true rfl) (Nat.ne_of_beq_eq_false rfl)))) hr dX8_wind_70), Nat.le_of_ble_eq_true rfl, Nat.le_of_ble_eq_true rfl⟩)
theorem dX8_crossed_0 : decode cX8_crossed 0 = .ok (.aload_n 0, 1) := by decide +kernel
theorem dX8_crossed_1 : decode cX8_crossed 1 = .ok (.iload_n 1, 1) := by decide +kernel
theorem dX8_crossed_2 : decode cX8_crossed 2 = .ok (.invokevirtual 69, 3) := by decide +kernel
theorem dX8_crossed_5 : decode cX8_crossed 5 = .ok (.ifCond .eq 19, 3) := by decide +kernel
theorem dX8_crossed_8 : decode cX8_crossed 8 = .ok (.aload_n 0, 1) := by decide +kernel
theorem dX8_crossed_9 : decode cX8_crossed 9 = .ok (.aload_n 0, 1) := by decide +kernel
theorem dX8_crossed_10 : decode cX8_crossed 10 = .ok (.getfield 7, 3) := by decide +kernel
theorem dX8_crossed_13 : decode cX8_crossed 13 = .ok (.bipush 34, 2) := by decide +kernel
theorem dX8_crossed_15 : decode cX8_crossed 15 = .ok (.iload_n 1, 1) := by decide +kernel
theorem dX8_crossed_16 : decode cX8_crossed 16 = .ok (.iadd, 1) := by decide +kernel
theorem dX8_crossed_17 : decode cX8_crossed 17 = .ok (.iaload, 1) := by decide +kernel
theorem dX8_crossed_18 : decode cX8_crossed 18 = .ok (.invokevirtual 61, 3) := by decide +kernel
theorem dX8_crossed_21 : decode cX8_crossed 21 = .ok (.goto 8, 3) := by decide +kernel
theorem dX8_crossed_24 : decode cX8_crossed 24 = .ok (.aload_n 0, 1) := by decide +kernel
theorem dX8_crossed_25 : decode cX8_crossed 25 = .ok (.iconst 1, 1) := by decide +kernel
theorem dX8_crossed_26 : decode cX8_crossed 26 = .ok (.invokevirtual 89, 3) := by decide +kernel
theorem dX8_crossed_29 : decode cX8_crossed 29 = .ok (.ireturn, 1) := by decide +kernel
def f_X8_crossed : MX := mth 2 (sR (eIf (cZ z_ne (eM (gd 8 f_X8_isColumn) (aI (aA (aN) (eLa 0)) (eLi 1)))) (eM (gd 8 f_X8_tells) (aI (aA (aN) (eLa 0)) (eAi 0 (eGa (eLa 0) 8 0) (eOp o_iadd (eI (34)) (eLi 1))))) (eM (gd 8 f_X8_fails) (aI (aA (aN) (eLa 0)) (eI (1))))))
theorem Y_X8_crossed : Yk yX8_crossed cX8_crossed 2 (some .int) 1 := ⟨w1482, w16, by decide +kernel, by decide +kernel, by decide +kernel⟩
set_option maxRecDepth 20000 in
theorem k_X8_crossed (l : Launch) (g : GE) : MetX l g yX8_crossed cX8_crossed 2 (some .int) 2 ({ frames := 2, cells := 0, slots := 0, locals := 43 } : Room) f_X8_crossed := by
  unfold f_X8_crossed
  exact MetX.of (own := RX8) 100 0 rfl (by decide +kernel) (by decide) (fun p e s m args below meth c Fin ad0 hr hn => ⟨_, _, Sv_ret (Ev_if (pT := 29) (Cv_if_eq_n (Ev_call (Av_i (Av_a (Av_nil) (Ev_aload_n dX8_crossed_0 rfl)) (Ev_iload_n dX8_crossed_1 rfl)) (Rn_V (ci := 8) Fx8.1 rfl Y_X8_isColumn (k_X8_isColumn _ _) w1247 w1249 wp35 dX8_crossed_2 (Nat.le_of_ble_eq_true rfl) (Nat.le_of_ble_eq_true rfl) (Nat.le_of_ble_eq_true rfl) (Nat.ne_of_beq_eq_false rfl))) (t := 24) dX8_crossed_5 (by decide)) (Ev_call (Av_i (Av_a (Av_nil) (Ev_aload_n dX8_crossed_8 rfl)) (Ev_iaload (Ev_getA Fx8 (Ev_aload_n dX8_crossed_9 rfl) (k := 0) (by decide) w1143 dX8_crossed_10) (Ev_iadd (Ev_bipush dX8_crossed_13 (by decide)) (Ev_iload_n dX8_crossed_15 rfl) dX8_crossed_16) dX8_crossed_17)) (Rn_V (ci := 8) Fx8.1 rfl Y_X8_tells (k_X8_tells _ _) w1228 w1230 wp33 dX8_crossed_18 (Nat.le_of_ble_eq_true rfl) (Nat.le_of_ble_eq_true rfl) (Nat.le_of_ble_eq_true rfl) (Nat.ne_of_beq_eq_false rfl))) dX8_crossed_21 (by decide) (Ev_call (Av_i (Av_a (Av_nil) (Ev_aload_n dX8_crossed_24 rfl)) (Ev_iconst dX8_crossed_25 (by decide))) (Rn_V (ci := 8) Fx8.1 rfl Y_X8_fails (k_X8_fails _ _) w1212 w1214 wp29 dX8_crossed_26 (Nat.le_of_ble_eq_true rfl) (Nat.le_of_ble_eq_true rfl) (Nat.le_of_ble_eq_true rfl) (Nat.ne_of_beq_eq_false rfl)))) hr dX8_crossed_29, Nat.le_of_ble_eq_true rfl, Nat.le_of_ble_eq_true rfl⟩)
theorem dX8_gust_0 : decode cX8_gust 0 = .ok (.aload_n 0, 1) := by decide +kernel
theorem dX8_gust_1 : decode cX8_gust 1 = .ok (.iload_n 1, 1) := by decide +kernel
theorem dX8_gust_2 : decode cX8_gust 2 = .ok (.invokevirtual 131, 3) := by decide +kernel
theorem dX8_gust_5 : decode cX8_gust 5 = .ok (.ifCond .ne 9, 3) := by decide +kernel
theorem dX8_gust_8 : decode cX8_gust 8 = .ok (.aload_n 0, 1) := by decide +kernel
theorem dX8_gust_9 : decode cX8_gust 9 = .ok (.iconst 1, 1) := by decide +kernel
theorem dX8_gust_10 : decode cX8_gust 10 = .ok (.invokevirtual 89, 3) := by decide +kernel
theorem dX8_gust_13 : decode cX8_gust 13 = .ok (.ireturn, 1) := by decide +kernel
theorem dX8_gust_14 : decode cX8_gust 14 = .ok (.iload_n 2, 1) := by decide +kernel
theorem dX8_gust_15 : decode cX8_gust 15 = .ok (.iconst 0, 1) := by decide +kernel
theorem dX8_gust_16 : decode cX8_gust 16 = .ok (.bipush 8, 2) := by decide +kernel
theorem dX8_gust_18 : decode cX8_gust 18 = .ok (.invokestatic 65, 3) := by decide +kernel
theorem dX8_gust_21 : decode cX8_gust 21 = .ok (.ifCond .ne 9, 3) := by decide +kernel
theorem dX8_gust_24 : decode cX8_gust 24 = .ok (.aload_n 0, 1) := by decide +kernel
theorem dX8_gust_25 : decode cX8_gust 25 = .ok (.iconst 2, 1) := by decide +kernel
theorem dX8_gust_26 : decode cX8_gust 26 = .ok (.invokevirtual 89, 3) := by decide +kernel
theorem dX8_gust_29 : decode cX8_gust 29 = .ok (.ireturn, 1) := by decide +kernel
theorem dX8_gust_30 : decode cX8_gust 30 = .ok (.aload_n 0, 1) := by decide +kernel
theorem dX8_gust_31 : decode cX8_gust 31 = .ok (.iload_n 2, 1) := by decide +kernel
theorem dX8_gust_32 : decode cX8_gust 32 = .ok (.bipush 8, 2) := by decide +kernel
theorem dX8_gust_34 : decode cX8_gust 34 = .ok (.if_icmp .ge 12, 3) := by decide +kernel
theorem dX8_gust_37 : decode cX8_gust 37 = .ok (.aload_n 0, 1) := by decide +kernel
theorem dX8_gust_38 : decode cX8_gust 38 = .ok (.iload_n 1, 1) := by decide +kernel
theorem dX8_gust_39 : decode cX8_gust 39 = .ok (.iload_n 2, 1) := by decide +kernel
theorem dX8_gust_40 : decode cX8_gust 40 = .ok (.invokevirtual 134, 3) := by decide +kernel
theorem dX8_gust_43 : decode cX8_gust 43 = .ok (.goto 16, 3) := by decide +kernel
theorem dX8_gust_46 : decode cX8_gust 46 = .ok (.aload_n 0, 1) := by decide +kernel
theorem dX8_gust_47 : decode cX8_gust 47 = .ok (.iload_n 1, 1) := by decide +kernel
theorem dX8_gust_48 : decode cX8_gust 48 = .ok (.invokevirtual 190, 3) := by decide +kernel
theorem dX8_gust_51 : decode cX8_gust 51 = .ok (.ifCond .eq 7, 3) := by decide +kernel
theorem dX8_gust_54 : decode cX8_gust 54 = .ok (.iconst 1, 1) := by decide +kernel
theorem dX8_gust_55 : decode cX8_gust 55 = .ok (.goto 4, 3) := by decide +kernel
theorem dX8_gust_58 : decode cX8_gust 58 = .ok (.iconst 0, 1) := by decide +kernel
theorem dX8_gust_59 : decode cX8_gust 59 = .ok (.invokevirtual 61, 3) := by decide +kernel
theorem dX8_gust_62 : decode cX8_gust 62 = .ok (.ireturn, 1) := by decide +kernel
def f_X8_gust : MX := mth 3 (sQ (sIf (cNot (cZ z_ne (eM (gd 8 f_X8_isGust) (aI (aA (aN) (eLa 0)) (eLi 1))))) (sR (eM (gd 8 f_X8_fails) (aI (aA (aN) (eLa 0)) (eI (1))))) sN) (sQ (sIf (cNot (cZ z_ne (eM (f_X8_in) (aI (aI (aI (aN) (eLi 2)) (eI (0))) (eI (8)))))) (sR (eM (gd 8 f_X8_fails) (aI (aA (aN) (eLa 0)) (eI (2))))) sN) (sR (eM (gd 8 f_X8_tells) (aI (aA (aN) (eLa 0)) (eIf (cB c_lt (eLi 2) (eI (8))) (eM (gd 8 f_X8_gustOf) (aI (aI (aA (aN) (eLa 0)) (eLi 1)) (eLi 2))) (eIf (cZ z_ne (eM (gd 8 f_X8_isBlowing) (aI (aA (aN) (eLa 0)) (eLi 1)))) (eI (1)) (eI (0)))))))))
theorem Y_X8_gust : Yk yX8_gust cX8_gust 3 (some .int) 2 := ⟨w1486, w16, by decide +kernel, by decide +kernel, by decide +kernel⟩
set_option maxRecDepth 20000 in
theorem k_X8_gust (l : Launch) (g : GE) : MetX l g yX8_gust cX8_gust 3 (some .int) 3 ({ frames := 2, cells := 0, slots := 0, locals := 44 } : Room) f_X8_gust := by
  unfold f_X8_gust
  exact MetX.of (own := RX8) 100 0 rfl (by decide +kernel) (by decide) (fun p e s m args below meth c Fin ad0 hr hn => ⟨_, _, Sv_seq (Sv_if (Cv_not (Cv_if_ne_j (Ev_call (Av_i (Av_a (Av_nil) (Ev_aload_n dX8_gust_0 rfl)) (Ev_iload_n dX8_gust_1 rfl)) (Rn_V (ci := 8) Fx8.1 rfl Y_X8_isGust (k_X8_isGust _ _) w1334 w1336 wp43 dX8_gust_2 (Nat.le_of_ble_eq_true rfl) (Nat.le_of_ble_eq_true rfl) (Nat.le_of_ble_eq_true rfl) (Nat.ne_of_beq_eq_false rfl))) (t := 14) dX8_gust_5 (by decide))) (Sv_ret (Ev_call (Av_i (Av_a (Av_nil) (Ev_aload_n dX8_gust_8 rfl)) (Ev_iconst dX8_gust_9 (by decide))) (Rn_V (ci := 8) Fx8.1 rfl Y_X8_fails (k_X8_fails _ _) w1212 w1214 wp29 dX8_gust_10 (Nat.le_of_ble_eq_true rfl) (Nat.le_of_ble_eq_true rfl) (Nat.le_of_ble_eq_true rfl) (Nat.ne_of_beq_eq_false rfl))) hr dX8_gust_13) Sv_nop) (Sv_seq (Sv_if (Cv_not (Cv_if_ne_j (Ev_call (Av_i (Av_i (Av_i (Av_nil) (Ev_iload_n dX8_gust_14 rfl)) (Ev_iconst dX8_gust_15 (by decide))) (Ev_bipush dX8_gust_16 (by decide))) (Rn_S Y_X8_in (k_X8_in _ _) w1209 w1210 dX8_gust_18 (Nat.le_of_ble_eq_true rfl) (Nat.le_of_ble_eq_true rfl) (Nat.le_of_ble_eq_true rfl) (Nat.ne_of_beq_eq_false rfl))) (t := 30) dX8_gust_21 (by decide))) (Sv_ret (Ev_call (Av_i (Av_a (Av_nil) (Ev_aload_n dX8_gust_24 rfl)) (Ev_iconst dX8_gust_25 (by decide))) (Rn_V (ci := 8) Fx8.1 rfl Y_X8_fails (k_X8_fails _ _) w1212 w1214 wp29 dX8_gust_26 (Nat.le_of_ble_eq_true rfl) (Nat.le_of_ble_eq_true rfl) (Nat.le_of_ble_eq_true rfl) (Nat.ne_of_beq_eq_false rfl))) hr dX8_gust_29) Sv_nop) (Sv_ret (Ev_call (Av_i (Av_a (Av_nil) (Ev_aload_n dX8_gust_30 rfl)) (Ev_if (pT := 59) (Cv_icmp_ge_n (Ev_iload_n dX8_gust_31 rfl) (Ev_bipush dX8_gust_32 (by decide)) (t := 46) dX8_gust_34 (by decide)) (Ev_call (Av_i (Av_i (Av_a (Av_nil) (Ev_aload_n dX8_gust_37 rfl)) (Ev_iload_n dX8_gust_38 rfl)) (Ev_iload_n dX8_gust_39 rfl)) (Rn_V (ci := 8) Fx8.1 rfl Y_X8_gustOf (k_X8_gustOf _ _) w1401 w1403 wp53 dX8_gust_40 (Nat.le_of_ble_eq_true rfl) (Nat.le_of_ble_eq_true rfl) (Nat.le_of_ble_eq_true rfl) (Nat.ne_of_beq_eq_false rfl))) dX8_gust_43 (by decide) (Ev_if (pT := 59) (Cv_if_eq_n (Ev_call (Av_i (Av_a (Av_nil) (Ev_aload_n dX8_gust_46 rfl)) (Ev_iload_n dX8_gust_47 rfl)) (Rn_V (ci := 8) Fx8.1 rfl Y_X8_isBlowing (k_X8_isBlowing _ _) w1397 w1399 wp52 dX8_gust_48 (Nat.le_of_ble_eq_true rfl) (Nat.le_of_ble_eq_true rfl) (Nat.le_of_ble_eq_true rfl) (Nat.ne_of_beq_eq_false rfl))) (t := 58) dX8_gust_51 (by decide)) (Ev_iconst dX8_gust_54 (by decide)) dX8_gust_55 (by decide) (Ev_iconst dX8_gust_58 (by decide))))) (Rn_V (ci := 8) Fx8.1 rfl Y_X8_tells (k_X8_tells _ _) w1228 w1230 wp33 dX8_gust_59 (Nat.le_of_ble_eq_true rfl) (Nat.le_of_ble_eq_true rfl) (Nat.le_of_ble_eq_true rfl) (Nat.ne_of_beq_eq_false rfl))) hr dX8_gust_62)), Nat.le_of_ble_eq_true rfl, Nat.le_of_ble_eq_true rfl⟩)
theorem dX8_body_0 : decode cX8_body 0 = .ok (.iload_n 1, 1) := by decide +kernel
theorem dX8_body_1 : decode cX8_body 1 = .ok (.invokestatic 101, 3) := by decide +kernel
theorem dX8_body_4 : decode cX8_body 4 = .ok (.ifCond .ne 9, 3) := by decide +kernel
theorem dX8_body_7 : decode cX8_body 7 = .ok (.aload_n 0, 1) := by decide +kernel
theorem dX8_body_8 : decode cX8_body 8 = .ok (.iconst 1, 1) := by decide +kernel
theorem dX8_body_9 : decode cX8_body 9 = .ok (.invokevirtual 89, 3) := by decide +kernel
theorem dX8_body_12 : decode cX8_body 12 = .ok (.ireturn, 1) := by decide +kernel
theorem dX8_body_13 : decode cX8_body 13 = .ok (.iload_n 2, 1) := by decide +kernel
theorem dX8_body_14 : decode cX8_body 14 = .ok (.iconst 0, 1) := by decide +kernel
theorem dX8_body_15 : decode cX8_body 15 = .ok (.bipush 6, 2) := by decide +kernel
theorem dX8_body_17 : decode cX8_body 17 = .ok (.invokestatic 65, 3) := by decide +kernel
theorem dX8_body_20 : decode cX8_body 20 = .ok (.ifCond .ne 9, 3) := by decide +kernel
theorem dX8_body_23 : decode cX8_body 23 = .ok (.aload_n 0, 1) := by decide +kernel
theorem dX8_body_24 : decode cX8_body 24 = .ok (.iconst 2, 1) := by decide +kernel
theorem dX8_body_25 : decode cX8_body 25 = .ok (.invokevirtual 89, 3) := by decide +kernel
theorem dX8_body_28 : decode cX8_body 28 = .ok (.ireturn, 1) := by decide +kernel
theorem dX8_body_29 : decode cX8_body 29 = .ok (.iload_n 2, 1) := by decide +kernel
theorem dX8_body_30 : decode cX8_body 30 = .ok (.iconst 3, 1) := by decide +kernel
theorem dX8_body_31 : decode cX8_body 31 = .ok (.if_icmp .ge 35, 3) := by decide +kernel
theorem dX8_body_34 : decode cX8_body 34 = .ok (.aload_n 0, 1) := by decide +kernel
theorem dX8_body_35 : decode cX8_body 35 = .ok (.iload_n 2, 1) := by decide +kernel
theorem dX8_body_36 : decode cX8_body 36 = .ok (.ifCond .ne 11, 3) := by decide +kernel
theorem dX8_body_39 : decode cX8_body 39 = .ok (.aload_n 0, 1) := by decide +kernel
theorem dX8_body_40 : decode cX8_body 40 = .ok (.iload_n 1, 1) := by decide +kernel
theorem dX8_body_41 : decode cX8_body 41 = .ok (.invokevirtual 111, 3) := by decide +kernel
theorem dX8_body_44 : decode cX8_body 44 = .ok (.goto 18, 3) := by decide +kernel
theorem dX8_body_47 : decode cX8_body 47 = .ok (.aload_n 0, 1) := by decide +kernel
theorem dX8_body_48 : decode cX8_body 48 = .ok (.getfield 7, 3) := by decide +kernel
theorem dX8_body_51 : decode cX8_body 51 = .ok (.bipush 22, 2) := by decide +kernel
theorem dX8_body_53 : decode cX8_body 53 = .ok (.iconst 2, 1) := by decide +kernel
theorem dX8_body_54 : decode cX8_body 54 = .ok (.iload_n 1, 1) := by decide +kernel
theorem dX8_body_55 : decode cX8_body 55 = .ok (.imul, 1) := by decide +kernel
theorem dX8_body_56 : decode cX8_body 56 = .ok (.iadd, 1) := by decide +kernel
theorem dX8_body_57 : decode cX8_body 57 = .ok (.iload_n 2, 1) := by decide +kernel
theorem dX8_body_58 : decode cX8_body 58 = .ok (.iadd, 1) := by decide +kernel
theorem dX8_body_59 : decode cX8_body 59 = .ok (.iconst 1, 1) := by decide +kernel
theorem dX8_body_60 : decode cX8_body 60 = .ok (.isub, 1) := by decide +kernel
theorem dX8_body_61 : decode cX8_body 61 = .ok (.iaload, 1) := by decide +kernel
theorem dX8_body_62 : decode cX8_body 62 = .ok (.invokevirtual 61, 3) := by decide +kernel
theorem dX8_body_65 : decode cX8_body 65 = .ok (.ireturn, 1) := by decide +kernel
theorem dX8_body_66 : decode cX8_body 66 = .ok (.iconst (-1), 1) := by decide +kernel
theorem dX8_body_67 : decode cX8_body 67 = .ok (.istore_n 3, 1) := by decide +kernel
theorem dX8_body_68 : decode cX8_body 68 = .ok (.iconst 0, 1) := by decide +kernel
theorem dX8_body_69 : decode cX8_body 69 = .ok (.istore 4, 2) := by decide +kernel
theorem dX8_body_71 : decode cX8_body 71 = .ok (.iload 4, 2) := by decide +kernel
theorem dX8_body_73 : decode cX8_body 73 = .ok (.aload_n 0, 1) := by decide +kernel
theorem dX8_body_74 : decode cX8_body 74 = .ok (.getfield 7, 3) := by decide +kernel
theorem dX8_body_77 : decode cX8_body 77 = .ok (.iconst 1, 1) := by decide +kernel
theorem dX8_body_78 : decode cX8_body 78 = .ok (.iaload, 1) := by decide +kernel
theorem dX8_body_79 : decode cX8_body 79 = .ok (.if_icmp .ge 103, 3) := by decide +kernel
theorem dX8_body_82 : decode cX8_body 82 = .ok (.iconst 0, 1) := by decide +kernel
theorem dX8_body_83 : decode cX8_body 83 = .ok (.istore 5, 2) := by decide +kernel
theorem dX8_body_85 : decode cX8_body 85 = .ok (.iload 5, 2) := by decide +kernel
theorem dX8_body_87 : decode cX8_body 87 = .ok (.aload_n 0, 1) := by decide +kernel
theorem dX8_body_88 : decode cX8_body 88 = .ok (.getfield 7, 3) := by decide +kernel
theorem dX8_body_91 : decode cX8_body 91 = .ok (.iconst 0, 1) := by decide +kernel
theorem dX8_body_92 : decode cX8_body 92 = .ok (.iaload, 1) := by decide +kernel
theorem dX8_body_93 : decode cX8_body 93 = .ok (.if_icmp .ge 83, 3) := by decide +kernel
theorem dX8_body_96 : decode cX8_body 96 = .ok (.iload_n 2, 1) := by decide +kernel
theorem dX8_body_97 : decode cX8_body 97 = .ok (.iconst 5, 1) := by decide +kernel
theorem dX8_body_98 : decode cX8_body 98 = .ok (.if_icmp .ge 8, 3) := by decide +kernel
theorem dX8_body_101 : decode cX8_body 101 = .ok (.iload 5, 2) := by decide +kernel
theorem dX8_body_103 : decode cX8_body 103 = .ok (.goto 5, 3) := by decide +kernel
theorem dX8_body_106 : decode cX8_body 106 = .ok (.iload 4, 2) := by decide +kernel
theorem dX8_body_108 : decode cX8_body 108 = .ok (.istore 6, 2) := by decide +kernel
theorem dX8_body_110 : decode cX8_body 110 = .ok (.aload_n 0, 1) := by decide +kernel
theorem dX8_body_111 : decode cX8_body 111 = .ok (.iload 5, 2) := by decide +kernel
theorem dX8_body_113 : decode cX8_body 113 = .ok (.iload 4, 2) := by decide +kernel
theorem dX8_body_115 : decode cX8_body 115 = .ok (.invokevirtual 108, 3) := by decide +kernel
theorem dX8_body_118 : decode cX8_body 118 = .ok (.iconst (-1), 1) := by decide +kernel
theorem dX8_body_119 : decode cX8_body 119 = .ok (.iload_n 1, 1) := by decide +kernel
theorem dX8_body_120 : decode cX8_body 120 = .ok (.isub, 1) := by decide +kernel
theorem dX8_body_121 : decode cX8_body 121 = .ok (.if_icmp .ne 34, 3) := by decide +kernel
theorem dX8_body_124 : decode cX8_body 124 = .ok (.iload_n 3, 1) := by decide +kernel
theorem dX8_body_125 : decode cX8_body 125 = .ok (.iconst (-1), 1) := by decide +kernel
theorem dX8_body_126 : decode cX8_body 126 = .ok (.if_icmp .eq 25, 3) := by decide +kernel
theorem dX8_body_129 : decode cX8_body 129 = .ok (.iload_n 2, 1) := by decide +kernel
theorem dX8_body_130 : decode cX8_body 130 = .ok (.iconst 2, 1) := by decide +kernel
theorem dX8_body_131 : decode cX8_body 131 = .ok (.irem, 1) := by decide +kernel
theorem dX8_body_132 : decode cX8_body 132 = .ok (.iconst 1, 1) := by decide +kernel
theorem dX8_body_133 : decode cX8_body 133 = .ok (.if_icmp .ne 12, 3) := by decide +kernel
theorem dX8_body_136 : decode cX8_body 136 = .ok (.iload 6, 2) := by decide +kernel
theorem dX8_body_138 : decode cX8_body 138 = .ok (.iload_n 3, 1) := by decide +kernel
theorem dX8_body_139 : decode cX8_body 139 = .ok (.if_icmp .ge 16, 3) := by decide +kernel
theorem dX8_body_142 : decode cX8_body 142 = .ok (.goto 9, 3) := by decide +kernel
theorem dX8_body_145 : decode cX8_body 145 = .ok (.iload 6, 2) := by decide +kernel
theorem dX8_body_147 : decode cX8_body 147 = .ok (.iload_n 3, 1) := by decide +kernel
theorem dX8_body_148 : decode cX8_body 148 = .ok (.if_icmp .le 7, 3) := by decide +kernel
theorem dX8_body_151 : decode cX8_body 151 = .ok (.iconst 1, 1) := by decide +kernel
theorem dX8_body_152 : decode cX8_body 152 = .ok (.goto 4, 3) := by decide +kernel
theorem dX8_body_155 : decode cX8_body 155 = .ok (.iconst 0, 1) := by decide +kernel
theorem dX8_body_156 : decode cX8_body 156 = .ok (.istore 7, 2) := by decide +kernel
theorem dX8_body_158 : decode cX8_body 158 = .ok (.iload 7, 2) := by decide +kernel
theorem dX8_body_160 : decode cX8_body 160 = .ok (.ifCond .eq 8, 3) := by decide +kernel
theorem dX8_body_163 : decode cX8_body 163 = .ok (.iload 6, 2) := by decide +kernel
theorem dX8_body_165 : decode cX8_body 165 = .ok (.goto 4, 3) := by decide +kernel
theorem dX8_body_168 : decode cX8_body 168 = .ok (.iload_n 3, 1) := by decide +kernel
theorem dX8_body_169 : decode cX8_body 169 = .ok (.istore_n 3, 1) := by decide +kernel
theorem dX8_body_170 : decode cX8_body 170 = .ok (.iinc 5 1, 3) := by decide +kernel
theorem dX8_body_173 : decode cX8_body 173 = .ok (.goto (-88), 3) := by decide +kernel
theorem dX8_body_176 : decode cX8_body 176 = .ok (.iinc 4 1, 3) := by decide +kernel
theorem dX8_body_179 : decode cX8_body 179 = .ok (.goto (-108), 3) := by decide +kernel
theorem dX8_body_182 : decode cX8_body 182 = .ok (.aload_n 0, 1) := by decide +kernel
theorem dX8_body_183 : decode cX8_body 183 = .ok (.iload_n 3, 1) := by decide +kernel
theorem dX8_body_184 : decode cX8_body 184 = .ok (.invokevirtual 61, 3) := by decide +kernel
theorem dX8_body_187 : decode cX8_body 187 = .ok (.ireturn, 1) := by decide +kernel
def f_X8_body : MX := mth 8 (sQ (sIf (cNot (cZ z_ne (eM (f_X8_isBody) (aI (aN) (eLi 1))))) (sR (eM (gd 8 f_X8_fails) (aI (aA (aN) (eLa 0)) (eI (1))))) sN) (sQ (sIf (cNot (cZ z_ne (eM (f_X8_in) (aI (aI (aI (aN) (eLi 2)) (eI (0))) (eI (6)))))) (sR (eM (gd 8 f_X8_fails) (aI (aA (aN) (eLa 0)) (eI (2))))) sN) (sQ (sIf (cB c_lt (eLi 2) (eI (3))) (sR (eM (gd 8 f_X8_tells) (aI (aA (aN) (eLa 0)) (eIf (cZ z_eq (eLi 2)) (eM (gd 8 f_X8_cellsOf) (aI (aA (aN) (eLa 0)) (eLi 1))) (eAi 0 (eGa (eLa 0) 8 0) (eOp o_isub (eOp o_iadd (eOp o_iadd (eI (22)) (eOp o_imul (eI (2)) (eLi 1))) (eLi 2)) (eI (1)))))))) sN) (sQ (sTi 3 (eI (-1))) (sQ (sQ (sTi 4 (eI (0))) (sLp (cB c_lt (eLi 4) (eAi 0 (eGa (eLa 0) 8 0) (eI (1)))) (sQ (sQ (sTi 5 (eI (0))) (sLp (cB c_lt (eLi 5) (eAi 0 (eGa (eLa 0) 8 0) (eI (0)))) (sQ (sQ (sTi 6 (eIf (cB c_lt (eLi 2) (eI (5))) (eLi 5) (eLi 4))) (sQ (sTi 7 (eC (cAnd (cB c_eq (eM (gd 8 f_X8_had) (aI (aI (aA (aN) (eLa 0)) (eLi 5)) (eLi 4))) (eOp o_isub (eI (-1)) (eLi 1))) (cOr (cB c_eq (eLi 3) (eI (-1))) (eIf (cB c_eq (eQ o_irem (eLi 2) (eI (2))) (eI (1))) (cB c_lt (eLi 6) (eLi 3)) (cB c_gt (eLi 6) (eLi 3))))))) (sTi 3 (eIf (cZ z_ne (eLi 7)) (eLi 6) (eLi 3))))) (sInc 5 (1))) NF)) (sInc 4 (1))) NF)) (sR (eM (gd 8 f_X8_tells) (aI (aA (aN) (eLa 0)) (eLi 3)))))))))
theorem Y_X8_body : Yk yX8_body cX8_body 8 (some .int) 2 := ⟨w1490, w16, by decide +kernel, by decide +kernel, by decide +kernel⟩
set_option maxRecDepth 20000 in
theorem k_X8_body (l : Launch) (g : GE) : MetX l g yX8_body cX8_body 8 (some .int) 3 ({ frames := 2, cells := 0, slots := 0, locals := 43 } : Room) f_X8_body := by
  unfold f_X8_body
  exact MetX.of (own := RX8) 100 0 rfl (by decide +kernel) (by decide) (fun p e s m args below meth c Fin ad0 hr hn => ⟨_, _, Sv_seq (Sv_if (Cv_not (Cv_if_ne_j (Ev_call (Av_i (Av_nil) (Ev_iload_n dX8_body_0 rfl)) (Rn_S Y_X8_isBody (k_X8_isBody _ _) w1240 w1241 dX8_body_1 (Nat.le_of_ble_eq_true rfl) (Nat.le_of_ble_eq_true rfl) (Nat.le_of_ble_eq_true rfl) (Nat.ne_of_beq_eq_false rfl))) (t := 13) dX8_body_4 (by decide))) (Sv_ret (Ev_call (Av_i (Av_a (Av_nil) (Ev_aload_n dX8_body_7 rfl)) (Ev_iconst dX8_body_8 (by decide))) (Rn_V (ci := 8) Fx8.1 rfl Y_X8_fails (k_X8_fails _ _) w1212 w1214 wp29 dX8_body_9 (Nat.le_of_ble_eq_true rfl) (Nat.le_of_ble_eq_true rfl) (Nat.le_of_ble_eq_true rfl) (Nat.ne_of_beq_eq_false rfl))) hr dX8_body_12) Sv_nop) (Sv_seq (Sv_if (Cv_not (Cv_if_ne_j (Ev_call (Av_i (Av_i (Av_i (Av_nil) (Ev_iload_n dX8_body_13 rfl)) (Ev_iconst dX8_body_14 (by decide))) (Ev_bipush dX8_body_15 (by decide))) (Rn_S Y_X8_in (k_X8_in _ _) w1209 w1210 dX8_body_17 (Nat.le_of_ble_eq_true rfl) (Nat.le_of_ble_eq_true rfl) (Nat.le_of_ble_eq_true rfl) (Nat.ne_of_beq_eq_false rfl))) (t := 29) dX8_body_20 (by decide))) (Sv_ret (Ev_call (Av_i (Av_a (Av_nil) (Ev_aload_n dX8_body_23 rfl)) (Ev_iconst dX8_body_24 (by decide))) (Rn_V (ci := 8) Fx8.1 rfl Y_X8_fails (k_X8_fails _ _) w1212 w1214 wp29 dX8_body_25 (Nat.le_of_ble_eq_true rfl) (Nat.le_of_ble_eq_true rfl) (Nat.le_of_ble_eq_true rfl) (Nat.ne_of_beq_eq_false rfl))) hr dX8_body_28) Sv_nop) (Sv_seq (Sv_if (Cv_icmp_ge_n (Ev_iload_n dX8_body_29 rfl) (Ev_iconst dX8_body_30 (by decide)) (t := 66) dX8_body_31 (by decide)) (Sv_ret (Ev_call (Av_i (Av_a (Av_nil) (Ev_aload_n dX8_body_34 rfl)) (Ev_if (pT := 62) (Cv_if_ne_n (Ev_iload_n dX8_body_35 rfl) (t := 47) dX8_body_36 (by decide)) (Ev_call (Av_i (Av_a (Av_nil) (Ev_aload_n dX8_body_39 rfl)) (Ev_iload_n dX8_body_40 rfl)) (Rn_V (ci := 8) Fx8.1 rfl Y_X8_cellsOf (k_X8_cellsOf _ _) w1262 w1264 wp38 dX8_body_41 (Nat.le_of_ble_eq_true rfl) (Nat.le_of_ble_eq_true rfl) (Nat.le_of_ble_eq_true rfl) (Nat.ne_of_beq_eq_false rfl))) dX8_body_44 (by decide) (Ev_iaload (Ev_getA Fx8 (Ev_aload_n dX8_body_47 rfl) (k := 0) (by decide) w1143 dX8_body_48) (Ev_isub (Ev_iadd (Ev_iadd (Ev_bipush dX8_body_51 (by decide)) (Ev_imul (Ev_iconst dX8_body_53 (by decide)) (Ev_iload_n dX8_body_54 rfl) dX8_body_55) dX8_body_56) (Ev_iload_n dX8_body_57 rfl) dX8_body_58) (Ev_iconst dX8_body_59 (by decide)) dX8_body_60) dX8_body_61))) (Rn_V (ci := 8) Fx8.1 rfl Y_X8_tells (k_X8_tells _ _) w1228 w1230 wp33 dX8_body_62 (Nat.le_of_ble_eq_true rfl) (Nat.le_of_ble_eq_true rfl) (Nat.le_of_ble_eq_true rfl) (Nat.ne_of_beq_eq_false rfl))) hr dX8_body_65) Sv_nop) (Sv_seq (Sv_istore_n (Ev_iconst dX8_body_66 (by decide)) dX8_body_67 rfl (Nat.le_of_ble_eq_true rfl) (Nat.ne_of_beq_eq_false rfl)) (Sv_seq (Sv_seq (Sv_istore (Ev_iconst dX8_body_68 (by decide)) dX8_body_69 (Nat.le_of_ble_eq_true rfl) (Nat.ne_of_beq_eq_false rfl)) (Sv_loop0 NF (Cv_icmp_ge_n (Ev_iload dX8_body_71) (Ev_iaload (Ev_getA Fx8 (Ev_aload_n dX8_body_73 rfl) (k := 0) (by decide) w1143 dX8_body_74) (Ev_iconst dX8_body_77 (by decide)) dX8_body_78) (t := 182) dX8_body_79 (by decide)) (Sv_goto (pE := 71) (Sv_seq (Sv_seq (Sv_istore (Ev_iconst dX8_body_82 (by decide)) dX8_body_83 (Nat.le_of_ble_eq_true rfl) (Nat.ne_of_beq_eq_false rfl)) (Sv_loop0 NF (Cv_icmp_ge_n (Ev_iload dX8_body_85) (Ev_iaload (Ev_getA Fx8 (Ev_aload_n dX8_body_87 rfl) (k := 0) (by decide) w1143 dX8_body_88) (Ev_iconst dX8_body_91 (by decide)) dX8_body_92) (t := 176) dX8_body_93 (by decide)) (Sv_goto (pE := 85) (Sv_seq (Sv_seq (Sv_istore (Ev_if (pT := 108) (Cv_icmp_ge_n (Ev_iload_n dX8_body_96 rfl) (Ev_iconst dX8_body_97 (by decide)) (t := 106) dX8_body_98 (by decide)) (Ev_iload dX8_body_101) dX8_body_103 (by decide) (Ev_iload dX8_body_106)) dX8_body_108 (Nat.le_of_ble_eq_true rfl) (Nat.ne_of_beq_eq_false rfl)) (Sv_seq (Sv_istore (Ev_if (pT := 156) (Cv_and (Cv_icmp_ne_n (Ev_call (Av_i (Av_i (Av_a (Av_nil) (Ev_aload_n dX8_body_110 rfl)) (Ev_iload dX8_body_111)) (Ev_iload dX8_body_113)) (Rn_V (ci := 8) Fx8.1 rfl Y_X8_had (k_X8_had _ _) w1255 w1257 wp37 dX8_body_115 (Nat.le_of_ble_eq_true rfl) (Nat.le_of_ble_eq_true rfl) (Nat.le_of_ble_eq_true rfl) (Nat.ne_of_beq_eq_false rfl))) (Ev_isub (Ev_iconst dX8_body_118 (by decide)) (Ev_iload_n dX8_body_119 rfl) dX8_body_120) (t := 155) dX8_body_121 (by decide)) (Cv_or (Cv_icmp_eq_j (Ev_iload_n dX8_body_124 rfl) (Ev_iconst dX8_body_125 (by decide)) (t := 151) dX8_body_126 (by decide)) (Cv_ite (pT := 151) (Cv_icmp_ne_n (Ev_irem (Ev_iload_n dX8_body_129 rfl) (Ev_iconst dX8_body_130 (by decide)) dX8_body_131) (Ev_iconst dX8_body_132 (by decide)) (t := 145) dX8_body_133 (by decide)) (Cv_icmp_ge_n (Ev_iload dX8_body_136) (Ev_iload_n dX8_body_138 rfl) (t := 155) dX8_body_139 (by decide)) dX8_body_142 (by decide) (Cv_icmp_le_n (Ev_iload dX8_body_145) (Ev_iload_n dX8_body_147 rfl) (t := 155) dX8_body_148 (by decide))))) (Ev_iconst dX8_body_151 (by decide)) dX8_body_152 (by decide) (Ev_iconst dX8_body_155 (by decide))) dX8_body_156 (Nat.le_of_ble_eq_true rfl) (Nat.ne_of_beq_eq_false rfl)) (Sv_istore_n (Ev_if (pT := 169) (Cv_if_eq_n (Ev_iload dX8_body_158) (t := 168) dX8_body_160 (by decide)) (Ev_iload dX8_body_163) dX8_body_165 (by decide) (Ev_iload_n dX8_body_168 rfl)) dX8_body_169 rfl (Nat.le_of_ble_eq_true rfl) (Nat.ne_of_beq_eq_false rfl)))) (Sv_iinc dX8_body_170 (by decide) (Nat.le_of_ble_eq_true rfl) (Nat.ne_of_beq_eq_false rfl))) dX8_body_173 (by decide)))) (Sv_iinc dX8_body_176 (by decide) (Nat.le_of_ble_eq_true rfl) (Nat.ne_of_beq_eq_false rfl))) dX8_body_179 (by decide)))) (Sv_ret (Ev_call (Av_i (Av_a (Av_nil) (Ev_aload_n dX8_body_182 rfl)) (Ev_iload_n dX8_body_183 rfl)) (Rn_V (ci := 8) Fx8.1 rfl Y_X8_tells (k_X8_tells _ _) w1228 w1230 wp33 dX8_body_184 (Nat.le_of_ble_eq_true rfl) (Nat.le_of_ble_eq_true rfl) (Nat.le_of_ble_eq_true rfl) (Nat.ne_of_beq_eq_false rfl))) hr dX8_body_187))))), Nat.le_of_ble_eq_true rfl, Nat.le_of_ble_eq_true rfl⟩)
theorem dX8_zero_0 : decode cX8_zero 0 = .ok (.iload_n 1, 1) := by decide +kernel
theorem dX8_zero_1 : decode cX8_zero 1 = .ok (.invokestatic 101, 3) := by decide +kernel
theorem dX8_zero_4 : decode cX8_zero 4 = .ok (.ifCond .ne 9, 3) := by decide +kernel
theorem dX8_zero_7 : decode cX8_zero 7 = .ok (.aload_n 0, 1) := by decide +kernel
theorem dX8_zero_8 : decode cX8_zero 8 = .ok (.iconst 1, 1) := by decide +kernel
theorem dX8_zero_9 : decode cX8_zero 9 = .ok (.invokevirtual 89, 3) := by decide +kernel
theorem dX8_zero_12 : decode cX8_zero 12 = .ok (.ireturn, 1) := by decide +kernel
theorem dX8_zero_13 : decode cX8_zero 13 = .ok (.aload_n 0, 1) := by decide +kernel
theorem dX8_zero_14 : decode cX8_zero 14 = .ok (.invokevirtual 92, 3) := by decide +kernel
theorem dX8_zero_17 : decode cX8_zero 17 = .ok (.aload_n 0, 1) := by decide +kernel
theorem dX8_zero_18 : decode cX8_zero 18 = .ok (.getfield 7, 3) := by decide +kernel
theorem dX8_zero_21 : decode cX8_zero 21 = .ok (.bipush 22, 2) := by decide +kernel
theorem dX8_zero_23 : decode cX8_zero 23 = .ok (.iconst 2, 1) := by decide +kernel
theorem dX8_zero_24 : decode cX8_zero 24 = .ok (.iload_n 1, 1) := by decide +kernel
theorem dX8_zero_25 : decode cX8_zero 25 = .ok (.imul, 1) := by decide +kernel
theorem dX8_zero_26 : decode cX8_zero 26 = .ok (.iadd, 1) := by decide +kernel
theorem dX8_zero_27 : decode cX8_zero 27 = .ok (.iconst 1, 1) := by decide +kernel
theorem dX8_zero_28 : decode cX8_zero 28 = .ok (.iadd, 1) := by decide +kernel
theorem dX8_zero_29 : decode cX8_zero 29 = .ok (.iaload, 1) := by decide +kernel
theorem dX8_zero_30 : decode cX8_zero 30 = .ok (.istore_n 2, 1) := by decide +kernel
theorem dX8_zero_31 : decode cX8_zero 31 = .ok (.aload_n 0, 1) := by decide +kernel
theorem dX8_zero_32 : decode cX8_zero 32 = .ok (.getfield 7, 3) := by decide +kernel
theorem dX8_zero_35 : decode cX8_zero 35 = .ok (.bipush 22, 2) := by decide +kernel
theorem dX8_zero_37 : decode cX8_zero 37 = .ok (.iconst 2, 1) := by decide +kernel
theorem dX8_zero_38 : decode cX8_zero 38 = .ok (.iload_n 1, 1) := by decide +kernel
theorem dX8_zero_39 : decode cX8_zero 39 = .ok (.imul, 1) := by decide +kernel
theorem dX8_zero_40 : decode cX8_zero 40 = .ok (.iadd, 1) := by decide +kernel
theorem dX8_zero_41 : decode cX8_zero 41 = .ok (.iconst 0, 1) := by decide +kernel
theorem dX8_zero_42 : decode cX8_zero 42 = .ok (.iastore, 1) := by decide +kernel
theorem dX8_zero_43 : decode cX8_zero 43 = .ok (.aload_n 0, 1) := by decide +kernel
theorem dX8_zero_44 : decode cX8_zero 44 = .ok (.getfield 7, 3) := by decide +kernel
theorem dX8_zero_47 : decode cX8_zero 47 = .ok (.bipush 22, 2) := by decide +kernel
theorem dX8_zero_49 : decode cX8_zero 49 = .ok (.iconst 2, 1) := by decide +kernel
theorem dX8_zero_50 : decode cX8_zero 50 = .ok (.iload_n 1, 1) := by decide +kernel
theorem dX8_zero_51 : decode cX8_zero 51 = .ok (.imul, 1) := by decide +kernel
theorem dX8_zero_52 : decode cX8_zero 52 = .ok (.iadd, 1) := by decide +kernel
theorem dX8_zero_53 : decode cX8_zero 53 = .ok (.iconst 1, 1) := by decide +kernel
theorem dX8_zero_54 : decode cX8_zero 54 = .ok (.iadd, 1) := by decide +kernel
theorem dX8_zero_55 : decode cX8_zero 55 = .ok (.iconst 0, 1) := by decide +kernel
theorem dX8_zero_56 : decode cX8_zero 56 = .ok (.iastore, 1) := by decide +kernel
theorem dX8_zero_57 : decode cX8_zero 57 = .ok (.aload_n 0, 1) := by decide +kernel
theorem dX8_zero_58 : decode cX8_zero 58 = .ok (.iload_n 2, 1) := by decide +kernel
theorem dX8_zero_59 : decode cX8_zero 59 = .ok (.invokevirtual 98, 3) := by decide +kernel
theorem dX8_zero_62 : decode cX8_zero 62 = .ok (.ireturn, 1) := by decide +kernel
def f_X8_zero : MX := mth 3 (sQ (sIf (cNot (cZ z_ne (eM (f_X8_isBody) (aI (aN) (eLi 1))))) (sR (eM (gd 8 f_X8_fails) (aI (aA (aN) (eLa 0)) (eI (1))))) sN) (sQ (sM (gd 8 f_X8_holds) (aA (aN) (eLa 0))) (sQ (sTi 2 (eAi 0 (eGa (eLa 0) 8 0) (eOp o_iadd (eOp o_iadd (eI (22)) (eOp o_imul (eI (2)) (eLi 1))) (eI (1))))) (sQ (sAi 0 (eGa (eLa 0) 8 0) (eOp o_iadd (eI (22)) (eOp o_imul (eI (2)) (eLi 1))) (eI (0))) (sQ (sAi 0 (eGa (eLa 0) 8 0) (eOp o_iadd (eOp o_iadd (eI (22)) (eOp o_imul (eI (2)) (eLi 1))) (eI (1))) (eI (0))) (sR (eM (gd 8 f_X8_saves) (aI (aA (aN) (eLa 0)) (eLi 2)))))))))
theorem Y_X8_zero : Yk yX8_zero cX8_zero 3 (some .int) 1 := ⟨w1494, w16, by decide +kernel, by decide +kernel, by decide +kernel⟩
set_option maxRecDepth 20000 in
theorem k_X8_zero (l : Launch) (g : GE) : MetX l g yX8_zero cX8_zero 3 (some .int) 2 ({ frames := 2, cells := 0, slots := 0, locals := 43 } : Room) f_X8_zero := by
  unfold f_X8_zero
  exact MetX.of (own := RX8) 100 0 rfl (by decide +kernel) (by decide) (fun p e s m args below meth c Fin ad0 hr hn => ⟨_, _, Sv_seq (Sv_if (Cv_not (Cv_if_ne_j (Ev_call (Av_i (Av_nil) (Ev_iload_n dX8_zero_0 rfl)) (Rn_S Y_X8_isBody (k_X8_isBody _ _) w1240 w1241 dX8_zero_1 (Nat.le_of_ble_eq_true rfl) (Nat.le_of_ble_eq_true rfl) (Nat.le_of_ble_eq_true rfl) (Nat.ne_of_beq_eq_false rfl))) (t := 13) dX8_zero_4 (by decide))) (Sv_ret (Ev_call (Av_i (Av_a (Av_nil) (Ev_aload_n dX8_zero_7 rfl)) (Ev_iconst dX8_zero_8 (by decide))) (Rn_V (ci := 8) Fx8.1 rfl Y_X8_fails (k_X8_fails _ _) w1212 w1214 wp29 dX8_zero_9 (Nat.le_of_ble_eq_true rfl) (Nat.le_of_ble_eq_true rfl) (Nat.le_of_ble_eq_true rfl) (Nat.ne_of_beq_eq_false rfl))) hr dX8_zero_12) Sv_nop) (Sv_seq (Sv_call (Av_a (Av_nil) (Ev_aload_n dX8_zero_13 rfl)) (Rn_V (ci := 8) Fx8.1 rfl Y_X8_holds (k_X8_holds _ _) w1216 w1218 wp30 dX8_zero_14 (Nat.le_of_ble_eq_true rfl) (Nat.le_of_ble_eq_true rfl) (Nat.le_of_ble_eq_true rfl) (Nat.ne_of_beq_eq_false rfl))) (Sv_seq (Sv_istore_n (Ev_iaload (Ev_getA Fx8 (Ev_aload_n dX8_zero_17 rfl) (k := 0) (by decide) w1143 dX8_zero_18) (Ev_iadd (Ev_iadd (Ev_bipush dX8_zero_21 (by decide)) (Ev_imul (Ev_iconst dX8_zero_23 (by decide)) (Ev_iload_n dX8_zero_24 rfl) dX8_zero_25) dX8_zero_26) (Ev_iconst dX8_zero_27 (by decide)) dX8_zero_28) dX8_zero_29) dX8_zero_30 rfl (Nat.le_of_ble_eq_true rfl) (Nat.ne_of_beq_eq_false rfl)) (Sv_seq (Sv_iastore (Ev_getA Fx8 (Ev_aload_n dX8_zero_31 rfl) (k := 0) (by decide) w1143 dX8_zero_32) (Ev_iadd (Ev_bipush dX8_zero_35 (by decide)) (Ev_imul (Ev_iconst dX8_zero_37 (by decide)) (Ev_iload_n dX8_zero_38 rfl) dX8_zero_39) dX8_zero_40) (Ev_iconst dX8_zero_41 (by decide)) dX8_zero_42) (Sv_seq (Sv_iastore (Ev_getA Fx8 (Ev_aload_n dX8_zero_43 rfl) (k := 0) (by decide) w1143 dX8_zero_44) (Ev_iadd (Ev_iadd (Ev_bipush dX8_zero_47 (by decide)) (Ev_imul (Ev_iconst dX8_zero_49 (by decide)) (Ev_iload_n dX8_zero_50 rfl) dX8_zero_51) dX8_zero_52) (Ev_iconst dX8_zero_53 (by decide)) dX8_zero_54) (Ev_iconst dX8_zero_55 (by decide)) dX8_zero_56) (Sv_ret (Ev_call (Av_i (Av_a (Av_nil) (Ev_aload_n dX8_zero_57 rfl)) (Ev_iload_n dX8_zero_58 rfl)) (Rn_V (ci := 8) Fx8.1 rfl Y_X8_saves (k_X8_saves _ _) w1224 w1226 wp32 dX8_zero_59 (Nat.le_of_ble_eq_true rfl) (Nat.le_of_ble_eq_true rfl) (Nat.le_of_ble_eq_true rfl) (Nat.ne_of_beq_eq_false rfl))) hr dX8_zero_62))))), Nat.le_of_ble_eq_true rfl, Nat.le_of_ble_eq_true rfl⟩)
theorem dX8_recorded_0 : decode cX8_recorded 0 = .ok (.iconst 0, 1) := by decide +kernel
theorem dX8_recorded_1 : decode cX8_recorded 1 = .ok (.istore 5, 2) := by decide +kernel
theorem dX8_recorded_3 : decode cX8_recorded 3 = .ok (.aload_n 0, 1) := by decide +kernel
theorem dX8_recorded_4 : decode cX8_recorded 4 = .ok (.getfield 7, 3) := by decide +kernel
theorem dX8_recorded_7 : decode cX8_recorded 7 = .ok (.bipush 7, 2) := by decide +kernel
theorem dX8_recorded_9 : decode cX8_recorded 9 = .ok (.iaload, 1) := by decide +kernel
theorem dX8_recorded_10 : decode cX8_recorded 10 = .ok (.iconst 1, 1) := by decide +kernel
theorem dX8_recorded_11 : decode cX8_recorded 11 = .ok (.isub, 1) := by decide +kernel
theorem dX8_recorded_12 : decode cX8_recorded 12 = .ok (.iload_n 3, 1) := by decide +kernel
theorem dX8_recorded_13 : decode cX8_recorded 13 = .ok (.isub, 1) := by decide +kernel
theorem dX8_recorded_14 : decode cX8_recorded 14 = .ok (.istore 6, 2) := by decide +kernel
theorem dX8_recorded_16 : decode cX8_recorded 16 = .ok (.iload 6, 2) := by decide +kernel
theorem dX8_recorded_18 : decode cX8_recorded 18 = .ok (.ifCond .lt 50, 3) := by decide +kernel
theorem dX8_recorded_21 : decode cX8_recorded 21 = .ok (.iload 6, 2) := by decide +kernel
theorem dX8_recorded_23 : decode cX8_recorded 23 = .ok (.aload_n 0, 1) := by decide +kernel
theorem dX8_recorded_24 : decode cX8_recorded 24 = .ok (.getfield 7, 3) := by decide +kernel
theorem dX8_recorded_27 : decode cX8_recorded 27 = .ok (.bipush 7, 2) := by decide +kernel
theorem dX8_recorded_29 : decode cX8_recorded 29 = .ok (.iaload, 1) := by decide +kernel
theorem dX8_recorded_30 : decode cX8_recorded 30 = .ok (.iload_n 3, 1) := by decide +kernel
theorem dX8_recorded_31 : decode cX8_recorded 31 = .ok (.isub, 1) := by decide +kernel
theorem dX8_recorded_32 : decode cX8_recorded 32 = .ok (.iload 4, 2) := by decide +kernel
theorem dX8_recorded_34 : decode cX8_recorded 34 = .ok (.isub, 1) := by decide +kernel
theorem dX8_recorded_35 : decode cX8_recorded 35 = .ok (.if_icmp .lt 33, 3) := by decide +kernel
theorem dX8_recorded_38 : decode cX8_recorded 38 = .ok (.iload 5, 2) := by decide +kernel
theorem dX8_recorded_40 : decode cX8_recorded 40 = .ok (.aload_n 0, 1) := by decide +kernel
theorem dX8_recorded_41 : decode cX8_recorded 41 = .ok (.getfield 7, 3) := by decide +kernel
theorem dX8_recorded_44 : decode cX8_recorded 44 = .ok (.bipush 114, 2) := by decide +kernel
theorem dX8_recorded_46 : decode cX8_recorded 46 = .ok (.bipush 12, 2) := by decide +kernel
theorem dX8_recorded_48 : decode cX8_recorded 48 = .ok (.iload 6, 2) := by decide +kernel
theorem dX8_recorded_50 : decode cX8_recorded 50 = .ok (.imul, 1) := by decide +kernel
theorem dX8_recorded_51 : decode cX8_recorded 51 = .ok (.iadd, 1) := by decide +kernel
theorem dX8_recorded_52 : decode cX8_recorded 52 = .ok (.iconst 2, 1) := by decide +kernel
theorem dX8_recorded_53 : decode cX8_recorded 53 = .ok (.iload_n 1, 1) := by decide +kernel
theorem dX8_recorded_54 : decode cX8_recorded 54 = .ok (.imul, 1) := by decide +kernel
theorem dX8_recorded_55 : decode cX8_recorded 55 = .ok (.iadd, 1) := by decide +kernel
theorem dX8_recorded_56 : decode cX8_recorded 56 = .ok (.iload_n 2, 1) := by decide +kernel
theorem dX8_recorded_57 : decode cX8_recorded 57 = .ok (.iadd, 1) := by decide +kernel
theorem dX8_recorded_58 : decode cX8_recorded 58 = .ok (.iaload, 1) := by decide +kernel
theorem dX8_recorded_59 : decode cX8_recorded 59 = .ok (.iadd, 1) := by decide +kernel
theorem dX8_recorded_60 : decode cX8_recorded 60 = .ok (.istore 5, 2) := by decide +kernel
theorem dX8_recorded_62 : decode cX8_recorded 62 = .ok (.iinc 6 (-1), 3) := by decide +kernel
theorem dX8_recorded_65 : decode cX8_recorded 65 = .ok (.goto (-49), 3) := by decide +kernel
theorem dX8_recorded_68 : decode cX8_recorded 68 = .ok (.iload 5, 2) := by decide +kernel
theorem dX8_recorded_70 : decode cX8_recorded 70 = .ok (.ireturn, 1) := by decide +kernel
def f_X8_recorded : MX := mth 7 (sQ (sTi 5 (eI (0))) (sQ (sQ (sTi 6 (eOp o_isub (eOp o_isub (eAi 0 (eGa (eLa 0) 8 0) (eI (7))) (eI (1))) (eLi 3))) (sLp (cAnd (cZ z_ge (eLi 6)) (cB c_ge (eLi 6) (eOp o_isub (eOp o_isub (eAi 0 (eGa (eLa 0) 8 0) (eI (7))) (eLi 3)) (eLi 4)))) (sQ (sTi 5 (eOp o_iadd (eLi 5) (eAi 0 (eGa (eLa 0) 8 0) (eOp o_iadd (eOp o_iadd (eOp o_iadd (eI (114)) (eOp o_imul (eI (12)) (eLi 6))) (eOp o_imul (eI (2)) (eLi 1))) (eLi 2))))) (sInc 6 (-1))) NF)) (sR (eLi 5))))
theorem Y_X8_recorded : Yk yX8_recorded cX8_recorded 7 (some .int) 4 := ⟨w1502, w16, by decide +kernel, by decide +kernel, by decide +kernel⟩
set_option maxRecDepth 20000 in
theorem k_X8_recorded (l : Launch) (g : GE) : MetX l g yX8_recorded cX8_recorded 7 (some .int) 5 ({ frames := 0, cells := 0, slots := 0, locals := 0 } : Room) f_X8_recorded := by
  unfold f_X8_recorded
  exact MetX.of (own := RX8) 100 0 rfl (by decide +kernel) (by decide) (fun p e s m args below meth c Fin ad0 hr hn => ⟨_, _, Sv_seq (Sv_istore (Ev_iconst dX8_recorded_0 (by decide)) dX8_recorded_1 (Nat.le_of_ble_eq_true rfl) (Nat.ne_of_beq_eq_false rfl)) (Sv_seq (Sv_seq (Sv_istore (Ev_isub (Ev_isub (Ev_iaload (Ev_getA Fx8 (Ev_aload_n dX8_recorded_3 rfl) (k := 0) (by decide) w1143 dX8_recorded_4) (Ev_bipush dX8_recorded_7 (by decide)) dX8_recorded_9) (Ev_iconst dX8_recorded_10 (by decide)) dX8_recorded_11) (Ev_iload_n dX8_recorded_12 rfl) dX8_recorded_13) dX8_recorded_14 (Nat.le_of_ble_eq_true rfl) (Nat.ne_of_beq_eq_false rfl)) (Sv_loop0 NF (Cv_and (Cv_if_lt_n (Ev_iload dX8_recorded_16) (t := 68) dX8_recorded_18 (by decide)) (Cv_icmp_lt_n (Ev_iload dX8_recorded_21) (Ev_isub (Ev_isub (Ev_iaload (Ev_getA Fx8 (Ev_aload_n dX8_recorded_23 rfl) (k := 0) (by decide) w1143 dX8_recorded_24) (Ev_bipush dX8_recorded_27 (by decide)) dX8_recorded_29) (Ev_iload_n dX8_recorded_30 rfl) dX8_recorded_31) (Ev_iload dX8_recorded_32) dX8_recorded_34) (t := 68) dX8_recorded_35 (by decide))) (Sv_goto (pE := 16) (Sv_seq (Sv_istore (Ev_iadd (Ev_iload dX8_recorded_38) (Ev_iaload (Ev_getA Fx8 (Ev_aload_n dX8_recorded_40 rfl) (k := 0) (by decide) w1143 dX8_recorded_41) (Ev_iadd (Ev_iadd (Ev_iadd (Ev_bipush dX8_recorded_44 (by decide)) (Ev_imul (Ev_bipush dX8_recorded_46 (by decide)) (Ev_iload dX8_recorded_48) dX8_recorded_50) dX8_recorded_51) (Ev_imul (Ev_iconst dX8_recorded_52 (by decide)) (Ev_iload_n dX8_recorded_53 rfl) dX8_recorded_54) dX8_recorded_55) (Ev_iload_n dX8_recorded_56 rfl) dX8_recorded_57) dX8_recorded_58) dX8_recorded_59) dX8_recorded_60 (Nat.le_of_ble_eq_true rfl) (Nat.ne_of_beq_eq_false rfl)) (Sv_iinc dX8_recorded_62 (by decide) (Nat.le_of_ble_eq_true rfl) (Nat.ne_of_beq_eq_false rfl))) dX8_recorded_65 (by decide)))) (Sv_ret (Ev_iload dX8_recorded_68) hr dX8_recorded_70)), Nat.le_of_ble_eq_true rfl, Nat.le_of_ble_eq_true rfl⟩)
theorem dX8_recent_0 : decode cX8_recent 0 = .ok (.iload_n 1, 1) := by decide +kernel
theorem dX8_recent_1 : decode cX8_recent 1 = .ok (.invokestatic 101, 3) := by decide +kernel
theorem dX8_recent_4 : decode cX8_recent 4 = .ok (.ifCond .ne 9, 3) := by decide +kernel
theorem dX8_recent_7 : decode cX8_recent 7 = .ok (.aload_n 0, 1) := by decide +kernel
theorem dX8_recent_8 : decode cX8_recent 8 = .ok (.iconst 1, 1) := by decide +kernel
theorem dX8_recent_9 : decode cX8_recent 9 = .ok (.invokevirtual 89, 3) := by decide +kernel
theorem dX8_recent_12 : decode cX8_recent 12 = .ok (.ireturn, 1) := by decide +kernel
theorem dX8_recent_13 : decode cX8_recent 13 = .ok (.iload_n 2, 1) := by decide +kernel
theorem dX8_recent_14 : decode cX8_recent 14 = .ok (.iconst 0, 1) := by decide +kernel
theorem dX8_recent_15 : decode cX8_recent 15 = .ok (.iconst 1, 1) := by decide +kernel
theorem dX8_recent_16 : decode cX8_recent 16 = .ok (.invokestatic 65, 3) := by decide +kernel
theorem dX8_recent_19 : decode cX8_recent 19 = .ok (.ifCond .eq 28, 3) := by decide +kernel
theorem dX8_recent_22 : decode cX8_recent 22 = .ok (.iload_n 3, 1) := by decide +kernel
theorem dX8_recent_23 : decode cX8_recent 23 = .ok (.iconst 1, 1) := by decide +kernel
theorem dX8_recent_24 : decode cX8_recent 24 = .ok (.bipush 64, 2) := by decide +kernel
theorem dX8_recent_26 : decode cX8_recent 26 = .ok (.invokestatic 65, 3) := by decide +kernel
theorem dX8_recent_29 : decode cX8_recent 29 = .ok (.ifCond .eq 18, 3) := by decide +kernel
theorem dX8_recent_32 : decode cX8_recent 32 = .ok (.aload_n 0, 1) := by decide +kernel
theorem dX8_recent_33 : decode cX8_recent 33 = .ok (.aload_n 0, 1) := by decide +kernel
theorem dX8_recent_34 : decode cX8_recent 34 = .ok (.iload_n 1, 1) := by decide +kernel
theorem dX8_recent_35 : decode cX8_recent 35 = .ok (.iload_n 2, 1) := by decide +kernel
theorem dX8_recent_36 : decode cX8_recent 36 = .ok (.iconst 0, 1) := by decide +kernel
theorem dX8_recent_37 : decode cX8_recent 37 = .ok (.iload_n 3, 1) := by decide +kernel
theorem dX8_recent_38 : decode cX8_recent 38 = .ok (.invokevirtual 232, 3) := by decide +kernel
theorem dX8_recent_41 : decode cX8_recent 41 = .ok (.invokevirtual 61, 3) := by decide +kernel
theorem dX8_recent_44 : decode cX8_recent 44 = .ok (.goto 8, 3) := by decide +kernel
theorem dX8_recent_47 : decode cX8_recent 47 = .ok (.aload_n 0, 1) := by decide +kernel
theorem dX8_recent_48 : decode cX8_recent 48 = .ok (.iconst 2, 1) := by decide +kernel
theorem dX8_recent_49 : decode cX8_recent 49 = .ok (.invokevirtual 89, 3) := by decide +kernel
theorem dX8_recent_52 : decode cX8_recent 52 = .ok (.ireturn, 1) := by decide +kernel
def f_X8_recent : MX := mth 4 (sQ (sIf (cNot (cZ z_ne (eM (f_X8_isBody) (aI (aN) (eLi 1))))) (sR (eM (gd 8 f_X8_fails) (aI (aA (aN) (eLa 0)) (eI (1))))) sN) (sR (eIf (cAnd (cZ z_ne (eM (f_X8_in) (aI (aI (aI (aN) (eLi 2)) (eI (0))) (eI (1))))) (cZ z_ne (eM (f_X8_in) (aI (aI (aI (aN) (eLi 3)) (eI (1))) (eI (64)))))) (eM (gd 8 f_X8_tells) (aI (aA (aN) (eLa 0)) (eM (gd 8 f_X8_recorded) (aI (aI (aI (aI (aA (aN) (eLa 0)) (eLi 1)) (eLi 2)) (eI (0))) (eLi 3))))) (eM (gd 8 f_X8_fails) (aI (aA (aN) (eLa 0)) (eI (2)))))))
theorem Y_X8_recent : Yk yX8_recent cX8_recent 4 (some .int) 3 := ⟨w1498, w16, by decide +kernel, by decide +kernel, by decide +kernel⟩
set_option maxRecDepth 20000 in
theorem k_X8_recent (l : Launch) (g : GE) : MetX l g yX8_recent cX8_recent 4 (some .int) 4 ({ frames := 2, cells := 0, slots := 0, locals := 42 } : Room) f_X8_recent := by
  unfold f_X8_recent
  exact MetX.of (own := RX8) 100 0 rfl (by decide +kernel) (by decide) (fun p e s m args below meth c Fin ad0 hr hn => ⟨_, _, Sv_seq (Sv_if (Cv_not (Cv_if_ne_j (Ev_call (Av_i (Av_nil) (Ev_iload_n dX8_recent_0 rfl)) (Rn_S Y_X8_isBody (k_X8_isBody _ _) w1240 w1241 dX8_recent_1 (Nat.le_of_ble_eq_true rfl) (Nat.le_of_ble_eq_true rfl) (Nat.le_of_ble_eq_true rfl) (Nat.ne_of_beq_eq_false rfl))) (t := 13) dX8_recent_4 (by decide))) (Sv_ret (Ev_call (Av_i (Av_a (Av_nil) (Ev_aload_n dX8_recent_7 rfl)) (Ev_iconst dX8_recent_8 (by decide))) (Rn_V (ci := 8) Fx8.1 rfl Y_X8_fails (k_X8_fails _ _) w1212 w1214 wp29 dX8_recent_9 (Nat.le_of_ble_eq_true rfl) (Nat.le_of_ble_eq_true rfl) (Nat.le_of_ble_eq_true rfl) (Nat.ne_of_beq_eq_false rfl))) hr dX8_recent_12) Sv_nop) (Sv_ret (Ev_if (pT := 52) (Cv_and (Cv_if_eq_n (Ev_call (Av_i (Av_i (Av_i (Av_nil) (Ev_iload_n dX8_recent_13 rfl)) (Ev_iconst dX8_recent_14 (by decide))) (Ev_iconst dX8_recent_15 (by decide))) (Rn_S Y_X8_in (k_X8_in _ _) w1209 w1210 dX8_recent_16 (Nat.le_of_ble_eq_true rfl) (Nat.le_of_ble_eq_true rfl) (Nat.le_of_ble_eq_true rfl) (Nat.ne_of_beq_eq_false rfl))) (t := 47) dX8_recent_19 (by decide)) (Cv_if_eq_n (Ev_call (Av_i (Av_i (Av_i (Av_nil) (Ev_iload_n dX8_recent_22 rfl)) (Ev_iconst dX8_recent_23 (by decide))) (Ev_bipush dX8_recent_24 (by decide))) (Rn_S Y_X8_in (k_X8_in _ _) w1209 w1210 dX8_recent_26 (Nat.le_of_ble_eq_true rfl) (Nat.le_of_ble_eq_true rfl) (Nat.le_of_ble_eq_true rfl) (Nat.ne_of_beq_eq_false rfl))) (t := 47) dX8_recent_29 (by decide))) (Ev_call (Av_i (Av_a (Av_nil) (Ev_aload_n dX8_recent_32 rfl)) (Ev_call (Av_i (Av_i (Av_i (Av_i (Av_a (Av_nil) (Ev_aload_n dX8_recent_33 rfl)) (Ev_iload_n dX8_recent_34 rfl)) (Ev_iload_n dX8_recent_35 rfl)) (Ev_iconst dX8_recent_36 (by decide))) (Ev_iload_n dX8_recent_37 rfl)) (Rn_V (ci := 8) Fx8.1 rfl Y_X8_recorded (k_X8_recorded _ _) w1499 w1501 wp66 dX8_recent_38 (Nat.le_of_ble_eq_true rfl) (Nat.le_of_ble_eq_true rfl) (Nat.le_of_ble_eq_true rfl) (Nat.ne_of_beq_eq_false rfl)))) (Rn_V (ci := 8) Fx8.1 rfl Y_X8_tells (k_X8_tells _ _) w1228 w1230 wp33 dX8_recent_41 (Nat.le_of_ble_eq_true rfl) (Nat.le_of_ble_eq_true rfl) (Nat.le_of_ble_eq_true rfl) (Nat.ne_of_beq_eq_false rfl))) dX8_recent_44 (by decide) (Ev_call (Av_i (Av_a (Av_nil) (Ev_aload_n dX8_recent_47 rfl)) (Ev_iconst dX8_recent_48 (by decide))) (Rn_V (ci := 8) Fx8.1 rfl Y_X8_fails (k_X8_fails _ _) w1212 w1214 wp29 dX8_recent_49 (Nat.le_of_ble_eq_true rfl) (Nat.le_of_ble_eq_true rfl) (Nat.le_of_ble_eq_true rfl) (Nat.ne_of_beq_eq_false rfl)))) hr dX8_recent_52), Nat.le_of_ble_eq_true rfl, Nat.le_of_ble_eq_true rfl⟩)
theorem dX8_isSteady_0 : decode cX8_isSteady 0 = .ok (.aload_n 0, 1) := by decide +kernel
theorem dX8_isSteady_1 : decode cX8_isSteady 1 = .ok (.getfield 7, 3) := by decide +kernel
theorem dX8_isSteady_4 : decode cX8_isSteady 4 = .ok (.bipush 7, 2) := by decide +kernel
theorem dX8_isSteady_6 : decode cX8_isSteady 6 = .ok (.iaload, 1) := by decide +kernel
theorem dX8_isSteady_7 : decode cX8_isSteady 7 = .ok (.iconst 2, 1) := by decide +kernel
theorem dX8_isSteady_8 : decode cX8_isSteady 8 = .ok (.iload_n 2, 1) := by decide +kernel
theorem dX8_isSteady_9 : decode cX8_isSteady 9 = .ok (.imul, 1) := by decide +kernel
theorem dX8_isSteady_10 : decode cX8_isSteady 10 = .ok (.if_icmp .lt 7, 3) := by decide +kernel
theorem dX8_isSteady_13 : decode cX8_isSteady 13 = .ok (.iconst 1, 1) := by decide +kernel
theorem dX8_isSteady_14 : decode cX8_isSteady 14 = .ok (.goto 4, 3) := by decide +kernel
theorem dX8_isSteady_17 : decode cX8_isSteady 17 = .ok (.iconst 0, 1) := by decide +kernel
theorem dX8_isSteady_18 : decode cX8_isSteady 18 = .ok (.istore 4, 2) := by decide +kernel
theorem dX8_isSteady_20 : decode cX8_isSteady 20 = .ok (.iconst 0, 1) := by decide +kernel
theorem dX8_isSteady_21 : decode cX8_isSteady 21 = .ok (.istore 5, 2) := by decide +kernel
theorem dX8_isSteady_23 : decode cX8_isSteady 23 = .ok (.iload 5, 2) := by decide +kernel
theorem dX8_isSteady_25 : decode cX8_isSteady 25 = .ok (.iconst 2, 1) := by decide +kernel
theorem dX8_isSteady_26 : decode cX8_isSteady 26 = .ok (.if_icmp .ge 53, 3) := by decide +kernel
theorem dX8_isSteady_29 : decode cX8_isSteady 29 = .ok (.aload_n 0, 1) := by decide +kernel
theorem dX8_isSteady_30 : decode cX8_isSteady 30 = .ok (.iload_n 1, 1) := by decide +kernel
theorem dX8_isSteady_31 : decode cX8_isSteady 31 = .ok (.iload 5, 2) := by decide +kernel
theorem dX8_isSteady_33 : decode cX8_isSteady 33 = .ok (.iconst 0, 1) := by decide +kernel
theorem dX8_isSteady_34 : decode cX8_isSteady 34 = .ok (.iload_n 2, 1) := by decide +kernel
theorem dX8_isSteady_35 : decode cX8_isSteady 35 = .ok (.invokevirtual 232, 3) := by decide +kernel
theorem dX8_isSteady_38 : decode cX8_isSteady 38 = .ok (.aload_n 0, 1) := by decide +kernel
theorem dX8_isSteady_39 : decode cX8_isSteady 39 = .ok (.iload_n 1, 1) := by decide +kernel
theorem dX8_isSteady_40 : decode cX8_isSteady 40 = .ok (.iload 5, 2) := by decide +kernel
theorem dX8_isSteady_42 : decode cX8_isSteady 42 = .ok (.iload_n 2, 1) := by decide +kernel
theorem dX8_isSteady_43 : decode cX8_isSteady 43 = .ok (.iload_n 2, 1) := by decide +kernel
theorem dX8_isSteady_44 : decode cX8_isSteady 44 = .ok (.invokevirtual 232, 3) := by decide +kernel
theorem dX8_isSteady_47 : decode cX8_isSteady 47 = .ok (.isub, 1) := by decide +kernel
theorem dX8_isSteady_48 : decode cX8_isSteady 48 = .ok (.istore 6, 2) := by decide +kernel
theorem dX8_isSteady_50 : decode cX8_isSteady 50 = .ok (.iload 4, 2) := by decide +kernel
theorem dX8_isSteady_52 : decode cX8_isSteady 52 = .ok (.ifCond .eq 18, 3) := by decide +kernel
theorem dX8_isSteady_55 : decode cX8_isSteady 55 = .ok (.iload 6, 2) := by decide +kernel
theorem dX8_isSteady_57 : decode cX8_isSteady 57 = .ok (.iload_n 3, 1) := by decide +kernel
theorem dX8_isSteady_58 : decode cX8_isSteady 58 = .ok (.ineg, 1) := by decide +kernel
theorem dX8_isSteady_59 : decode cX8_isSteady 59 = .ok (.iload_n 3, 1) := by decide +kernel
theorem dX8_isSteady_60 : decode cX8_isSteady 60 = .ok (.invokestatic 65, 3) := by decide +kernel
theorem dX8_isSteady_63 : decode cX8_isSteady 63 = .ok (.ifCond .eq 7, 3) := by decide +kernel
theorem dX8_isSteady_66 : decode cX8_isSteady 66 = .ok (.iconst 1, 1) := by decide +kernel
theorem dX8_isSteady_67 : decode cX8_isSteady 67 = .ok (.goto 4, 3) := by decide +kernel
theorem dX8_isSteady_70 : decode cX8_isSteady 70 = .ok (.iconst 0, 1) := by decide +kernel
theorem dX8_isSteady_71 : decode cX8_isSteady 71 = .ok (.istore 4, 2) := by decide +kernel
theorem dX8_isSteady_73 : decode cX8_isSteady 73 = .ok (.iinc 5 1, 3) := by decide +kernel
theorem dX8_isSteady_76 : decode cX8_isSteady 76 = .ok (.goto (-53), 3) := by decide +kernel
theorem dX8_isSteady_79 : decode cX8_isSteady 79 = .ok (.iload 4, 2) := by decide +kernel
theorem dX8_isSteady_81 : decode cX8_isSteady 81 = .ok (.ireturn, 1) := by decide +kernel
def f_X8_isSteady : MX := mth 7 (sQ (sTi 4 (eC (cB c_ge (eAi 0 (eGa (eLa 0) 8 0) (eI (7))) (eOp o_imul (eI (2)) (eLi 2))))) (sQ (sQ (sTi 5 (eI (0))) (sLp (cB c_lt (eLi 5) (eI (2))) (sQ (sQ (sTi 6 (eOp o_isub (eM (gd 8 f_X8_recorded) (aI (aI (aI (aI (aA (aN) (eLa 0)) (eLi 1)) (eLi 5)) (eI (0))) (eLi 2))) (eM (gd 8 f_X8_recorded) (aI (aI (aI (aI (aA (aN) (eLa 0)) (eLi 1)) (eLi 5)) (eLi 2)) (eLi 2))))) (sTi 4 (eC (cAnd (cZ z_ne (eLi 4)) (cZ z_ne (eM (f_X8_in) (aI (aI (aI (aN) (eLi 6)) (eU o_ineg (eLi 3))) (eLi 3)))))))) (sInc 5 (1))) NF)) (sRz (eLi 4))))
theorem Y_X8_isSteady : Yk yX8_isSteady cX8_isSteady 7 (some .boolean) 3 := ⟨w1510, w16, by decide +kernel, by decide +kernel, by decide +kernel⟩
set_option maxRecDepth 20000 in
theorem k_X8_isSteady (l : Launch) (g : GE) : MetX l g yX8_isSteady cX8_isSteady 7 (some .boolean) 4 ({ frames := 1, cells := 0, slots := 0, locals := 26 } : Room) f_X8_isSteady := by
  unfold f_X8_isSteady
  exact MetX.of (own := RX8) 100 0 rfl (by decide +kernel) (by decide) (fun p e s m args below meth c Fin ad0 hr hn => ⟨_, _, Sv_seq (Sv_istore (Ev_if (pT := 18) (Cv_icmp_lt_n (Ev_iaload (Ev_getA Fx8 (Ev_aload_n dX8_isSteady_0 rfl) (k := 0) (by decide) w1143 dX8_isSteady_1) (Ev_bipush dX8_isSteady_4 (by decide)) dX8_isSteady_6) (Ev_imul (Ev_iconst dX8_isSteady_7 (by decide)) (Ev_iload_n dX8_isSteady_8 rfl) dX8_isSteady_9) (t := 17) dX8_isSteady_10 (by decide)) (Ev_iconst dX8_isSteady_13 (by decide)) dX8_isSteady_14 (by decide) (Ev_iconst dX8_isSteady_17 (by decide))) dX8_isSteady_18 (Nat.le_of_ble_eq_true rfl) (Nat.ne_of_beq_eq_false rfl)) (Sv_seq (Sv_seq (Sv_istore (Ev_iconst dX8_isSteady_20 (by decide)) dX8_isSteady_21 (Nat.le_of_ble_eq_true rfl) (Nat.ne_of_beq_eq_false rfl)) (Sv_loop0 NF (Cv_icmp_ge_n (Ev_iload dX8_isSteady_23) (Ev_iconst dX8_isSteady_25 (by decide)) (t := 79) dX8_isSteady_26 (by decide)) (Sv_goto (pE := 23) (Sv_seq (Sv_seq (Sv_istore (Ev_isub (Ev_call (Av_i (Av_i (Av_i (Av_i (Av_a (Av_nil) (Ev_aload_n dX8_isSteady_29 rfl)) (Ev_iload_n dX8_isSteady_30 rfl)) (Ev_iload dX8_isSteady_31)) (Ev_iconst dX8_isSteady_33 (by decide))) (Ev_iload_n dX8_isSteady_34 rfl)) (Rn_V (ci := 8) Fx8.1 rfl Y_X8_recorded (k_X8_recorded _ _) w1499 w1501 wp66 dX8_isSteady_35 (Nat.le_of_ble_eq_true rfl) (Nat.le_of_ble_eq_true rfl) (Nat.le_of_ble_eq_true rfl) (Nat.ne_of_beq_eq_false rfl))) (Ev_call (Av_i (Av_i (Av_i (Av_i (Av_a (Av_nil) (Ev_aload_n dX8_isSteady_38 rfl)) (Ev_iload_n dX8_isSteady_39 rfl)) (Ev_iload dX8_isSteady_40)) (Ev_iload_n dX8_isSteady_42 rfl)) (Ev_iload_n dX8_isSteady_43 rfl)) (Rn_V (ci := 8) Fx8.1 rfl Y_X8_recorded (k_X8_recorded _ _) w1499 w1501 wp66 dX8_isSteady_44 (Nat.le_of_ble_eq_true rfl) (Nat.le_of_ble_eq_true rfl) (Nat.le_of_ble_eq_true rfl) (Nat.ne_of_beq_eq_false rfl))) dX8_isSteady_47) dX8_isSteady_48 (Nat.le_of_ble_eq_true rfl) (Nat.ne_of_beq_eq_false rfl)) (Sv_istore (Ev_if (pT := 71) (Cv_and (Cv_if_eq_n (Ev_iload dX8_isSteady_50) (t := 70) dX8_isSteady_52 (by decide)) (Cv_if_eq_n (Ev_call (Av_i (Av_i (Av_i (Av_nil) (Ev_iload dX8_isSteady_55)) (Ev_ineg (Ev_iload_n dX8_isSteady_57 rfl) dX8_isSteady_58)) (Ev_iload_n dX8_isSteady_59 rfl)) (Rn_S Y_X8_in (k_X8_in _ _) w1209 w1210 dX8_isSteady_60 (Nat.le_of_ble_eq_true rfl) (Nat.le_of_ble_eq_true rfl) (Nat.le_of_ble_eq_true rfl) (Nat.ne_of_beq_eq_false rfl))) (t := 70) dX8_isSteady_63 (by decide))) (Ev_iconst dX8_isSteady_66 (by decide)) dX8_isSteady_67 (by decide) (Ev_iconst dX8_isSteady_70 (by decide))) dX8_isSteady_71 (Nat.le_of_ble_eq_true rfl) (Nat.ne_of_beq_eq_false rfl))) (Sv_iinc dX8_isSteady_73 (by decide) (Nat.le_of_ble_eq_true rfl) (Nat.ne_of_beq_eq_false rfl))) dX8_isSteady_76 (by decide)))) (Sv_retz (Ev_iload dX8_isSteady_79) hr dX8_isSteady_81)), Nat.le_of_ble_eq_true rfl, Nat.le_of_ble_eq_true rfl⟩)
theorem dX8_steady_0 : decode cX8_steady 0 = .ok (.aload_n 0, 1) := by decide +kernel
theorem dX8_steady_1 : decode cX8_steady 1 = .ok (.iload_n 1, 1) := by decide +kernel
theorem dX8_steady_2 : decode cX8_steady 2 = .ok (.invokestatic 101, 3) := by decide +kernel
theorem dX8_steady_5 : decode cX8_steady 5 = .ok (.ifCond .ne 7, 3) := by decide +kernel
theorem dX8_steady_8 : decode cX8_steady 8 = .ok (.iconst 1, 1) := by decide +kernel
theorem dX8_steady_9 : decode cX8_steady 9 = .ok (.goto 29, 3) := by decide +kernel
theorem dX8_steady_12 : decode cX8_steady 12 = .ok (.iload_n 2, 1) := by decide +kernel
theorem dX8_steady_13 : decode cX8_steady 13 = .ok (.iconst 1, 1) := by decide +kernel
theorem dX8_steady_14 : decode cX8_steady 14 = .ok (.bipush 32, 2) := by decide +kernel
theorem dX8_steady_16 : decode cX8_steady 16 = .ok (.invokestatic 65, 3) := by decide +kernel
theorem dX8_steady_19 : decode cX8_steady 19 = .ok (.ifCond .eq 18, 3) := by decide +kernel
theorem dX8_steady_22 : decode cX8_steady 22 = .ok (.iload_n 3, 1) := by decide +kernel
theorem dX8_steady_23 : decode cX8_steady 23 = .ok (.iconst 0, 1) := by decide +kernel
theorem dX8_steady_24 : decode cX8_steady 24 = .ok (.sipush 1000, 3) := by decide +kernel
theorem dX8_steady_27 : decode cX8_steady 27 = .ok (.invokestatic 65, 3) := by decide +kernel
theorem dX8_steady_30 : decode cX8_steady 30 = .ok (.ifCond .eq 7, 3) := by decide +kernel
theorem dX8_steady_33 : decode cX8_steady 33 = .ok (.iconst 0, 1) := by decide +kernel
theorem dX8_steady_34 : decode cX8_steady 34 = .ok (.goto 4, 3) := by decide +kernel
theorem dX8_steady_37 : decode cX8_steady 37 = .ok (.iconst 2, 1) := by decide +kernel
theorem dX8_steady_38 : decode cX8_steady 38 = .ok (.putfield 54, 3) := by decide +kernel
theorem dX8_steady_41 : decode cX8_steady 41 = .ok (.aload_n 0, 1) := by decide +kernel
theorem dX8_steady_42 : decode cX8_steady 42 = .ok (.getfield 54, 3) := by decide +kernel
theorem dX8_steady_45 : decode cX8_steady 45 = .ok (.ifCond .ne 17, 3) := by decide +kernel
theorem dX8_steady_48 : decode cX8_steady 48 = .ok (.aload_n 0, 1) := by decide +kernel
theorem dX8_steady_49 : decode cX8_steady 49 = .ok (.iload_n 1, 1) := by decide +kernel
theorem dX8_steady_50 : decode cX8_steady 50 = .ok (.iload_n 2, 1) := by decide +kernel
theorem dX8_steady_51 : decode cX8_steady 51 = .ok (.iload_n 3, 1) := by decide +kernel
theorem dX8_steady_52 : decode cX8_steady 52 = .ok (.invokevirtual 236, 3) := by decide +kernel
theorem dX8_steady_55 : decode cX8_steady 55 = .ok (.ifCond .eq 7, 3) := by decide +kernel
theorem dX8_steady_58 : decode cX8_steady 58 = .ok (.iconst 1, 1) := by decide +kernel
theorem dX8_steady_59 : decode cX8_steady 59 = .ok (.goto 4, 3) := by decide +kernel
theorem dX8_steady_62 : decode cX8_steady 62 = .ok (.iconst 0, 1) := by decide +kernel
theorem dX8_steady_63 : decode cX8_steady 63 = .ok (.ireturn, 1) := by decide +kernel
def f_X8_steady : MX := mth 4 (sQ (sPi (eLa 0) 8 10 (eIf (cNot (cZ z_ne (eM (f_X8_isBody) (aI (aN) (eLi 1))))) (eI (1)) (eIf (cAnd (cZ z_ne (eM (f_X8_in) (aI (aI (aI (aN) (eLi 2)) (eI (1))) (eI (32))))) (cZ z_ne (eM (f_X8_in) (aI (aI (aI (aN) (eLi 3)) (eI (0))) (eI (1000)))))) (eI (0)) (eI (2))))) (sRz (eC (cAnd (cZ z_eq (eGi (eLa 0) 8 10)) (cZ z_ne (eM (gd 8 f_X8_isSteady) (aI (aI (aI (aA (aN) (eLa 0)) (eLi 1)) (eLi 2)) (eLi 3))))))))
theorem Y_X8_steady : Yk yX8_steady cX8_steady 4 (some .boolean) 3 := ⟨w1506, w16, by decide +kernel, by decide +kernel, by decide +kernel⟩
set_option maxRecDepth 20000 in
theorem k_X8_steady (l : Launch) (g : GE) : MetX l g yX8_steady cX8_steady 4 (some .boolean) 4 ({ frames := 2, cells := 0, slots := 0, locals := 52 } : Room) f_X8_steady := by
  unfold f_X8_steady
  exact MetX.of (own := RX8) 100 0 rfl (by decide +kernel) (by decide) (fun p e s m args below meth c Fin ad0 hr hn => ⟨_, _, Sv_seq (Sv_putI Fx8 (Ev_aload_n dX8_steady_0 rfl) (Ev_if (pT := 38) (Cv_not (Cv_if_ne_j (Ev_call (Av_i (Av_nil) (Ev_iload_n dX8_steady_1 rfl)) (Rn_S Y_X8_isBody (k_X8_isBody _ _) w1240 w1241 dX8_steady_2 (Nat.le_of_ble_eq_true rfl) (Nat.le_of_ble_eq_true rfl) (Nat.le_of_ble_eq_true rfl) (Nat.ne_of_beq_eq_false rfl))) (t := 12) dX8_steady_5 (by decide))) (Ev_iconst dX8_steady_8 (by decide)) dX8_steady_9 (by decide) (Ev_if (pT := 38) (Cv_and (Cv_if_eq_n (Ev_call (Av_i (Av_i (Av_i (Av_nil) (Ev_iload_n dX8_steady_12 rfl)) (Ev_iconst dX8_steady_13 (by decide))) (Ev_bipush dX8_steady_14 (by decide))) (Rn_S Y_X8_in (k_X8_in _ _) w1209 w1210 dX8_steady_16 (Nat.le_of_ble_eq_true rfl) (Nat.le_of_ble_eq_true rfl) (Nat.le_of_ble_eq_true rfl) (Nat.ne_of_beq_eq_false rfl))) (t := 37) dX8_steady_19 (by decide)) (Cv_if_eq_n (Ev_call (Av_i (Av_i (Av_i (Av_nil) (Ev_iload_n dX8_steady_22 rfl)) (Ev_iconst dX8_steady_23 (by decide))) (Ev_sipush dX8_steady_24 (by decide))) (Rn_S Y_X8_in (k_X8_in _ _) w1209 w1210 dX8_steady_27 (Nat.le_of_ble_eq_true rfl) (Nat.le_of_ble_eq_true rfl) (Nat.le_of_ble_eq_true rfl) (Nat.ne_of_beq_eq_false rfl))) (t := 37) dX8_steady_30 (by decide))) (Ev_iconst dX8_steady_33 (by decide)) dX8_steady_34 (by decide) (Ev_iconst dX8_steady_37 (by decide)))) (k := 10) (by decide) rfl rfl w1153 dX8_steady_38) (Sv_retz (Ev_if (pT := 63) (Cv_and (Cv_if_ne_n (Ev_getI Fx8 (Ev_aload_n dX8_steady_41 rfl) (k := 10) (by decide) w1153 dX8_steady_42) (t := 62) dX8_steady_45 (by decide)) (Cv_if_eq_n (Ev_call (Av_i (Av_i (Av_i (Av_a (Av_nil) (Ev_aload_n dX8_steady_48 rfl)) (Ev_iload_n dX8_steady_49 rfl)) (Ev_iload_n dX8_steady_50 rfl)) (Ev_iload_n dX8_steady_51 rfl)) (Rn_V (ci := 8) Fx8.1 rfl Y_X8_isSteady (k_X8_isSteady _ _) w1507 w1509 wp67 dX8_steady_52 (Nat.le_of_ble_eq_true rfl) (Nat.le_of_ble_eq_true rfl) (Nat.le_of_ble_eq_true rfl) (Nat.ne_of_beq_eq_false rfl))) (t := 62) dX8_steady_55 (by decide))) (Ev_iconst dX8_steady_58 (by decide)) dX8_steady_59 (by decide) (Ev_iconst dX8_steady_62 (by decide))) hr dX8_steady_63), Nat.le_of_ble_eq_true rfl, Nat.le_of_ble_eq_true rfl⟩)
theorem dX8_particles_0 : decode cX8_particles 0 = .ok (.iload_n 1, 1) := by decide +kernel
theorem dX8_particles_1 : decode cX8_particles 1 = .ok (.iconst 0, 1) := by decide +kernel
theorem dX8_particles_2 : decode cX8_particles 2 = .ok (.iconst 4, 1) := by decide +kernel
theorem dX8_particles_3 : decode cX8_particles 3 = .ok (.invokestatic 65, 3) := by decide +kernel
theorem dX8_particles_6 : decode cX8_particles 6 = .ok (.ifCond .ne 9, 3) := by decide +kernel
theorem dX8_particles_9 : decode cX8_particles 9 = .ok (.aload_n 0, 1) := by decide +kernel
theorem dX8_particles_10 : decode cX8_particles 10 = .ok (.iconst 1, 1) := by decide +kernel
theorem dX8_particles_11 : decode cX8_particles 11 = .ok (.invokevirtual 89, 3) := by decide +kernel
theorem dX8_particles_14 : decode cX8_particles 14 = .ok (.ireturn, 1) := by decide +kernel
theorem dX8_particles_15 : decode cX8_particles 15 = .ok (.aload_n 0, 1) := by decide +kernel
theorem dX8_particles_16 : decode cX8_particles 16 = .ok (.iload_n 1, 1) := by decide +kernel
theorem dX8_particles_17 : decode cX8_particles 17 = .ok (.iconst 4, 1) := by decide +kernel
theorem dX8_particles_18 : decode cX8_particles 18 = .ok (.if_icmp .ge 15, 3) := by decide +kernel
theorem dX8_particles_21 : decode cX8_particles 21 = .ok (.aload_n 0, 1) := by decide +kernel
theorem dX8_particles_22 : decode cX8_particles 22 = .ok (.getfield 7, 3) := by decide +kernel
theorem dX8_particles_25 : decode cX8_particles 25 = .ok (.bipush 8, 2) := by decide +kernel
theorem dX8_particles_27 : decode cX8_particles 27 = .ok (.iload_n 1, 1) := by decide +kernel
theorem dX8_particles_28 : decode cX8_particles 28 = .ok (.iadd, 1) := by decide +kernel
theorem dX8_particles_29 : decode cX8_particles 29 = .ok (.iaload, 1) := by decide +kernel
theorem dX8_particles_30 : decode cX8_particles 30 = .ok (.goto 26, 3) := by decide +kernel
theorem dX8_particles_33 : decode cX8_particles 33 = .ok (.aload_n 0, 1) := by decide +kernel
theorem dX8_particles_34 : decode cX8_particles 34 = .ok (.iconst (-1), 1) := by decide +kernel
theorem dX8_particles_35 : decode cX8_particles 35 = .ok (.iconst 0, 1) := by decide +kernel
theorem dX8_particles_36 : decode cX8_particles 36 = .ok (.iconst 0, 1) := by decide +kernel
theorem dX8_particles_37 : decode cX8_particles 37 = .ok (.aload_n 0, 1) := by decide +kernel
theorem dX8_particles_38 : decode cX8_particles 38 = .ok (.getfield 7, 3) := by decide +kernel
theorem dX8_particles_41 : decode cX8_particles 41 = .ok (.iconst 0, 1) := by decide +kernel
theorem dX8_particles_42 : decode cX8_particles 42 = .ok (.iaload, 1) := by decide +kernel
theorem dX8_particles_43 : decode cX8_particles 43 = .ok (.iconst 1, 1) := by decide +kernel
theorem dX8_particles_44 : decode cX8_particles 44 = .ok (.isub, 1) := by decide +kernel
theorem dX8_particles_45 : decode cX8_particles 45 = .ok (.aload_n 0, 1) := by decide +kernel
theorem dX8_particles_46 : decode cX8_particles 46 = .ok (.getfield 7, 3) := by decide +kernel
theorem dX8_particles_49 : decode cX8_particles 49 = .ok (.iconst 1, 1) := by decide +kernel
theorem dX8_particles_50 : decode cX8_particles 50 = .ok (.iaload, 1) := by decide +kernel
theorem dX8_particles_51 : decode cX8_particles 51 = .ok (.iconst 1, 1) := by decide +kernel
theorem dX8_particles_52 : decode cX8_particles 52 = .ok (.isub, 1) := by decide +kernel
theorem dX8_particles_53 : decode cX8_particles 53 = .ok (.invokevirtual 228, 3) := by decide +kernel
theorem dX8_particles_56 : decode cX8_particles 56 = .ok (.invokevirtual 61, 3) := by decide +kernel
theorem dX8_particles_59 : decode cX8_particles 59 = .ok (.ireturn, 1) := by decide +kernel
def f_X8_particles : MX := mth 2 (sQ (sIf (cNot (cZ z_ne (eM (f_X8_in) (aI (aI (aI (aN) (eLi 1)) (eI (0))) (eI (4)))))) (sR (eM (gd 8 f_X8_fails) (aI (aA (aN) (eLa 0)) (eI (1))))) sN) (sR (eM (gd 8 f_X8_tells) (aI (aA (aN) (eLa 0)) (eIf (cB c_lt (eLi 1) (eI (4))) (eAi 0 (eGa (eLa 0) 8 0) (eOp o_iadd (eI (8)) (eLi 1))) (eM (gd 8 f_X8_sumOf) (aI (aI (aI (aI (aI (aA (aN) (eLa 0)) (eI (-1))) (eI (0))) (eI (0))) (eOp o_isub (eAi 0 (eGa (eLa 0) 8 0) (eI (0))) (eI (1)))) (eOp o_isub (eAi 0 (eGa (eLa 0) 8 0) (eI (1))) (eI (1))))))))))
theorem Y_X8_particles : Yk yX8_particles cX8_particles 2 (some .int) 1 := ⟨w1514, w16, by decide +kernel, by decide +kernel, by decide +kernel⟩
set_option maxRecDepth 20000 in
theorem k_X8_particles (l : Launch) (g : GE) : MetX l g yX8_particles cX8_particles 2 (some .int) 2 ({ frames := 4, cells := 0, slots := 0, locals := 93 } : Room) f_X8_particles := by
  unfold f_X8_particles
  exact MetX.of (own := RX8) 100 0 rfl (by decide +kernel) (by decide) (fun p e s m args below meth c Fin ad0 hr hn => ⟨_, _, Sv_seq (Sv_if (Cv_not (Cv_if_ne_j (Ev_call (Av_i (Av_i (Av_i (Av_nil) (Ev_iload_n dX8_particles_0 rfl)) (Ev_iconst dX8_particles_1 (by decide))) (Ev_iconst dX8_particles_2 (by decide))) (Rn_S Y_X8_in (k_X8_in _ _) w1209 w1210 dX8_particles_3 (Nat.le_of_ble_eq_true rfl) (Nat.le_of_ble_eq_true rfl) (Nat.le_of_ble_eq_true rfl) (Nat.ne_of_beq_eq_false rfl))) (t := 15) dX8_particles_6 (by decide))) (Sv_ret (Ev_call (Av_i (Av_a (Av_nil) (Ev_aload_n dX8_particles_9 rfl)) (Ev_iconst dX8_particles_10 (by decide))) (Rn_V (ci := 8) Fx8.1 rfl Y_X8_fails (k_X8_fails _ _) w1212 w1214 wp29 dX8_particles_11 (Nat.le_of_ble_eq_true rfl) (Nat.le_of_ble_eq_true rfl) (Nat.le_of_ble_eq_true rfl) (Nat.ne_of_beq_eq_false rfl))) hr dX8_particles_14) Sv_nop) (Sv_ret (Ev_call (Av_i (Av_a (Av_nil) (Ev_aload_n dX8_particles_15 rfl)) (Ev_if (pT := 56) (Cv_icmp_ge_n (Ev_iload_n dX8_particles_16 rfl) (Ev_iconst dX8_particles_17 (by decide)) (t := 33) dX8_particles_18 (by decide)) (Ev_iaload (Ev_getA Fx8 (Ev_aload_n dX8_particles_21 rfl) (k := 0) (by decide) w1143 dX8_particles_22) (Ev_iadd (Ev_bipush dX8_particles_25 (by decide)) (Ev_iload_n dX8_particles_27 rfl) dX8_particles_28) dX8_particles_29) dX8_particles_30 (by decide) (Ev_call (Av_i (Av_i (Av_i (Av_i (Av_i (Av_a (Av_nil) (Ev_aload_n dX8_particles_33 rfl)) (Ev_iconst dX8_particles_34 (by decide))) (Ev_iconst dX8_particles_35 (by decide))) (Ev_iconst dX8_particles_36 (by decide))) (Ev_isub (Ev_iaload (Ev_getA Fx8 (Ev_aload_n dX8_particles_37 rfl) (k := 0) (by decide) w1143 dX8_particles_38) (Ev_iconst dX8_particles_41 (by decide)) dX8_particles_42) (Ev_iconst dX8_particles_43 (by decide)) dX8_particles_44)) (Ev_isub (Ev_iaload (Ev_getA Fx8 (Ev_aload_n dX8_particles_45 rfl) (k := 0) (by decide) w1143 dX8_particles_46) (Ev_iconst dX8_particles_49 (by decide)) dX8_particles_50) (Ev_iconst dX8_particles_51 (by decide)) dX8_particles_52)) (Rn_V (ci := 8) Fx8.1 rfl Y_X8_sumOf (k_X8_sumOf _ _) w1471 w1473 wp65 dX8_particles_53 (Nat.le_of_ble_eq_true rfl) (Nat.le_of_ble_eq_true rfl) (Nat.le_of_ble_eq_true rfl) (Nat.ne_of_beq_eq_false rfl))))) (Rn_V (ci := 8) Fx8.1 rfl Y_X8_tells (k_X8_tells _ _) w1228 w1230 wp33 dX8_particles_56 (Nat.le_of_ble_eq_true rfl) (Nat.le_of_ble_eq_true rfl) (Nat.le_of_ble_eq_true rfl) (Nat.ne_of_beq_eq_false rfl))) hr dX8_particles_59), Nat.le_of_ble_eq_true rfl, Nat.le_of_ble_eq_true rfl⟩)
theorem dX8_momentum_0 : decode cX8_momentum 0 = .ok (.iload_n 1, 1) := by decide +kernel
theorem dX8_momentum_1 : decode cX8_momentum 1 = .ok (.iconst 0, 1) := by decide +kernel
theorem dX8_momentum_2 : decode cX8_momentum 2 = .ok (.iconst 1, 1) := by decide +kernel
theorem dX8_momentum_3 : decode cX8_momentum 3 = .ok (.invokestatic 65, 3) := by decide +kernel
theorem dX8_momentum_6 : decode cX8_momentum 6 = .ok (.ifCond .eq 12, 3) := by decide +kernel
theorem dX8_momentum_9 : decode cX8_momentum 9 = .ok (.iload_n 2, 1) := by decide +kernel
theorem dX8_momentum_10 : decode cX8_momentum 10 = .ok (.iconst 0, 1) := by decide +kernel
theorem dX8_momentum_11 : decode cX8_momentum 11 = .ok (.iconst 5, 1) := by decide +kernel
theorem dX8_momentum_12 : decode cX8_momentum 12 = .ok (.invokestatic 65, 3) := by decide +kernel
theorem dX8_momentum_15 : decode cX8_momentum 15 = .ok (.ifCond .ne 9, 3) := by decide +kernel
theorem dX8_momentum_18 : decode cX8_momentum 18 = .ok (.aload_n 0, 1) := by decide +kernel
theorem dX8_momentum_19 : decode cX8_momentum 19 = .ok (.iconst 1, 1) := by decide +kernel
theorem dX8_momentum_20 : decode cX8_momentum 20 = .ok (.invokevirtual 89, 3) := by decide +kernel
theorem dX8_momentum_23 : decode cX8_momentum 23 = .ok (.ireturn, 1) := by decide +kernel
theorem dX8_momentum_24 : decode cX8_momentum 24 = .ok (.aload_n 0, 1) := by decide +kernel
theorem dX8_momentum_25 : decode cX8_momentum 25 = .ok (.iload_n 2, 1) := by decide +kernel
theorem dX8_momentum_26 : decode cX8_momentum 26 = .ok (.iconst 5, 1) := by decide +kernel
theorem dX8_momentum_27 : decode cX8_momentum 27 = .ok (.if_icmp .ge 19, 3) := by decide +kernel
theorem dX8_momentum_30 : decode cX8_momentum 30 = .ok (.aload_n 0, 1) := by decide +kernel
theorem dX8_momentum_31 : decode cX8_momentum 31 = .ok (.getfield 7, 3) := by decide +kernel
theorem dX8_momentum_34 : decode cX8_momentum 34 = .ok (.bipush 12, 2) := by decide +kernel
theorem dX8_momentum_36 : decode cX8_momentum 36 = .ok (.iconst 5, 1) := by decide +kernel
theorem dX8_momentum_37 : decode cX8_momentum 37 = .ok (.iload_n 1, 1) := by decide +kernel
theorem dX8_momentum_38 : decode cX8_momentum 38 = .ok (.imul, 1) := by decide +kernel
theorem dX8_momentum_39 : decode cX8_momentum 39 = .ok (.iadd, 1) := by decide +kernel
theorem dX8_momentum_40 : decode cX8_momentum 40 = .ok (.iload_n 2, 1) := by decide +kernel
theorem dX8_momentum_41 : decode cX8_momentum 41 = .ok (.iadd, 1) := by decide +kernel
theorem dX8_momentum_42 : decode cX8_momentum 42 = .ok (.iaload, 1) := by decide +kernel
theorem dX8_momentum_43 : decode cX8_momentum 43 = .ok (.goto 26, 3) := by decide +kernel
theorem dX8_momentum_46 : decode cX8_momentum 46 = .ok (.aload_n 0, 1) := by decide +kernel
theorem dX8_momentum_47 : decode cX8_momentum 47 = .ok (.iload_n 1, 1) := by decide +kernel
theorem dX8_momentum_48 : decode cX8_momentum 48 = .ok (.iconst 0, 1) := by decide +kernel
theorem dX8_momentum_49 : decode cX8_momentum 49 = .ok (.iconst 0, 1) := by decide +kernel
theorem dX8_momentum_50 : decode cX8_momentum 50 = .ok (.aload_n 0, 1) := by decide +kernel
theorem dX8_momentum_51 : decode cX8_momentum 51 = .ok (.getfield 7, 3) := by decide +kernel
theorem dX8_momentum_54 : decode cX8_momentum 54 = .ok (.iconst 0, 1) := by decide +kernel
theorem dX8_momentum_55 : decode cX8_momentum 55 = .ok (.iaload, 1) := by decide +kernel
theorem dX8_momentum_56 : decode cX8_momentum 56 = .ok (.iconst 1, 1) := by decide +kernel
theorem dX8_momentum_57 : decode cX8_momentum 57 = .ok (.isub, 1) := by decide +kernel
theorem dX8_momentum_58 : decode cX8_momentum 58 = .ok (.aload_n 0, 1) := by decide +kernel
theorem dX8_momentum_59 : decode cX8_momentum 59 = .ok (.getfield 7, 3) := by decide +kernel
theorem dX8_momentum_62 : decode cX8_momentum 62 = .ok (.iconst 1, 1) := by decide +kernel
theorem dX8_momentum_63 : decode cX8_momentum 63 = .ok (.iaload, 1) := by decide +kernel
theorem dX8_momentum_64 : decode cX8_momentum 64 = .ok (.iconst 1, 1) := by decide +kernel
theorem dX8_momentum_65 : decode cX8_momentum 65 = .ok (.isub, 1) := by decide +kernel
theorem dX8_momentum_66 : decode cX8_momentum 66 = .ok (.invokevirtual 228, 3) := by decide +kernel
theorem dX8_momentum_69 : decode cX8_momentum 69 = .ok (.invokevirtual 61, 3) := by decide +kernel
theorem dX8_momentum_72 : decode cX8_momentum 72 = .ok (.ireturn, 1) := by decide +kernel
def f_X8_momentum : MX := mth 3 (sQ (sIf (cOr (cNot (cZ z_ne (eM (f_X8_in) (aI (aI (aI (aN) (eLi 1)) (eI (0))) (eI (1)))))) (cNot (cZ z_ne (eM (f_X8_in) (aI (aI (aI (aN) (eLi 2)) (eI (0))) (eI (5))))))) (sR (eM (gd 8 f_X8_fails) (aI (aA (aN) (eLa 0)) (eI (1))))) sN) (sR (eM (gd 8 f_X8_tells) (aI (aA (aN) (eLa 0)) (eIf (cB c_lt (eLi 2) (eI (5))) (eAi 0 (eGa (eLa 0) 8 0) (eOp o_iadd (eOp o_iadd (eI (12)) (eOp o_imul (eI (5)) (eLi 1))) (eLi 2))) (eM (gd 8 f_X8_sumOf) (aI (aI (aI (aI (aI (aA (aN) (eLa 0)) (eLi 1)) (eI (0))) (eI (0))) (eOp o_isub (eAi 0 (eGa (eLa 0) 8 0) (eI (0))) (eI (1)))) (eOp o_isub (eAi 0 (eGa (eLa 0) 8 0) (eI (1))) (eI (1))))))))))
theorem Y_X8_momentum : Yk yX8_momentum cX8_momentum 3 (some .int) 2 := ⟨w1518, w16, by decide +kernel, by decide +kernel, by decide +kernel⟩
set_option maxRecDepth 20000 in
theorem k_X8_momentum (l : Launch) (g : GE) : MetX l g yX8_momentum cX8_momentum 3 (some .int) 3 ({ frames := 4, cells := 0, slots := 0, locals := 93 } : Room) f_X8_momentum := by
  unfold f_X8_momentum
  exact MetX.of (own := RX8) 100 0 rfl (by decide +kernel) (by decide) (fun p e s m args below meth c Fin ad0 hr hn => ⟨_, _, Sv_seq (Sv_if (Cv_or (Cv_not (Cv_if_eq_n (Ev_call (Av_i (Av_i (Av_i (Av_nil) (Ev_iload_n dX8_momentum_0 rfl)) (Ev_iconst dX8_momentum_1 (by decide))) (Ev_iconst dX8_momentum_2 (by decide))) (Rn_S Y_X8_in (k_X8_in _ _) w1209 w1210 dX8_momentum_3 (Nat.le_of_ble_eq_true rfl) (Nat.le_of_ble_eq_true rfl) (Nat.le_of_ble_eq_true rfl) (Nat.ne_of_beq_eq_false rfl))) (t := 18) dX8_momentum_6 (by decide))) (Cv_not (Cv_if_ne_j (Ev_call (Av_i (Av_i (Av_i (Av_nil) (Ev_iload_n dX8_momentum_9 rfl)) (Ev_iconst dX8_momentum_10 (by decide))) (Ev_iconst dX8_momentum_11 (by decide))) (Rn_S Y_X8_in (k_X8_in _ _) w1209 w1210 dX8_momentum_12 (Nat.le_of_ble_eq_true rfl) (Nat.le_of_ble_eq_true rfl) (Nat.le_of_ble_eq_true rfl) (Nat.ne_of_beq_eq_false rfl))) (t := 24) dX8_momentum_15 (by decide)))) (Sv_ret (Ev_call (Av_i (Av_a (Av_nil) (Ev_aload_n dX8_momentum_18 rfl)) (Ev_iconst dX8_momentum_19 (by decide))) (Rn_V (ci := 8) Fx8.1 rfl Y_X8_fails (k_X8_fails _ _) w1212 w1214 wp29 dX8_momentum_20 (Nat.le_of_ble_eq_true rfl) (Nat.le_of_ble_eq_true rfl) (Nat.le_of_ble_eq_true rfl) (Nat.ne_of_beq_eq_false rfl))) hr dX8_momentum_23) Sv_nop) (Sv_ret (Ev_call (Av_i (Av_a (Av_nil) (Ev_aload_n dX8_momentum_24 rfl)) (Ev_if (pT := 69) (Cv_icmp_ge_n (Ev_iload_n dX8_momentum_25 rfl) (Ev_iconst dX8_momentum_26 (by decide)) (t := 46) dX8_momentum_27 (by decide)) (Ev_iaload (Ev_getA Fx8 (Ev_aload_n dX8_momentum_30 rfl) (k := 0) (by decide) w1143 dX8_momentum_31) (Ev_iadd (Ev_iadd (Ev_bipush dX8_momentum_34 (by decide)) (Ev_imul (Ev_iconst dX8_momentum_36 (by decide)) (Ev_iload_n dX8_momentum_37 rfl) dX8_momentum_38) dX8_momentum_39) (Ev_iload_n dX8_momentum_40 rfl) dX8_momentum_41) dX8_momentum_42) dX8_momentum_43 (by decide) (Ev_call (Av_i (Av_i (Av_i (Av_i (Av_i (Av_a (Av_nil) (Ev_aload_n dX8_momentum_46 rfl)) (Ev_iload_n dX8_momentum_47 rfl)) (Ev_iconst dX8_momentum_48 (by decide))) (Ev_iconst dX8_momentum_49 (by decide))) (Ev_isub (Ev_iaload (Ev_getA Fx8 (Ev_aload_n dX8_momentum_50 rfl) (k := 0) (by decide) w1143 dX8_momentum_51) (Ev_iconst dX8_momentum_54 (by decide)) dX8_momentum_55) (Ev_iconst dX8_momentum_56 (by decide)) dX8_momentum_57)) (Ev_isub (Ev_iaload (Ev_getA Fx8 (Ev_aload_n dX8_momentum_58 rfl) (k := 0) (by decide) w1143 dX8_momentum_59) (Ev_iconst dX8_momentum_62 (by decide)) dX8_momentum_63) (Ev_iconst dX8_momentum_64 (by decide)) dX8_momentum_65)) (Rn_V (ci := 8) Fx8.1 rfl Y_X8_sumOf (k_X8_sumOf _ _) w1471 w1473 wp65 dX8_momentum_66 (Nat.le_of_ble_eq_true rfl) (Nat.le_of_ble_eq_true rfl) (Nat.le_of_ble_eq_true rfl) (Nat.ne_of_beq_eq_false rfl))))) (Rn_V (ci := 8) Fx8.1 rfl Y_X8_tells (k_X8_tells _ _) w1228 w1230 wp33 dX8_momentum_69 (Nat.le_of_ble_eq_true rfl) (Nat.le_of_ble_eq_true rfl) (Nat.le_of_ble_eq_true rfl) (Nat.ne_of_beq_eq_false rfl))) hr dX8_momentum_72), Nat.le_of_ble_eq_true rfl, Nat.le_of_ble_eq_true rfl⟩)
theorem dX8_count_0 : decode cX8_count 0 = .ok (.iload_n 1, 1) := by decide +kernel
theorem dX8_count_1 : decode cX8_count 1 = .ok (.iconst 0, 1) := by decide +kernel
theorem dX8_count_2 : decode cX8_count 2 = .ok (.bipush 11, 2) := by decide +kernel
theorem dX8_count_4 : decode cX8_count 4 = .ok (.invokestatic 65, 3) := by decide +kernel
theorem dX8_count_7 : decode cX8_count 7 = .ok (.ifCond .ne 9, 3) := by decide +kernel
theorem dX8_count_10 : decode cX8_count 10 = .ok (.aload_n 0, 1) := by decide +kernel
theorem dX8_count_11 : decode cX8_count 11 = .ok (.iconst 1, 1) := by decide +kernel
theorem dX8_count_12 : decode cX8_count 12 = .ok (.invokevirtual 89, 3) := by decide +kernel
theorem dX8_count_15 : decode cX8_count 15 = .ok (.ireturn, 1) := by decide +kernel
theorem dX8_count_16 : decode cX8_count 16 = .ok (.iconst 0, 1) := by decide +kernel
theorem dX8_count_17 : decode cX8_count 17 = .ok (.istore_n 2, 1) := by decide +kernel
theorem dX8_count_18 : decode cX8_count 18 = .ok (.iconst 0, 1) := by decide +kernel
theorem dX8_count_19 : decode cX8_count 19 = .ok (.istore_n 3, 1) := by decide +kernel
theorem dX8_count_20 : decode cX8_count 20 = .ok (.iload_n 3, 1) := by decide +kernel
theorem dX8_count_21 : decode cX8_count 21 = .ok (.bipush 6, 2) := by decide +kernel
theorem dX8_count_23 : decode cX8_count 23 = .ok (.if_icmp .ge 17, 3) := by decide +kernel
theorem dX8_count_26 : decode cX8_count 26 = .ok (.iload_n 2, 1) := by decide +kernel
theorem dX8_count_27 : decode cX8_count 27 = .ok (.aload_n 0, 1) := by decide +kernel
theorem dX8_count_28 : decode cX8_count 28 = .ok (.iload_n 3, 1) := by decide +kernel
theorem dX8_count_29 : decode cX8_count 29 = .ok (.invokevirtual 111, 3) := by decide +kernel
theorem dX8_count_32 : decode cX8_count 32 = .ok (.iadd, 1) := by decide +kernel
theorem dX8_count_33 : decode cX8_count 33 = .ok (.istore_n 2, 1) := by decide +kernel
theorem dX8_count_34 : decode cX8_count 34 = .ok (.iinc 3 1, 3) := by decide +kernel
theorem dX8_count_37 : decode cX8_count 37 = .ok (.goto (-17), 3) := by decide +kernel
theorem dX8_count_40 : decode cX8_count 40 = .ok (.iload_n 1, 1) := by decide +kernel
theorem dX8_count_41 : decode cX8_count 41 = .ok (.tableswitch 100 3 8 #[39, 51, 64, 70, 82, 91], 39) := by decide +kernel
theorem dX8_count_80 : decode cX8_count 80 = .ok (.aload_n 0, 1) := by decide +kernel
theorem dX8_count_81 : decode cX8_count 81 = .ok (.aload_n 0, 1) := by decide +kernel
theorem dX8_count_82 : decode cX8_count 82 = .ok (.getfield 7, 3) := by decide +kernel
theorem dX8_count_85 : decode cX8_count 85 = .ok (.bipush 6, 2) := by decide +kernel
theorem dX8_count_87 : decode cX8_count 87 = .ok (.iaload, 1) := by decide +kernel
theorem dX8_count_88 : decode cX8_count 88 = .ok (.invokevirtual 61, 3) := by decide +kernel
theorem dX8_count_91 : decode cX8_count 91 = .ok (.ireturn, 1) := by decide +kernel
theorem dX8_count_92 : decode cX8_count 92 = .ok (.aload_n 0, 1) := by decide +kernel
theorem dX8_count_93 : decode cX8_count 93 = .ok (.aload_n 0, 1) := by decide +kernel
theorem dX8_count_94 : decode cX8_count 94 = .ok (.getfield 7, 3) := by decide +kernel
theorem dX8_count_97 : decode cX8_count 97 = .ok (.sipush 1522, 3) := by decide +kernel
theorem dX8_count_100 : decode cX8_count 100 = .ok (.iaload, 1) := by decide +kernel
theorem dX8_count_101 : decode cX8_count 101 = .ok (.invokevirtual 61, 3) := by decide +kernel
theorem dX8_count_104 : decode cX8_count 104 = .ok (.ireturn, 1) := by decide +kernel
theorem dX8_count_105 : decode cX8_count 105 = .ok (.aload_n 0, 1) := by decide +kernel
theorem dX8_count_106 : decode cX8_count 106 = .ok (.iload_n 2, 1) := by decide +kernel
theorem dX8_count_107 : decode cX8_count 107 = .ok (.invokevirtual 61, 3) := by decide +kernel
theorem dX8_count_110 : decode cX8_count 110 = .ok (.ireturn, 1) := by decide +kernel
theorem dX8_count_111 : decode cX8_count 111 = .ok (.aload_n 0, 1) := by decide +kernel
theorem dX8_count_112 : decode cX8_count 112 = .ok (.aload_n 0, 1) := by decide +kernel
theorem dX8_count_113 : decode cX8_count 113 = .ok (.getfield 7, 3) := by decide +kernel
theorem dX8_count_116 : decode cX8_count 116 = .ok (.bipush 7, 2) := by decide +kernel
theorem dX8_count_118 : decode cX8_count 118 = .ok (.iaload, 1) := by decide +kernel
theorem dX8_count_119 : decode cX8_count 119 = .ok (.invokevirtual 61, 3) := by decide +kernel
theorem dX8_count_122 : decode cX8_count 122 = .ok (.ireturn, 1) := by decide +kernel
theorem dX8_count_123 : decode cX8_count 123 = .ok (.aload_n 0, 1) := by decide +kernel
theorem dX8_count_124 : decode cX8_count 124 = .ok (.aload_n 0, 1) := by decide +kernel
theorem dX8_count_125 : decode cX8_count 125 = .ok (.getfield 58, 3) := by decide +kernel
theorem dX8_count_128 : decode cX8_count 128 = .ok (.invokevirtual 61, 3) := by decide +kernel
theorem dX8_count_131 : decode cX8_count 131 = .ok (.ireturn, 1) := by decide +kernel
theorem dX8_count_132 : decode cX8_count 132 = .ok (.aload_n 0, 1) := by decide +kernel
theorem dX8_count_133 : decode cX8_count 133 = .ok (.aload_n 0, 1) := by decide +kernel
theorem dX8_count_134 : decode cX8_count 134 = .ok (.getfield 137, 3) := by decide +kernel
theorem dX8_count_137 : decode cX8_count 137 = .ok (.invokevirtual 61, 3) := by decide +kernel
theorem dX8_count_140 : decode cX8_count 140 = .ok (.ireturn, 1) := by decide +kernel
theorem dX8_count_141 : decode cX8_count 141 = .ok (.aload_n 0, 1) := by decide +kernel
theorem dX8_count_142 : decode cX8_count 142 = .ok (.iload_n 1, 1) := by decide +kernel
theorem dX8_count_143 : decode cX8_count 143 = .ok (.iconst 3, 1) := by decide +kernel
theorem dX8_count_144 : decode cX8_count 144 = .ok (.if_icmp .ge 12, 3) := by decide +kernel
theorem dX8_count_147 : decode cX8_count 147 = .ok (.aload_n 0, 1) := by decide +kernel
theorem dX8_count_148 : decode cX8_count 148 = .ok (.getfield 7, 3) := by decide +kernel
theorem dX8_count_151 : decode cX8_count 151 = .ok (.iload_n 1, 1) := by decide +kernel
theorem dX8_count_152 : decode cX8_count 152 = .ok (.iaload, 1) := by decide +kernel
theorem dX8_count_153 : decode cX8_count 153 = .ok (.goto 14, 3) := by decide +kernel
theorem dX8_count_156 : decode cX8_count 156 = .ok (.aload_n 0, 1) := by decide +kernel
theorem dX8_count_157 : decode cX8_count 157 = .ok (.getfield 7, 3) := by decide +kernel
theorem dX8_count_160 : decode cX8_count 160 = .ok (.iconst 3, 1) := by decide +kernel
theorem dX8_count_161 : decode cX8_count 161 = .ok (.iload_n 1, 1) := by decide +kernel
theorem dX8_count_162 : decode cX8_count 162 = .ok (.iadd, 1) := by decide +kernel
theorem dX8_count_163 : decode cX8_count 163 = .ok (.bipush 9, 2) := by decide +kernel
theorem dX8_count_165 : decode cX8_count 165 = .ok (.isub, 1) := by decide +kernel
theorem dX8_count_166 : decode cX8_count 166 = .ok (.iaload, 1) := by decide +kernel
theorem dX8_count_167 : decode cX8_count 167 = .ok (.invokevirtual 61, 3) := by decide +kernel
theorem dX8_count_170 : decode cX8_count 170 = .ok (.ireturn, 1) := by decide +kernel
def f_X8_count : MX := mth 4 (sQ (sIf (cNot (cZ z_ne (eM (f_X8_in) (aI (aI (aI (aN) (eLi 1)) (eI (0))) (eI (11)))))) (sR (eM (gd 8 f_X8_fails) (aI (aA (aN) (eLa 0)) (eI (1))))) sN) (sQ (sTi 2 (eI (0))) (sQ (sQ (sTi 3 (eI (0))) (sLp (cB c_lt (eLi 3) (eI (6))) (sQ (sTi 2 (eOp o_iadd (eLi 2) (eM (gd 8 f_X8_cellsOf) (aI (aA (aN) (eLa 0)) (eLi 3))))) (sInc 3 (1))) NF)) (sSc (eLi 1) 3 [sR (eM (gd 8 f_X8_tells) (aI (aA (aN) (eLa 0)) (eAi 0 (eGa (eLa 0) 8 0) (eI (6))))), sR (eM (gd 8 f_X8_tells) (aI (aA (aN) (eLa 0)) (eAi 0 (eGa (eLa 0) 8 0) (eI (1522))))), sR (eM (gd 8 f_X8_tells) (aI (aA (aN) (eLa 0)) (eLi 2))), sR (eM (gd 8 f_X8_tells) (aI (aA (aN) (eLa 0)) (eAi 0 (eGa (eLa 0) 8 0) (eI (7))))), sR (eM (gd 8 f_X8_tells) (aI (aA (aN) (eLa 0)) (eGi (eLa 0) 8 9))), sR (eM (gd 8 f_X8_tells) (aI (aA (aN) (eLa 0)) (eGi (eLa 0) 8 12)))] (sR (eM (gd 8 f_X8_tells) (aI (aA (aN) (eLa 0)) (eIf (cB c_lt (eLi 1) (eI (3))) (eAi 0 (eGa (eLa 0) 8 0) (eLi 1)) (eAi 0 (eGa (eLa 0) 8 0) (eOp o_isub (eOp o_iadd (eI (3)) (eLi 1)) (eI (9))))))))))))
theorem Y_X8_count : Yk yX8_count cX8_count 4 (some .int) 1 := ⟨w1522, w16, by decide +kernel, by decide +kernel, by decide +kernel⟩
set_option maxRecDepth 20000 in
theorem k_X8_count (l : Launch) (g : GE) : MetX l g yX8_count cX8_count 4 (some .int) 2 ({ frames := 1, cells := 0, slots := 0, locals := 23 } : Room) f_X8_count := by
  unfold f_X8_count
  exact MetX.of (own := RX8) 100 0 rfl (by decide +kernel) (by decide) (fun p e s m args below meth c Fin ad0 hr hn => ⟨_, _, Sv_seq (Sv_if (Cv_not (Cv_if_ne_j (Ev_call (Av_i (Av_i (Av_i (Av_nil) (Ev_iload_n dX8_count_0 rfl)) (Ev_iconst dX8_count_1 (by decide))) (Ev_bipush dX8_count_2 (by decide))) (Rn_S Y_X8_in (k_X8_in _ _) w1209 w1210 dX8_count_4 (Nat.le_of_ble_eq_true rfl) (Nat.le_of_ble_eq_true rfl) (Nat.le_of_ble_eq_true rfl) (Nat.ne_of_beq_eq_false rfl))) (t := 16) dX8_count_7 (by decide))) (Sv_ret (Ev_call (Av_i (Av_a (Av_nil) (Ev_aload_n dX8_count_10 rfl)) (Ev_iconst dX8_count_11 (by decide))) (Rn_V (ci := 8) Fx8.1 rfl Y_X8_fails (k_X8_fails _ _) w1212 w1214 wp29 dX8_count_12 (Nat.le_of_ble_eq_true rfl) (Nat.le_of_ble_eq_true rfl) (Nat.le_of_ble_eq_true rfl) (Nat.ne_of_beq_eq_false rfl))) hr dX8_count_15) Sv_nop) (Sv_seq (Sv_istore_n (Ev_iconst dX8_count_16 (by decide)) dX8_count_17 rfl (Nat.le_of_ble_eq_true rfl) (Nat.ne_of_beq_eq_false rfl)) (Sv_seq (Sv_seq (Sv_istore_n (Ev_iconst dX8_count_18 (by decide)) dX8_count_19 rfl (Nat.le_of_ble_eq_true rfl) (Nat.ne_of_beq_eq_false rfl)) (Sv_loop0 NF (Cv_icmp_ge_n (Ev_iload_n dX8_count_20 rfl) (Ev_bipush dX8_count_21 (by decide)) (t := 40) dX8_count_23 (by decide)) (Sv_goto (pE := 20) (Sv_seq (Sv_istore_n (Ev_iadd (Ev_iload_n dX8_count_26 rfl) (Ev_call (Av_i (Av_a (Av_nil) (Ev_aload_n dX8_count_27 rfl)) (Ev_iload_n dX8_count_28 rfl)) (Rn_V (ci := 8) Fx8.1 rfl Y_X8_cellsOf (k_X8_cellsOf _ _) w1262 w1264 wp38 dX8_count_29 (Nat.le_of_ble_eq_true rfl) (Nat.le_of_ble_eq_true rfl) (Nat.le_of_ble_eq_true rfl) (Nat.ne_of_beq_eq_false rfl))) dX8_count_32) dX8_count_33 rfl (Nat.le_of_ble_eq_true rfl) (Nat.ne_of_beq_eq_false rfl)) (Sv_iinc dX8_count_34 (by decide) (Nat.le_of_ble_eq_true rfl) (Nat.ne_of_beq_eq_false rfl))) dX8_count_37 (by decide)))) (Sv_tsw (k2 := 0) (n2 := 0) (td := 141) (Ev_iload_n dX8_count_40 rfl) dX8_count_41 rfl (fun n a h => match n, a, h with
      | 0, _, h => by cases h; exact ⟨_, 80, rfl, by decide, Sv.weaken (Sv_ret (Ev_call (Av_i (Av_a (Av_nil) (Ev_aload_n dX8_count_80 rfl)) (Ev_iaload (Ev_getA Fx8 (Ev_aload_n dX8_count_81 rfl) (k := 0) (by decide) w1143 dX8_count_82) (Ev_bipush dX8_count_85 (by decide)) dX8_count_87)) (Rn_V (ci := 8) Fx8.1 rfl Y_X8_tells (k_X8_tells _ _) w1228 w1230 wp33 dX8_count_88 (Nat.le_of_ble_eq_true rfl) (Nat.le_of_ble_eq_true rfl) (Nat.le_of_ble_eq_true rfl) (Nat.ne_of_beq_eq_false rfl))) hr dX8_count_91) (by decide) (by decide)⟩
      | 1, _, h => by cases h; exact ⟨_, 92, rfl, by decide, Sv.weaken (Sv_ret (Ev_call (Av_i (Av_a (Av_nil) (Ev_aload_n dX8_count_92 rfl)) (Ev_iaload (Ev_getA Fx8 (Ev_aload_n dX8_count_93 rfl) (k := 0) (by decide) w1143 dX8_count_94) (Ev_sipush dX8_count_97 (by decide)) dX8_count_100)) (Rn_V (ci := 8) Fx8.1 rfl Y_X8_tells (k_X8_tells _ _) w1228 w1230 wp33 dX8_count_101 (Nat.le_of_ble_eq_true rfl) (Nat.le_of_ble_eq_true rfl) (Nat.le_of_ble_eq_true rfl) (Nat.ne_of_beq_eq_false rfl))) hr dX8_count_104) (by decide) (by decide)⟩
      | 2, _, h => by cases h; exact ⟨_, 105, rfl, by decide, Sv.weaken (Sv_ret (Ev_call (Av_i (Av_a (Av_nil) (Ev_aload_n dX8_count_105 rfl)) (Ev_iload_n dX8_count_106 rfl)) (Rn_V (ci := 8) Fx8.1 rfl Y_X8_tells (k_X8_tells _ _) w1228 w1230 wp33 dX8_count_107 (Nat.le_of_ble_eq_true rfl) (Nat.le_of_ble_eq_true rfl) (Nat.le_of_ble_eq_true rfl) (Nat.ne_of_beq_eq_false rfl))) hr dX8_count_110) (by decide) (by decide)⟩
      | 3, _, h => by cases h; exact ⟨_, 111, rfl, by decide, Sv.weaken (Sv_ret (Ev_call (Av_i (Av_a (Av_nil) (Ev_aload_n dX8_count_111 rfl)) (Ev_iaload (Ev_getA Fx8 (Ev_aload_n dX8_count_112 rfl) (k := 0) (by decide) w1143 dX8_count_113) (Ev_bipush dX8_count_116 (by decide)) dX8_count_118)) (Rn_V (ci := 8) Fx8.1 rfl Y_X8_tells (k_X8_tells _ _) w1228 w1230 wp33 dX8_count_119 (Nat.le_of_ble_eq_true rfl) (Nat.le_of_ble_eq_true rfl) (Nat.le_of_ble_eq_true rfl) (Nat.ne_of_beq_eq_false rfl))) hr dX8_count_122) (by decide) (by decide)⟩
      | 4, _, h => by cases h; exact ⟨_, 123, rfl, by decide, Sv.weaken (Sv_ret (Ev_call (Av_i (Av_a (Av_nil) (Ev_aload_n dX8_count_123 rfl)) (Ev_getI Fx8 (Ev_aload_n dX8_count_124 rfl) (k := 9) (by decide) w1152 dX8_count_125)) (Rn_V (ci := 8) Fx8.1 rfl Y_X8_tells (k_X8_tells _ _) w1228 w1230 wp33 dX8_count_128 (Nat.le_of_ble_eq_true rfl) (Nat.le_of_ble_eq_true rfl) (Nat.le_of_ble_eq_true rfl) (Nat.ne_of_beq_eq_false rfl))) hr dX8_count_131) (by decide) (by decide)⟩
      | 5, _, h => by cases h; exact ⟨_, 132, rfl, by decide, Sv.weaken (Sv_ret (Ev_call (Av_i (Av_a (Av_nil) (Ev_aload_n dX8_count_132 rfl)) (Ev_getI Fx8 (Ev_aload_n dX8_count_133 rfl) (k := 12) (by decide) w1155 dX8_count_134)) (Rn_V (ci := 8) Fx8.1 rfl Y_X8_tells (k_X8_tells _ _) w1228 w1230 wp33 dX8_count_137 (Nat.le_of_ble_eq_true rfl) (Nat.le_of_ble_eq_true rfl) (Nat.le_of_ble_eq_true rfl) (Nat.ne_of_beq_eq_false rfl))) hr dX8_count_140) (by decide) (by decide)⟩
      | n + 6, _, h => by simp at h) (by decide) (Sv.weaken (Sv_ret (Ev_call (Av_i (Av_a (Av_nil) (Ev_aload_n dX8_count_141 rfl)) (Ev_if (pT := 167) (Cv_icmp_ge_n (Ev_iload_n dX8_count_142 rfl) (Ev_iconst dX8_count_143 (by decide)) (t := 156) dX8_count_144 (by decide)) (Ev_iaload (Ev_getA Fx8 (Ev_aload_n dX8_count_147 rfl) (k := 0) (by decide) w1143 dX8_count_148) (Ev_iload_n dX8_count_151 rfl) dX8_count_152) dX8_count_153 (by decide) (Ev_iaload (Ev_getA Fx8 (Ev_aload_n dX8_count_156 rfl) (k := 0) (by decide) w1143 dX8_count_157) (Ev_isub (Ev_iadd (Ev_iconst dX8_count_160 (by decide)) (Ev_iload_n dX8_count_161 rfl) dX8_count_162) (Ev_bipush dX8_count_163 (by decide)) dX8_count_165) dX8_count_166))) (Rn_V (ci := 8) Fx8.1 rfl Y_X8_tells (k_X8_tells _ _) w1228 w1230 wp33 dX8_count_167 (Nat.le_of_ble_eq_true rfl) (Nat.le_of_ble_eq_true rfl) (Nat.le_of_ble_eq_true rfl) (Nat.ne_of_beq_eq_false rfl))) hr dX8_count_170) (by decide) (by decide))))), Nat.le_of_ble_eq_true rfl, Nat.le_of_ble_eq_true rfl⟩)
theorem dX8_takesIn_0 : decode cX8_takesIn 0 = .ok (.aload_n 0, 1) := by decide +kernel
theorem dX8_takesIn_1 : decode cX8_takesIn 1 = .ok (.getfield 7, 3) := by decide +kernel
theorem dX8_takesIn_4 : decode cX8_takesIn 4 = .ok (.bipush 22, 2) := by decide +kernel
theorem dX8_takesIn_6 : decode cX8_takesIn 6 = .ok (.iconst 2, 1) := by decide +kernel
theorem dX8_takesIn_7 : decode cX8_takesIn 7 = .ok (.iload_n 1, 1) := by decide +kernel
theorem dX8_takesIn_8 : decode cX8_takesIn 8 = .ok (.imul, 1) := by decide +kernel
theorem dX8_takesIn_9 : decode cX8_takesIn 9 = .ok (.iadd, 1) := by decide +kernel
theorem dX8_takesIn_10 : decode cX8_takesIn 10 = .ok (.iload_n 2, 1) := by decide +kernel
theorem dX8_takesIn_11 : decode cX8_takesIn 11 = .ok (.iadd, 1) := by decide +kernel
theorem dX8_takesIn_12 : decode cX8_takesIn 12 = .ok (.iaload, 1) := by decide +kernel
theorem dX8_takesIn_13 : decode cX8_takesIn 13 = .ok (.istore 4, 2) := by decide +kernel
theorem dX8_takesIn_15 : decode cX8_takesIn 15 = .ok (.aload_n 0, 1) := by decide +kernel
theorem dX8_takesIn_16 : decode cX8_takesIn 16 = .ok (.iload_n 3, 1) := by decide +kernel
theorem dX8_takesIn_17 : decode cX8_takesIn 17 = .ok (.invokevirtual 212, 3) := by decide +kernel
theorem dX8_takesIn_20 : decode cX8_takesIn 20 = .ok (.aload_n 0, 1) := by decide +kernel
theorem dX8_takesIn_21 : decode cX8_takesIn 21 = .ok (.getfield 7, 3) := by decide +kernel
theorem dX8_takesIn_24 : decode cX8_takesIn 24 = .ok (.bipush 22, 2) := by decide +kernel
theorem dX8_takesIn_26 : decode cX8_takesIn 26 = .ok (.iconst 2, 1) := by decide +kernel
theorem dX8_takesIn_27 : decode cX8_takesIn 27 = .ok (.iload_n 1, 1) := by decide +kernel
theorem dX8_takesIn_28 : decode cX8_takesIn 28 = .ok (.imul, 1) := by decide +kernel
theorem dX8_takesIn_29 : decode cX8_takesIn 29 = .ok (.iadd, 1) := by decide +kernel
theorem dX8_takesIn_30 : decode cX8_takesIn 30 = .ok (.iload_n 2, 1) := by decide +kernel
theorem dX8_takesIn_31 : decode cX8_takesIn 31 = .ok (.iadd, 1) := by decide +kernel
theorem dX8_takesIn_32 : decode cX8_takesIn 32 = .ok (.iaload, 1) := by decide +kernel
theorem dX8_takesIn_33 : decode cX8_takesIn 33 = .ok (.iload 4, 2) := by decide +kernel
theorem dX8_takesIn_35 : decode cX8_takesIn 35 = .ok (.isub, 1) := by decide +kernel
theorem dX8_takesIn_36 : decode cX8_takesIn 36 = .ok (.ireturn, 1) := by decide +kernel
def f_X8_takesIn : MX := mth 5 (sQ (sTi 4 (eAi 0 (eGa (eLa 0) 8 0) (eOp o_iadd (eOp o_iadd (eI (22)) (eOp o_imul (eI (2)) (eLi 1))) (eLi 2)))) (sQ (sM (gd 8 f_X8_ticks) (aI (aA (aN) (eLa 0)) (eLi 3))) (sR (eOp o_isub (eAi 0 (eGa (eLa 0) 8 0) (eOp o_iadd (eOp o_iadd (eI (22)) (eOp o_imul (eI (2)) (eLi 1))) (eLi 2))) (eLi 4)))))
theorem Y_X8_takesIn : Yk yX8_takesIn cX8_takesIn 5 (some .int) 3 := ⟨w1534, w16, by decide +kernel, by decide +kernel, by decide +kernel⟩
set_option maxRecDepth 20000 in
theorem k_X8_takesIn (l : Launch) (g : GE) : MetX l g yX8_takesIn cX8_takesIn 5 (some .int) 4 ({ frames := 7, cells := 0, slots := 0, locals := 159 } : Room) f_X8_takesIn := by
  unfold f_X8_takesIn
  exact MetX.of (own := RX8) 100 0 rfl (by decide +kernel) (by decide) (fun p e s m args below meth c Fin ad0 hr hn => ⟨_, _, Sv_seq (Sv_istore (Ev_iaload (Ev_getA Fx8 (Ev_aload_n dX8_takesIn_0 rfl) (k := 0) (by decide) w1143 dX8_takesIn_1) (Ev_iadd (Ev_iadd (Ev_bipush dX8_takesIn_4 (by decide)) (Ev_imul (Ev_iconst dX8_takesIn_6 (by decide)) (Ev_iload_n dX8_takesIn_7 rfl) dX8_takesIn_8) dX8_takesIn_9) (Ev_iload_n dX8_takesIn_10 rfl) dX8_takesIn_11) dX8_takesIn_12) dX8_takesIn_13 (Nat.le_of_ble_eq_true rfl) (Nat.ne_of_beq_eq_false rfl)) (Sv_seq (Sv_call (Av_i (Av_a (Av_nil) (Ev_aload_n dX8_takesIn_15 rfl)) (Ev_iload_n dX8_takesIn_16 rfl)) (Rn_V (ci := 8) Fx8.1 rfl Y_X8_ticks (k_X8_ticks _ _) w1389 w1391 wp50 dX8_takesIn_17 (Nat.le_of_ble_eq_true rfl) (Nat.le_of_ble_eq_true rfl) (Nat.le_of_ble_eq_true rfl) (Nat.ne_of_beq_eq_false rfl))) (Sv_ret (Ev_isub (Ev_iaload (Ev_getA Fx8 (Ev_aload_n dX8_takesIn_20 rfl) (k := 0) (by decide) w1143 dX8_takesIn_21) (Ev_iadd (Ev_iadd (Ev_bipush dX8_takesIn_24 (by decide)) (Ev_imul (Ev_iconst dX8_takesIn_26 (by decide)) (Ev_iload_n dX8_takesIn_27 rfl) dX8_takesIn_28) dX8_takesIn_29) (Ev_iload_n dX8_takesIn_30 rfl) dX8_takesIn_31) dX8_takesIn_32) (Ev_iload dX8_takesIn_33) dX8_takesIn_35) hr dX8_takesIn_36)), Nat.le_of_ble_eq_true rfl, Nat.le_of_ble_eq_true rfl⟩)
theorem dX8_ahead_0 : decode cX8_ahead 0 = .ok (.iload_n 1, 1) := by decide +kernel
theorem dX8_ahead_1 : decode cX8_ahead 1 = .ok (.invokestatic 101, 3) := by decide +kernel
theorem dX8_ahead_4 : decode cX8_ahead 4 = .ok (.ifCond .ne 9, 3) := by decide +kernel
theorem dX8_ahead_7 : decode cX8_ahead 7 = .ok (.aload_n 0, 1) := by decide +kernel
theorem dX8_ahead_8 : decode cX8_ahead 8 = .ok (.iconst 1, 1) := by decide +kernel
theorem dX8_ahead_9 : decode cX8_ahead 9 = .ok (.invokevirtual 89, 3) := by decide +kernel
theorem dX8_ahead_12 : decode cX8_ahead 12 = .ok (.ireturn, 1) := by decide +kernel
theorem dX8_ahead_13 : decode cX8_ahead 13 = .ok (.iload_n 2, 1) := by decide +kernel
theorem dX8_ahead_14 : decode cX8_ahead 14 = .ok (.iconst 0, 1) := by decide +kernel
theorem dX8_ahead_15 : decode cX8_ahead 15 = .ok (.iconst 1, 1) := by decide +kernel
theorem dX8_ahead_16 : decode cX8_ahead 16 = .ok (.invokestatic 65, 3) := by decide +kernel
theorem dX8_ahead_19 : decode cX8_ahead 19 = .ok (.ifCond .eq 13, 3) := by decide +kernel
theorem dX8_ahead_22 : decode cX8_ahead 22 = .ok (.iload_n 3, 1) := by decide +kernel
theorem dX8_ahead_23 : decode cX8_ahead 23 = .ok (.iconst 1, 1) := by decide +kernel
theorem dX8_ahead_24 : decode cX8_ahead 24 = .ok (.bipush 40, 2) := by decide +kernel
theorem dX8_ahead_26 : decode cX8_ahead 26 = .ok (.invokestatic 65, 3) := by decide +kernel
theorem dX8_ahead_29 : decode cX8_ahead 29 = .ok (.ifCond .ne 9, 3) := by decide +kernel
theorem dX8_ahead_32 : decode cX8_ahead 32 = .ok (.aload_n 0, 1) := by decide +kernel
theorem dX8_ahead_33 : decode cX8_ahead 33 = .ok (.iconst 2, 1) := by decide +kernel
theorem dX8_ahead_34 : decode cX8_ahead 34 = .ok (.invokevirtual 89, 3) := by decide +kernel
theorem dX8_ahead_37 : decode cX8_ahead 37 = .ok (.ireturn, 1) := by decide +kernel
theorem dX8_ahead_38 : decode cX8_ahead 38 = .ok (.aload_n 0, 1) := by decide +kernel
theorem dX8_ahead_39 : decode cX8_ahead 39 = .ok (.invokevirtual 239, 3) := by decide +kernel
theorem dX8_ahead_42 : decode cX8_ahead 42 = .ok (.aload_n 0, 1) := by decide +kernel
theorem dX8_ahead_43 : decode cX8_ahead 43 = .ok (.iload_n 1, 1) := by decide +kernel
theorem dX8_ahead_44 : decode cX8_ahead 44 = .ok (.iload_n 2, 1) := by decide +kernel
theorem dX8_ahead_45 : decode cX8_ahead 45 = .ok (.iload_n 3, 1) := by decide +kernel
theorem dX8_ahead_46 : decode cX8_ahead 46 = .ok (.invokevirtual 242, 3) := by decide +kernel
theorem dX8_ahead_49 : decode cX8_ahead 49 = .ok (.istore 4, 2) := by decide +kernel
theorem dX8_ahead_51 : decode cX8_ahead 51 = .ok (.aload_n 0, 1) := by decide +kernel
theorem dX8_ahead_52 : decode cX8_ahead 52 = .ok (.invokevirtual 246, 3) := by decide +kernel
theorem dX8_ahead_55 : decode cX8_ahead 55 = .ok (.aload_n 0, 1) := by decide +kernel
theorem dX8_ahead_56 : decode cX8_ahead 56 = .ok (.iload 4, 2) := by decide +kernel
theorem dX8_ahead_58 : decode cX8_ahead 58 = .ok (.invokevirtual 61, 3) := by decide +kernel
theorem dX8_ahead_61 : decode cX8_ahead 61 = .ok (.ireturn, 1) := by decide +kernel
def f_X8_ahead : MX := mth 5 (sQ (sIf (cNot (cZ z_ne (eM (f_X8_isBody) (aI (aN) (eLi 1))))) (sR (eM (gd 8 f_X8_fails) (aI (aA (aN) (eLa 0)) (eI (1))))) sN) (sQ (sIf (cOr (cNot (cZ z_ne (eM (f_X8_in) (aI (aI (aI (aN) (eLi 2)) (eI (0))) (eI (1)))))) (cNot (cZ z_ne (eM (f_X8_in) (aI (aI (aI (aN) (eLi 3)) (eI (1))) (eI (40))))))) (sR (eM (gd 8 f_X8_fails) (aI (aA (aN) (eLa 0)) (eI (2))))) sN) (sQ (sM (gd 8 f_X8_lays) (aA (aN) (eLa 0))) (sQ (sTi 4 (eM (gd 8 f_X8_takesIn) (aI (aI (aI (aA (aN) (eLa 0)) (eLi 1)) (eLi 2)) (eLi 3)))) (sQ (sM (gd 8 f_X8_restores) (aA (aN) (eLa 0))) (sR (eM (gd 8 f_X8_tells) (aI (aA (aN) (eLa 0)) (eLi 4)))))))))
theorem Y_X8_ahead : Yk yX8_ahead cX8_ahead 5 (some .int) 3 := ⟨w1526, w16, by decide +kernel, by decide +kernel, by decide +kernel⟩
set_option maxRecDepth 20000 in
theorem k_X8_ahead (l : Launch) (g : GE) : MetX l g yX8_ahead cX8_ahead 5 (some .int) 4 ({ frames := 8, cells := 0, slots := 0, locals := 183 } : Room) f_X8_ahead := by
  unfold f_X8_ahead
  exact MetX.of (own := RX8) 100 0 rfl (by decide +kernel) (by decide) (fun p e s m args below meth c Fin ad0 hr hn => ⟨_, _, Sv_seq (Sv_if (Cv_not (Cv_if_ne_j (Ev_call (Av_i (Av_nil) (Ev_iload_n dX8_ahead_0 rfl)) (Rn_S Y_X8_isBody (k_X8_isBody _ _) w1240 w1241 dX8_ahead_1 (Nat.le_of_ble_eq_true rfl) (Nat.le_of_ble_eq_true rfl) (Nat.le_of_ble_eq_true rfl) (Nat.ne_of_beq_eq_false rfl))) (t := 13) dX8_ahead_4 (by decide))) (Sv_ret (Ev_call (Av_i (Av_a (Av_nil) (Ev_aload_n dX8_ahead_7 rfl)) (Ev_iconst dX8_ahead_8 (by decide))) (Rn_V (ci := 8) Fx8.1 rfl Y_X8_fails (k_X8_fails _ _) w1212 w1214 wp29 dX8_ahead_9 (Nat.le_of_ble_eq_true rfl) (Nat.le_of_ble_eq_true rfl) (Nat.le_of_ble_eq_true rfl) (Nat.ne_of_beq_eq_false rfl))) hr dX8_ahead_12) Sv_nop) (Sv_seq (Sv_if (Cv_or (Cv_not (Cv_if_eq_n (Ev_call (Av_i (Av_i (Av_i (Av_nil) (Ev_iload_n dX8_ahead_13 rfl)) (Ev_iconst dX8_ahead_14 (by decide))) (Ev_iconst dX8_ahead_15 (by decide))) (Rn_S Y_X8_in (k_X8_in _ _) w1209 w1210 dX8_ahead_16 (Nat.le_of_ble_eq_true rfl) (Nat.le_of_ble_eq_true rfl) (Nat.le_of_ble_eq_true rfl) (Nat.ne_of_beq_eq_false rfl))) (t := 32) dX8_ahead_19 (by decide))) (Cv_not (Cv_if_ne_j (Ev_call (Av_i (Av_i (Av_i (Av_nil) (Ev_iload_n dX8_ahead_22 rfl)) (Ev_iconst dX8_ahead_23 (by decide))) (Ev_bipush dX8_ahead_24 (by decide))) (Rn_S Y_X8_in (k_X8_in _ _) w1209 w1210 dX8_ahead_26 (Nat.le_of_ble_eq_true rfl) (Nat.le_of_ble_eq_true rfl) (Nat.le_of_ble_eq_true rfl) (Nat.ne_of_beq_eq_false rfl))) (t := 38) dX8_ahead_29 (by decide)))) (Sv_ret (Ev_call (Av_i (Av_a (Av_nil) (Ev_aload_n dX8_ahead_32 rfl)) (Ev_iconst dX8_ahead_33 (by decide))) (Rn_V (ci := 8) Fx8.1 rfl Y_X8_fails (k_X8_fails _ _) w1212 w1214 wp29 dX8_ahead_34 (Nat.le_of_ble_eq_true rfl) (Nat.le_of_ble_eq_true rfl) (Nat.le_of_ble_eq_true rfl) (Nat.ne_of_beq_eq_false rfl))) hr dX8_ahead_37) Sv_nop) (Sv_seq (Sv_call (Av_a (Av_nil) (Ev_aload_n dX8_ahead_38 rfl)) (Rn_V (ci := 8) Fx8.1 rfl Y_X8_lays (k_X8_lays _ _) w1527 w1529 wp68 dX8_ahead_39 (Nat.le_of_ble_eq_true rfl) (Nat.le_of_ble_eq_true rfl) (Nat.le_of_ble_eq_true rfl) (Nat.ne_of_beq_eq_false rfl))) (Sv_seq (Sv_istore (Ev_call (Av_i (Av_i (Av_i (Av_a (Av_nil) (Ev_aload_n dX8_ahead_42 rfl)) (Ev_iload_n dX8_ahead_43 rfl)) (Ev_iload_n dX8_ahead_44 rfl)) (Ev_iload_n dX8_ahead_45 rfl)) (Rn_V (ci := 8) Fx8.1 rfl Y_X8_takesIn (k_X8_takesIn _ _) w1531 w1533 wp69 dX8_ahead_46 (Nat.le_of_ble_eq_true rfl) (Nat.le_of_ble_eq_true rfl) (Nat.le_of_ble_eq_true rfl) (Nat.ne_of_beq_eq_false rfl))) dX8_ahead_49 (Nat.le_of_ble_eq_true rfl) (Nat.ne_of_beq_eq_false rfl)) (Sv_seq (Sv_call (Av_a (Av_nil) (Ev_aload_n dX8_ahead_51 rfl)) (Rn_V (ci := 8) Fx8.1 rfl Y_X8_restores (k_X8_restores _ _) w1535 w1537 wp70 dX8_ahead_52 (Nat.le_of_ble_eq_true rfl) (Nat.le_of_ble_eq_true rfl) (Nat.le_of_ble_eq_true rfl) (Nat.ne_of_beq_eq_false rfl))) (Sv_ret (Ev_call (Av_i (Av_a (Av_nil) (Ev_aload_n dX8_ahead_55 rfl)) (Ev_iload dX8_ahead_56)) (Rn_V (ci := 8) Fx8.1 rfl Y_X8_tells (k_X8_tells _ _) w1228 w1230 wp33 dX8_ahead_58 (Nat.le_of_ble_eq_true rfl) (Nat.le_of_ble_eq_true rfl) (Nat.le_of_ble_eq_true rfl) (Nat.ne_of_beq_eq_false rfl))) hr dX8_ahead_61))))), Nat.le_of_ble_eq_true rfl, Nat.le_of_ble_eq_true rfl⟩)
theorem dX8_isLikeThen_0 : decode cX8_isLikeThen 0 = .ok (.iconst 1, 1) := by decide +kernel
theorem dX8_isLikeThen_1 : decode cX8_isLikeThen 1 = .ok (.istore_n 3, 1) := by decide +kernel
theorem dX8_isLikeThen_2 : decode cX8_isLikeThen 2 = .ok (.iconst 0, 1) := by decide +kernel
theorem dX8_isLikeThen_3 : decode cX8_isLikeThen 3 = .ok (.istore 4, 2) := by decide +kernel
theorem dX8_isLikeThen_5 : decode cX8_isLikeThen 5 = .ok (.iload 4, 2) := by decide +kernel
theorem dX8_isLikeThen_7 : decode cX8_isLikeThen 7 = .ok (.sipush 512, 3) := by decide +kernel
theorem dX8_isLikeThen_10 : decode cX8_isLikeThen 10 = .ok (.if_icmp .ge 48, 3) := by decide +kernel
theorem dX8_isLikeThen_13 : decode cX8_isLikeThen 13 = .ok (.iload_n 3, 1) := by decide +kernel
theorem dX8_isLikeThen_14 : decode cX8_isLikeThen 14 = .ok (.ifCond .eq 44, 3) := by decide +kernel
theorem dX8_isLikeThen_17 : decode cX8_isLikeThen 17 = .ok (.aload_n 0, 1) := by decide +kernel
theorem dX8_isLikeThen_18 : decode cX8_isLikeThen 18 = .ok (.getfield 29, 3) := by decide +kernel
theorem dX8_isLikeThen_21 : decode cX8_isLikeThen 21 = .ok (.sipush 512, 3) := by decide +kernel
theorem dX8_isLikeThen_24 : decode cX8_isLikeThen 24 = .ok (.iload_n 1, 1) := by decide +kernel
theorem dX8_isLikeThen_25 : decode cX8_isLikeThen 25 = .ok (.imul, 1) := by decide +kernel
theorem dX8_isLikeThen_26 : decode cX8_isLikeThen 26 = .ok (.iload 4, 2) := by decide +kernel
theorem dX8_isLikeThen_28 : decode cX8_isLikeThen 28 = .ok (.iadd, 1) := by decide +kernel
theorem dX8_isLikeThen_29 : decode cX8_isLikeThen 29 = .ok (.iaload, 1) := by decide +kernel
theorem dX8_isLikeThen_30 : decode cX8_isLikeThen 30 = .ok (.aload_n 0, 1) := by decide +kernel
theorem dX8_isLikeThen_31 : decode cX8_isLikeThen 31 = .ok (.getfield 29, 3) := by decide +kernel
theorem dX8_isLikeThen_34 : decode cX8_isLikeThen 34 = .ok (.sipush 512, 3) := by decide +kernel
theorem dX8_isLikeThen_37 : decode cX8_isLikeThen 37 = .ok (.iload_n 2, 1) := by decide +kernel
theorem dX8_isLikeThen_38 : decode cX8_isLikeThen 38 = .ok (.imul, 1) := by decide +kernel
theorem dX8_isLikeThen_39 : decode cX8_isLikeThen 39 = .ok (.iload 4, 2) := by decide +kernel
theorem dX8_isLikeThen_41 : decode cX8_isLikeThen 41 = .ok (.iadd, 1) := by decide +kernel
theorem dX8_isLikeThen_42 : decode cX8_isLikeThen 42 = .ok (.iaload, 1) := by decide +kernel
theorem dX8_isLikeThen_43 : decode cX8_isLikeThen 43 = .ok (.if_icmp .ne 7, 3) := by decide +kernel
theorem dX8_isLikeThen_46 : decode cX8_isLikeThen 46 = .ok (.iconst 1, 1) := by decide +kernel
theorem dX8_isLikeThen_47 : decode cX8_isLikeThen 47 = .ok (.goto 4, 3) := by decide +kernel
theorem dX8_isLikeThen_50 : decode cX8_isLikeThen 50 = .ok (.iconst 0, 1) := by decide +kernel
theorem dX8_isLikeThen_51 : decode cX8_isLikeThen 51 = .ok (.istore_n 3, 1) := by decide +kernel
theorem dX8_isLikeThen_52 : decode cX8_isLikeThen 52 = .ok (.iinc 4 1, 3) := by decide +kernel
theorem dX8_isLikeThen_55 : decode cX8_isLikeThen 55 = .ok (.goto (-50), 3) := by decide +kernel
theorem dX8_isLikeThen_58 : decode cX8_isLikeThen 58 = .ok (.iload_n 3, 1) := by decide +kernel
theorem dX8_isLikeThen_59 : decode cX8_isLikeThen 59 = .ok (.ireturn, 1) := by decide +kernel
def f_X8_isLikeThen : MX := mth 5 (sQ (sTi 3 (eI (1))) (sQ (sQ (sTi 4 (eI (0))) (sLp (cAnd (cB c_lt (eLi 4) (eI (512))) (cZ z_ne (eLi 3))) (sQ (sTi 3 (eC (cB c_eq (eAi 0 (eGa (eLa 0) 8 6) (eOp o_iadd (eOp o_imul (eI (512)) (eLi 1)) (eLi 4))) (eAi 0 (eGa (eLa 0) 8 6) (eOp o_iadd (eOp o_imul (eI (512)) (eLi 2)) (eLi 4)))))) (sInc 4 (1))) NF)) (sRz (eLi 3))))
theorem Y_X8_isLikeThen : Yk yX8_isLikeThen cX8_isLikeThen 5 (some .boolean) 2 := ⟨w1550, w16, by decide +kernel, by decide +kernel, by decide +kernel⟩
set_option maxRecDepth 20000 in
theorem k_X8_isLikeThen (l : Launch) (g : GE) : MetX l g yX8_isLikeThen cX8_isLikeThen 5 (some .boolean) 3 ({ frames := 0, cells := 0, slots := 0, locals := 0 } : Room) f_X8_isLikeThen := by
  unfold f_X8_isLikeThen
  exact MetX.of (own := RX8) 100 0 rfl (by decide +kernel) (by decide) (fun p e s m args below meth c Fin ad0 hr hn => ⟨_, _, Sv_seq (Sv_istore_n (Ev_iconst dX8_isLikeThen_0 (by decide)) dX8_isLikeThen_1 rfl (Nat.le_of_ble_eq_true rfl) (Nat.ne_of_beq_eq_false rfl)) (Sv_seq (Sv_seq (Sv_istore (Ev_iconst dX8_isLikeThen_2 (by decide)) dX8_isLikeThen_3 (Nat.le_of_ble_eq_true rfl) (Nat.ne_of_beq_eq_false rfl)) (Sv_loop0 NF (Cv_and (Cv_icmp_ge_n (Ev_iload dX8_isLikeThen_5) (Ev_sipush dX8_isLikeThen_7 (by decide)) (t := 58) dX8_isLikeThen_10 (by decide)) (Cv_if_eq_n (Ev_iload_n dX8_isLikeThen_13 rfl) (t := 58) dX8_isLikeThen_14 (by decide))) (Sv_goto (pE := 5) (Sv_seq (Sv_istore_n (Ev_if (pT := 51) (Cv_icmp_ne_n (Ev_iaload (Ev_getA Fx8 (Ev_aload_n dX8_isLikeThen_17 rfl) (k := 6) (by decide) w1149 dX8_isLikeThen_18) (Ev_iadd (Ev_imul (Ev_sipush dX8_isLikeThen_21 (by decide)) (Ev_iload_n dX8_isLikeThen_24 rfl) dX8_isLikeThen_25) (Ev_iload dX8_isLikeThen_26) dX8_isLikeThen_28) dX8_isLikeThen_29) (Ev_iaload (Ev_getA Fx8 (Ev_aload_n dX8_isLikeThen_30 rfl) (k := 6) (by decide) w1149 dX8_isLikeThen_31) (Ev_iadd (Ev_imul (Ev_sipush dX8_isLikeThen_34 (by decide)) (Ev_iload_n dX8_isLikeThen_37 rfl) dX8_isLikeThen_38) (Ev_iload dX8_isLikeThen_39) dX8_isLikeThen_41) dX8_isLikeThen_42) (t := 50) dX8_isLikeThen_43 (by decide)) (Ev_iconst dX8_isLikeThen_46 (by decide)) dX8_isLikeThen_47 (by decide) (Ev_iconst dX8_isLikeThen_50 (by decide))) dX8_isLikeThen_51 rfl (Nat.le_of_ble_eq_true rfl) (Nat.ne_of_beq_eq_false rfl)) (Sv_iinc dX8_isLikeThen_52 (by decide) (Nat.le_of_ble_eq_true rfl) (Nat.ne_of_beq_eq_false rfl))) dX8_isLikeThen_55 (by decide)))) (Sv_retz (Ev_iload_n dX8_isLikeThen_58 rfl) hr dX8_isLikeThen_59)), Nat.le_of_ble_eq_true rfl, Nat.le_of_ble_eq_true rfl⟩)
theorem dX8_isCycle_0 : decode cX8_isCycle 0 = .ok (.iload_n 2, 1) := by decide +kernel
theorem dX8_isCycle_1 : decode cX8_isCycle 1 = .ok (.iconst 2, 1) := by decide +kernel
theorem dX8_isCycle_2 : decode cX8_isCycle 2 = .ok (.irem, 1) := by decide +kernel
theorem dX8_isCycle_3 : decode cX8_isCycle 3 = .ok (.ifCond .ne 7, 3) := by decide +kernel
theorem dX8_isCycle_6 : decode cX8_isCycle 6 = .ok (.iconst 1, 1) := by decide +kernel
theorem dX8_isCycle_7 : decode cX8_isCycle 7 = .ok (.goto 4, 3) := by decide +kernel
theorem dX8_isCycle_10 : decode cX8_isCycle 10 = .ok (.iconst 0, 1) := by decide +kernel
theorem dX8_isCycle_11 : decode cX8_isCycle 11 = .ok (.istore_n 3, 1) := by decide +kernel
theorem dX8_isCycle_12 : decode cX8_isCycle 12 = .ok (.iconst 0, 1) := by decide +kernel
theorem dX8_isCycle_13 : decode cX8_isCycle 13 = .ok (.istore 4, 2) := by decide +kernel
theorem dX8_isCycle_15 : decode cX8_isCycle 15 = .ok (.iload 4, 2) := by decide +kernel
theorem dX8_isCycle_17 : decode cX8_isCycle 17 = .ok (.aload_n 0, 1) := by decide +kernel
theorem dX8_isCycle_18 : decode cX8_isCycle 18 = .ok (.getfield 7, 3) := by decide +kernel
theorem dX8_isCycle_21 : decode cX8_isCycle 21 = .ok (.bipush 6, 2) := by decide +kernel
theorem dX8_isCycle_23 : decode cX8_isCycle 23 = .ok (.iaload, 1) := by decide +kernel
theorem dX8_isCycle_24 : decode cX8_isCycle 24 = .ok (.if_icmp .ge 49, 3) := by decide +kernel
theorem dX8_isCycle_27 : decode cX8_isCycle 27 = .ok (.iload_n 3, 1) := by decide +kernel
theorem dX8_isCycle_28 : decode cX8_isCycle 28 = .ok (.ifCond .eq 37, 3) := by decide +kernel
theorem dX8_isCycle_31 : decode cX8_isCycle 31 = .ok (.iload_n 2, 1) := by decide +kernel
theorem dX8_isCycle_32 : decode cX8_isCycle 32 = .ok (.aload_n 0, 1) := by decide +kernel
theorem dX8_isCycle_33 : decode cX8_isCycle 33 = .ok (.iload 4, 2) := by decide +kernel
theorem dX8_isCycle_35 : decode cX8_isCycle 35 = .ok (.iconst 5, 1) := by decide +kernel
theorem dX8_isCycle_36 : decode cX8_isCycle 36 = .ok (.invokevirtual 134, 3) := by decide +kernel
theorem dX8_isCycle_39 : decode cX8_isCycle 39 = .ok (.irem, 1) := by decide +kernel
theorem dX8_isCycle_40 : decode cX8_isCycle 40 = .ok (.ifCond .ne 25, 3) := by decide +kernel
theorem dX8_isCycle_43 : decode cX8_isCycle 43 = .ok (.aload_n 0, 1) := by decide +kernel
theorem dX8_isCycle_44 : decode cX8_isCycle 44 = .ok (.iload 4, 2) := by decide +kernel
theorem dX8_isCycle_46 : decode cX8_isCycle 46 = .ok (.iconst 4, 1) := by decide +kernel
theorem dX8_isCycle_47 : decode cX8_isCycle 47 = .ok (.invokevirtual 134, 3) := by decide +kernel
theorem dX8_isCycle_50 : decode cX8_isCycle 50 = .ok (.aload_n 0, 1) := by decide +kernel
theorem dX8_isCycle_51 : decode cX8_isCycle 51 = .ok (.getfield 7, 3) := by decide +kernel
theorem dX8_isCycle_54 : decode cX8_isCycle 54 = .ok (.iconst 2, 1) := by decide +kernel
theorem dX8_isCycle_55 : decode cX8_isCycle 55 = .ok (.iaload, 1) := by decide +kernel
theorem dX8_isCycle_56 : decode cX8_isCycle 56 = .ok (.iload_n 1, 1) := by decide +kernel
theorem dX8_isCycle_57 : decode cX8_isCycle 57 = .ok (.iadd, 1) := by decide +kernel
theorem dX8_isCycle_58 : decode cX8_isCycle 58 = .ok (.if_icmp .gt 7, 3) := by decide +kernel
theorem dX8_isCycle_61 : decode cX8_isCycle 61 = .ok (.iconst 1, 1) := by decide +kernel
theorem dX8_isCycle_62 : decode cX8_isCycle 62 = .ok (.goto 4, 3) := by decide +kernel
theorem dX8_isCycle_65 : decode cX8_isCycle 65 = .ok (.iconst 0, 1) := by decide +kernel
theorem dX8_isCycle_66 : decode cX8_isCycle 66 = .ok (.istore_n 3, 1) := by decide +kernel
theorem dX8_isCycle_67 : decode cX8_isCycle 67 = .ok (.iinc 4 1, 3) := by decide +kernel
theorem dX8_isCycle_70 : decode cX8_isCycle 70 = .ok (.goto (-55), 3) := by decide +kernel
theorem dX8_isCycle_73 : decode cX8_isCycle 73 = .ok (.iload_n 3, 1) := by decide +kernel
theorem dX8_isCycle_74 : decode cX8_isCycle 74 = .ok (.ifCond .eq 18, 3) := by decide +kernel
theorem dX8_isCycle_77 : decode cX8_isCycle 77 = .ok (.aload_n 0, 1) := by decide +kernel
theorem dX8_isCycle_78 : decode cX8_isCycle 78 = .ok (.iload_n 1, 1) := by decide +kernel
theorem dX8_isCycle_79 : decode cX8_isCycle 79 = .ok (.iload_n 1, 1) := by decide +kernel
theorem dX8_isCycle_80 : decode cX8_isCycle 80 = .ok (.iload_n 2, 1) := by decide +kernel
theorem dX8_isCycle_81 : decode cX8_isCycle 81 = .ok (.iadd, 1) := by decide +kernel
theorem dX8_isCycle_82 : decode cX8_isCycle 82 = .ok (.invokevirtual 249, 3) := by decide +kernel
theorem dX8_isCycle_85 : decode cX8_isCycle 85 = .ok (.ifCond .eq 7, 3) := by decide +kernel
theorem dX8_isCycle_88 : decode cX8_isCycle 88 = .ok (.iconst 1, 1) := by decide +kernel
theorem dX8_isCycle_89 : decode cX8_isCycle 89 = .ok (.goto 4, 3) := by decide +kernel
theorem dX8_isCycle_92 : decode cX8_isCycle 92 = .ok (.iconst 0, 1) := by decide +kernel
theorem dX8_isCycle_93 : decode cX8_isCycle 93 = .ok (.ireturn, 1) := by decide +kernel
def f_X8_isCycle : MX := mth 5 (sQ (sTi 3 (eC (cZ z_eq (eQ o_irem (eLi 2) (eI (2)))))) (sQ (sQ (sTi 4 (eI (0))) (sLp (cB c_lt (eLi 4) (eAi 0 (eGa (eLa 0) 8 0) (eI (6)))) (sQ (sTi 3 (eC (cAnd (cAnd (cZ z_ne (eLi 3)) (cZ z_eq (eQ o_irem (eLi 2) (eM (gd 8 f_X8_gustOf) (aI (aI (aA (aN) (eLa 0)) (eLi 4)) (eI (5))))))) (cB c_le (eM (gd 8 f_X8_gustOf) (aI (aI (aA (aN) (eLa 0)) (eLi 4)) (eI (4)))) (eOp o_iadd (eAi 0 (eGa (eLa 0) 8 0) (eI (2))) (eLi 1)))))) (sInc 4 (1))) NF)) (sRz (eC (cAnd (cZ z_ne (eLi 3)) (cZ z_ne (eM (gd 8 f_X8_isLikeThen) (aI (aI (aA (aN) (eLa 0)) (eLi 1)) (eOp o_iadd (eLi 1) (eLi 2))))))))))
theorem Y_X8_isCycle : Yk yX8_isCycle cX8_isCycle 5 (some .boolean) 2 := ⟨w1546, w16, by decide +kernel, by decide +kernel, by decide +kernel⟩
set_option maxRecDepth 20000 in
theorem k_X8_isCycle (l : Launch) (g : GE) : MetX l g yX8_isCycle cX8_isCycle 5 (some .boolean) 3 ({ frames := 1, cells := 0, slots := 0, locals := 24 } : Room) f_X8_isCycle := by
  unfold f_X8_isCycle
  exact MetX.of (own := RX8) 100 0 rfl (by decide +kernel) (by decide) (fun p e s m args below meth c Fin ad0 hr hn => ⟨_, _, Sv_seq (Sv_istore_n (Ev_if (pT := 11) (Cv_if_ne_n (Ev_irem (Ev_iload_n dX8_isCycle_0 rfl) (Ev_iconst dX8_isCycle_1 (by decide)) dX8_isCycle_2) (t := 10) dX8_isCycle_3 (by decide)) (Ev_iconst dX8_isCycle_6 (by decide)) dX8_isCycle_7 (by decide) (Ev_iconst dX8_isCycle_10 (by decide))) dX8_isCycle_11 rfl (Nat.le_of_ble_eq_true rfl) (Nat.ne_of_beq_eq_false rfl)) (Sv_seq (Sv_seq (Sv_istore (Ev_iconst dX8_isCycle_12 (by decide)) dX8_isCycle_13 (Nat.le_of_ble_eq_true rfl) (Nat.ne_of_beq_eq_false rfl)) (Sv_loop0 NF (Cv_icmp_ge_n (Ev_iload dX8_isCycle_15) (Ev_iaload (Ev_getA Fx8 (Ev_aload_n dX8_isCycle_17 rfl) (k := 0) (by decide) w1143 dX8_isCycle_18) (Ev_bipush dX8_isCycle_21 (by decide)) dX8_isCycle_23) (t := 73) dX8_isCycle_24 (by decide)) (Sv_goto (pE := 15) (Sv_seq (Sv_istore_n (Ev_if (pT := 66) (Cv_and (Cv_and (Cv_if_eq_n (Ev_iload_n dX8_isCycle_27 rfl) (t := 65) dX8_isCycle_28 (by decide)) (Cv_if_ne_n (Ev_irem (Ev_iload_n dX8_isCycle_31 rfl) (Ev_call (Av_i (Av_i (Av_a (Av_nil) (Ev_aload_n dX8_isCycle_32 rfl)) (Ev_iload dX8_isCycle_33)) (Ev_iconst dX8_isCycle_35 (by decide))) (Rn_V (ci := 8) Fx8.1 rfl Y_X8_gustOf (k_X8_gustOf _ _) w1401 w1403 wp53 dX8_isCycle_36 (Nat.le_of_ble_eq_true rfl) (Nat.le_of_ble_eq_true rfl) (Nat.le_of_ble_eq_true rfl) (Nat.ne_of_beq_eq_false rfl))) dX8_isCycle_39) (t := 65) dX8_isCycle_40 (by decide))) (Cv_icmp_gt_n (Ev_call (Av_i (Av_i (Av_a (Av_nil) (Ev_aload_n dX8_isCycle_43 rfl)) (Ev_iload dX8_isCycle_44)) (Ev_iconst dX8_isCycle_46 (by decide))) (Rn_V (ci := 8) Fx8.1 rfl Y_X8_gustOf (k_X8_gustOf _ _) w1401 w1403 wp53 dX8_isCycle_47 (Nat.le_of_ble_eq_true rfl) (Nat.le_of_ble_eq_true rfl) (Nat.le_of_ble_eq_true rfl) (Nat.ne_of_beq_eq_false rfl))) (Ev_iadd (Ev_iaload (Ev_getA Fx8 (Ev_aload_n dX8_isCycle_50 rfl) (k := 0) (by decide) w1143 dX8_isCycle_51) (Ev_iconst dX8_isCycle_54 (by decide)) dX8_isCycle_55) (Ev_iload_n dX8_isCycle_56 rfl) dX8_isCycle_57) (t := 65) dX8_isCycle_58 (by decide))) (Ev_iconst dX8_isCycle_61 (by decide)) dX8_isCycle_62 (by decide) (Ev_iconst dX8_isCycle_65 (by decide))) dX8_isCycle_66 rfl (Nat.le_of_ble_eq_true rfl) (Nat.ne_of_beq_eq_false rfl)) (Sv_iinc dX8_isCycle_67 (by decide) (Nat.le_of_ble_eq_true rfl) (Nat.ne_of_beq_eq_false rfl))) dX8_isCycle_70 (by decide)))) (Sv_retz (Ev_if (pT := 93) (Cv_and (Cv_if_eq_n (Ev_iload_n dX8_isCycle_73 rfl) (t := 92) dX8_isCycle_74 (by decide)) (Cv_if_eq_n (Ev_call (Av_i (Av_i (Av_a (Av_nil) (Ev_aload_n dX8_isCycle_77 rfl)) (Ev_iload_n dX8_isCycle_78 rfl)) (Ev_iadd (Ev_iload_n dX8_isCycle_79 rfl) (Ev_iload_n dX8_isCycle_80 rfl) dX8_isCycle_81)) (Rn_V (ci := 8) Fx8.1 rfl Y_X8_isLikeThen (k_X8_isLikeThen _ _) w1547 w1549 wp72 dX8_isCycle_82 (Nat.le_of_ble_eq_true rfl) (Nat.le_of_ble_eq_true rfl) (Nat.le_of_ble_eq_true rfl) (Nat.ne_of_beq_eq_false rfl))) (t := 92) dX8_isCycle_85 (by decide))) (Ev_iconst dX8_isCycle_88 (by decide)) dX8_isCycle_89 (by decide) (Ev_iconst dX8_isCycle_92 (by decide))) hr dX8_isCycle_93)), Nat.le_of_ble_eq_true rfl, Nat.le_of_ble_eq_true rfl⟩)
theorem dX8_cycle_0 : decode cX8_cycle 0 = .ok (.iload_n 1, 1) := by decide +kernel
theorem dX8_cycle_1 : decode cX8_cycle 1 = .ok (.iconst 2, 1) := by decide +kernel
theorem dX8_cycle_2 : decode cX8_cycle 2 = .ok (.bipush 60, 2) := by decide +kernel
theorem dX8_cycle_4 : decode cX8_cycle 4 = .ok (.invokestatic 65, 3) := by decide +kernel
theorem dX8_cycle_7 : decode cX8_cycle 7 = .ok (.ifCond .eq 12, 3) := by decide +kernel
theorem dX8_cycle_10 : decode cX8_cycle 10 = .ok (.iload_n 2, 1) := by decide +kernel
theorem dX8_cycle_11 : decode cX8_cycle 11 = .ok (.iconst 0, 1) := by decide +kernel
theorem dX8_cycle_12 : decode cX8_cycle 12 = .ok (.iconst 1, 1) := by decide +kernel
theorem dX8_cycle_13 : decode cX8_cycle 13 = .ok (.invokestatic 65, 3) := by decide +kernel
theorem dX8_cycle_16 : decode cX8_cycle 16 = .ok (.ifCond .ne 9, 3) := by decide +kernel
theorem dX8_cycle_19 : decode cX8_cycle 19 = .ok (.aload_n 0, 1) := by decide +kernel
theorem dX8_cycle_20 : decode cX8_cycle 20 = .ok (.iconst 1, 1) := by decide +kernel
theorem dX8_cycle_21 : decode cX8_cycle 21 = .ok (.invokevirtual 89, 3) := by decide +kernel
theorem dX8_cycle_24 : decode cX8_cycle 24 = .ok (.ireturn, 1) := by decide +kernel
theorem dX8_cycle_25 : decode cX8_cycle 25 = .ok (.aload_n 0, 1) := by decide +kernel
theorem dX8_cycle_26 : decode cX8_cycle 26 = .ok (.invokevirtual 239, 3) := by decide +kernel
theorem dX8_cycle_29 : decode cX8_cycle 29 = .ok (.iconst 0, 1) := by decide +kernel
theorem dX8_cycle_30 : decode cX8_cycle 30 = .ok (.istore_n 3, 1) := by decide +kernel
theorem dX8_cycle_31 : decode cX8_cycle 31 = .ok (.iload_n 3, 1) := by decide +kernel
theorem dX8_cycle_32 : decode cX8_cycle 32 = .ok (.iload_n 1, 1) := by decide +kernel
theorem dX8_cycle_33 : decode cX8_cycle 33 = .ok (.if_icmp .gt 54, 3) := by decide +kernel
theorem dX8_cycle_36 : decode cX8_cycle 36 = .ok (.iconst 0, 1) := by decide +kernel
theorem dX8_cycle_37 : decode cX8_cycle 37 = .ok (.istore 4, 2) := by decide +kernel
theorem dX8_cycle_39 : decode cX8_cycle 39 = .ok (.iload 4, 2) := by decide +kernel
theorem dX8_cycle_41 : decode cX8_cycle 41 = .ok (.sipush 512, 3) := by decide +kernel
theorem dX8_cycle_44 : decode cX8_cycle 44 = .ok (.if_icmp .ge 33, 3) := by decide +kernel
theorem dX8_cycle_47 : decode cX8_cycle 47 = .ok (.aload_n 0, 1) := by decide +kernel
theorem dX8_cycle_48 : decode cX8_cycle 48 = .ok (.getfield 29, 3) := by decide +kernel
theorem dX8_cycle_51 : decode cX8_cycle 51 = .ok (.sipush 512, 3) := by decide +kernel
theorem dX8_cycle_54 : decode cX8_cycle 54 = .ok (.iload_n 3, 1) := by decide +kernel
theorem dX8_cycle_55 : decode cX8_cycle 55 = .ok (.imul, 1) := by decide +kernel
theorem dX8_cycle_56 : decode cX8_cycle 56 = .ok (.iload 4, 2) := by decide +kernel
theorem dX8_cycle_58 : decode cX8_cycle 58 = .ok (.iadd, 1) := by decide +kernel
theorem dX8_cycle_59 : decode cX8_cycle 59 = .ok (.aload_n 0, 1) := by decide +kernel
theorem dX8_cycle_60 : decode cX8_cycle 60 = .ok (.getfield 7, 3) := by decide +kernel
theorem dX8_cycle_63 : decode cX8_cycle 63 = .ok (.sipush 882, 3) := by decide +kernel
theorem dX8_cycle_66 : decode cX8_cycle 66 = .ok (.iload 4, 2) := by decide +kernel
theorem dX8_cycle_68 : decode cX8_cycle 68 = .ok (.iadd, 1) := by decide +kernel
theorem dX8_cycle_69 : decode cX8_cycle 69 = .ok (.iaload, 1) := by decide +kernel
theorem dX8_cycle_70 : decode cX8_cycle 70 = .ok (.iastore, 1) := by decide +kernel
theorem dX8_cycle_71 : decode cX8_cycle 71 = .ok (.iinc 4 1, 3) := by decide +kernel
theorem dX8_cycle_74 : decode cX8_cycle 74 = .ok (.goto (-35), 3) := by decide +kernel
theorem dX8_cycle_77 : decode cX8_cycle 77 = .ok (.aload_n 0, 1) := by decide +kernel
theorem dX8_cycle_78 : decode cX8_cycle 78 = .ok (.invokevirtual 209, 3) := by decide +kernel
theorem dX8_cycle_81 : decode cX8_cycle 81 = .ok (.iinc 3 1, 3) := by decide +kernel
theorem dX8_cycle_84 : decode cX8_cycle 84 = .ok (.goto (-53), 3) := by decide +kernel
theorem dX8_cycle_87 : decode cX8_cycle 87 = .ok (.aload_n 0, 1) := by decide +kernel
theorem dX8_cycle_88 : decode cX8_cycle 88 = .ok (.invokevirtual 246, 3) := by decide +kernel
theorem dX8_cycle_91 : decode cX8_cycle 91 = .ok (.iconst 0, 1) := by decide +kernel
theorem dX8_cycle_92 : decode cX8_cycle 92 = .ok (.istore_n 3, 1) := by decide +kernel
theorem dX8_cycle_93 : decode cX8_cycle 93 = .ok (.iload_n 3, 1) := by decide +kernel
theorem dX8_cycle_94 : decode cX8_cycle 94 = .ok (.iload_n 1, 1) := by decide +kernel
theorem dX8_cycle_95 : decode cX8_cycle 95 = .ok (.if_icmp .ge 51, 3) := by decide +kernel
theorem dX8_cycle_98 : decode cX8_cycle 98 = .ok (.iconst 1, 1) := by decide +kernel
theorem dX8_cycle_99 : decode cX8_cycle 99 = .ok (.istore 4, 2) := by decide +kernel
theorem dX8_cycle_101 : decode cX8_cycle 101 = .ok (.iload_n 3, 1) := by decide +kernel
theorem dX8_cycle_102 : decode cX8_cycle 102 = .ok (.iload 4, 2) := by decide +kernel
theorem dX8_cycle_104 : decode cX8_cycle 104 = .ok (.iadd, 1) := by decide +kernel
theorem dX8_cycle_105 : decode cX8_cycle 105 = .ok (.iload_n 1, 1) := by decide +kernel
theorem dX8_cycle_106 : decode cX8_cycle 106 = .ok (.if_icmp .gt 34, 3) := by decide +kernel
theorem dX8_cycle_109 : decode cX8_cycle 109 = .ok (.aload_n 0, 1) := by decide +kernel
theorem dX8_cycle_110 : decode cX8_cycle 110 = .ok (.iload_n 3, 1) := by decide +kernel
theorem dX8_cycle_111 : decode cX8_cycle 111 = .ok (.iload 4, 2) := by decide +kernel
theorem dX8_cycle_113 : decode cX8_cycle 113 = .ok (.invokevirtual 252, 3) := by decide +kernel
theorem dX8_cycle_116 : decode cX8_cycle 116 = .ok (.ifCond .eq 18, 3) := by decide +kernel
theorem dX8_cycle_119 : decode cX8_cycle 119 = .ok (.aload_n 0, 1) := by decide +kernel
theorem dX8_cycle_120 : decode cX8_cycle 120 = .ok (.iload_n 2, 1) := by decide +kernel
theorem dX8_cycle_121 : decode cX8_cycle 121 = .ok (.ifCond .ne 7, 3) := by decide +kernel
theorem dX8_cycle_124 : decode cX8_cycle 124 = .ok (.iload_n 3, 1) := by decide +kernel
theorem dX8_cycle_125 : decode cX8_cycle 125 = .ok (.goto 5, 3) := by decide +kernel
theorem dX8_cycle_128 : decode cX8_cycle 128 = .ok (.iload 4, 2) := by decide +kernel
theorem dX8_cycle_130 : decode cX8_cycle 130 = .ok (.invokevirtual 61, 3) := by decide +kernel
theorem dX8_cycle_133 : decode cX8_cycle 133 = .ok (.ireturn, 1) := by decide +kernel
theorem dX8_cycle_134 : decode cX8_cycle 134 = .ok (.iinc 4 1, 3) := by decide +kernel
theorem dX8_cycle_137 : decode cX8_cycle 137 = .ok (.goto (-36), 3) := by decide +kernel
theorem dX8_cycle_140 : decode cX8_cycle 140 = .ok (.iinc 3 1, 3) := by decide +kernel
theorem dX8_cycle_143 : decode cX8_cycle 143 = .ok (.goto (-50), 3) := by decide +kernel
theorem dX8_cycle_146 : decode cX8_cycle 146 = .ok (.aload_n 0, 1) := by decide +kernel
theorem dX8_cycle_147 : decode cX8_cycle 147 = .ok (.iconst (-1), 1) := by decide +kernel
theorem dX8_cycle_148 : decode cX8_cycle 148 = .ok (.invokevirtual 61, 3) := by decide +kernel
theorem dX8_cycle_151 : decode cX8_cycle 151 = .ok (.ireturn, 1) := by decide +kernel
def f_X8_cycle : MX := mth 5 (sQ (sIf (cOr (cNot (cZ z_ne (eM (f_X8_in) (aI (aI (aI (aN) (eLi 1)) (eI (2))) (eI (60)))))) (cNot (cZ z_ne (eM (f_X8_in) (aI (aI (aI (aN) (eLi 2)) (eI (0))) (eI (1))))))) (sR (eM (gd 8 f_X8_fails) (aI (aA (aN) (eLa 0)) (eI (1))))) sN) (sQ (sM (gd 8 f_X8_lays) (aA (aN) (eLa 0))) (sQ (sQ (sTi 3 (eI (0))) (sLp (cB c_le (eLi 3) (eLi 1)) (sQ (sQ (sQ (sTi 4 (eI (0))) (sLp (cB c_lt (eLi 4) (eI (512))) (sQ (sAi 0 (eGa (eLa 0) 8 6) (eOp o_iadd (eOp o_imul (eI (512)) (eLi 3)) (eLi 4)) (eAi 0 (eGa (eLa 0) 8 0) (eOp o_iadd (eI (882)) (eLi 4)))) (sInc 4 (1))) NF)) (sM (gd 8 f_X8_tick) (aA (aN) (eLa 0)))) (sInc 3 (1))) NF)) (sQ (sM (gd 8 f_X8_restores) (aA (aN) (eLa 0))) (sQ (sQ (sTi 3 (eI (0))) (sLp (cB c_lt (eLi 3) (eLi 1)) (sQ (sQ (sTi 4 (eI (1))) (sLp (cB c_le (eOp o_iadd (eLi 3) (eLi 4)) (eLi 1)) (sQ (sIf (cZ z_ne (eM (gd 8 f_X8_isCycle) (aI (aI (aA (aN) (eLa 0)) (eLi 3)) (eLi 4)))) (sR (eM (gd 8 f_X8_tells) (aI (aA (aN) (eLa 0)) (eIf (cZ z_eq (eLi 2)) (eLi 3) (eLi 4))))) sN) (sInc 4 (1))) NF)) (sInc 3 (1))) NF)) (sR (eM (gd 8 f_X8_tells) (aI (aA (aN) (eLa 0)) (eI (-1))))))))))
theorem Y_X8_cycle : Yk yX8_cycle cX8_cycle 5 (some .int) 2 := ⟨w1542, w16, by decide +kernel, by decide +kernel, by decide +kernel⟩
set_option maxRecDepth 20000 in
theorem k_X8_cycle (l : Launch) (g : GE) : MetX l g yX8_cycle cX8_cycle 5 (some .int) 3 ({ frames := 6, cells := 0, slots := 0, locals := 137 } : Room) f_X8_cycle := by
  unfold f_X8_cycle
  exact MetX.of (own := RX8) 100 0 rfl (by decide +kernel) (by decide) (fun p e s m args below meth c Fin ad0 hr hn => ⟨_, _, Sv_seq (Sv_if (Cv_or (Cv_not (Cv_if_eq_n (Ev_call (Av_i (Av_i (Av_i (Av_nil) (Ev_iload_n dX8_cycle_0 rfl)) (Ev_iconst dX8_cycle_1 (by decide))) (Ev_bipush dX8_cycle_2 (by decide))) (Rn_S Y_X8_in (k_X8_in _ _) w1209 w1210 dX8_cycle_4 (Nat.le_of_ble_eq_true rfl) (Nat.le_of_ble_eq_true rfl) (Nat.le_of_ble_eq_true rfl) (Nat.ne_of_beq_eq_false rfl))) (t := 19) dX8_cycle_7 (by decide))) (Cv_not (Cv_if_ne_j (Ev_call (Av_i (Av_i (Av_i (Av_nil) (Ev_iload_n dX8_cycle_10 rfl)) (Ev_iconst dX8_cycle_11 (by decide))) (Ev_iconst dX8_cycle_12 (by decide))) (Rn_S Y_X8_in (k_X8_in _ _) w1209 w1210 dX8_cycle_13 (Nat.le_of_ble_eq_true rfl) (Nat.le_of_ble_eq_true rfl) (Nat.le_of_ble_eq_true rfl) (Nat.ne_of_beq_eq_false rfl))) (t := 25) dX8_cycle_16 (by decide)))) (Sv_ret (Ev_call (Av_i (Av_a (Av_nil) (Ev_aload_n dX8_cycle_19 rfl)) (Ev_iconst dX8_cycle_20 (by decide))) (Rn_V (ci := 8) Fx8.1 rfl Y_X8_fails (k_X8_fails _ _) w1212 w1214 wp29 dX8_cycle_21 (Nat.le_of_ble_eq_true rfl) (Nat.le_of_ble_eq_true rfl) (Nat.le_of_ble_eq_true rfl) (Nat.ne_of_beq_eq_false rfl))) hr dX8_cycle_24) Sv_nop) (Sv_seq (Sv_call (Av_a (Av_nil) (Ev_aload_n dX8_cycle_25 rfl)) (Rn_V (ci := 8) Fx8.1 rfl Y_X8_lays (k_X8_lays _ _) w1527 w1529 wp68 dX8_cycle_26 (Nat.le_of_ble_eq_true rfl) (Nat.le_of_ble_eq_true rfl) (Nat.le_of_ble_eq_true rfl) (Nat.ne_of_beq_eq_false rfl))) (Sv_seq (Sv_seq (Sv_istore_n (Ev_iconst dX8_cycle_29 (by decide)) dX8_cycle_30 rfl (Nat.le_of_ble_eq_true rfl) (Nat.ne_of_beq_eq_false rfl)) (Sv_loop0 NF (Cv_icmp_gt_n (Ev_iload_n dX8_cycle_31 rfl) (Ev_iload_n dX8_cycle_32 rfl) (t := 87) dX8_cycle_33 (by decide)) (Sv_goto (pE := 31) (Sv_seq (Sv_seq (Sv_seq (Sv_istore (Ev_iconst dX8_cycle_36 (by decide)) dX8_cycle_37 (Nat.le_of_ble_eq_true rfl) (Nat.ne_of_beq_eq_false rfl)) (Sv_loop0 NF (Cv_icmp_ge_n (Ev_iload dX8_cycle_39) (Ev_sipush dX8_cycle_41 (by decide)) (t := 77) dX8_cycle_44 (by decide)) (Sv_goto (pE := 39) (Sv_seq (Sv_iastore (Ev_getA Fx8 (Ev_aload_n dX8_cycle_47 rfl) (k := 6) (by decide) w1149 dX8_cycle_48) (Ev_iadd (Ev_imul (Ev_sipush dX8_cycle_51 (by decide)) (Ev_iload_n dX8_cycle_54 rfl) dX8_cycle_55) (Ev_iload dX8_cycle_56) dX8_cycle_58) (Ev_iaload (Ev_getA Fx8 (Ev_aload_n dX8_cycle_59 rfl) (k := 0) (by decide) w1143 dX8_cycle_60) (Ev_iadd (Ev_sipush dX8_cycle_63 (by decide)) (Ev_iload dX8_cycle_66) dX8_cycle_68) dX8_cycle_69) dX8_cycle_70) (Sv_iinc dX8_cycle_71 (by decide) (Nat.le_of_ble_eq_true rfl) (Nat.ne_of_beq_eq_false rfl))) dX8_cycle_74 (by decide)))) (Sv_call (Av_a (Av_nil) (Ev_aload_n dX8_cycle_77 rfl)) (Rn_V (ci := 8) Fx8.1 rfl Y_X8_tick (k_X8_tick _ _) w1393 w1395 wp51 dX8_cycle_78 (Nat.le_of_ble_eq_true rfl) (Nat.le_of_ble_eq_true rfl) (Nat.le_of_ble_eq_true rfl) (Nat.ne_of_beq_eq_false rfl)))) (Sv_iinc dX8_cycle_81 (by decide) (Nat.le_of_ble_eq_true rfl) (Nat.ne_of_beq_eq_false rfl))) dX8_cycle_84 (by decide)))) (Sv_seq (Sv_call (Av_a (Av_nil) (Ev_aload_n dX8_cycle_87 rfl)) (Rn_V (ci := 8) Fx8.1 rfl Y_X8_restores (k_X8_restores _ _) w1535 w1537 wp70 dX8_cycle_88 (Nat.le_of_ble_eq_true rfl) (Nat.le_of_ble_eq_true rfl) (Nat.le_of_ble_eq_true rfl) (Nat.ne_of_beq_eq_false rfl))) (Sv_seq (Sv_seq (Sv_istore_n (Ev_iconst dX8_cycle_91 (by decide)) dX8_cycle_92 rfl (Nat.le_of_ble_eq_true rfl) (Nat.ne_of_beq_eq_false rfl)) (Sv_loop0 NF (Cv_icmp_ge_n (Ev_iload_n dX8_cycle_93 rfl) (Ev_iload_n dX8_cycle_94 rfl) (t := 146) dX8_cycle_95 (by decide)) (Sv_goto (pE := 93) (Sv_seq (Sv_seq (Sv_istore (Ev_iconst dX8_cycle_98 (by decide)) dX8_cycle_99 (Nat.le_of_ble_eq_true rfl) (Nat.ne_of_beq_eq_false rfl)) (Sv_loop0 NF (Cv_icmp_gt_n (Ev_iadd (Ev_iload_n dX8_cycle_101 rfl) (Ev_iload dX8_cycle_102) dX8_cycle_104) (Ev_iload_n dX8_cycle_105 rfl) (t := 140) dX8_cycle_106 (by decide)) (Sv_goto (pE := 101) (Sv_seq (Sv_if (Cv_if_eq_n (Ev_call (Av_i (Av_i (Av_a (Av_nil) (Ev_aload_n dX8_cycle_109 rfl)) (Ev_iload_n dX8_cycle_110 rfl)) (Ev_iload dX8_cycle_111)) (Rn_V (ci := 8) Fx8.1 rfl Y_X8_isCycle (k_X8_isCycle _ _) w1543 w1545 wp71 dX8_cycle_113 (Nat.le_of_ble_eq_true rfl) (Nat.le_of_ble_eq_true rfl) (Nat.le_of_ble_eq_true rfl) (Nat.ne_of_beq_eq_false rfl))) (t := 134) dX8_cycle_116 (by decide)) (Sv_ret (Ev_call (Av_i (Av_a (Av_nil) (Ev_aload_n dX8_cycle_119 rfl)) (Ev_if (pT := 130) (Cv_if_ne_n (Ev_iload_n dX8_cycle_120 rfl) (t := 128) dX8_cycle_121 (by decide)) (Ev_iload_n dX8_cycle_124 rfl) dX8_cycle_125 (by decide) (Ev_iload dX8_cycle_128))) (Rn_V (ci := 8) Fx8.1 rfl Y_X8_tells (k_X8_tells _ _) w1228 w1230 wp33 dX8_cycle_130 (Nat.le_of_ble_eq_true rfl) (Nat.le_of_ble_eq_true rfl) (Nat.le_of_ble_eq_true rfl) (Nat.ne_of_beq_eq_false rfl))) hr dX8_cycle_133) Sv_nop) (Sv_iinc dX8_cycle_134 (by decide) (Nat.le_of_ble_eq_true rfl) (Nat.ne_of_beq_eq_false rfl))) dX8_cycle_137 (by decide)))) (Sv_iinc dX8_cycle_140 (by decide) (Nat.le_of_ble_eq_true rfl) (Nat.ne_of_beq_eq_false rfl))) dX8_cycle_143 (by decide)))) (Sv_ret (Ev_call (Av_i (Av_a (Av_nil) (Ev_aload_n dX8_cycle_146 rfl)) (Ev_iconst dX8_cycle_147 (by decide))) (Rn_V (ci := 8) Fx8.1 rfl Y_X8_tells (k_X8_tells _ _) w1228 w1230 wp33 dX8_cycle_148 (Nat.le_of_ble_eq_true rfl) (Nat.le_of_ble_eq_true rfl) (Nat.le_of_ble_eq_true rfl) (Nat.ne_of_beq_eq_false rfl))) hr dX8_cycle_151))))), Nat.le_of_ble_eq_true rfl, Nat.le_of_ble_eq_true rfl⟩)
theorem dX8_settles_0 : decode cX8_settles 0 = .ok (.iload_n 1, 1) := by decide +kernel
theorem dX8_settles_1 : decode cX8_settles 1 = .ok (.invokestatic 101, 3) := by decide +kernel
theorem dX8_settles_4 : decode cX8_settles 4 = .ok (.ifCond .ne 9, 3) := by decide +kernel
theorem dX8_settles_7 : decode cX8_settles 7 = .ok (.aload_n 0, 1) := by decide +kernel
theorem dX8_settles_8 : decode cX8_settles 8 = .ok (.iconst 1, 1) := by decide +kernel
theorem dX8_settles_9 : decode cX8_settles 9 = .ok (.invokevirtual 89, 3) := by decide +kernel
theorem dX8_settles_12 : decode cX8_settles 12 = .ok (.ireturn, 1) := by decide +kernel
theorem dX8_settles_13 : decode cX8_settles 13 = .ok (.iload_n 2, 1) := by decide +kernel
theorem dX8_settles_14 : decode cX8_settles 14 = .ok (.iconst 1, 1) := by decide +kernel
theorem dX8_settles_15 : decode cX8_settles 15 = .ok (.bipush 32, 2) := by decide +kernel
theorem dX8_settles_17 : decode cX8_settles 17 = .ok (.invokestatic 65, 3) := by decide +kernel
theorem dX8_settles_20 : decode cX8_settles 20 = .ok (.ifCond .eq 25, 3) := by decide +kernel
theorem dX8_settles_23 : decode cX8_settles 23 = .ok (.iload_n 3, 1) := by decide +kernel
theorem dX8_settles_24 : decode cX8_settles 24 = .ok (.iconst 0, 1) := by decide +kernel
theorem dX8_settles_25 : decode cX8_settles 25 = .ok (.sipush 1000, 3) := by decide +kernel
theorem dX8_settles_28 : decode cX8_settles 28 = .ok (.invokestatic 65, 3) := by decide +kernel
theorem dX8_settles_31 : decode cX8_settles 31 = .ok (.ifCond .eq 14, 3) := by decide +kernel
theorem dX8_settles_34 : decode cX8_settles 34 = .ok (.iload 4, 2) := by decide +kernel
theorem dX8_settles_36 : decode cX8_settles 36 = .ok (.iconst 0, 1) := by decide +kernel
theorem dX8_settles_37 : decode cX8_settles 37 = .ok (.bipush 40, 2) := by decide +kernel
theorem dX8_settles_39 : decode cX8_settles 39 = .ok (.invokestatic 65, 3) := by decide +kernel
theorem dX8_settles_42 : decode cX8_settles 42 = .ok (.ifCond .ne 9, 3) := by decide +kernel
theorem dX8_settles_45 : decode cX8_settles 45 = .ok (.aload_n 0, 1) := by decide +kernel
theorem dX8_settles_46 : decode cX8_settles 46 = .ok (.iconst 2, 1) := by decide +kernel
theorem dX8_settles_47 : decode cX8_settles 47 = .ok (.invokevirtual 89, 3) := by decide +kernel
theorem dX8_settles_50 : decode cX8_settles 50 = .ok (.ireturn, 1) := by decide +kernel
theorem dX8_settles_51 : decode cX8_settles 51 = .ok (.aload_n 0, 1) := by decide +kernel
theorem dX8_settles_52 : decode cX8_settles 52 = .ok (.invokevirtual 239, 3) := by decide +kernel
theorem dX8_settles_55 : decode cX8_settles 55 = .ok (.iconst 0, 1) := by decide +kernel
theorem dX8_settles_56 : decode cX8_settles 56 = .ok (.istore 5, 2) := by decide +kernel
theorem dX8_settles_58 : decode cX8_settles 58 = .ok (.iload 5, 2) := by decide +kernel
theorem dX8_settles_60 : decode cX8_settles 60 = .ok (.iload 4, 2) := by decide +kernel
theorem dX8_settles_62 : decode cX8_settles 62 = .ok (.if_icmp .gt 23, 3) := by decide +kernel
theorem dX8_settles_65 : decode cX8_settles 65 = .ok (.aload_n 0, 1) := by decide +kernel
theorem dX8_settles_66 : decode cX8_settles 66 = .ok (.iload_n 1, 1) := by decide +kernel
theorem dX8_settles_67 : decode cX8_settles 67 = .ok (.iload_n 2, 1) := by decide +kernel
theorem dX8_settles_68 : decode cX8_settles 68 = .ok (.iload_n 3, 1) := by decide +kernel
theorem dX8_settles_69 : decode cX8_settles 69 = .ok (.invokevirtual 236, 3) := by decide +kernel
theorem dX8_settles_72 : decode cX8_settles 72 = .ok (.ifCond .ne 13, 3) := by decide +kernel
theorem dX8_settles_75 : decode cX8_settles 75 = .ok (.aload_n 0, 1) := by decide +kernel
theorem dX8_settles_76 : decode cX8_settles 76 = .ok (.invokevirtual 209, 3) := by decide +kernel
theorem dX8_settles_79 : decode cX8_settles 79 = .ok (.iinc 5 1, 3) := by decide +kernel
theorem dX8_settles_82 : decode cX8_settles 82 = .ok (.goto (-24), 3) := by decide +kernel
theorem dX8_settles_85 : decode cX8_settles 85 = .ok (.aload_n 0, 1) := by decide +kernel
theorem dX8_settles_86 : decode cX8_settles 86 = .ok (.invokevirtual 246, 3) := by decide +kernel
theorem dX8_settles_89 : decode cX8_settles 89 = .ok (.aload_n 0, 1) := by decide +kernel
theorem dX8_settles_90 : decode cX8_settles 90 = .ok (.iload 5, 2) := by decide +kernel
theorem dX8_settles_92 : decode cX8_settles 92 = .ok (.iload 4, 2) := by decide +kernel
theorem dX8_settles_94 : decode cX8_settles 94 = .ok (.if_icmp .gt 8, 3) := by decide +kernel
theorem dX8_settles_97 : decode cX8_settles 97 = .ok (.iload 5, 2) := by decide +kernel
theorem dX8_settles_99 : decode cX8_settles 99 = .ok (.goto 4, 3) := by decide +kernel
theorem dX8_settles_102 : decode cX8_settles 102 = .ok (.iconst (-1), 1) := by decide +kernel
theorem dX8_settles_103 : decode cX8_settles 103 = .ok (.invokevirtual 61, 3) := by decide +kernel
theorem dX8_settles_106 : decode cX8_settles 106 = .ok (.ireturn, 1) := by decide +kernel
def f_X8_settles : MX := mth 6 (sQ (sIf (cNot (cZ z_ne (eM (f_X8_isBody) (aI (aN) (eLi 1))))) (sR (eM (gd 8 f_X8_fails) (aI (aA (aN) (eLa 0)) (eI (1))))) sN) (sQ (sIf (cOr (cOr (cNot (cZ z_ne (eM (f_X8_in) (aI (aI (aI (aN) (eLi 2)) (eI (1))) (eI (32)))))) (cNot (cZ z_ne (eM (f_X8_in) (aI (aI (aI (aN) (eLi 3)) (eI (0))) (eI (1000))))))) (cNot (cZ z_ne (eM (f_X8_in) (aI (aI (aI (aN) (eLi 4)) (eI (0))) (eI (40))))))) (sR (eM (gd 8 f_X8_fails) (aI (aA (aN) (eLa 0)) (eI (2))))) sN) (sQ (sM (gd 8 f_X8_lays) (aA (aN) (eLa 0))) (sQ (sTi 5 (eI (0))) (sQ (sLp (cAnd (cB c_le (eLi 5) (eLi 4)) (cNot (cZ z_ne (eM (gd 8 f_X8_isSteady) (aI (aI (aI (aA (aN) (eLa 0)) (eLi 1)) (eLi 2)) (eLi 3)))))) (sQ (sM (gd 8 f_X8_tick) (aA (aN) (eLa 0))) (sInc 5 (1))) NF) (sQ (sM (gd 8 f_X8_restores) (aA (aN) (eLa 0))) (sR (eM (gd 8 f_X8_tells) (aI (aA (aN) (eLa 0)) (eIf (cB c_le (eLi 5) (eLi 4)) (eLi 5) (eI (-1))))))))))))
theorem Y_X8_settles : Yk yX8_settles cX8_settles 6 (some .int) 4 := ⟨w1554, w16, by decide +kernel, by decide +kernel, by decide +kernel⟩
set_option maxRecDepth 20000 in
theorem k_X8_settles (l : Launch) (g : GE) : MetX l g yX8_settles cX8_settles 6 (some .int) 5 ({ frames := 6, cells := 0, slots := 0, locals := 137 } : Room) f_X8_settles := by
  unfold f_X8_settles
  exact MetX.of (own := RX8) 100 0 rfl (by decide +kernel) (by decide) (fun p e s m args below meth c Fin ad0 hr hn => ⟨_, _, Sv_seq (Sv_if (Cv_not (Cv_if_ne_j (Ev_call (Av_i (Av_nil) (Ev_iload_n dX8_settles_0 rfl)) (Rn_S Y_X8_isBody (k_X8_isBody _ _) w1240 w1241 dX8_settles_1 (Nat.le_of_ble_eq_true rfl) (Nat.le_of_ble_eq_true rfl) (Nat.le_of_ble_eq_true rfl) (Nat.ne_of_beq_eq_false rfl))) (t := 13) dX8_settles_4 (by decide))) (Sv_ret (Ev_call (Av_i (Av_a (Av_nil) (Ev_aload_n dX8_settles_7 rfl)) (Ev_iconst dX8_settles_8 (by decide))) (Rn_V (ci := 8) Fx8.1 rfl Y_X8_fails (k_X8_fails _ _) w1212 w1214 wp29 dX8_settles_9 (Nat.le_of_ble_eq_true rfl) (Nat.le_of_ble_eq_true rfl) (Nat.le_of_ble_eq_true rfl) (Nat.ne_of_beq_eq_false rfl))) hr dX8_settles_12) Sv_nop) (Sv_seq (Sv_if (Cv_or (Cv_or (Cv_not (Cv_if_eq_n (Ev_call (Av_i (Av_i (Av_i (Av_nil) (Ev_iload_n dX8_settles_13 rfl)) (Ev_iconst dX8_settles_14 (by decide))) (Ev_bipush dX8_settles_15 (by decide))) (Rn_S Y_X8_in (k_X8_in _ _) w1209 w1210 dX8_settles_17 (Nat.le_of_ble_eq_true rfl) (Nat.le_of_ble_eq_true rfl) (Nat.le_of_ble_eq_true rfl) (Nat.ne_of_beq_eq_false rfl))) (t := 45) dX8_settles_20 (by decide))) (Cv_not (Cv_if_eq_n (Ev_call (Av_i (Av_i (Av_i (Av_nil) (Ev_iload_n dX8_settles_23 rfl)) (Ev_iconst dX8_settles_24 (by decide))) (Ev_sipush dX8_settles_25 (by decide))) (Rn_S Y_X8_in (k_X8_in _ _) w1209 w1210 dX8_settles_28 (Nat.le_of_ble_eq_true rfl) (Nat.le_of_ble_eq_true rfl) (Nat.le_of_ble_eq_true rfl) (Nat.ne_of_beq_eq_false rfl))) (t := 45) dX8_settles_31 (by decide)))) (Cv_not (Cv_if_ne_j (Ev_call (Av_i (Av_i (Av_i (Av_nil) (Ev_iload dX8_settles_34)) (Ev_iconst dX8_settles_36 (by decide))) (Ev_bipush dX8_settles_37 (by decide))) (Rn_S Y_X8_in (k_X8_in _ _) w1209 w1210 dX8_settles_39 (Nat.le_of_ble_eq_true rfl) (Nat.le_of_ble_eq_true rfl) (Nat.le_of_ble_eq_true rfl) (Nat.ne_of_beq_eq_false rfl))) (t := 51) dX8_settles_42 (by decide)))) (Sv_ret (Ev_call (Av_i (Av_a (Av_nil) (Ev_aload_n dX8_settles_45 rfl)) (Ev_iconst dX8_settles_46 (by decide))) (Rn_V (ci := 8) Fx8.1 rfl Y_X8_fails (k_X8_fails _ _) w1212 w1214 wp29 dX8_settles_47 (Nat.le_of_ble_eq_true rfl) (Nat.le_of_ble_eq_true rfl) (Nat.le_of_ble_eq_true rfl) (Nat.ne_of_beq_eq_false rfl))) hr dX8_settles_50) Sv_nop) (Sv_seq (Sv_call (Av_a (Av_nil) (Ev_aload_n dX8_settles_51 rfl)) (Rn_V (ci := 8) Fx8.1 rfl Y_X8_lays (k_X8_lays _ _) w1527 w1529 wp68 dX8_settles_52 (Nat.le_of_ble_eq_true rfl) (Nat.le_of_ble_eq_true rfl) (Nat.le_of_ble_eq_true rfl) (Nat.ne_of_beq_eq_false rfl))) (Sv_seq (Sv_istore (Ev_iconst dX8_settles_55 (by decide)) dX8_settles_56 (Nat.le_of_ble_eq_true rfl) (Nat.ne_of_beq_eq_false rfl)) (Sv_seq (Sv_loop0 NF (Cv_and (Cv_icmp_gt_n (Ev_iload dX8_settles_58) (Ev_iload dX8_settles_60) (t := 85) dX8_settles_62 (by decide)) (Cv_not (Cv_if_ne_j (Ev_call (Av_i (Av_i (Av_i (Av_a (Av_nil) (Ev_aload_n dX8_settles_65 rfl)) (Ev_iload_n dX8_settles_66 rfl)) (Ev_iload_n dX8_settles_67 rfl)) (Ev_iload_n dX8_settles_68 rfl)) (Rn_V (ci := 8) Fx8.1 rfl Y_X8_isSteady (k_X8_isSteady _ _) w1507 w1509 wp67 dX8_settles_69 (Nat.le_of_ble_eq_true rfl) (Nat.le_of_ble_eq_true rfl) (Nat.le_of_ble_eq_true rfl) (Nat.ne_of_beq_eq_false rfl))) (t := 85) dX8_settles_72 (by decide)))) (Sv_goto (pE := 58) (Sv_seq (Sv_call (Av_a (Av_nil) (Ev_aload_n dX8_settles_75 rfl)) (Rn_V (ci := 8) Fx8.1 rfl Y_X8_tick (k_X8_tick _ _) w1393 w1395 wp51 dX8_settles_76 (Nat.le_of_ble_eq_true rfl) (Nat.le_of_ble_eq_true rfl) (Nat.le_of_ble_eq_true rfl) (Nat.ne_of_beq_eq_false rfl))) (Sv_iinc dX8_settles_79 (by decide) (Nat.le_of_ble_eq_true rfl) (Nat.ne_of_beq_eq_false rfl))) dX8_settles_82 (by decide))) (Sv_seq (Sv_call (Av_a (Av_nil) (Ev_aload_n dX8_settles_85 rfl)) (Rn_V (ci := 8) Fx8.1 rfl Y_X8_restores (k_X8_restores _ _) w1535 w1537 wp70 dX8_settles_86 (Nat.le_of_ble_eq_true rfl) (Nat.le_of_ble_eq_true rfl) (Nat.le_of_ble_eq_true rfl) (Nat.ne_of_beq_eq_false rfl))) (Sv_ret (Ev_call (Av_i (Av_a (Av_nil) (Ev_aload_n dX8_settles_89 rfl)) (Ev_if (pT := 103) (Cv_icmp_gt_n (Ev_iload dX8_settles_90) (Ev_iload dX8_settles_92) (t := 102) dX8_settles_94 (by decide)) (Ev_iload dX8_settles_97) dX8_settles_99 (by decide) (Ev_iconst dX8_settles_102 (by decide)))) (Rn_V (ci := 8) Fx8.1 rfl Y_X8_tells (k_X8_tells _ _) w1228 w1230 wp33 dX8_settles_103 (Nat.le_of_ble_eq_true rfl) (Nat.le_of_ble_eq_true rfl) (Nat.le_of_ble_eq_true rfl) (Nat.ne_of_beq_eq_false rfl))) hr dX8_settles_106)))))), Nat.le_of_ble_eq_true rfl, Nat.le_of_ble_eq_true rfl⟩)
theorem dX8_bestShift_0 : decode cX8_bestShift 0 = .ok (.iload_n 1, 1) := by decide +kernel
theorem dX8_bestShift_1 : decode cX8_bestShift 1 = .ok (.invokestatic 101, 3) := by decide +kernel
theorem dX8_bestShift_4 : decode cX8_bestShift 4 = .ok (.ifCond .ne 9, 3) := by decide +kernel
theorem dX8_bestShift_7 : decode cX8_bestShift 7 = .ok (.aload_n 0, 1) := by decide +kernel
theorem dX8_bestShift_8 : decode cX8_bestShift 8 = .ok (.iconst 1, 1) := by decide +kernel
theorem dX8_bestShift_9 : decode cX8_bestShift 9 = .ok (.invokevirtual 89, 3) := by decide +kernel
theorem dX8_bestShift_12 : decode cX8_bestShift 12 = .ok (.ireturn, 1) := by decide +kernel
theorem dX8_bestShift_13 : decode cX8_bestShift 13 = .ok (.iload_n 2, 1) := by decide +kernel
theorem dX8_bestShift_14 : decode cX8_bestShift 14 = .ok (.iconst 1, 1) := by decide +kernel
theorem dX8_bestShift_15 : decode cX8_bestShift 15 = .ok (.bipush 40, 2) := by decide +kernel
theorem dX8_bestShift_17 : decode cX8_bestShift 17 = .ok (.invokestatic 65, 3) := by decide +kernel
theorem dX8_bestShift_20 : decode cX8_bestShift 20 = .ok (.ifCond .ne 9, 3) := by decide +kernel
theorem dX8_bestShift_23 : decode cX8_bestShift 23 = .ok (.aload_n 0, 1) := by decide +kernel
theorem dX8_bestShift_24 : decode cX8_bestShift 24 = .ok (.iconst 2, 1) := by decide +kernel
theorem dX8_bestShift_25 : decode cX8_bestShift 25 = .ok (.invokevirtual 89, 3) := by decide +kernel
theorem dX8_bestShift_28 : decode cX8_bestShift 28 = .ok (.ireturn, 1) := by decide +kernel
theorem dX8_bestShift_29 : decode cX8_bestShift 29 = .ok (.aload_n 0, 1) := by decide +kernel
theorem dX8_bestShift_30 : decode cX8_bestShift 30 = .ok (.iload_n 1, 1) := by decide +kernel
theorem dX8_bestShift_31 : decode cX8_bestShift 31 = .ok (.invokevirtual 111, 3) := by decide +kernel
theorem dX8_bestShift_34 : decode cX8_bestShift 34 = .ok (.ifCond .ne 9, 3) := by decide +kernel
theorem dX8_bestShift_37 : decode cX8_bestShift 37 = .ok (.aload_n 0, 1) := by decide +kernel
theorem dX8_bestShift_38 : decode cX8_bestShift 38 = .ok (.iconst 3, 1) := by decide +kernel
theorem dX8_bestShift_39 : decode cX8_bestShift 39 = .ok (.invokevirtual 89, 3) := by decide +kernel
theorem dX8_bestShift_42 : decode cX8_bestShift 42 = .ok (.ireturn, 1) := by decide +kernel
theorem dX8_bestShift_43 : decode cX8_bestShift 43 = .ok (.aload_n 0, 1) := by decide +kernel
theorem dX8_bestShift_44 : decode cX8_bestShift 44 = .ok (.invokevirtual 239, 3) := by decide +kernel
theorem dX8_bestShift_47 : decode cX8_bestShift 47 = .ok (.iconst 0, 1) := by decide +kernel
theorem dX8_bestShift_48 : decode cX8_bestShift 48 = .ok (.istore_n 3, 1) := by decide +kernel
theorem dX8_bestShift_49 : decode cX8_bestShift 49 = .ok (.aload_n 0, 1) := by decide +kernel
theorem dX8_bestShift_50 : decode cX8_bestShift 50 = .ok (.iload_n 1, 1) := by decide +kernel
theorem dX8_bestShift_51 : decode cX8_bestShift 51 = .ok (.iconst 1, 1) := by decide +kernel
theorem dX8_bestShift_52 : decode cX8_bestShift 52 = .ok (.iload_n 2, 1) := by decide +kernel
theorem dX8_bestShift_53 : decode cX8_bestShift 53 = .ok (.invokevirtual 242, 3) := by decide +kernel
theorem dX8_bestShift_56 : decode cX8_bestShift 56 = .ok (.istore 4, 2) := by decide +kernel
theorem dX8_bestShift_58 : decode cX8_bestShift 58 = .ok (.aload_n 0, 1) := by decide +kernel
theorem dX8_bestShift_59 : decode cX8_bestShift 59 = .ok (.invokevirtual 246, 3) := by decide +kernel
theorem dX8_bestShift_62 : decode cX8_bestShift 62 = .ok (.iconst 2, 1) := by decide +kernel
theorem dX8_bestShift_63 : decode cX8_bestShift 63 = .ok (.istore 5, 2) := by decide +kernel
theorem dX8_bestShift_65 : decode cX8_bestShift 65 = .ok (.iload 5, 2) := by decide +kernel
theorem dX8_bestShift_67 : decode cX8_bestShift 67 = .ok (.bipush 8, 2) := by decide +kernel
theorem dX8_bestShift_69 : decode cX8_bestShift 69 = .ok (.if_icmp .ge 92, 3) := by decide +kernel
theorem dX8_bestShift_72 : decode cX8_bestShift 72 = .ok (.iload 5, 2) := by decide +kernel
theorem dX8_bestShift_74 : decode cX8_bestShift 74 = .ok (.iconst 2, 1) := by decide +kernel
theorem dX8_bestShift_75 : decode cX8_bestShift 75 = .ok (.irem, 1) := by decide +kernel
theorem dX8_bestShift_76 : decode cX8_bestShift 76 = .ok (.ifCond .ne 11, 3) := by decide +kernel
theorem dX8_bestShift_79 : decode cX8_bestShift 79 = .ok (.iload 5, 2) := by decide +kernel
theorem dX8_bestShift_81 : decode cX8_bestShift 81 = .ok (.ineg, 1) := by decide +kernel
theorem dX8_bestShift_82 : decode cX8_bestShift 82 = .ok (.iconst 2, 1) := by decide +kernel
theorem dX8_bestShift_83 : decode cX8_bestShift 83 = .ok (.idiv, 1) := by decide +kernel
theorem dX8_bestShift_84 : decode cX8_bestShift 84 = .ok (.goto 7, 3) := by decide +kernel
theorem dX8_bestShift_87 : decode cX8_bestShift 87 = .ok (.iload 5, 2) := by decide +kernel
theorem dX8_bestShift_89 : decode cX8_bestShift 89 = .ok (.iconst 2, 1) := by decide +kernel
theorem dX8_bestShift_90 : decode cX8_bestShift 90 = .ok (.idiv, 1) := by decide +kernel
theorem dX8_bestShift_91 : decode cX8_bestShift 91 = .ok (.istore 6, 2) := by decide +kernel
theorem dX8_bestShift_93 : decode cX8_bestShift 93 = .ok (.aload_n 0, 1) := by decide +kernel
theorem dX8_bestShift_94 : decode cX8_bestShift 94 = .ok (.iload_n 1, 1) := by decide +kernel
theorem dX8_bestShift_95 : decode cX8_bestShift 95 = .ok (.iconst 0, 1) := by decide +kernel
theorem dX8_bestShift_96 : decode cX8_bestShift 96 = .ok (.iload 6, 2) := by decide +kernel
theorem dX8_bestShift_98 : decode cX8_bestShift 98 = .ok (.invokevirtual 114, 3) := by decide +kernel
theorem dX8_bestShift_101 : decode cX8_bestShift 101 = .ok (.ifCond .eq 54, 3) := by decide +kernel
theorem dX8_bestShift_104 : decode cX8_bestShift 104 = .ok (.aload_n 0, 1) := by decide +kernel
theorem dX8_bestShift_105 : decode cX8_bestShift 105 = .ok (.iload_n 1, 1) := by decide +kernel
theorem dX8_bestShift_106 : decode cX8_bestShift 106 = .ok (.iconst 0, 1) := by decide +kernel
theorem dX8_bestShift_107 : decode cX8_bestShift 107 = .ok (.iload 6, 2) := by decide +kernel
theorem dX8_bestShift_109 : decode cX8_bestShift 109 = .ok (.invokevirtual 117, 3) := by decide +kernel
theorem dX8_bestShift_112 : decode cX8_bestShift 112 = .ok (.aload_n 0, 1) := by decide +kernel
theorem dX8_bestShift_113 : decode cX8_bestShift 113 = .ok (.iload_n 1, 1) := by decide +kernel
theorem dX8_bestShift_114 : decode cX8_bestShift 114 = .ok (.iconst 1, 1) := by decide +kernel
theorem dX8_bestShift_115 : decode cX8_bestShift 115 = .ok (.iload_n 2, 1) := by decide +kernel
theorem dX8_bestShift_116 : decode cX8_bestShift 116 = .ok (.invokevirtual 242, 3) := by decide +kernel
theorem dX8_bestShift_119 : decode cX8_bestShift 119 = .ok (.istore 7, 2) := by decide +kernel
theorem dX8_bestShift_121 : decode cX8_bestShift 121 = .ok (.aload_n 0, 1) := by decide +kernel
theorem dX8_bestShift_122 : decode cX8_bestShift 122 = .ok (.invokevirtual 246, 3) := by decide +kernel
theorem dX8_bestShift_125 : decode cX8_bestShift 125 = .ok (.iload 7, 2) := by decide +kernel
theorem dX8_bestShift_127 : decode cX8_bestShift 127 = .ok (.iload 4, 2) := by decide +kernel
theorem dX8_bestShift_129 : decode cX8_bestShift 129 = .ok (.if_icmp .le 8, 3) := by decide +kernel
theorem dX8_bestShift_132 : decode cX8_bestShift 132 = .ok (.iload 6, 2) := by decide +kernel
theorem dX8_bestShift_134 : decode cX8_bestShift 134 = .ok (.goto 4, 3) := by decide +kernel
theorem dX8_bestShift_137 : decode cX8_bestShift 137 = .ok (.iload_n 3, 1) := by decide +kernel
theorem dX8_bestShift_138 : decode cX8_bestShift 138 = .ok (.istore_n 3, 1) := by decide +kernel
theorem dX8_bestShift_139 : decode cX8_bestShift 139 = .ok (.iload 7, 2) := by decide +kernel
theorem dX8_bestShift_141 : decode cX8_bestShift 141 = .ok (.iload 4, 2) := by decide +kernel
theorem dX8_bestShift_143 : decode cX8_bestShift 143 = .ok (.if_icmp .le 8, 3) := by decide +kernel
theorem dX8_bestShift_146 : decode cX8_bestShift 146 = .ok (.iload 7, 2) := by decide +kernel
theorem dX8_bestShift_148 : decode cX8_bestShift 148 = .ok (.goto 5, 3) := by decide +kernel
theorem dX8_bestShift_151 : decode cX8_bestShift 151 = .ok (.iload 4, 2) := by decide +kernel
theorem dX8_bestShift_153 : decode cX8_bestShift 153 = .ok (.istore 4, 2) := by decide +kernel
theorem dX8_bestShift_155 : decode cX8_bestShift 155 = .ok (.iinc 5 1, 3) := by decide +kernel
theorem dX8_bestShift_158 : decode cX8_bestShift 158 = .ok (.goto (-93), 3) := by decide +kernel
theorem dX8_bestShift_161 : decode cX8_bestShift 161 = .ok (.aload_n 0, 1) := by decide +kernel
theorem dX8_bestShift_162 : decode cX8_bestShift 162 = .ok (.iload_n 3, 1) := by decide +kernel
theorem dX8_bestShift_163 : decode cX8_bestShift 163 = .ok (.invokevirtual 61, 3) := by decide +kernel
theorem dX8_bestShift_166 : decode cX8_bestShift 166 = .ok (.ireturn, 1) := by decide +kernel
def f_X8_bestShift : MX := mth 8 (sQ (sIf (cNot (cZ z_ne (eM (f_X8_isBody) (aI (aN) (eLi 1))))) (sR (eM (gd 8 f_X8_fails) (aI (aA (aN) (eLa 0)) (eI (1))))) sN) (sQ (sIf (cNot (cZ z_ne (eM (f_X8_in) (aI (aI (aI (aN) (eLi 2)) (eI (1))) (eI (40)))))) (sR (eM (gd 8 f_X8_fails) (aI (aA (aN) (eLa 0)) (eI (2))))) sN) (sQ (sIf (cZ z_eq (eM (gd 8 f_X8_cellsOf) (aI (aA (aN) (eLa 0)) (eLi 1)))) (sR (eM (gd 8 f_X8_fails) (aI (aA (aN) (eLa 0)) (eI (3))))) sN) (sQ (sM (gd 8 f_X8_lays) (aA (aN) (eLa 0))) (sQ (sTi 3 (eI (0))) (sQ (sTi 4 (eM (gd 8 f_X8_takesIn) (aI (aI (aI (aA (aN) (eLa 0)) (eLi 1)) (eI (1))) (eLi 2)))) (sQ (sM (gd 8 f_X8_restores) (aA (aN) (eLa 0))) (sQ (sQ (sTi 5 (eI (2))) (sLp (cB c_lt (eLi 5) (eI (8))) (sQ (sQ (sTi 6 (eIf (cZ z_eq (eQ o_irem (eLi 5) (eI (2)))) (eQ o_idiv (eU o_ineg (eLi 5)) (eI (2))) (eQ o_idiv (eLi 5) (eI (2))))) (sIf (cZ z_ne (eM (gd 8 f_X8_canShift) (aI (aI (aI (aA (aN) (eLa 0)) (eLi 1)) (eI (0))) (eLi 6)))) (sQ (sM (gd 8 f_X8_shifts) (aI (aI (aI (aA (aN) (eLa 0)) (eLi 1)) (eI (0))) (eLi 6))) (sQ (sTi 7 (eM (gd 8 f_X8_takesIn) (aI (aI (aI (aA (aN) (eLa 0)) (eLi 1)) (eI (1))) (eLi 2)))) (sQ (sM (gd 8 f_X8_restores) (aA (aN) (eLa 0))) (sQ (sTi 3 (eIf (cB c_gt (eLi 7) (eLi 4)) (eLi 6) (eLi 3))) (sTi 4 (eIf (cB c_gt (eLi 7) (eLi 4)) (eLi 7) (eLi 4))))))) sN)) (sInc 5 (1))) NF)) (sR (eM (gd 8 f_X8_tells) (aI (aA (aN) (eLa 0)) (eLi 3))))))))))))
theorem Y_X8_bestShift : Yk yX8_bestShift cX8_bestShift 8 (some .int) 2 := ⟨w1558, w16, by decide +kernel, by decide +kernel, by decide +kernel⟩
set_option maxRecDepth 20000 in
theorem k_X8_bestShift (l : Launch) (g : GE) : MetX l g yX8_bestShift cX8_bestShift 8 (some .int) 3 ({ frames := 8, cells := 0, slots := 0, locals := 183 } : Room) f_X8_bestShift := by
  unfold f_X8_bestShift
  exact MetX.of (own := RX8) 100 0 rfl (by decide +kernel) (by decide) (fun p e s m args below meth c Fin ad0 hr hn => ⟨_, _, Sv_seq (Sv_if (Cv_not (Cv_if_ne_j (Ev_call (Av_i (Av_nil) (Ev_iload_n dX8_bestShift_0 rfl)) (Rn_S Y_X8_isBody (k_X8_isBody _ _) w1240 w1241 dX8_bestShift_1 (Nat.le_of_ble_eq_true rfl) (Nat.le_of_ble_eq_true rfl) (Nat.le_of_ble_eq_true rfl) (Nat.ne_of_beq_eq_false rfl))) (t := 13) dX8_bestShift_4 (by decide))) (Sv_ret (Ev_call (Av_i (Av_a (Av_nil) (Ev_aload_n dX8_bestShift_7 rfl)) (Ev_iconst dX8_bestShift_8 (by decide))) (Rn_V (ci := 8) Fx8.1 rfl Y_X8_fails (k_X8_fails _ _) w1212 w1214 wp29 dX8_bestShift_9 (Nat.le_of_ble_eq_true rfl) (Nat.le_of_ble_eq_true rfl) (Nat.le_of_ble_eq_true rfl) (Nat.ne_of_beq_eq_false rfl))) hr dX8_bestShift_12) Sv_nop) (Sv_seq (Sv_if (Cv_not (Cv_if_ne_j (Ev_call (Av_i (Av_i (Av_i (Av_nil) (Ev_iload_n dX8_bestShift_13 rfl)) (Ev_iconst dX8_bestShift_14 (by decide))) (Ev_bipush dX8_bestShift_15 (by decide))) (Rn_S Y_X8_in (k_X8_in _ _) w1209 w1210 dX8_bestShift_17 (Nat.le_of_ble_eq_true rfl) (Nat.le_of_ble_eq_true rfl) (Nat.le_of_ble_eq_true rfl) (Nat.ne_of_beq_eq_false rfl))) (t := 29) dX8_bestShift_20 (by decide))) (Sv_ret (Ev_call (Av_i (Av_a (Av_nil) (Ev_aload_n dX8_bestShift_23 rfl)) (Ev_iconst dX8_bestShift_24 (by decide))) (Rn_V (ci := 8) Fx8.1 rfl Y_X8_fails (k_X8_fails _ _) w1212 w1214 wp29 dX8_bestShift_25 (Nat.le_of_ble_eq_true rfl) (Nat.le_of_ble_eq_true rfl) (Nat.le_of_ble_eq_true rfl) (Nat.ne_of_beq_eq_false rfl))) hr dX8_bestShift_28) Sv_nop) (Sv_seq (Sv_if (Cv_if_ne_n (Ev_call (Av_i (Av_a (Av_nil) (Ev_aload_n dX8_bestShift_29 rfl)) (Ev_iload_n dX8_bestShift_30 rfl)) (Rn_V (ci := 8) Fx8.1 rfl Y_X8_cellsOf (k_X8_cellsOf _ _) w1262 w1264 wp38 dX8_bestShift_31 (Nat.le_of_ble_eq_true rfl) (Nat.le_of_ble_eq_true rfl) (Nat.le_of_ble_eq_true rfl) (Nat.ne_of_beq_eq_false rfl))) (t := 43) dX8_bestShift_34 (by decide)) (Sv_ret (Ev_call (Av_i (Av_a (Av_nil) (Ev_aload_n dX8_bestShift_37 rfl)) (Ev_iconst dX8_bestShift_38 (by decide))) (Rn_V (ci := 8) Fx8.1 rfl Y_X8_fails (k_X8_fails _ _) w1212 w1214 wp29 dX8_bestShift_39 (Nat.le_of_ble_eq_true rfl) (Nat.le_of_ble_eq_true rfl) (Nat.le_of_ble_eq_true rfl) (Nat.ne_of_beq_eq_false rfl))) hr dX8_bestShift_42) Sv_nop) (Sv_seq (Sv_call (Av_a (Av_nil) (Ev_aload_n dX8_bestShift_43 rfl)) (Rn_V (ci := 8) Fx8.1 rfl Y_X8_lays (k_X8_lays _ _) w1527 w1529 wp68 dX8_bestShift_44 (Nat.le_of_ble_eq_true rfl) (Nat.le_of_ble_eq_true rfl) (Nat.le_of_ble_eq_true rfl) (Nat.ne_of_beq_eq_false rfl))) (Sv_seq (Sv_istore_n (Ev_iconst dX8_bestShift_47 (by decide)) dX8_bestShift_48 rfl (Nat.le_of_ble_eq_true rfl) (Nat.ne_of_beq_eq_false rfl)) (Sv_seq (Sv_istore (Ev_call (Av_i (Av_i (Av_i (Av_a (Av_nil) (Ev_aload_n dX8_bestShift_49 rfl)) (Ev_iload_n dX8_bestShift_50 rfl)) (Ev_iconst dX8_bestShift_51 (by decide))) (Ev_iload_n dX8_bestShift_52 rfl)) (Rn_V (ci := 8) Fx8.1 rfl Y_X8_takesIn (k_X8_takesIn _ _) w1531 w1533 wp69 dX8_bestShift_53 (Nat.le_of_ble_eq_true rfl) (Nat.le_of_ble_eq_true rfl) (Nat.le_of_ble_eq_true rfl) (Nat.ne_of_beq_eq_false rfl))) dX8_bestShift_56 (Nat.le_of_ble_eq_true rfl) (Nat.ne_of_beq_eq_false rfl)) (Sv_seq (Sv_call (Av_a (Av_nil) (Ev_aload_n dX8_bestShift_58 rfl)) (Rn_V (ci := 8) Fx8.1 rfl Y_X8_restores (k_X8_restores _ _) w1535 w1537 wp70 dX8_bestShift_59 (Nat.le_of_ble_eq_true rfl) (Nat.le_of_ble_eq_true rfl) (Nat.le_of_ble_eq_true rfl) (Nat.ne_of_beq_eq_false rfl))) (Sv_seq (Sv_seq (Sv_istore (Ev_iconst dX8_bestShift_62 (by decide)) dX8_bestShift_63 (Nat.le_of_ble_eq_true rfl) (Nat.ne_of_beq_eq_false rfl)) (Sv_loop0 NF (Cv_icmp_ge_n (Ev_iload dX8_bestShift_65) (Ev_bipush dX8_bestShift_67 (by decide)) (t := 161) dX8_bestShift_69 (by decide)) (Sv_goto (pE := 65) (Sv_seq (Sv_seq (Sv_istore (Ev_if (pT := 91) (Cv_if_ne_n (Ev_irem (Ev_iload dX8_bestShift_72) (Ev_iconst dX8_bestShift_74 (by decide)) dX8_bestShift_75) (t := 87) dX8_bestShift_76 (by decide)) (Ev_idiv (Ev_ineg (Ev_iload dX8_bestShift_79) dX8_bestShift_81) (Ev_iconst dX8_bestShift_82 (by decide)) dX8_bestShift_83) dX8_bestShift_84 (by decide) (Ev_idiv (Ev_iload dX8_bestShift_87) (Ev_iconst dX8_bestShift_89 (by decide)) dX8_bestShift_90)) dX8_bestShift_91 (Nat.le_of_ble_eq_true rfl) (Nat.ne_of_beq_eq_false rfl)) (Sv_if (Cv_if_eq_n (Ev_call (Av_i (Av_i (Av_i (Av_a (Av_nil) (Ev_aload_n dX8_bestShift_93 rfl)) (Ev_iload_n dX8_bestShift_94 rfl)) (Ev_iconst dX8_bestShift_95 (by decide))) (Ev_iload dX8_bestShift_96)) (Rn_V (ci := 8) Fx8.1 rfl Y_X8_canShift (k_X8_canShift _ _) w1278 w1280 wp39 dX8_bestShift_98 (Nat.le_of_ble_eq_true rfl) (Nat.le_of_ble_eq_true rfl) (Nat.le_of_ble_eq_true rfl) (Nat.ne_of_beq_eq_false rfl))) (t := 155) dX8_bestShift_101 (by decide)) (Sv_seq (Sv_call (Av_i (Av_i (Av_i (Av_a (Av_nil) (Ev_aload_n dX8_bestShift_104 rfl)) (Ev_iload_n dX8_bestShift_105 rfl)) (Ev_iconst dX8_bestShift_106 (by decide))) (Ev_iload dX8_bestShift_107)) (Rn_V (ci := 8) Fx8.1 rfl Y_X8_shifts (k_X8_shifts _ _) w1282 w1284 wp40 dX8_bestShift_109 (Nat.le_of_ble_eq_true rfl) (Nat.le_of_ble_eq_true rfl) (Nat.le_of_ble_eq_true rfl) (Nat.ne_of_beq_eq_false rfl))) (Sv_seq (Sv_istore (Ev_call (Av_i (Av_i (Av_i (Av_a (Av_nil) (Ev_aload_n dX8_bestShift_112 rfl)) (Ev_iload_n dX8_bestShift_113 rfl)) (Ev_iconst dX8_bestShift_114 (by decide))) (Ev_iload_n dX8_bestShift_115 rfl)) (Rn_V (ci := 8) Fx8.1 rfl Y_X8_takesIn (k_X8_takesIn _ _) w1531 w1533 wp69 dX8_bestShift_116 (Nat.le_of_ble_eq_true rfl) (Nat.le_of_ble_eq_true rfl) (Nat.le_of_ble_eq_true rfl) (Nat.ne_of_beq_eq_false rfl))) dX8_bestShift_119 (Nat.le_of_ble_eq_true rfl) (Nat.ne_of_beq_eq_false rfl)) (Sv_seq (Sv_call (Av_a (Av_nil) (Ev_aload_n dX8_bestShift_121 rfl)) (Rn_V (ci := 8) Fx8.1 rfl Y_X8_restores (k_X8_restores _ _) w1535 w1537 wp70 dX8_bestShift_122 (Nat.le_of_ble_eq_true rfl) (Nat.le_of_ble_eq_true rfl) (Nat.le_of_ble_eq_true rfl) (Nat.ne_of_beq_eq_false rfl))) (Sv_seq (Sv_istore_n (Ev_if (pT := 138) (Cv_icmp_le_n (Ev_iload dX8_bestShift_125) (Ev_iload dX8_bestShift_127) (t := 137) dX8_bestShift_129 (by decide)) (Ev_iload dX8_bestShift_132) dX8_bestShift_134 (by decide) (Ev_iload_n dX8_bestShift_137 rfl)) dX8_bestShift_138 rfl (Nat.le_of_ble_eq_true rfl) (Nat.ne_of_beq_eq_false rfl)) (Sv_istore (Ev_if (pT := 153) (Cv_icmp_le_n (Ev_iload dX8_bestShift_139) (Ev_iload dX8_bestShift_141) (t := 151) dX8_bestShift_143 (by decide)) (Ev_iload dX8_bestShift_146) dX8_bestShift_148 (by decide) (Ev_iload dX8_bestShift_151)) dX8_bestShift_153 (Nat.le_of_ble_eq_true rfl) (Nat.ne_of_beq_eq_false rfl)))))) Sv_nop)) (Sv_iinc dX8_bestShift_155 (by decide) (Nat.le_of_ble_eq_true rfl) (Nat.ne_of_beq_eq_false rfl))) dX8_bestShift_158 (by decide)))) (Sv_ret (Ev_call (Av_i (Av_a (Av_nil) (Ev_aload_n dX8_bestShift_161 rfl)) (Ev_iload_n dX8_bestShift_162 rfl)) (Rn_V (ci := 8) Fx8.1 rfl Y_X8_tells (k_X8_tells _ _) w1228 w1230 wp33 dX8_bestShift_163 (Nat.le_of_ble_eq_true rfl) (Nat.le_of_ble_eq_true rfl) (Nat.le_of_ble_eq_true rfl) (Nat.ne_of_beq_eq_false rfl))) hr dX8_bestShift_166)))))))), Nat.le_of_ble_eq_true rfl, Nat.le_of_ble_eq_true rfl⟩)
theorem dX8_bestStart_0 : decode cX8_bestStart 0 = .ok (.aload_n 0, 1) := by decide +kernel
theorem dX8_bestStart_1 : decode cX8_bestStart 1 = .ok (.iload_n 1, 1) := by decide +kernel
theorem dX8_bestStart_2 : decode cX8_bestStart 2 = .ok (.invokevirtual 131, 3) := by decide +kernel
theorem dX8_bestStart_5 : decode cX8_bestStart 5 = .ok (.ifCond .eq 10, 3) := by decide +kernel
theorem dX8_bestStart_8 : decode cX8_bestStart 8 = .ok (.iload_n 2, 1) := by decide +kernel
theorem dX8_bestStart_9 : decode cX8_bestStart 9 = .ok (.invokestatic 101, 3) := by decide +kernel
theorem dX8_bestStart_12 : decode cX8_bestStart 12 = .ok (.ifCond .ne 9, 3) := by decide +kernel
theorem dX8_bestStart_15 : decode cX8_bestStart 15 = .ok (.aload_n 0, 1) := by decide +kernel
theorem dX8_bestStart_16 : decode cX8_bestStart 16 = .ok (.iconst 1, 1) := by decide +kernel
theorem dX8_bestStart_17 : decode cX8_bestStart 17 = .ok (.invokevirtual 89, 3) := by decide +kernel
theorem dX8_bestStart_20 : decode cX8_bestStart 20 = .ok (.ireturn, 1) := by decide +kernel
theorem dX8_bestStart_21 : decode cX8_bestStart 21 = .ok (.iload_n 3, 1) := by decide +kernel
theorem dX8_bestStart_22 : decode cX8_bestStart 22 = .ok (.iconst 1, 1) := by decide +kernel
theorem dX8_bestStart_23 : decode cX8_bestStart 23 = .ok (.bipush 40, 2) := by decide +kernel
theorem dX8_bestStart_25 : decode cX8_bestStart 25 = .ok (.invokestatic 65, 3) := by decide +kernel
theorem dX8_bestStart_28 : decode cX8_bestStart 28 = .ok (.ifCond .ne 9, 3) := by decide +kernel
theorem dX8_bestStart_31 : decode cX8_bestStart 31 = .ok (.aload_n 0, 1) := by decide +kernel
theorem dX8_bestStart_32 : decode cX8_bestStart 32 = .ok (.iconst 2, 1) := by decide +kernel
theorem dX8_bestStart_33 : decode cX8_bestStart 33 = .ok (.invokevirtual 89, 3) := by decide +kernel
theorem dX8_bestStart_36 : decode cX8_bestStart 36 = .ok (.ireturn, 1) := by decide +kernel
theorem dX8_bestStart_37 : decode cX8_bestStart 37 = .ok (.aload_n 0, 1) := by decide +kernel
theorem dX8_bestStart_38 : decode cX8_bestStart 38 = .ok (.invokevirtual 239, 3) := by decide +kernel
theorem dX8_bestStart_41 : decode cX8_bestStart 41 = .ok (.iconst 0, 1) := by decide +kernel
theorem dX8_bestStart_42 : decode cX8_bestStart 42 = .ok (.istore 4, 2) := by decide +kernel
theorem dX8_bestStart_44 : decode cX8_bestStart 44 = .ok (.iconst 0, 1) := by decide +kernel
theorem dX8_bestStart_45 : decode cX8_bestStart 45 = .ok (.istore 5, 2) := by decide +kernel
theorem dX8_bestStart_47 : decode cX8_bestStart 47 = .ok (.iconst 0, 1) := by decide +kernel
theorem dX8_bestStart_48 : decode cX8_bestStart 48 = .ok (.istore 6, 2) := by decide +kernel
theorem dX8_bestStart_50 : decode cX8_bestStart 50 = .ok (.iload 6, 2) := by decide +kernel
theorem dX8_bestStart_52 : decode cX8_bestStart 52 = .ok (.aload_n 0, 1) := by decide +kernel
theorem dX8_bestStart_53 : decode cX8_bestStart 53 = .ok (.iload_n 1, 1) := by decide +kernel
theorem dX8_bestStart_54 : decode cX8_bestStart 54 = .ok (.iconst 5, 1) := by decide +kernel
theorem dX8_bestStart_55 : decode cX8_bestStart 55 = .ok (.invokevirtual 134, 3) := by decide +kernel
theorem dX8_bestStart_58 : decode cX8_bestStart 58 = .ok (.if_icmp .ge 83, 3) := by decide +kernel
theorem dX8_bestStart_61 : decode cX8_bestStart 61 = .ok (.aload_n 0, 1) := by decide +kernel
theorem dX8_bestStart_62 : decode cX8_bestStart 62 = .ok (.getfield 7, 3) := by decide +kernel
theorem dX8_bestStart_65 : decode cX8_bestStart 65 = .ok (.bipush 66, 2) := by decide +kernel
theorem dX8_bestStart_67 : decode cX8_bestStart 67 = .ok (.bipush 8, 2) := by decide +kernel
theorem dX8_bestStart_69 : decode cX8_bestStart 69 = .ok (.iload_n 1, 1) := by decide +kernel
theorem dX8_bestStart_70 : decode cX8_bestStart 70 = .ok (.imul, 1) := by decide +kernel
theorem dX8_bestStart_71 : decode cX8_bestStart 71 = .ok (.iadd, 1) := by decide +kernel
theorem dX8_bestStart_72 : decode cX8_bestStart 72 = .ok (.iconst 4, 1) := by decide +kernel
theorem dX8_bestStart_73 : decode cX8_bestStart 73 = .ok (.iadd, 1) := by decide +kernel
theorem dX8_bestStart_74 : decode cX8_bestStart 74 = .ok (.dup2, 1) := by decide +kernel
theorem dX8_bestStart_75 : decode cX8_bestStart 75 = .ok (.iaload, 1) := by decide +kernel
theorem dX8_bestStart_76 : decode cX8_bestStart 76 = .ok (.iload 6, 2) := by decide +kernel
theorem dX8_bestStart_78 : decode cX8_bestStart 78 = .ok (.iadd, 1) := by decide +kernel
theorem dX8_bestStart_79 : decode cX8_bestStart 79 = .ok (.iastore, 1) := by decide +kernel
theorem dX8_bestStart_80 : decode cX8_bestStart 80 = .ok (.aload_n 0, 1) := by decide +kernel
theorem dX8_bestStart_81 : decode cX8_bestStart 81 = .ok (.iload_n 2, 1) := by decide +kernel
theorem dX8_bestStart_82 : decode cX8_bestStart 82 = .ok (.iconst 1, 1) := by decide +kernel
theorem dX8_bestStart_83 : decode cX8_bestStart 83 = .ok (.iload_n 3, 1) := by decide +kernel
theorem dX8_bestStart_84 : decode cX8_bestStart 84 = .ok (.invokevirtual 242, 3) := by decide +kernel
theorem dX8_bestStart_87 : decode cX8_bestStart 87 = .ok (.istore 7, 2) := by decide +kernel
theorem dX8_bestStart_89 : decode cX8_bestStart 89 = .ok (.aload_n 0, 1) := by decide +kernel
theorem dX8_bestStart_90 : decode cX8_bestStart 90 = .ok (.invokevirtual 246, 3) := by decide +kernel
theorem dX8_bestStart_93 : decode cX8_bestStart 93 = .ok (.iload 6, 2) := by decide +kernel
theorem dX8_bestStart_95 : decode cX8_bestStart 95 = .ok (.ifCond .eq 10, 3) := by decide +kernel
theorem dX8_bestStart_98 : decode cX8_bestStart 98 = .ok (.iload 7, 2) := by decide +kernel
theorem dX8_bestStart_100 : decode cX8_bestStart 100 = .ok (.iload 5, 2) := by decide +kernel
theorem dX8_bestStart_102 : decode cX8_bestStart 102 = .ok (.if_icmp .le 8, 3) := by decide +kernel
theorem dX8_bestStart_105 : decode cX8_bestStart 105 = .ok (.iload 6, 2) := by decide +kernel
theorem dX8_bestStart_107 : decode cX8_bestStart 107 = .ok (.goto 5, 3) := by decide +kernel
theorem dX8_bestStart_110 : decode cX8_bestStart 110 = .ok (.iload 4, 2) := by decide +kernel
theorem dX8_bestStart_112 : decode cX8_bestStart 112 = .ok (.istore 4, 2) := by decide +kernel
theorem dX8_bestStart_114 : decode cX8_bestStart 114 = .ok (.iload 6, 2) := by decide +kernel
theorem dX8_bestStart_116 : decode cX8_bestStart 116 = .ok (.ifCond .eq 10, 3) := by decide +kernel
theorem dX8_bestStart_119 : decode cX8_bestStart 119 = .ok (.iload 7, 2) := by decide +kernel
theorem dX8_bestStart_121 : decode cX8_bestStart 121 = .ok (.iload 5, 2) := by decide +kernel
theorem dX8_bestStart_123 : decode cX8_bestStart 123 = .ok (.if_icmp .le 8, 3) := by decide +kernel
theorem dX8_bestStart_126 : decode cX8_bestStart 126 = .ok (.iload 7, 2) := by decide +kernel
theorem dX8_bestStart_128 : decode cX8_bestStart 128 = .ok (.goto 5, 3) := by decide +kernel
theorem dX8_bestStart_131 : decode cX8_bestStart 131 = .ok (.iload 5, 2) := by decide +kernel
theorem dX8_bestStart_133 : decode cX8_bestStart 133 = .ok (.istore 5, 2) := by decide +kernel
theorem dX8_bestStart_135 : decode cX8_bestStart 135 = .ok (.iinc 6 1, 3) := by decide +kernel
theorem dX8_bestStart_138 : decode cX8_bestStart 138 = .ok (.goto (-88), 3) := by decide +kernel
theorem dX8_bestStart_141 : decode cX8_bestStart 141 = .ok (.aload_n 0, 1) := by decide +kernel
theorem dX8_bestStart_142 : decode cX8_bestStart 142 = .ok (.iload 4, 2) := by decide +kernel
theorem dX8_bestStart_144 : decode cX8_bestStart 144 = .ok (.invokevirtual 61, 3) := by decide +kernel
theorem dX8_bestStart_147 : decode cX8_bestStart 147 = .ok (.ireturn, 1) := by decide +kernel
def f_X8_bestStart : MX := mth 8 (sQ (sIf (cOr (cNot (cZ z_ne (eM (gd 8 f_X8_isGust) (aI (aA (aN) (eLa 0)) (eLi 1))))) (cNot (cZ z_ne (eM (f_X8_isBody) (aI (aN) (eLi 2)))))) (sR (eM (gd 8 f_X8_fails) (aI (aA (aN) (eLa 0)) (eI (1))))) sN) (sQ (sIf (cNot (cZ z_ne (eM (f_X8_in) (aI (aI (aI (aN) (eLi 3)) (eI (1))) (eI (40)))))) (sR (eM (gd 8 f_X8_fails) (aI (aA (aN) (eLa 0)) (eI (2))))) sN) (sQ (sM (gd 8 f_X8_lays) (aA (aN) (eLa 0))) (sQ (sTi 4 (eI (0))) (sQ (sTi 5 (eI (0))) (sQ (sQ (sTi 6 (eI (0))) (sLp (cB c_lt (eLi 6) (eM (gd 8 f_X8_gustOf) (aI (aI (aA (aN) (eLa 0)) (eLi 1)) (eI (5))))) (sQ (sQ (sAo (eGa (eLa 0) 8 0) (eOp o_iadd (eOp o_iadd (eI (66)) (eOp o_imul (eI (8)) (eLi 1))) (eI (4))) o_iadd (eLi 6)) (sQ (sTi 7 (eM (gd 8 f_X8_takesIn) (aI (aI (aI (aA (aN) (eLa 0)) (eLi 2)) (eI (1))) (eLi 3)))) (sQ (sM (gd 8 f_X8_restores) (aA (aN) (eLa 0))) (sQ (sTi 4 (eIf (cOr (cZ z_eq (eLi 6)) (cB c_gt (eLi 7) (eLi 5))) (eLi 6) (eLi 4))) (sTi 5 (eIf (cOr (cZ z_eq (eLi 6)) (cB c_gt (eLi 7) (eLi 5))) (eLi 7) (eLi 5))))))) (sInc 6 (1))) NF)) (sR (eM (gd 8 f_X8_tells) (aI (aA (aN) (eLa 0)) (eLi 4))))))))))
theorem Y_X8_bestStart : Yk yX8_bestStart cX8_bestStart 8 (some .int) 3 := ⟨w1562, w16, by decide +kernel, by decide +kernel, by decide +kernel⟩
set_option maxRecDepth 20000 in
theorem k_X8_bestStart (l : Launch) (g : GE) : MetX l g yX8_bestStart cX8_bestStart 8 (some .int) 4 ({ frames := 8, cells := 0, slots := 0, locals := 183 } : Room) f_X8_bestStart := by
  unfold f_X8_bestStart
  exact MetX.of (own := RX8) 100 0 rfl (by decide +kernel) (by decide) (fun p e s m args below meth c Fin ad0 hr hn => ⟨_, _, Sv_seq (Sv_if (Cv_or (Cv_not (Cv_if_eq_n (Ev_call (Av_i (Av_a (Av_nil) (Ev_aload_n dX8_bestStart_0 rfl)) (Ev_iload_n dX8_bestStart_1 rfl)) (Rn_V (ci := 8) Fx8.1 rfl Y_X8_isGust (k_X8_isGust _ _) w1334 w1336 wp43 dX8_bestStart_2 (Nat.le_of_ble_eq_true rfl) (Nat.le_of_ble_eq_true rfl) (Nat.le_of_ble_eq_true rfl) (Nat.ne_of_beq_eq_false rfl))) (t := 15) dX8_bestStart_5 (by decide))) (Cv_not (Cv_if_ne_j (Ev_call (Av_i (Av_nil) (Ev_iload_n dX8_bestStart_8 rfl)) (Rn_S Y_X8_isBody (k_X8_isBody _ _) w1240 w1241 dX8_bestStart_9 (Nat.le_of_ble_eq_true rfl) (Nat.le_of_ble_eq_true rfl) (Nat.le_of_ble_eq_true rfl) (Nat.ne_of_beq_eq_false rfl))) (t := 21) dX8_bestStart_12 (by decide)))) (Sv_ret (Ev_call (Av_i (Av_a (Av_nil) (Ev_aload_n dX8_bestStart_15 rfl)) (Ev_iconst dX8_bestStart_16 (by decide))) (Rn_V (ci := 8) Fx8.1 rfl Y_X8_fails (k_X8_fails _ _) w1212 w1214 wp29 dX8_bestStart_17 (Nat.le_of_ble_eq_true rfl) (Nat.le_of_ble_eq_true rfl) (Nat.le_of_ble_eq_true rfl) (Nat.ne_of_beq_eq_false rfl))) hr dX8_bestStart_20) Sv_nop) (Sv_seq (Sv_if (Cv_not (Cv_if_ne_j (Ev_call (Av_i (Av_i (Av_i (Av_nil) (Ev_iload_n dX8_bestStart_21 rfl)) (Ev_iconst dX8_bestStart_22 (by decide))) (Ev_bipush dX8_bestStart_23 (by decide))) (Rn_S Y_X8_in (k_X8_in _ _) w1209 w1210 dX8_bestStart_25 (Nat.le_of_ble_eq_true rfl) (Nat.le_of_ble_eq_true rfl) (Nat.le_of_ble_eq_true rfl) (Nat.ne_of_beq_eq_false rfl))) (t := 37) dX8_bestStart_28 (by decide))) (Sv_ret (Ev_call (Av_i (Av_a (Av_nil) (Ev_aload_n dX8_bestStart_31 rfl)) (Ev_iconst dX8_bestStart_32 (by decide))) (Rn_V (ci := 8) Fx8.1 rfl Y_X8_fails (k_X8_fails _ _) w1212 w1214 wp29 dX8_bestStart_33 (Nat.le_of_ble_eq_true rfl) (Nat.le_of_ble_eq_true rfl) (Nat.le_of_ble_eq_true rfl) (Nat.ne_of_beq_eq_false rfl))) hr dX8_bestStart_36) Sv_nop) (Sv_seq (Sv_call (Av_a (Av_nil) (Ev_aload_n dX8_bestStart_37 rfl)) (Rn_V (ci := 8) Fx8.1 rfl Y_X8_lays (k_X8_lays _ _) w1527 w1529 wp68 dX8_bestStart_38 (Nat.le_of_ble_eq_true rfl) (Nat.le_of_ble_eq_true rfl) (Nat.le_of_ble_eq_true rfl) (Nat.ne_of_beq_eq_false rfl))) (Sv_seq (Sv_istore (Ev_iconst dX8_bestStart_41 (by decide)) dX8_bestStart_42 (Nat.le_of_ble_eq_true rfl) (Nat.ne_of_beq_eq_false rfl)) (Sv_seq (Sv_istore (Ev_iconst dX8_bestStart_44 (by decide)) dX8_bestStart_45 (Nat.le_of_ble_eq_true rfl) (Nat.ne_of_beq_eq_false rfl)) (Sv_seq (Sv_seq (Sv_istore (Ev_iconst dX8_bestStart_47 (by decide)) dX8_bestStart_48 (Nat.le_of_ble_eq_true rfl) (Nat.ne_of_beq_eq_false rfl)) (Sv_loop0 NF (Cv_icmp_ge_n (Ev_iload dX8_bestStart_50) (Ev_call (Av_i (Av_i (Av_a (Av_nil) (Ev_aload_n dX8_bestStart_52 rfl)) (Ev_iload_n dX8_bestStart_53 rfl)) (Ev_iconst dX8_bestStart_54 (by decide))) (Rn_V (ci := 8) Fx8.1 rfl Y_X8_gustOf (k_X8_gustOf _ _) w1401 w1403 wp53 dX8_bestStart_55 (Nat.le_of_ble_eq_true rfl) (Nat.le_of_ble_eq_true rfl) (Nat.le_of_ble_eq_true rfl) (Nat.ne_of_beq_eq_false rfl))) (t := 141) dX8_bestStart_58 (by decide)) (Sv_goto (pE := 50) (Sv_seq (Sv_seq (Sv_aop_iadd (Ev_getA Fx8 (Ev_aload_n dX8_bestStart_61 rfl) (k := 0) (by decide) w1143 dX8_bestStart_62) (Ev_iadd (Ev_iadd (Ev_bipush dX8_bestStart_65 (by decide)) (Ev_imul (Ev_bipush dX8_bestStart_67 (by decide)) (Ev_iload_n dX8_bestStart_69 rfl) dX8_bestStart_70) dX8_bestStart_71) (Ev_iconst dX8_bestStart_72 (by decide)) dX8_bestStart_73) dX8_bestStart_74 dX8_bestStart_75 (Ev_iload dX8_bestStart_76) dX8_bestStart_78 dX8_bestStart_79) (Sv_seq (Sv_istore (Ev_call (Av_i (Av_i (Av_i (Av_a (Av_nil) (Ev_aload_n dX8_bestStart_80 rfl)) (Ev_iload_n dX8_bestStart_81 rfl)) (Ev_iconst dX8_bestStart_82 (by decide))) (Ev_iload_n dX8_bestStart_83 rfl)) (Rn_V (ci := 8) Fx8.1 rfl Y_X8_takesIn (k_X8_takesIn _ _) w1531 w1533 wp69 dX8_bestStart_84 (Nat.le_of_ble_eq_true rfl) (Nat.le_of_ble_eq_true rfl) (Nat.le_of_ble_eq_true rfl) (Nat.ne_of_beq_eq_false rfl))) dX8_bestStart_87 (Nat.le_of_ble_eq_true rfl) (Nat.ne_of_beq_eq_false rfl)) (Sv_seq (Sv_call (Av_a (Av_nil) (Ev_aload_n dX8_bestStart_89 rfl)) (Rn_V (ci := 8) Fx8.1 rfl Y_X8_restores (k_X8_restores _ _) w1535 w1537 wp70 dX8_bestStart_90 (Nat.le_of_ble_eq_true rfl) (Nat.le_of_ble_eq_true rfl) (Nat.le_of_ble_eq_true rfl) (Nat.ne_of_beq_eq_false rfl))) (Sv_seq (Sv_istore (Ev_if (pT := 112) (Cv_or (Cv_if_eq_j (Ev_iload dX8_bestStart_93) (t := 105) dX8_bestStart_95 (by decide)) (Cv_icmp_le_n (Ev_iload dX8_bestStart_98) (Ev_iload dX8_bestStart_100) (t := 110) dX8_bestStart_102 (by decide))) (Ev_iload dX8_bestStart_105) dX8_bestStart_107 (by decide) (Ev_iload dX8_bestStart_110)) dX8_bestStart_112 (Nat.le_of_ble_eq_true rfl) (Nat.ne_of_beq_eq_false rfl)) (Sv_istore (Ev_if (pT := 133) (Cv_or (Cv_if_eq_j (Ev_iload dX8_bestStart_114) (t := 126) dX8_bestStart_116 (by decide)) (Cv_icmp_le_n (Ev_iload dX8_bestStart_119) (Ev_iload dX8_bestStart_121) (t := 131) dX8_bestStart_123 (by decide))) (Ev_iload dX8_bestStart_126) dX8_bestStart_128 (by decide) (Ev_iload dX8_bestStart_131)) dX8_bestStart_133 (Nat.le_of_ble_eq_true rfl) (Nat.ne_of_beq_eq_false rfl)))))) (Sv_iinc dX8_bestStart_135 (by decide) (Nat.le_of_ble_eq_true rfl) (Nat.ne_of_beq_eq_false rfl))) dX8_bestStart_138 (by decide)))) (Sv_ret (Ev_call (Av_i (Av_a (Av_nil) (Ev_aload_n dX8_bestStart_141 rfl)) (Ev_iload dX8_bestStart_142)) (Rn_V (ci := 8) Fx8.1 rfl Y_X8_tells (k_X8_tells _ _) w1228 w1230 wp33 dX8_bestStart_144 (Nat.le_of_ble_eq_true rfl) (Nat.le_of_ble_eq_true rfl) (Nat.le_of_ble_eq_true rfl) (Nat.ne_of_beq_eq_false rfl))) hr dX8_bestStart_147)))))), Nat.le_of_ble_eq_true rfl, Nat.le_of_ble_eq_true rfl⟩)
theorem dX8_undo_0 : decode cX8_undo 0 = .ok (.aload_n 0, 1) := by decide +kernel
theorem dX8_undo_1 : decode cX8_undo 1 = .ok (.getfield 58, 3) := by decide +kernel
theorem dX8_undo_4 : decode cX8_undo 4 = .ok (.ifCond .ne 9, 3) := by decide +kernel
theorem dX8_undo_7 : decode cX8_undo 7 = .ok (.aload_n 0, 1) := by decide +kernel
theorem dX8_undo_8 : decode cX8_undo 8 = .ok (.iconst 1, 1) := by decide +kernel
theorem dX8_undo_9 : decode cX8_undo 9 = .ok (.invokevirtual 89, 3) := by decide +kernel
theorem dX8_undo_12 : decode cX8_undo 12 = .ok (.ireturn, 1) := by decide +kernel
theorem dX8_undo_13 : decode cX8_undo 13 = .ok (.aload_n 0, 1) := by decide +kernel
theorem dX8_undo_14 : decode cX8_undo 14 = .ok (.dup, 1) := by decide +kernel
theorem dX8_undo_15 : decode cX8_undo 15 = .ok (.getfield 58, 3) := by decide +kernel
theorem dX8_undo_18 : decode cX8_undo 18 = .ok (.iconst 1, 1) := by decide +kernel
theorem dX8_undo_19 : decode cX8_undo 19 = .ok (.isub, 1) := by decide +kernel
theorem dX8_undo_20 : decode cX8_undo 20 = .ok (.putfield 58, 3) := by decide +kernel
theorem dX8_undo_23 : decode cX8_undo 23 = .ok (.iconst 0, 1) := by decide +kernel
theorem dX8_undo_24 : decode cX8_undo 24 = .ok (.istore_n 1, 1) := by decide +kernel
theorem dX8_undo_25 : decode cX8_undo 25 = .ok (.iload_n 1, 1) := by decide +kernel
theorem dX8_undo_26 : decode cX8_undo 26 = .ok (.sipush 1523, 3) := by decide +kernel
theorem dX8_undo_29 : decode cX8_undo 29 = .ok (.if_icmp .ge 30, 3) := by decide +kernel
theorem dX8_undo_32 : decode cX8_undo 32 = .ok (.aload_n 0, 1) := by decide +kernel
theorem dX8_undo_33 : decode cX8_undo 33 = .ok (.getfield 7, 3) := by decide +kernel
theorem dX8_undo_36 : decode cX8_undo 36 = .ok (.iload_n 1, 1) := by decide +kernel
theorem dX8_undo_37 : decode cX8_undo 37 = .ok (.aload_n 0, 1) := by decide +kernel
theorem dX8_undo_38 : decode cX8_undo 38 = .ok (.getfield 13, 3) := by decide +kernel
theorem dX8_undo_41 : decode cX8_undo 41 = .ok (.sipush 1523, 3) := by decide +kernel
theorem dX8_undo_44 : decode cX8_undo 44 = .ok (.aload_n 0, 1) := by decide +kernel
theorem dX8_undo_45 : decode cX8_undo 45 = .ok (.getfield 58, 3) := by decide +kernel
theorem dX8_undo_48 : decode cX8_undo 48 = .ok (.imul, 1) := by decide +kernel
theorem dX8_undo_49 : decode cX8_undo 49 = .ok (.iload_n 1, 1) := by decide +kernel
theorem dX8_undo_50 : decode cX8_undo 50 = .ok (.iadd, 1) := by decide +kernel
theorem dX8_undo_51 : decode cX8_undo 51 = .ok (.iaload, 1) := by decide +kernel
theorem dX8_undo_52 : decode cX8_undo 52 = .ok (.iastore, 1) := by decide +kernel
theorem dX8_undo_53 : decode cX8_undo 53 = .ok (.iinc 1 1, 3) := by decide +kernel
theorem dX8_undo_56 : decode cX8_undo 56 = .ok (.goto (-31), 3) := by decide +kernel
theorem dX8_undo_59 : decode cX8_undo 59 = .ok (.aload_n 0, 1) := by decide +kernel
theorem dX8_undo_60 : decode cX8_undo 60 = .ok (.aload_n 0, 1) := by decide +kernel
theorem dX8_undo_61 : decode cX8_undo 61 = .ok (.getfield 58, 3) := by decide +kernel
theorem dX8_undo_64 : decode cX8_undo 64 = .ok (.invokevirtual 61, 3) := by decide +kernel
theorem dX8_undo_67 : decode cX8_undo 67 = .ok (.ireturn, 1) := by decide +kernel
def f_X8_undo : MX := mth 2 (sQ (sIf (cZ z_eq (eGi (eLa 0) 8 9)) (sR (eM (gd 8 f_X8_fails) (aI (aA (aN) (eLa 0)) (eI (1))))) sN) (sQ (sPo (eLa 0) 8 9 o_isub (eI (1))) (sQ (sQ (sTi 1 (eI (0))) (sLp (cB c_lt (eLi 1) (eI (1523))) (sQ (sAi 0 (eGa (eLa 0) 8 0) (eLi 1) (eAi 0 (eGa (eLa 0) 8 1) (eOp o_iadd (eOp o_imul (eI (1523)) (eGi (eLa 0) 8 9)) (eLi 1)))) (sInc 1 (1))) NF)) (sR (eM (gd 8 f_X8_tells) (aI (aA (aN) (eLa 0)) (eGi (eLa 0) 8 9)))))))
theorem Y_X8_undo : Yk yX8_undo cX8_undo 2 (some .int) 0 := ⟨w1566, w16, by decide +kernel, by decide +kernel, by decide +kernel⟩
set_option maxRecDepth 20000 in
theorem k_X8_undo (l : Launch) (g : GE) : MetX l g yX8_undo cX8_undo 2 (some .int) 1 ({ frames := 1, cells := 0, slots := 0, locals := 21 } : Room) f_X8_undo := by
  unfold f_X8_undo
  exact MetX.of (own := RX8) 100 0 rfl (by decide +kernel) (by decide) (fun p e s m args below meth c Fin ad0 hr hn => ⟨_, _, Sv_seq (Sv_if (Cv_if_ne_n (Ev_getI Fx8 (Ev_aload_n dX8_undo_0 rfl) (k := 9) (by decide) w1152 dX8_undo_1) (t := 13) dX8_undo_4 (by decide)) (Sv_ret (Ev_call (Av_i (Av_a (Av_nil) (Ev_aload_n dX8_undo_7 rfl)) (Ev_iconst dX8_undo_8 (by decide))) (Rn_V (ci := 8) Fx8.1 rfl Y_X8_fails (k_X8_fails _ _) w1212 w1214 wp29 dX8_undo_9 (Nat.le_of_ble_eq_true rfl) (Nat.le_of_ble_eq_true rfl) (Nat.le_of_ble_eq_true rfl) (Nat.ne_of_beq_eq_false rfl))) hr dX8_undo_12) Sv_nop) (Sv_seq (Sv_fop_isub (idx2 := 0) Fx8 (Ev_aload_n dX8_undo_13 rfl) dX8_undo_14 dX8_undo_15 (Ev_iconst dX8_undo_18 (by decide)) dX8_undo_19 (k := 9) (by decide) rfl rfl w1152 dX8_undo_20) (Sv_seq (Sv_seq (Sv_istore_n (Ev_iconst dX8_undo_23 (by decide)) dX8_undo_24 rfl (Nat.le_of_ble_eq_true rfl) (Nat.ne_of_beq_eq_false rfl)) (Sv_loop0 NF (Cv_icmp_ge_n (Ev_iload_n dX8_undo_25 rfl) (Ev_sipush dX8_undo_26 (by decide)) (t := 59) dX8_undo_29 (by decide)) (Sv_goto (pE := 25) (Sv_seq (Sv_iastore (Ev_getA Fx8 (Ev_aload_n dX8_undo_32 rfl) (k := 0) (by decide) w1143 dX8_undo_33) (Ev_iload_n dX8_undo_36 rfl) (Ev_iaload (Ev_getA Fx8 (Ev_aload_n dX8_undo_37 rfl) (k := 1) (by decide) w1144 dX8_undo_38) (Ev_iadd (Ev_imul (Ev_sipush dX8_undo_41 (by decide)) (Ev_getI Fx8 (Ev_aload_n dX8_undo_44 rfl) (k := 9) (by decide) w1152 dX8_undo_45) dX8_undo_48) (Ev_iload_n dX8_undo_49 rfl) dX8_undo_50) dX8_undo_51) dX8_undo_52) (Sv_iinc dX8_undo_53 (by decide) (Nat.le_of_ble_eq_true rfl) (Nat.ne_of_beq_eq_false rfl))) dX8_undo_56 (by decide)))) (Sv_ret (Ev_call (Av_i (Av_a (Av_nil) (Ev_aload_n dX8_undo_59 rfl)) (Ev_getI Fx8 (Ev_aload_n dX8_undo_60 rfl) (k := 9) (by decide) w1152 dX8_undo_61)) (Rn_V (ci := 8) Fx8.1 rfl Y_X8_tells (k_X8_tells _ _) w1228 w1230 wp33 dX8_undo_64 (Nat.le_of_ble_eq_true rfl) (Nat.le_of_ble_eq_true rfl) (Nat.le_of_ble_eq_true rfl) (Nat.ne_of_beq_eq_false rfl))) hr dX8_undo_67))), Nat.le_of_ble_eq_true rfl, Nat.le_of_ble_eq_true rfl⟩)
theorem dX8_save_0 : decode cX8_save 0 = .ok (.iload_n 1, 1) := by decide +kernel
theorem dX8_save_1 : decode cX8_save 1 = .ok (.iconst 0, 1) := by decide +kernel
theorem dX8_save_2 : decode cX8_save 2 = .ok (.iconst 1, 1) := by decide +kernel
theorem dX8_save_3 : decode cX8_save 3 = .ok (.invokestatic 65, 3) := by decide +kernel
theorem dX8_save_6 : decode cX8_save 6 = .ok (.ifCond .ne 9, 3) := by decide +kernel
theorem dX8_save_9 : decode cX8_save 9 = .ok (.aload_n 0, 1) := by decide +kernel
theorem dX8_save_10 : decode cX8_save 10 = .ok (.iconst 1, 1) := by decide +kernel
theorem dX8_save_11 : decode cX8_save 11 = .ok (.invokevirtual 89, 3) := by decide +kernel
theorem dX8_save_14 : decode cX8_save 14 = .ok (.ireturn, 1) := by decide +kernel
theorem dX8_save_15 : decode cX8_save 15 = .ok (.iconst 0, 1) := by decide +kernel
theorem dX8_save_16 : decode cX8_save 16 = .ok (.istore_n 2, 1) := by decide +kernel
theorem dX8_save_17 : decode cX8_save 17 = .ok (.iload_n 2, 1) := by decide +kernel
theorem dX8_save_18 : decode cX8_save 18 = .ok (.sipush 1523, 3) := by decide +kernel
theorem dX8_save_21 : decode cX8_save 21 = .ok (.if_icmp .ge 27, 3) := by decide +kernel
theorem dX8_save_24 : decode cX8_save 24 = .ok (.aload_n 0, 1) := by decide +kernel
theorem dX8_save_25 : decode cX8_save 25 = .ok (.getfield 16, 3) := by decide +kernel
theorem dX8_save_28 : decode cX8_save 28 = .ok (.sipush 1523, 3) := by decide +kernel
theorem dX8_save_31 : decode cX8_save 31 = .ok (.iload_n 1, 1) := by decide +kernel
theorem dX8_save_32 : decode cX8_save 32 = .ok (.imul, 1) := by decide +kernel
theorem dX8_save_33 : decode cX8_save 33 = .ok (.iload_n 2, 1) := by decide +kernel
theorem dX8_save_34 : decode cX8_save 34 = .ok (.iadd, 1) := by decide +kernel
theorem dX8_save_35 : decode cX8_save 35 = .ok (.aload_n 0, 1) := by decide +kernel
theorem dX8_save_36 : decode cX8_save 36 = .ok (.getfield 7, 3) := by decide +kernel
theorem dX8_save_39 : decode cX8_save 39 = .ok (.iload_n 2, 1) := by decide +kernel
theorem dX8_save_40 : decode cX8_save 40 = .ok (.iaload, 1) := by decide +kernel
theorem dX8_save_41 : decode cX8_save 41 = .ok (.iastore, 1) := by decide +kernel
theorem dX8_save_42 : decode cX8_save 42 = .ok (.iinc 2 1, 3) := by decide +kernel
theorem dX8_save_45 : decode cX8_save 45 = .ok (.goto (-28), 3) := by decide +kernel
theorem dX8_save_48 : decode cX8_save 48 = .ok (.aload_n 0, 1) := by decide +kernel
theorem dX8_save_49 : decode cX8_save 49 = .ok (.getfield 19, 3) := by decide +kernel
theorem dX8_save_52 : decode cX8_save 52 = .ok (.iload_n 1, 1) := by decide +kernel
theorem dX8_save_53 : decode cX8_save 53 = .ok (.iconst 1, 1) := by decide +kernel
theorem dX8_save_54 : decode cX8_save 54 = .ok (.bastore, 1) := by decide +kernel
theorem dX8_save_55 : decode cX8_save 55 = .ok (.aload_n 0, 1) := by decide +kernel
theorem dX8_save_56 : decode cX8_save 56 = .ok (.aload_n 0, 1) := by decide +kernel
theorem dX8_save_57 : decode cX8_save 57 = .ok (.getfield 7, 3) := by decide +kernel
theorem dX8_save_60 : decode cX8_save 60 = .ok (.iconst 2, 1) := by decide +kernel
theorem dX8_save_61 : decode cX8_save 61 = .ok (.iaload, 1) := by decide +kernel
theorem dX8_save_62 : decode cX8_save 62 = .ok (.invokevirtual 61, 3) := by decide +kernel
theorem dX8_save_65 : decode cX8_save 65 = .ok (.ireturn, 1) := by decide +kernel
def f_X8_save : MX := mth 3 (sQ (sIf (cNot (cZ z_ne (eM (f_X8_in) (aI (aI (aI (aN) (eLi 1)) (eI (0))) (eI (1)))))) (sR (eM (gd 8 f_X8_fails) (aI (aA (aN) (eLa 0)) (eI (1))))) sN) (sQ (sQ (sTi 2 (eI (0))) (sLp (cB c_lt (eLi 2) (eI (1523))) (sQ (sAi 0 (eGa (eLa 0) 8 2) (eOp o_iadd (eOp o_imul (eI (1523)) (eLi 1)) (eLi 2)) (eAi 0 (eGa (eLa 0) 8 0) (eLi 2))) (sInc 2 (1))) NF)) (sQ (sAi 2 (eGa (eLa 0) 8 3) (eLi 1) (eI (1))) (sR (eM (gd 8 f_X8_tells) (aI (aA (aN) (eLa 0)) (eAi 0 (eGa (eLa 0) 8 0) (eI (2)))))))))
theorem Y_X8_save : Yk yX8_save cX8_save 3 (some .int) 1 := ⟨w1570, w16, by decide +kernel, by decide +kernel, by decide +kernel⟩
set_option maxRecDepth 20000 in
theorem k_X8_save (l : Launch) (g : GE) : MetX l g yX8_save cX8_save 3 (some .int) 2 ({ frames := 1, cells := 0, slots := 0, locals := 22 } : Room) f_X8_save := by
  unfold f_X8_save
  exact MetX.of (own := RX8) 100 0 rfl (by decide +kernel) (by decide) (fun p e s m args below meth c Fin ad0 hr hn => ⟨_, _, Sv_seq (Sv_if (Cv_not (Cv_if_ne_j (Ev_call (Av_i (Av_i (Av_i (Av_nil) (Ev_iload_n dX8_save_0 rfl)) (Ev_iconst dX8_save_1 (by decide))) (Ev_iconst dX8_save_2 (by decide))) (Rn_S Y_X8_in (k_X8_in _ _) w1209 w1210 dX8_save_3 (Nat.le_of_ble_eq_true rfl) (Nat.le_of_ble_eq_true rfl) (Nat.le_of_ble_eq_true rfl) (Nat.ne_of_beq_eq_false rfl))) (t := 15) dX8_save_6 (by decide))) (Sv_ret (Ev_call (Av_i (Av_a (Av_nil) (Ev_aload_n dX8_save_9 rfl)) (Ev_iconst dX8_save_10 (by decide))) (Rn_V (ci := 8) Fx8.1 rfl Y_X8_fails (k_X8_fails _ _) w1212 w1214 wp29 dX8_save_11 (Nat.le_of_ble_eq_true rfl) (Nat.le_of_ble_eq_true rfl) (Nat.le_of_ble_eq_true rfl) (Nat.ne_of_beq_eq_false rfl))) hr dX8_save_14) Sv_nop) (Sv_seq (Sv_seq (Sv_istore_n (Ev_iconst dX8_save_15 (by decide)) dX8_save_16 rfl (Nat.le_of_ble_eq_true rfl) (Nat.ne_of_beq_eq_false rfl)) (Sv_loop0 NF (Cv_icmp_ge_n (Ev_iload_n dX8_save_17 rfl) (Ev_sipush dX8_save_18 (by decide)) (t := 48) dX8_save_21 (by decide)) (Sv_goto (pE := 17) (Sv_seq (Sv_iastore (Ev_getA Fx8 (Ev_aload_n dX8_save_24 rfl) (k := 2) (by decide) w1145 dX8_save_25) (Ev_iadd (Ev_imul (Ev_sipush dX8_save_28 (by decide)) (Ev_iload_n dX8_save_31 rfl) dX8_save_32) (Ev_iload_n dX8_save_33 rfl) dX8_save_34) (Ev_iaload (Ev_getA Fx8 (Ev_aload_n dX8_save_35 rfl) (k := 0) (by decide) w1143 dX8_save_36) (Ev_iload_n dX8_save_39 rfl) dX8_save_40) dX8_save_41) (Sv_iinc dX8_save_42 (by decide) (Nat.le_of_ble_eq_true rfl) (Nat.ne_of_beq_eq_false rfl))) dX8_save_45 (by decide)))) (Sv_seq (Sv_bastore (Ev_getA Fx8 (Ev_aload_n dX8_save_48 rfl) (k := 3) (by decide) w1146 dX8_save_49) (Ev_iload_n dX8_save_52 rfl) (Ev_iconst dX8_save_53 (by decide)) dX8_save_54) (Sv_ret (Ev_call (Av_i (Av_a (Av_nil) (Ev_aload_n dX8_save_55 rfl)) (Ev_iaload (Ev_getA Fx8 (Ev_aload_n dX8_save_56 rfl) (k := 0) (by decide) w1143 dX8_save_57) (Ev_iconst dX8_save_60 (by decide)) dX8_save_61)) (Rn_V (ci := 8) Fx8.1 rfl Y_X8_tells (k_X8_tells _ _) w1228 w1230 wp33 dX8_save_62 (Nat.le_of_ble_eq_true rfl) (Nat.le_of_ble_eq_true rfl) (Nat.le_of_ble_eq_true rfl) (Nat.ne_of_beq_eq_false rfl))) hr dX8_save_65))), Nat.le_of_ble_eq_true rfl, Nat.le_of_ble_eq_true rfl⟩)
theorem dX8_restore_0 : decode cX8_restore 0 = .ok (.iload_n 1, 1) := by decide +kernel
theorem dX8_restore_1 : decode cX8_restore 1 = .ok (.iconst 0, 1) := by decide +kernel
theorem dX8_restore_2 : decode cX8_restore 2 = .ok (.iconst 1, 1) := by decide +kernel
theorem dX8_restore_3 : decode cX8_restore 3 = .ok (.invokestatic 65, 3) := by decide +kernel
theorem dX8_restore_6 : decode cX8_restore 6 = .ok (.ifCond .ne 9, 3) := by decide +kernel
theorem dX8_restore_9 : decode cX8_restore 9 = .ok (.aload_n 0, 1) := by decide +kernel
theorem dX8_restore_10 : decode cX8_restore 10 = .ok (.iconst 1, 1) := by decide +kernel
theorem dX8_restore_11 : decode cX8_restore 11 = .ok (.invokevirtual 89, 3) := by decide +kernel
theorem dX8_restore_14 : decode cX8_restore 14 = .ok (.ireturn, 1) := by decide +kernel
theorem dX8_restore_15 : decode cX8_restore 15 = .ok (.aload_n 0, 1) := by decide +kernel
theorem dX8_restore_16 : decode cX8_restore 16 = .ok (.getfield 19, 3) := by decide +kernel
theorem dX8_restore_19 : decode cX8_restore 19 = .ok (.iload_n 1, 1) := by decide +kernel
theorem dX8_restore_20 : decode cX8_restore 20 = .ok (.baload, 1) := by decide +kernel
theorem dX8_restore_21 : decode cX8_restore 21 = .ok (.ifCond .ne 9, 3) := by decide +kernel
theorem dX8_restore_24 : decode cX8_restore 24 = .ok (.aload_n 0, 1) := by decide +kernel
theorem dX8_restore_25 : decode cX8_restore 25 = .ok (.iconst 2, 1) := by decide +kernel
theorem dX8_restore_26 : decode cX8_restore 26 = .ok (.invokevirtual 89, 3) := by decide +kernel
theorem dX8_restore_29 : decode cX8_restore 29 = .ok (.ireturn, 1) := by decide +kernel
theorem dX8_restore_30 : decode cX8_restore 30 = .ok (.aload_n 0, 1) := by decide +kernel
theorem dX8_restore_31 : decode cX8_restore 31 = .ok (.invokevirtual 92, 3) := by decide +kernel
theorem dX8_restore_34 : decode cX8_restore 34 = .ok (.iconst 0, 1) := by decide +kernel
theorem dX8_restore_35 : decode cX8_restore 35 = .ok (.istore_n 2, 1) := by decide +kernel
theorem dX8_restore_36 : decode cX8_restore 36 = .ok (.iload_n 2, 1) := by decide +kernel
theorem dX8_restore_37 : decode cX8_restore 37 = .ok (.sipush 1523, 3) := by decide +kernel
theorem dX8_restore_40 : decode cX8_restore 40 = .ok (.if_icmp .ge 27, 3) := by decide +kernel
theorem dX8_restore_43 : decode cX8_restore 43 = .ok (.aload_n 0, 1) := by decide +kernel
theorem dX8_restore_44 : decode cX8_restore 44 = .ok (.getfield 7, 3) := by decide +kernel
theorem dX8_restore_47 : decode cX8_restore 47 = .ok (.iload_n 2, 1) := by decide +kernel
theorem dX8_restore_48 : decode cX8_restore 48 = .ok (.aload_n 0, 1) := by decide +kernel
theorem dX8_restore_49 : decode cX8_restore 49 = .ok (.getfield 16, 3) := by decide +kernel
theorem dX8_restore_52 : decode cX8_restore 52 = .ok (.sipush 1523, 3) := by decide +kernel
theorem dX8_restore_55 : decode cX8_restore 55 = .ok (.iload_n 1, 1) := by decide +kernel
theorem dX8_restore_56 : decode cX8_restore 56 = .ok (.imul, 1) := by decide +kernel
theorem dX8_restore_57 : decode cX8_restore 57 = .ok (.iload_n 2, 1) := by decide +kernel
theorem dX8_restore_58 : decode cX8_restore 58 = .ok (.iadd, 1) := by decide +kernel
theorem dX8_restore_59 : decode cX8_restore 59 = .ok (.iaload, 1) := by decide +kernel
theorem dX8_restore_60 : decode cX8_restore 60 = .ok (.iastore, 1) := by decide +kernel
theorem dX8_restore_61 : decode cX8_restore 61 = .ok (.iinc 2 1, 3) := by decide +kernel
theorem dX8_restore_64 : decode cX8_restore 64 = .ok (.goto (-28), 3) := by decide +kernel
theorem dX8_restore_67 : decode cX8_restore 67 = .ok (.aload_n 0, 1) := by decide +kernel
theorem dX8_restore_68 : decode cX8_restore 68 = .ok (.aload_n 0, 1) := by decide +kernel
theorem dX8_restore_69 : decode cX8_restore 69 = .ok (.getfield 7, 3) := by decide +kernel
theorem dX8_restore_72 : decode cX8_restore 72 = .ok (.iconst 2, 1) := by decide +kernel
theorem dX8_restore_73 : decode cX8_restore 73 = .ok (.iaload, 1) := by decide +kernel
theorem dX8_restore_74 : decode cX8_restore 74 = .ok (.invokevirtual 98, 3) := by decide +kernel
theorem dX8_restore_77 : decode cX8_restore 77 = .ok (.ireturn, 1) := by decide +kernel
def f_X8_restore : MX := mth 3 (sQ (sIf (cNot (cZ z_ne (eM (f_X8_in) (aI (aI (aI (aN) (eLi 1)) (eI (0))) (eI (1)))))) (sR (eM (gd 8 f_X8_fails) (aI (aA (aN) (eLa 0)) (eI (1))))) sN) (sQ (sIf (cNot (cZ z_ne (eAi 2 (eGa (eLa 0) 8 3) (eLi 1)))) (sR (eM (gd 8 f_X8_fails) (aI (aA (aN) (eLa 0)) (eI (2))))) sN) (sQ (sM (gd 8 f_X8_holds) (aA (aN) (eLa 0))) (sQ (sQ (sTi 2 (eI (0))) (sLp (cB c_lt (eLi 2) (eI (1523))) (sQ (sAi 0 (eGa (eLa 0) 8 0) (eLi 2) (eAi 0 (eGa (eLa 0) 8 2) (eOp o_iadd (eOp o_imul (eI (1523)) (eLi 1)) (eLi 2)))) (sInc 2 (1))) NF)) (sR (eM (gd 8 f_X8_saves) (aI (aA (aN) (eLa 0)) (eAi 0 (eGa (eLa 0) 8 0) (eI (2))))))))))
theorem Y_X8_restore : Yk yX8_restore cX8_restore 3 (some .int) 1 := ⟨w1574, w16, by decide +kernel, by decide +kernel, by decide +kernel⟩
set_option maxRecDepth 20000 in
theorem k_X8_restore (l : Launch) (g : GE) : MetX l g yX8_restore cX8_restore 3 (some .int) 2 ({ frames := 2, cells := 0, slots := 0, locals := 43 } : Room) f_X8_restore := by
  unfold f_X8_restore
  exact MetX.of (own := RX8) 100 0 rfl (by decide +kernel) (by decide) (fun p e s m args below meth c Fin ad0 hr hn => ⟨_, _, Sv_seq (Sv_if (Cv_not (Cv_if_ne_j (Ev_call (Av_i (Av_i (Av_i (Av_nil) (Ev_iload_n dX8_restore_0 rfl)) (Ev_iconst dX8_restore_1 (by decide))) (Ev_iconst dX8_restore_2 (by decide))) (Rn_S Y_X8_in (k_X8_in _ _) w1209 w1210 dX8_restore_3 (Nat.le_of_ble_eq_true rfl) (Nat.le_of_ble_eq_true rfl) (Nat.le_of_ble_eq_true rfl) (Nat.ne_of_beq_eq_false rfl))) (t := 15) dX8_restore_6 (by decide))) (Sv_ret (Ev_call (Av_i (Av_a (Av_nil) (Ev_aload_n dX8_restore_9 rfl)) (Ev_iconst dX8_restore_10 (by decide))) (Rn_V (ci := 8) Fx8.1 rfl Y_X8_fails (k_X8_fails _ _) w1212 w1214 wp29 dX8_restore_11 (Nat.le_of_ble_eq_true rfl) (Nat.le_of_ble_eq_true rfl) (Nat.le_of_ble_eq_true rfl) (Nat.ne_of_beq_eq_false rfl))) hr dX8_restore_14) Sv_nop) (Sv_seq (Sv_if (Cv_not (Cv_if_ne_j (Ev_baload (Ev_getA Fx8 (Ev_aload_n dX8_restore_15 rfl) (k := 3) (by decide) w1146 dX8_restore_16) (Ev_iload_n dX8_restore_19 rfl) dX8_restore_20) (t := 30) dX8_restore_21 (by decide))) (Sv_ret (Ev_call (Av_i (Av_a (Av_nil) (Ev_aload_n dX8_restore_24 rfl)) (Ev_iconst dX8_restore_25 (by decide))) (Rn_V (ci := 8) Fx8.1 rfl Y_X8_fails (k_X8_fails _ _) w1212 w1214 wp29 dX8_restore_26 (Nat.le_of_ble_eq_true rfl) (Nat.le_of_ble_eq_true rfl) (Nat.le_of_ble_eq_true rfl) (Nat.ne_of_beq_eq_false rfl))) hr dX8_restore_29) Sv_nop) (Sv_seq (Sv_call (Av_a (Av_nil) (Ev_aload_n dX8_restore_30 rfl)) (Rn_V (ci := 8) Fx8.1 rfl Y_X8_holds (k_X8_holds _ _) w1216 w1218 wp30 dX8_restore_31 (Nat.le_of_ble_eq_true rfl) (Nat.le_of_ble_eq_true rfl) (Nat.le_of_ble_eq_true rfl) (Nat.ne_of_beq_eq_false rfl))) (Sv_seq (Sv_seq (Sv_istore_n (Ev_iconst dX8_restore_34 (by decide)) dX8_restore_35 rfl (Nat.le_of_ble_eq_true rfl) (Nat.ne_of_beq_eq_false rfl)) (Sv_loop0 NF (Cv_icmp_ge_n (Ev_iload_n dX8_restore_36 rfl) (Ev_sipush dX8_restore_37 (by decide)) (t := 67) dX8_restore_40 (by decide)) (Sv_goto (pE := 36) (Sv_seq (Sv_iastore (Ev_getA Fx8 (Ev_aload_n dX8_restore_43 rfl) (k := 0) (by decide) w1143 dX8_restore_44) (Ev_iload_n dX8_restore_47 rfl) (Ev_iaload (Ev_getA Fx8 (Ev_aload_n dX8_restore_48 rfl) (k := 2) (by decide) w1145 dX8_restore_49) (Ev_iadd (Ev_imul (Ev_sipush dX8_restore_52 (by decide)) (Ev_iload_n dX8_restore_55 rfl) dX8_restore_56) (Ev_iload_n dX8_restore_57 rfl) dX8_restore_58) dX8_restore_59) dX8_restore_60) (Sv_iinc dX8_restore_61 (by decide) (Nat.le_of_ble_eq_true rfl) (Nat.ne_of_beq_eq_false rfl))) dX8_restore_64 (by decide)))) (Sv_ret (Ev_call (Av_i (Av_a (Av_nil) (Ev_aload_n dX8_restore_67 rfl)) (Ev_iaload (Ev_getA Fx8 (Ev_aload_n dX8_restore_68 rfl) (k := 0) (by decide) w1143 dX8_restore_69) (Ev_iconst dX8_restore_72 (by decide)) dX8_restore_73)) (Rn_V (ci := 8) Fx8.1 rfl Y_X8_saves (k_X8_saves _ _) w1224 w1226 wp32 dX8_restore_74 (Nat.le_of_ble_eq_true rfl) (Nat.le_of_ble_eq_true rfl) (Nat.le_of_ble_eq_true rfl) (Nat.ne_of_beq_eq_false rfl))) hr dX8_restore_77)))), Nat.le_of_ble_eq_true rfl, Nat.le_of_ble_eq_true rfl⟩)
