theorem dX6_init_0 : decode cX6_init 0 = .ok (.aload_n 0, 1) := by decide +kernel
theorem dX6_init_1 : decode cX6_init 1 = .ok (.invokespecial 3, 3) := by decide +kernel
theorem dX6_init_4 : decode cX6_init 4 = .ok (.aload_n 0, 1) := by decide +kernel
theorem dX6_init_5 : decode cX6_init 5 = .ok (.new 9, 3) := by decide +kernel
theorem dX6_init_8 : decode cX6_init 8 = .ok (.dup, 1) := by decide +kernel
theorem dX6_init_9 : decode cX6_init 9 = .ok (.invokespecial 11, 3) := by decide +kernel
theorem dX6_init_12 : decode cX6_init 12 = .ok (.putfield 12, 3) := by decide +kernel
theorem dX6_init_15 : decode cX6_init 15 = .ok (.aload_n 0, 1) := by decide +kernel
theorem dX6_init_16 : decode cX6_init 16 = .ok (.new 18, 3) := by decide +kernel
theorem dX6_init_19 : decode cX6_init 19 = .ok (.dup, 1) := by decide +kernel
theorem dX6_init_20 : decode cX6_init 20 = .ok (.invokespecial 20, 3) := by decide +kernel
theorem dX6_init_23 : decode cX6_init 23 = .ok (.putfield 21, 3) := by decide +kernel
theorem dX6_init_26 : decode cX6_init 26 = .ok (.aload_n 0, 1) := by decide +kernel
theorem dX6_init_27 : decode cX6_init 27 = .ok (.new 25, 3) := by decide +kernel
theorem dX6_init_30 : decode cX6_init 30 = .ok (.dup, 1) := by decide +kernel
theorem dX6_init_31 : decode cX6_init 31 = .ok (.invokespecial 27, 3) := by decide +kernel
theorem dX6_init_34 : decode cX6_init 34 = .ok (.putfield 28, 3) := by decide +kernel
theorem dX6_init_37 : decode cX6_init 37 = .ok (.aload_n 0, 1) := by decide +kernel
theorem dX6_init_38 : decode cX6_init 38 = .ok (.new 32, 3) := by decide +kernel
theorem dX6_init_41 : decode cX6_init 41 = .ok (.dup, 1) := by decide +kernel
theorem dX6_init_42 : decode cX6_init 42 = .ok (.invokespecial 34, 3) := by decide +kernel
theorem dX6_init_45 : decode cX6_init 45 = .ok (.putfield 35, 3) := by decide +kernel
theorem dX6_init_48 : decode cX6_init 48 = .ok (.aload_n 0, 1) := by decide +kernel
theorem dX6_init_49 : decode cX6_init 49 = .ok (.iconst 3, 1) := by decide +kernel
theorem dX6_init_50 : decode cX6_init 50 = .ok (.newarray .int, 2) := by decide +kernel
theorem dX6_init_52 : decode cX6_init 52 = .ok (.putfield 39, 3) := by decide +kernel
theorem dX6_init_55 : decode cX6_init 55 = .ok (.aload_n 0, 1) := by decide +kernel
theorem dX6_init_56 : decode cX6_init 56 = .ok (.sipush 128, 3) := by decide +kernel
theorem dX6_init_59 : decode cX6_init 59 = .ok (.newarray .int, 2) := by decide +kernel
theorem dX6_init_61 : decode cX6_init 61 = .ok (.putfield 43, 3) := by decide +kernel
theorem dX6_init_64 : decode cX6_init 64 = .ok (.aload_n 0, 1) := by decide +kernel
theorem dX6_init_65 : decode cX6_init 65 = .ok (.bipush 12, 2) := by decide +kernel
theorem dX6_init_67 : decode cX6_init 67 = .ok (.newarray .int, 2) := by decide +kernel
theorem dX6_init_69 : decode cX6_init 69 = .ok (.putfield 46, 3) := by decide +kernel
theorem dX6_init_72 : decode cX6_init 72 = .ok (.aload_n 0, 1) := by decide +kernel
theorem dX6_init_73 : decode cX6_init 73 = .ok (.bipush 96, 2) := by decide +kernel
theorem dX6_init_75 : decode cX6_init 75 = .ok (.newarray .int, 2) := by decide +kernel
theorem dX6_init_77 : decode cX6_init 77 = .ok (.putfield 49, 3) := by decide +kernel
theorem dX6_init_80 : decode cX6_init 80 = .ok (.return_, 1) := by decide +kernel
def f_X6_init : MX := mth 1 (sQ (sO) (sQ (sPa (eLa 0) 6 0 (eNw 1 [.int 0, .int 0, .int 0, .null, .null] f_X1_init)) (sQ (sPa (eLa 0) 6 1 (eNw 2 [.int 0, .null] f_X2_init)) (sQ (sPa (eLa 0) 6 2 (eNw 5 [.int 0, .int 0, .null] f_X5_init)) (sQ (sPa (eLa 0) 6 3 (eNw 0 [.null, .null] f_X0_init)) (sQ (sPa (eLa 0) 6 4 (eNi 0 3)) (sQ (sPa (eLa 0) 6 5 (eNi 0 128)) (sQ (sPa (eLa 0) 6 8 (eNi 0 12)) (sQ (sPa (eLa 0) 6 9 (eNi 0 96)) (sQ (sN) (sRv)))))))))))
theorem Y_X6_init : Yk yX6_init cX6_init 1 none 0 := ⟨w36, w2, by decide +kernel, by decide +kernel, by decide +kernel⟩
set_option maxRecDepth 20000 in
theorem k_X6_init (l : Launch) (g : GE) : MetX l g yX6_init cX6_init 1 none 1 ({ frames := 2, cells := 14, slots := 1273, locals := 32 } : Room) f_X6_init := by
  unfold f_X6_init
  exact MetX.of (own := RX6) 100 0 rfl (by decide +kernel) (by decide) (fun p e s m args below meth c Fin ad0 hr hn => ⟨_, _, Sv_seq (Sv_oinit w37 w30 wOc dX6_init_0 dX6_init_1 (Nat.le_of_ble_eq_true rfl) (Nat.le_of_ble_eq_true rfl)) (Sv_seq (Sv_putA Fx6 (Ev_aload_n dX6_init_4 rfl) (Ev_new Fx1 w38 w39 w3 (by decide +kernel) fsok_1 dX6_init_5 dX6_init_8 (Ri_IN Y_X1_init (k_X1_init _ _) w40 w41 rfl dX6_init_9 (Nat.le_of_ble_eq_true rfl) (Nat.le_of_ble_eq_true rfl) (Nat.le_of_ble_eq_true rfl) (Nat.ne_of_beq_eq_false rfl))) (k := 0) (by decide) rfl rfl hn rfl w122 dX6_init_12) (Sv_seq (Sv_putA Fx6 (Ev_aload_n dX6_init_15 rfl) (Ev_new Fx2 w69 w70 w4 (by decide +kernel) fsok_2 dX6_init_16 dX6_init_19 (Ri_IN Y_X2_init (k_X2_init _ _) w71 w72 rfl dX6_init_20 (Nat.le_of_ble_eq_true rfl) (Nat.le_of_ble_eq_true rfl) (Nat.le_of_ble_eq_true rfl) (Nat.ne_of_beq_eq_false rfl))) (k := 1) (by decide) rfl rfl hn rfl w125 dX6_init_23) (Sv_seq (Sv_putA Fx6 (Ev_aload_n dX6_init_26 rfl) (Ev_new Fx5 w87 w88 w5 (by decide +kernel) fsok_5 dX6_init_27 dX6_init_30 (Ri_IN Y_X5_init (k_X5_init _ _) w89 w90 rfl dX6_init_31 (Nat.le_of_ble_eq_true rfl) (Nat.le_of_ble_eq_true rfl) (Nat.le_of_ble_eq_true rfl) (Nat.ne_of_beq_eq_false rfl))) (k := 2) (by decide) rfl rfl hn rfl w128 dX6_init_34) (Sv_seq (Sv_putA Fx6 (Ev_aload_n dX6_init_37 rfl) (Ev_new Fx0 w104 w105 w6 (by decide +kernel) fsok_0 dX6_init_38 dX6_init_41 (Ri_IN Y_X0_init (k_X0_init _ _) w106 w107 rfl dX6_init_42 (Nat.le_of_ble_eq_true rfl) (Nat.le_of_ble_eq_true rfl) (Nat.le_of_ble_eq_true rfl) (Nat.ne_of_beq_eq_false rfl))) (k := 3) (by decide) rfl rfl hn rfl w131 dX6_init_45) (Sv_seq (Sv_putA Fx6 (Ev_aload_n dX6_init_48 rfl) (Ev_newa_int (N := 3) (v := 3) (Ev_iconst dX6_init_49 (by decide)) (by decide) (by decide +kernel) (by decide) w68 dX6_init_50) (k := 4) (by decide) rfl rfl hn rfl w134 dX6_init_52) (Sv_seq (Sv_putA Fx6 (Ev_aload_n dX6_init_55 rfl) (Ev_newa_int (N := 128) (v := 128) (Ev_sipush dX6_init_56 (by decide)) (by decide) (by decide +kernel) (by decide) w68 dX6_init_59) (k := 5) (by decide) rfl rfl hn rfl w137 dX6_init_61) (Sv_seq (Sv_putA Fx6 (Ev_aload_n dX6_init_64 rfl) (Ev_newa_int (N := 12) (v := 12) (Ev_bipush dX6_init_65 (by decide)) (by decide) (by decide +kernel) (by decide) w68 dX6_init_67) (k := 8) (by decide) rfl rfl hn rfl w145 dX6_init_69) (Sv_seq (Sv_putA Fx6 (Ev_aload_n dX6_init_72 rfl) (Ev_newa_int (N := 96) (v := 96) (Ev_bipush dX6_init_73 (by decide)) (by decide) (by decide +kernel) (by decide) w68 dX6_init_75) (k := 9) (by decide) rfl rfl hn rfl w148 dX6_init_77) (Sv_seq (Sv_nop) (Sv_retv hr dX6_init_80)))))))))), Nat.le_of_ble_eq_true rfl, Nat.le_of_ble_eq_true rfl⟩)
theorem dX6_buildAnew_0 : decode cX6_buildAnew 0 = .ok (.aload_n 0, 1) := by decide +kernel
theorem dX6_buildAnew_1 : decode cX6_buildAnew 1 = .ok (.getfield 12, 3) := by decide +kernel
theorem dX6_buildAnew_4 : decode cX6_buildAnew 4 = .ok (.iload_n 1, 1) := by decide +kernel
theorem dX6_buildAnew_5 : decode cX6_buildAnew 5 = .ok (.iload_n 2, 1) := by decide +kernel
theorem dX6_buildAnew_6 : decode cX6_buildAnew 6 = .ok (.invokevirtual 52, 3) := by decide +kernel
theorem dX6_buildAnew_9 : decode cX6_buildAnew 9 = .ok (.aload_n 0, 1) := by decide +kernel
theorem dX6_buildAnew_10 : decode cX6_buildAnew 10 = .ok (.getfield 21, 3) := by decide +kernel
theorem dX6_buildAnew_13 : decode cX6_buildAnew 13 = .ok (.iconst 0, 1) := by decide +kernel
theorem dX6_buildAnew_14 : decode cX6_buildAnew 14 = .ok (.putfield 56, 3) := by decide +kernel
theorem dX6_buildAnew_17 : decode cX6_buildAnew 17 = .ok (.aload_n 0, 1) := by decide +kernel
theorem dX6_buildAnew_18 : decode cX6_buildAnew 18 = .ok (.getfield 28, 3) := by decide +kernel
theorem dX6_buildAnew_21 : decode cX6_buildAnew 21 = .ok (.invokevirtual 60, 3) := by decide +kernel
theorem dX6_buildAnew_24 : decode cX6_buildAnew 24 = .ok (.aload_n 0, 1) := by decide +kernel
theorem dX6_buildAnew_25 : decode cX6_buildAnew 25 = .ok (.getfield 35, 3) := by decide +kernel
theorem dX6_buildAnew_28 : decode cX6_buildAnew 28 = .ok (.invokevirtual 63, 3) := by decide +kernel
theorem dX6_buildAnew_31 : decode cX6_buildAnew 31 = .ok (.aload_n 0, 1) := by decide +kernel
theorem dX6_buildAnew_32 : decode cX6_buildAnew 32 = .ok (.iconst 0, 1) := by decide +kernel
theorem dX6_buildAnew_33 : decode cX6_buildAnew 33 = .ok (.putfield 66, 3) := by decide +kernel
theorem dX6_buildAnew_36 : decode cX6_buildAnew 36 = .ok (.aload_n 0, 1) := by decide +kernel
theorem dX6_buildAnew_37 : decode cX6_buildAnew 37 = .ok (.getfield 46, 3) := by decide +kernel
theorem dX6_buildAnew_40 : decode cX6_buildAnew 40 = .ok (.iconst 0, 1) := by decide +kernel
theorem dX6_buildAnew_41 : decode cX6_buildAnew 41 = .ok (.invokestatic 69, 3) := by decide +kernel
theorem dX6_buildAnew_44 : decode cX6_buildAnew 44 = .ok (.aload_n 0, 1) := by decide +kernel
theorem dX6_buildAnew_45 : decode cX6_buildAnew 45 = .ok (.getfield 49, 3) := by decide +kernel
theorem dX6_buildAnew_48 : decode cX6_buildAnew 48 = .ok (.iconst 0, 1) := by decide +kernel
theorem dX6_buildAnew_49 : decode cX6_buildAnew 49 = .ok (.invokestatic 69, 3) := by decide +kernel
theorem dX6_buildAnew_52 : decode cX6_buildAnew 52 = .ok (.return_, 1) := by decide +kernel
def f_X6_buildAnew : MX := mth 3 (sQ (sQ (sM (gd 1 f_X1_makeFree) (aI (aI (aA (aN) (eGa (eLa 0) 6 0)) (eLi 1)) (eLi 2))) (sQ (sPi (eGa (eLa 0) 6 1) 2 0 (eI (0))) (sQ (sM (gd 5 f_X5_forget) (aA (aN) (eGa (eLa 0) 6 2))) (sQ (sM (gd 0 f_X0_close) (aA (aN) (eGa (eLa 0) 6 3))) (sQ (sPi (eLa 0) 6 7 (eI (0))) (sQ (sM (f_J7_fill_53178) (aI (aA (aN) (eGa (eLa 0) 6 8)) (eI (0)))) (sM (f_J7_fill_53178) (aI (aA (aN) (eGa (eLa 0) 6 9)) (eI (0)))))))))) (sRv))
theorem Y_X6_buildAnew : Yk yX6_buildAnew cX6_buildAnew 3 none 2 := ⟨w248, w2, by decide +kernel, by decide +kernel, by decide +kernel⟩
set_option maxRecDepth 20000 in
theorem k_X6_buildAnew (l : Launch) (g : GE) : MetX l g yX6_buildAnew cX6_buildAnew 3 none 3 ({ frames := 2, cells := 0, slots := 0, locals := 45 } : Room) f_X6_buildAnew := by
  unfold f_X6_buildAnew
  exact MetX.of (own := RX6) 100 0 rfl (by decide +kernel) (by decide) (fun p e s m args below meth c Fin ad0 hr hn => ⟨_, _, Sv_seq (Sv_seq (Sv_call (Av_i (Av_i (Av_a (Av_nil) (Ev_getA Fx6 (Ev_aload_n dX6_buildAnew_0 rfl) (k := 0) (by decide) w122 dX6_buildAnew_1)) (Ev_iload_n dX6_buildAnew_4 rfl)) (Ev_iload_n dX6_buildAnew_5 rfl)) (Rn_V (ci := 1) Fx1.1 rfl Y_X1_makeFree (k_X1_makeFree _ _) w249 w250 w251 dX6_buildAnew_6 (Nat.le_of_ble_eq_true rfl) (Nat.le_of_ble_eq_true rfl) (Nat.le_of_ble_eq_true rfl) (Nat.ne_of_beq_eq_false rfl))) (Sv_seq (Sv_putI Fx2 (Ev_getA Fx6 (Ev_aload_n dX6_buildAnew_9 rfl) (k := 1) (by decide) w125 dX6_buildAnew_10) (Ev_iconst dX6_buildAnew_13 (by decide)) (k := 0) (by decide) rfl rfl w76 dX6_buildAnew_14) (Sv_seq (Sv_call (Av_a (Av_nil) (Ev_getA Fx6 (Ev_aload_n dX6_buildAnew_17 rfl) (k := 2) (by decide) w128 dX6_buildAnew_18)) (Rn_V (ci := 5) Fx5.1 rfl Y_X5_forget (k_X5_forget _ _) w259 w260 w261 dX6_buildAnew_21 (Nat.le_of_ble_eq_true rfl) (Nat.le_of_ble_eq_true rfl) (Nat.le_of_ble_eq_true rfl) (Nat.ne_of_beq_eq_false rfl))) (Sv_seq (Sv_call (Av_a (Av_nil) (Ev_getA Fx6 (Ev_aload_n dX6_buildAnew_24 rfl) (k := 3) (by decide) w131 dX6_buildAnew_25)) (Rn_V (ci := 0) Fx0.1 rfl Y_X0_close (k_X0_close _ _) w263 w264 w265 dX6_buildAnew_28 (Nat.le_of_ble_eq_true rfl) (Nat.le_of_ble_eq_true rfl) (Nat.le_of_ble_eq_true rfl) (Nat.ne_of_beq_eq_false rfl))) (Sv_seq (Sv_putI Fx6 (Ev_aload_n dX6_buildAnew_31 rfl) (Ev_iconst dX6_buildAnew_32 (by decide)) (k := 7) (by decide) rfl rfl w142 dX6_buildAnew_33) (Sv_seq (Sv_call (Av_i (Av_a (Av_nil) (Ev_getA Fx6 (Ev_aload_n dX6_buildAnew_36 rfl) (k := 8) (by decide) w145 dX6_buildAnew_37)) (Ev_iconst dX6_buildAnew_40 (by decide))) (Rn_S Y_J7_fill_53178 (k_J7_fill_53178 _ _) w268 w257 dX6_buildAnew_41 (Nat.le_of_ble_eq_true rfl) (Nat.le_of_ble_eq_true rfl) (Nat.le_of_ble_eq_true rfl) (Nat.ne_of_beq_eq_false rfl))) (Sv_call (Av_i (Av_a (Av_nil) (Ev_getA Fx6 (Ev_aload_n dX6_buildAnew_44 rfl) (k := 9) (by decide) w148 dX6_buildAnew_45)) (Ev_iconst dX6_buildAnew_48 (by decide))) (Rn_S Y_J7_fill_53178 (k_J7_fill_53178 _ _) w268 w257 dX6_buildAnew_49 (Nat.le_of_ble_eq_true rfl) (Nat.le_of_ble_eq_true rfl) (Nat.le_of_ble_eq_true rfl) (Nat.ne_of_beq_eq_false rfl))))))))) (Sv_retv hr dX6_buildAnew_52), Nat.le_of_ble_eq_true rfl, Nat.le_of_ble_eq_true rfl⟩)
theorem dX6_copyFrom_0 : decode cX6_copyFrom 0 = .ok (.aload_n 0, 1) := by decide +kernel
theorem dX6_copyFrom_1 : decode cX6_copyFrom 1 = .ok (.getfield 12, 3) := by decide +kernel
theorem dX6_copyFrom_4 : decode cX6_copyFrom 4 = .ok (.aload_n 1, 1) := by decide +kernel
theorem dX6_copyFrom_5 : decode cX6_copyFrom 5 = .ok (.getfield 12, 3) := by decide +kernel
theorem dX6_copyFrom_8 : decode cX6_copyFrom 8 = .ok (.invokevirtual 75, 3) := by decide +kernel
theorem dX6_copyFrom_11 : decode cX6_copyFrom 11 = .ok (.aload_n 0, 1) := by decide +kernel
theorem dX6_copyFrom_12 : decode cX6_copyFrom 12 = .ok (.getfield 21, 3) := by decide +kernel
theorem dX6_copyFrom_15 : decode cX6_copyFrom 15 = .ok (.aload_n 1, 1) := by decide +kernel
theorem dX6_copyFrom_16 : decode cX6_copyFrom 16 = .ok (.getfield 21, 3) := by decide +kernel
theorem dX6_copyFrom_19 : decode cX6_copyFrom 19 = .ok (.invokevirtual 79, 3) := by decide +kernel
theorem dX6_copyFrom_22 : decode cX6_copyFrom 22 = .ok (.aload_n 0, 1) := by decide +kernel
theorem dX6_copyFrom_23 : decode cX6_copyFrom 23 = .ok (.getfield 28, 3) := by decide +kernel
theorem dX6_copyFrom_26 : decode cX6_copyFrom 26 = .ok (.aload_n 1, 1) := by decide +kernel
theorem dX6_copyFrom_27 : decode cX6_copyFrom 27 = .ok (.getfield 28, 3) := by decide +kernel
theorem dX6_copyFrom_30 : decode cX6_copyFrom 30 = .ok (.invokevirtual 82, 3) := by decide +kernel
theorem dX6_copyFrom_33 : decode cX6_copyFrom 33 = .ok (.aload_n 0, 1) := by decide +kernel
theorem dX6_copyFrom_34 : decode cX6_copyFrom 34 = .ok (.getfield 35, 3) := by decide +kernel
theorem dX6_copyFrom_37 : decode cX6_copyFrom 37 = .ok (.aload_n 1, 1) := by decide +kernel
theorem dX6_copyFrom_38 : decode cX6_copyFrom 38 = .ok (.getfield 35, 3) := by decide +kernel
theorem dX6_copyFrom_41 : decode cX6_copyFrom 41 = .ok (.invokevirtual 85, 3) := by decide +kernel
theorem dX6_copyFrom_44 : decode cX6_copyFrom 44 = .ok (.aload_n 1, 1) := by decide +kernel
theorem dX6_copyFrom_45 : decode cX6_copyFrom 45 = .ok (.getfield 39, 3) := by decide +kernel
theorem dX6_copyFrom_48 : decode cX6_copyFrom 48 = .ok (.iconst 0, 1) := by decide +kernel
theorem dX6_copyFrom_49 : decode cX6_copyFrom 49 = .ok (.aload_n 0, 1) := by decide +kernel
theorem dX6_copyFrom_50 : decode cX6_copyFrom 50 = .ok (.getfield 39, 3) := by decide +kernel
theorem dX6_copyFrom_53 : decode cX6_copyFrom 53 = .ok (.iconst 0, 1) := by decide +kernel
theorem dX6_copyFrom_54 : decode cX6_copyFrom 54 = .ok (.aload_n 0, 1) := by decide +kernel
theorem dX6_copyFrom_55 : decode cX6_copyFrom 55 = .ok (.getfield 39, 3) := by decide +kernel
theorem dX6_copyFrom_58 : decode cX6_copyFrom 58 = .ok (.arraylength, 1) := by decide +kernel
theorem dX6_copyFrom_59 : decode cX6_copyFrom 59 = .ok (.invokestatic 88, 3) := by decide +kernel
theorem dX6_copyFrom_62 : decode cX6_copyFrom 62 = .ok (.aload_n 1, 1) := by decide +kernel
theorem dX6_copyFrom_63 : decode cX6_copyFrom 63 = .ok (.getfield 43, 3) := by decide +kernel
theorem dX6_copyFrom_66 : decode cX6_copyFrom 66 = .ok (.iconst 0, 1) := by decide +kernel
theorem dX6_copyFrom_67 : decode cX6_copyFrom 67 = .ok (.aload_n 0, 1) := by decide +kernel
theorem dX6_copyFrom_68 : decode cX6_copyFrom 68 = .ok (.getfield 43, 3) := by decide +kernel
theorem dX6_copyFrom_71 : decode cX6_copyFrom 71 = .ok (.iconst 0, 1) := by decide +kernel
theorem dX6_copyFrom_72 : decode cX6_copyFrom 72 = .ok (.aload_n 0, 1) := by decide +kernel
theorem dX6_copyFrom_73 : decode cX6_copyFrom 73 = .ok (.getfield 43, 3) := by decide +kernel
theorem dX6_copyFrom_76 : decode cX6_copyFrom 76 = .ok (.arraylength, 1) := by decide +kernel
theorem dX6_copyFrom_77 : decode cX6_copyFrom 77 = .ok (.invokestatic 88, 3) := by decide +kernel
theorem dX6_copyFrom_80 : decode cX6_copyFrom 80 = .ok (.aload_n 0, 1) := by decide +kernel
theorem dX6_copyFrom_81 : decode cX6_copyFrom 81 = .ok (.aload_n 1, 1) := by decide +kernel
theorem dX6_copyFrom_82 : decode cX6_copyFrom 82 = .ok (.getfield 94, 3) := by decide +kernel
theorem dX6_copyFrom_85 : decode cX6_copyFrom 85 = .ok (.putfield 94, 3) := by decide +kernel
theorem dX6_copyFrom_88 : decode cX6_copyFrom 88 = .ok (.aload_n 0, 1) := by decide +kernel
theorem dX6_copyFrom_89 : decode cX6_copyFrom 89 = .ok (.aload_n 1, 1) := by decide +kernel
theorem dX6_copyFrom_90 : decode cX6_copyFrom 90 = .ok (.getfield 66, 3) := by decide +kernel
theorem dX6_copyFrom_93 : decode cX6_copyFrom 93 = .ok (.putfield 66, 3) := by decide +kernel
theorem dX6_copyFrom_96 : decode cX6_copyFrom 96 = .ok (.aload_n 1, 1) := by decide +kernel
theorem dX6_copyFrom_97 : decode cX6_copyFrom 97 = .ok (.getfield 46, 3) := by decide +kernel
theorem dX6_copyFrom_100 : decode cX6_copyFrom 100 = .ok (.iconst 0, 1) := by decide +kernel
theorem dX6_copyFrom_101 : decode cX6_copyFrom 101 = .ok (.aload_n 0, 1) := by decide +kernel
theorem dX6_copyFrom_102 : decode cX6_copyFrom 102 = .ok (.getfield 46, 3) := by decide +kernel
theorem dX6_copyFrom_105 : decode cX6_copyFrom 105 = .ok (.iconst 0, 1) := by decide +kernel
theorem dX6_copyFrom_106 : decode cX6_copyFrom 106 = .ok (.aload_n 0, 1) := by decide +kernel
theorem dX6_copyFrom_107 : decode cX6_copyFrom 107 = .ok (.getfield 46, 3) := by decide +kernel
theorem dX6_copyFrom_110 : decode cX6_copyFrom 110 = .ok (.arraylength, 1) := by decide +kernel
theorem dX6_copyFrom_111 : decode cX6_copyFrom 111 = .ok (.invokestatic 88, 3) := by decide +kernel
theorem dX6_copyFrom_114 : decode cX6_copyFrom 114 = .ok (.aload_n 1, 1) := by decide +kernel
theorem dX6_copyFrom_115 : decode cX6_copyFrom 115 = .ok (.getfield 49, 3) := by decide +kernel
theorem dX6_copyFrom_118 : decode cX6_copyFrom 118 = .ok (.iconst 0, 1) := by decide +kernel
theorem dX6_copyFrom_119 : decode cX6_copyFrom 119 = .ok (.aload_n 0, 1) := by decide +kernel
theorem dX6_copyFrom_120 : decode cX6_copyFrom 120 = .ok (.getfield 49, 3) := by decide +kernel
theorem dX6_copyFrom_123 : decode cX6_copyFrom 123 = .ok (.iconst 0, 1) := by decide +kernel
theorem dX6_copyFrom_124 : decode cX6_copyFrom 124 = .ok (.aload_n 0, 1) := by decide +kernel
theorem dX6_copyFrom_125 : decode cX6_copyFrom 125 = .ok (.getfield 49, 3) := by decide +kernel
theorem dX6_copyFrom_128 : decode cX6_copyFrom 128 = .ok (.arraylength, 1) := by decide +kernel
theorem dX6_copyFrom_129 : decode cX6_copyFrom 129 = .ok (.invokestatic 88, 3) := by decide +kernel
theorem dX6_copyFrom_132 : decode cX6_copyFrom 132 = .ok (.return_, 1) := by decide +kernel
def f_X6_copyFrom : MX := mth 2 (sQ (sQ (sM (gd 1 f_X1_copyFrom) (aA (aA (aN) (eGa (eLa 0) 6 0)) (eGa (eLa 1) 6 0))) (sQ (sM (gd 2 f_X2_copyFrom) (aA (aA (aN) (eGa (eLa 0) 6 1)) (eGa (eLa 1) 6 1))) (sQ (sM (gd 5 f_X5_copyFrom) (aA (aA (aN) (eGa (eLa 0) 6 2)) (eGa (eLa 1) 6 2))) (sQ (sM (gd 0 f_X0_copyFrom) (aA (aA (aN) (eGa (eLa 0) 6 3)) (eGa (eLa 1) 6 3))) (sQ (sM cpy (aI (aI (aA (aI (aA (aN) (eGa (eLa 1) 6 4)) (eI (0))) (eGa (eLa 0) 6 4)) (eI (0))) (eAn (eGa (eLa 0) 6 4)))) (sQ (sM cpy (aI (aI (aA (aI (aA (aN) (eGa (eLa 1) 6 5)) (eI (0))) (eGa (eLa 0) 6 5)) (eI (0))) (eAn (eGa (eLa 0) 6 5)))) (sQ (sPi (eLa 0) 6 6 (eGi (eLa 1) 6 6)) (sQ (sPi (eLa 0) 6 7 (eGi (eLa 1) 6 7)) (sQ (sM cpy (aI (aI (aA (aI (aA (aN) (eGa (eLa 1) 6 8)) (eI (0))) (eGa (eLa 0) 6 8)) (eI (0))) (eAn (eGa (eLa 0) 6 8)))) (sM cpy (aI (aI (aA (aI (aA (aN) (eGa (eLa 1) 6 9)) (eI (0))) (eGa (eLa 0) 6 9)) (eI (0))) (eAn (eGa (eLa 0) 6 9))))))))))))) (sRv))
theorem Y_X6_copyFrom : Yk yX6_copyFrom cX6_copyFrom 2 none 1 := ⟨w523, w2, by decide +kernel, by decide +kernel, by decide +kernel⟩
set_option maxRecDepth 20000 in
theorem k_X6_copyFrom (l : Launch) (g : GE) : MetX l g yX6_copyFrom cX6_copyFrom 2 none 2 ({ frames := 2, cells := 0, slots := 0, locals := 61 } : Room) f_X6_copyFrom := by
  unfold f_X6_copyFrom
  exact MetX.of (own := RX6) 100 0 rfl (by decide +kernel) (by decide) (fun p e s m args below meth c Fin ad0 hr hn => ⟨_, _, Sv_seq (Sv_seq (Sv_call (Av_a (Av_a (Av_nil) (Ev_getA Fx6 (Ev_aload_n dX6_copyFrom_0 rfl) (k := 0) (by decide) w122 dX6_copyFrom_1)) (Ev_getA Fx6 (Ev_aload_n dX6_copyFrom_4 rfl) (k := 0) (by decide) w122 dX6_copyFrom_5)) (Rn_V (ci := 1) Fx1.1 rfl Y_X1_copyFrom (k_X1_copyFrom _ _) w524 w525 w526 dX6_copyFrom_8 (Nat.le_of_ble_eq_true rfl) (Nat.le_of_ble_eq_true rfl) (Nat.le_of_ble_eq_true rfl) (Nat.ne_of_beq_eq_false rfl))) (Sv_seq (Sv_call (Av_a (Av_a (Av_nil) (Ev_getA Fx6 (Ev_aload_n dX6_copyFrom_11 rfl) (k := 1) (by decide) w125 dX6_copyFrom_12)) (Ev_getA Fx6 (Ev_aload_n dX6_copyFrom_15 rfl) (k := 1) (by decide) w125 dX6_copyFrom_16)) (Rn_V (ci := 2) Fx2.1 rfl Y_X2_copyFrom (k_X2_copyFrom _ _) w529 w530 w531 dX6_copyFrom_19 (Nat.le_of_ble_eq_true rfl) (Nat.le_of_ble_eq_true rfl) (Nat.le_of_ble_eq_true rfl) (Nat.ne_of_beq_eq_false rfl))) (Sv_seq (Sv_call (Av_a (Av_a (Av_nil) (Ev_getA Fx6 (Ev_aload_n dX6_copyFrom_22 rfl) (k := 2) (by decide) w128 dX6_copyFrom_23)) (Ev_getA Fx6 (Ev_aload_n dX6_copyFrom_26 rfl) (k := 2) (by decide) w128 dX6_copyFrom_27)) (Rn_V (ci := 5) Fx5.1 rfl Y_X5_copyFrom (k_X5_copyFrom _ _) w534 w535 w536 dX6_copyFrom_30 (Nat.le_of_ble_eq_true rfl) (Nat.le_of_ble_eq_true rfl) (Nat.le_of_ble_eq_true rfl) (Nat.ne_of_beq_eq_false rfl))) (Sv_seq (Sv_call (Av_a (Av_a (Av_nil) (Ev_getA Fx6 (Ev_aload_n dX6_copyFrom_33 rfl) (k := 3) (by decide) w131 dX6_copyFrom_34)) (Ev_getA Fx6 (Ev_aload_n dX6_copyFrom_37 rfl) (k := 3) (by decide) w131 dX6_copyFrom_38)) (Rn_V (ci := 0) Fx0.1 rfl Y_X0_copyFrom (k_X0_copyFrom _ _) w539 w540 w541 dX6_copyFrom_41 (Nat.le_of_ble_eq_true rfl) (Nat.le_of_ble_eq_true rfl) (Nat.le_of_ble_eq_true rfl) (Nat.ne_of_beq_eq_false rfl))) (Sv_seq (Sv_copy (Av_i (Av_i (Av_a (Av_i (Av_a (Av_nil) (Ev_getA Fx6 (Ev_aload_n dX6_copyFrom_44 rfl) (k := 4) (by decide) w134 dX6_copyFrom_45)) (Ev_iconst dX6_copyFrom_48 (by decide))) (Ev_getA Fx6 (Ev_aload_n dX6_copyFrom_49 rfl) (k := 4) (by decide) w134 dX6_copyFrom_50)) (Ev_iconst dX6_copyFrom_53 (by decide))) (Ev_alen (Ev_getA Fx6 (Ev_aload_n dX6_copyFrom_54 rfl) (k := 4) (by decide) w134 dX6_copyFrom_55) dX6_copyFrom_58)) w381 w383 w382 w15 dX6_copyFrom_59 (Nat.le_of_ble_eq_true rfl) (Nat.le_of_ble_eq_true rfl)) (Sv_seq (Sv_copy (Av_i (Av_i (Av_a (Av_i (Av_a (Av_nil) (Ev_getA Fx6 (Ev_aload_n dX6_copyFrom_62 rfl) (k := 5) (by decide) w137 dX6_copyFrom_63)) (Ev_iconst dX6_copyFrom_66 (by decide))) (Ev_getA Fx6 (Ev_aload_n dX6_copyFrom_67 rfl) (k := 5) (by decide) w137 dX6_copyFrom_68)) (Ev_iconst dX6_copyFrom_71 (by decide))) (Ev_alen (Ev_getA Fx6 (Ev_aload_n dX6_copyFrom_72 rfl) (k := 5) (by decide) w137 dX6_copyFrom_73) dX6_copyFrom_76)) w381 w383 w382 w15 dX6_copyFrom_77 (Nat.le_of_ble_eq_true rfl) (Nat.le_of_ble_eq_true rfl)) (Sv_seq (Sv_putI Fx6 (Ev_aload_n dX6_copyFrom_80 rfl) (Ev_getI Fx6 (Ev_aload_n dX6_copyFrom_81 rfl) (k := 6) (by decide) w140 dX6_copyFrom_82) (k := 6) (by decide) rfl rfl w140 dX6_copyFrom_85) (Sv_seq (Sv_putI Fx6 (Ev_aload_n dX6_copyFrom_88 rfl) (Ev_getI Fx6 (Ev_aload_n dX6_copyFrom_89 rfl) (k := 7) (by decide) w142 dX6_copyFrom_90) (k := 7) (by decide) rfl rfl w142 dX6_copyFrom_93) (Sv_seq (Sv_copy (Av_i (Av_i (Av_a (Av_i (Av_a (Av_nil) (Ev_getA Fx6 (Ev_aload_n dX6_copyFrom_96 rfl) (k := 8) (by decide) w145 dX6_copyFrom_97)) (Ev_iconst dX6_copyFrom_100 (by decide))) (Ev_getA Fx6 (Ev_aload_n dX6_copyFrom_101 rfl) (k := 8) (by decide) w145 dX6_copyFrom_102)) (Ev_iconst dX6_copyFrom_105 (by decide))) (Ev_alen (Ev_getA Fx6 (Ev_aload_n dX6_copyFrom_106 rfl) (k := 8) (by decide) w145 dX6_copyFrom_107) dX6_copyFrom_110)) w381 w383 w382 w15 dX6_copyFrom_111 (Nat.le_of_ble_eq_true rfl) (Nat.le_of_ble_eq_true rfl)) (Sv_copy (Av_i (Av_i (Av_a (Av_i (Av_a (Av_nil) (Ev_getA Fx6 (Ev_aload_n dX6_copyFrom_114 rfl) (k := 9) (by decide) w148 dX6_copyFrom_115)) (Ev_iconst dX6_copyFrom_118 (by decide))) (Ev_getA Fx6 (Ev_aload_n dX6_copyFrom_119 rfl) (k := 9) (by decide) w148 dX6_copyFrom_120)) (Ev_iconst dX6_copyFrom_123 (by decide))) (Ev_alen (Ev_getA Fx6 (Ev_aload_n dX6_copyFrom_124 rfl) (k := 9) (by decide) w148 dX6_copyFrom_125) dX6_copyFrom_128)) w381 w383 w382 w15 dX6_copyFrom_129 (Nat.le_of_ble_eq_true rfl) (Nat.le_of_ble_eq_true rfl))))))))))) (Sv_retv hr dX6_copyFrom_132), Nat.le_of_ble_eq_true rfl, Nat.le_of_ble_eq_true rfl⟩)
theorem dX6_takeBook_0 : decode cX6_takeBook 0 = .ok (.aload_n 1, 1) := by decide +kernel
theorem dX6_takeBook_1 : decode cX6_takeBook 1 = .ok (.getfield 97, 3) := by decide +kernel
theorem dX6_takeBook_4 : decode cX6_takeBook 4 = .ok (.iconst 0, 1) := by decide +kernel
theorem dX6_takeBook_5 : decode cX6_takeBook 5 = .ok (.aload_n 0, 1) := by decide +kernel
theorem dX6_takeBook_6 : decode cX6_takeBook 6 = .ok (.getfield 43, 3) := by decide +kernel
theorem dX6_takeBook_9 : decode cX6_takeBook 9 = .ok (.iconst 0, 1) := by decide +kernel
theorem dX6_takeBook_10 : decode cX6_takeBook 10 = .ok (.aload_n 0, 1) := by decide +kernel
theorem dX6_takeBook_11 : decode cX6_takeBook 11 = .ok (.getfield 43, 3) := by decide +kernel
theorem dX6_takeBook_14 : decode cX6_takeBook 14 = .ok (.arraylength, 1) := by decide +kernel
theorem dX6_takeBook_15 : decode cX6_takeBook 15 = .ok (.invokestatic 88, 3) := by decide +kernel
theorem dX6_takeBook_18 : decode cX6_takeBook 18 = .ok (.aload_n 0, 1) := by decide +kernel
theorem dX6_takeBook_19 : decode cX6_takeBook 19 = .ok (.aload_n 1, 1) := by decide +kernel
theorem dX6_takeBook_20 : decode cX6_takeBook 20 = .ok (.getfield 100, 3) := by decide +kernel
theorem dX6_takeBook_23 : decode cX6_takeBook 23 = .ok (.putfield 94, 3) := by decide +kernel
theorem dX6_takeBook_26 : decode cX6_takeBook 26 = .ok (.return_, 1) := by decide +kernel
def f_X6_takeBook : MX := mth 2 (sQ (sQ (sM cpy (aI (aI (aA (aI (aA (aN) (eGa (eLa 1) 3 2)) (eI (0))) (eGa (eLa 0) 6 5)) (eI (0))) (eAn (eGa (eLa 0) 6 5)))) (sPi (eLa 0) 6 6 (eGi (eLa 1) 3 3))) (sRv))
theorem Y_X6_takeBook : Yk yX6_takeBook cX6_takeBook 2 none 1 := ⟨w380, w2, by decide +kernel, by decide +kernel, by decide +kernel⟩
set_option maxRecDepth 20000 in
theorem k_X6_takeBook (l : Launch) (g : GE) : MetX l g yX6_takeBook cX6_takeBook 2 none 2 ({ frames := 1, cells := 0, slots := 0, locals := 40 } : Room) f_X6_takeBook := by
  unfold f_X6_takeBook
  exact MetX.of (own := RX6) 100 0 rfl (by decide +kernel) (by decide) (fun p e s m args below meth c Fin ad0 hr hn => ⟨_, _, Sv_seq (Sv_seq (Sv_copy (Av_i (Av_i (Av_a (Av_i (Av_a (Av_nil) (Ev_getA Fx3 (Ev_aload_n dX6_takeBook_0 rfl) (k := 2) (by decide) w197 dX6_takeBook_1)) (Ev_iconst dX6_takeBook_4 (by decide))) (Ev_getA Fx6 (Ev_aload_n dX6_takeBook_5 rfl) (k := 5) (by decide) w137 dX6_takeBook_6)) (Ev_iconst dX6_takeBook_9 (by decide))) (Ev_alen (Ev_getA Fx6 (Ev_aload_n dX6_takeBook_10 rfl) (k := 5) (by decide) w137 dX6_takeBook_11) dX6_takeBook_14)) w381 w383 w382 w15 dX6_takeBook_15 (Nat.le_of_ble_eq_true rfl) (Nat.le_of_ble_eq_true rfl)) (Sv_putI Fx6 (Ev_aload_n dX6_takeBook_18 rfl) (Ev_getI Fx3 (Ev_aload_n dX6_takeBook_19 rfl) (k := 3) (by decide) w199 dX6_takeBook_20) (k := 6) (by decide) rfl rfl w140 dX6_takeBook_23)) (Sv_retv hr dX6_takeBook_26), Nat.le_of_ble_eq_true rfl, Nat.le_of_ble_eq_true rfl⟩)
theorem dX6_isRing_0 : decode cX6_isRing 0 = .ok (.aload_n 0, 1) := by decide +kernel
theorem dX6_isRing_1 : decode cX6_isRing 1 = .ok (.getfield 39, 3) := by decide +kernel
theorem dX6_isRing_4 : decode cX6_isRing 4 = .ok (.iconst 0, 1) := by decide +kernel
theorem dX6_isRing_5 : decode cX6_isRing 5 = .ok (.iaload, 1) := by decide +kernel
theorem dX6_isRing_6 : decode cX6_isRing 6 = .ok (.iconst 1, 1) := by decide +kernel
theorem dX6_isRing_7 : decode cX6_isRing 7 = .ok (.if_icmp .ne 7, 3) := by decide +kernel
theorem dX6_isRing_10 : decode cX6_isRing 10 = .ok (.iconst 1, 1) := by decide +kernel
theorem dX6_isRing_11 : decode cX6_isRing 11 = .ok (.goto 4, 3) := by decide +kernel
theorem dX6_isRing_14 : decode cX6_isRing 14 = .ok (.iconst 0, 1) := by decide +kernel
theorem dX6_isRing_15 : decode cX6_isRing 15 = .ok (.ireturn, 1) := by decide +kernel
def f_X6_isRing : MX := mth 1 (sRz (eC (cB c_eq (eAi 0 (eGa (eLa 0) 6 4) (eI (0))) (eI (1)))))
theorem Y_X6_isRing : Yk yX6_isRing cX6_isRing 1 (some .boolean) 0 := ⟨w432, w2, by decide +kernel, by decide +kernel, by decide +kernel⟩
set_option maxRecDepth 20000 in
theorem k_X6_isRing (l : Launch) (g : GE) : MetX l g yX6_isRing cX6_isRing 1 (some .boolean) 1 ({ frames := 0, cells := 0, slots := 0, locals := 0 } : Room) f_X6_isRing := by
  unfold f_X6_isRing
  exact MetX.of (own := RX6) 100 0 rfl (by decide +kernel) (by decide) (fun p e s m args below meth c Fin ad0 hr hn => ⟨_, _, Sv_retz (Ev_if (pT := 15) (Cv_icmp_ne_n (Ev_iaload (Ev_getA Fx6 (Ev_aload_n dX6_isRing_0 rfl) (k := 4) (by decide) w134 dX6_isRing_1) (Ev_iconst dX6_isRing_4 (by decide)) dX6_isRing_5) (Ev_iconst dX6_isRing_6 (by decide)) (t := 14) dX6_isRing_7 (by decide)) (Ev_iconst dX6_isRing_10 (by decide)) dX6_isRing_11 (by decide) (Ev_iconst dX6_isRing_14 (by decide))) hr dX6_isRing_15, Nat.le_of_ble_eq_true rfl, Nat.le_of_ble_eq_true rfl⟩)
theorem dX6_isOneToOne_0 : decode cX6_isOneToOne 0 = .ok (.lconst 0, 1) := by decide +kernel
theorem dX6_isOneToOne_1 : decode cX6_isOneToOne 1 = .ok (.lstore_n 2, 1) := by decide +kernel
theorem dX6_isOneToOne_2 : decode cX6_isOneToOne 2 = .ok (.iconst 0, 1) := by decide +kernel
theorem dX6_isOneToOne_3 : decode cX6_isOneToOne 3 = .ok (.istore 4, 2) := by decide +kernel
theorem dX6_isOneToOne_5 : decode cX6_isOneToOne 5 = .ok (.iload 4, 2) := by decide +kernel
theorem dX6_isOneToOne_7 : decode cX6_isOneToOne 7 = .ok (.bipush 64, 2) := by decide +kernel
theorem dX6_isOneToOne_9 : decode cX6_isOneToOne 9 = .ok (.if_icmp .ge 23, 3) := by decide +kernel
theorem dX6_isOneToOne_12 : decode cX6_isOneToOne 12 = .ok (.lload_n 2, 1) := by decide +kernel
theorem dX6_isOneToOne_13 : decode cX6_isOneToOne 13 = .ok (.lconst 1, 1) := by decide +kernel
theorem dX6_isOneToOne_14 : decode cX6_isOneToOne 14 = .ok (.aload_n 0, 1) := by decide +kernel
theorem dX6_isOneToOne_15 : decode cX6_isOneToOne 15 = .ok (.getfield 43, 3) := by decide +kernel
theorem dX6_isOneToOne_18 : decode cX6_isOneToOne 18 = .ok (.iload_n 1, 1) := by decide +kernel
theorem dX6_isOneToOne_19 : decode cX6_isOneToOne 19 = .ok (.iload 4, 2) := by decide +kernel
theorem dX6_isOneToOne_21 : decode cX6_isOneToOne 21 = .ok (.iadd, 1) := by decide +kernel
theorem dX6_isOneToOne_22 : decode cX6_isOneToOne 22 = .ok (.iaload, 1) := by decide +kernel
theorem dX6_isOneToOne_23 : decode cX6_isOneToOne 23 = .ok (.lshl, 1) := by decide +kernel
theorem dX6_isOneToOne_24 : decode cX6_isOneToOne 24 = .ok (.lor, 1) := by decide +kernel
theorem dX6_isOneToOne_25 : decode cX6_isOneToOne 25 = .ok (.lstore_n 2, 1) := by decide +kernel
theorem dX6_isOneToOne_26 : decode cX6_isOneToOne 26 = .ok (.iinc 4 1, 3) := by decide +kernel
theorem dX6_isOneToOne_29 : decode cX6_isOneToOne 29 = .ok (.goto (-24), 3) := by decide +kernel
theorem dX6_isOneToOne_32 : decode cX6_isOneToOne 32 = .ok (.lload_n 2, 1) := by decide +kernel
theorem dX6_isOneToOne_33 : decode cX6_isOneToOne 33 = .ok (.ldc2_w 109, 3) := by decide +kernel
theorem dX6_isOneToOne_36 : decode cX6_isOneToOne 36 = .ok (.lcmp, 1) := by decide +kernel
theorem dX6_isOneToOne_37 : decode cX6_isOneToOne 37 = .ok (.ifCond .ne 7, 3) := by decide +kernel
theorem dX6_isOneToOne_40 : decode cX6_isOneToOne 40 = .ok (.iconst 1, 1) := by decide +kernel
theorem dX6_isOneToOne_41 : decode cX6_isOneToOne 41 = .ok (.goto 4, 3) := by decide +kernel
theorem dX6_isOneToOne_44 : decode cX6_isOneToOne 44 = .ok (.iconst 0, 1) := by decide +kernel
theorem dX6_isOneToOne_45 : decode cX6_isOneToOne 45 = .ok (.ireturn, 1) := by decide +kernel
def f_X6_isOneToOne : MX := mth 5 (sQ (sTl 2 (eJ (0))) (sQ (sQ (sTi 4 (eI (0))) (sLp (cB c_lt (eLi 4) (eI (64))) (sQ (sTl 2 (eLO o_lor (eLl 2) (eLS o_lshl (eJ (1)) (eAi 0 (eGa (eLa 0) 6 5) (eOp o_iadd (eLi 1) (eLi 4)))))) (sInc 4 (1))) NF)) (sRz (eC (cZ z_eq (eLC (eLl 2) (eJ (-1))))))))
theorem Y_X6_isOneToOne : Yk yX6_isOneToOne cX6_isOneToOne 5 (some .boolean) 1 := ⟨w436, w2, by decide +kernel, by decide +kernel, by decide +kernel⟩
set_option maxRecDepth 20000 in
theorem k_X6_isOneToOne (l : Launch) (g : GE) : MetX l g yX6_isOneToOne cX6_isOneToOne 5 (some .boolean) 2 ({ frames := 0, cells := 0, slots := 0, locals := 0 } : Room) f_X6_isOneToOne := by
  unfold f_X6_isOneToOne
  exact MetX.of (own := RX6) 3 0 rfl (by decide +kernel) (by decide) (fun p e s m args below meth c Fin ad0 hr hn => ⟨_, _, Sv_seq (Sv_lstore_n (Ev_lconst dX6_isOneToOne_0 (by decide)) dX6_isOneToOne_1 rfl (Nat.le_of_ble_eq_true rfl) rfl) (Sv_seq (Sv_seq (Sv_istore (Ev_iconst dX6_isOneToOne_2 (by decide)) dX6_isOneToOne_3 (Nat.le_of_ble_eq_true rfl) (Nat.ne_of_beq_eq_false rfl)) (Sv_loop0 NF (Cv_icmp_ge_n (Ev_iload dX6_isOneToOne_5) (Ev_bipush dX6_isOneToOne_7 (by decide)) (t := 32) dX6_isOneToOne_9 (by decide)) (Sv_goto (pE := 5) (Sv_seq (Sv_lstore_n (Ev_lor (Ev_lload_n dX6_isOneToOne_12 rfl) (Ev_lshl (Ev_lconst dX6_isOneToOne_13 (by decide)) (Ev_iaload (Ev_getA Fx6 (Ev_aload_n dX6_isOneToOne_14 rfl) (k := 5) (by decide) w137 dX6_isOneToOne_15) (Ev_iadd (Ev_iload_n dX6_isOneToOne_18 rfl) (Ev_iload dX6_isOneToOne_19) dX6_isOneToOne_21) dX6_isOneToOne_22) dX6_isOneToOne_23) dX6_isOneToOne_24) dX6_isOneToOne_25 rfl (Nat.le_of_ble_eq_true rfl) rfl) (Sv_iinc dX6_isOneToOne_26 (by decide) (Nat.le_of_ble_eq_true rfl) (Nat.ne_of_beq_eq_false rfl))) dX6_isOneToOne_29 (by decide)))) (Sv_retz (Ev_if (pT := 45) (Cv_if_ne_n (Ev_lcmp (Ev_lload_n dX6_isOneToOne_32 rfl) (Ev_ldc2 w437 dX6_isOneToOne_33) dX6_isOneToOne_36) (t := 44) dX6_isOneToOne_37 (by decide)) (Ev_iconst dX6_isOneToOne_40 (by decide)) dX6_isOneToOne_41 (by decide) (Ev_iconst dX6_isOneToOne_44 (by decide))) hr dX6_isOneToOne_45)), Nat.le_of_ble_eq_true rfl, Nat.le_of_ble_eq_true rfl⟩)
theorem dX6_canGoBack_0 : decode cX6_canGoBack 0 = .ok (.aload_n 0, 1) := by decide +kernel
theorem dX6_canGoBack_1 : decode cX6_canGoBack 1 = .ok (.invokevirtual 101, 3) := by decide +kernel
theorem dX6_canGoBack_4 : decode cX6_canGoBack 4 = .ok (.ifCond .eq 34, 3) := by decide +kernel
theorem dX6_canGoBack_7 : decode cX6_canGoBack 7 = .ok (.aload_n 0, 1) := by decide +kernel
theorem dX6_canGoBack_8 : decode cX6_canGoBack 8 = .ok (.getfield 21, 3) := by decide +kernel
theorem dX6_canGoBack_11 : decode cX6_canGoBack 11 = .ok (.getfield 56, 3) := by decide +kernel
theorem dX6_canGoBack_14 : decode cX6_canGoBack 14 = .ok (.ifCond .ne 24, 3) := by decide +kernel
theorem dX6_canGoBack_17 : decode cX6_canGoBack 17 = .ok (.aload_n 0, 1) := by decide +kernel
theorem dX6_canGoBack_18 : decode cX6_canGoBack 18 = .ok (.iconst 0, 1) := by decide +kernel
theorem dX6_canGoBack_19 : decode cX6_canGoBack 19 = .ok (.invokevirtual 105, 3) := by decide +kernel
theorem dX6_canGoBack_22 : decode cX6_canGoBack 22 = .ok (.ifCond .eq 16, 3) := by decide +kernel
theorem dX6_canGoBack_25 : decode cX6_canGoBack 25 = .ok (.aload_n 0, 1) := by decide +kernel
theorem dX6_canGoBack_26 : decode cX6_canGoBack 26 = .ok (.bipush 64, 2) := by decide +kernel
theorem dX6_canGoBack_28 : decode cX6_canGoBack 28 = .ok (.invokevirtual 105, 3) := by decide +kernel
theorem dX6_canGoBack_31 : decode cX6_canGoBack 31 = .ok (.ifCond .eq 7, 3) := by decide +kernel
theorem dX6_canGoBack_34 : decode cX6_canGoBack 34 = .ok (.iconst 1, 1) := by decide +kernel
theorem dX6_canGoBack_35 : decode cX6_canGoBack 35 = .ok (.goto 4, 3) := by decide +kernel
theorem dX6_canGoBack_38 : decode cX6_canGoBack 38 = .ok (.iconst 0, 1) := by decide +kernel
theorem dX6_canGoBack_39 : decode cX6_canGoBack 39 = .ok (.ireturn, 1) := by decide +kernel
def f_X6_canGoBack : MX := mth 1 (sRz (eC (cAnd (cAnd (cAnd (cZ z_ne (eM (gd 6 f_X6_isRing) (aA (aN) (eLa 0)))) (cZ z_eq (eGi (eGa (eLa 0) 6 1) 2 0))) (cZ z_ne (eM (gd 6 f_X6_isOneToOne) (aI (aA (aN) (eLa 0)) (eI (0)))))) (cZ z_ne (eM (gd 6 f_X6_isOneToOne) (aI (aA (aN) (eLa 0)) (eI (64))))))))
theorem Y_X6_canGoBack : Yk yX6_canGoBack cX6_canGoBack 1 (some .boolean) 0 := ⟨w428, w2, by decide +kernel, by decide +kernel, by decide +kernel⟩
set_option maxRecDepth 20000 in
theorem k_X6_canGoBack (l : Launch) (g : GE) : MetX l g yX6_canGoBack cX6_canGoBack 1 (some .boolean) 1 ({ frames := 1, cells := 0, slots := 0, locals := 24 } : Room) f_X6_canGoBack := by
  unfold f_X6_canGoBack
  exact MetX.of (own := RX6) 100 0 rfl (by decide +kernel) (by decide) (fun p e s m args below meth c Fin ad0 hr hn => ⟨_, _, Sv_retz (Ev_if (pT := 39) (Cv_and (Cv_and (Cv_and (Cv_if_eq_n (Ev_call (Av_a (Av_nil) (Ev_aload_n dX6_canGoBack_0 rfl)) (Rn_V (ci := 6) Fx6.1 rfl Y_X6_isRing (k_X6_isRing _ _) w429 w430 w431 dX6_canGoBack_1 (Nat.le_of_ble_eq_true rfl) (Nat.le_of_ble_eq_true rfl) (Nat.le_of_ble_eq_true rfl) (Nat.ne_of_beq_eq_false rfl))) (t := 38) dX6_canGoBack_4 (by decide)) (Cv_if_ne_n (Ev_getI Fx2 (Ev_getA Fx6 (Ev_aload_n dX6_canGoBack_7 rfl) (k := 1) (by decide) w125 dX6_canGoBack_8) (k := 0) (by decide) w76 dX6_canGoBack_11) (t := 38) dX6_canGoBack_14 (by decide))) (Cv_if_eq_n (Ev_call (Av_i (Av_a (Av_nil) (Ev_aload_n dX6_canGoBack_17 rfl)) (Ev_iconst dX6_canGoBack_18 (by decide))) (Rn_V (ci := 6) Fx6.1 rfl Y_X6_isOneToOne (k_X6_isOneToOne _ _) w433 w435 wp8 dX6_canGoBack_19 (Nat.le_of_ble_eq_true rfl) (Nat.le_of_ble_eq_true rfl) (Nat.le_of_ble_eq_true rfl) (Nat.ne_of_beq_eq_false rfl))) (t := 38) dX6_canGoBack_22 (by decide))) (Cv_if_eq_n (Ev_call (Av_i (Av_a (Av_nil) (Ev_aload_n dX6_canGoBack_25 rfl)) (Ev_bipush dX6_canGoBack_26 (by decide))) (Rn_V (ci := 6) Fx6.1 rfl Y_X6_isOneToOne (k_X6_isOneToOne _ _) w433 w435 wp8 dX6_canGoBack_28 (Nat.le_of_ble_eq_true rfl) (Nat.le_of_ble_eq_true rfl) (Nat.le_of_ble_eq_true rfl) (Nat.ne_of_beq_eq_false rfl))) (t := 38) dX6_canGoBack_31 (by decide))) (Ev_iconst dX6_canGoBack_34 (by decide)) dX6_canGoBack_35 (by decide) (Ev_iconst dX6_canGoBack_38 (by decide))) hr dX6_canGoBack_39, Nat.le_of_ble_eq_true rfl, Nat.le_of_ble_eq_true rfl⟩)
theorem dX6_addParticles_0 : decode cX6_addParticles 0 = .ok (.iload_n 1, 1) := by decide +kernel
theorem dX6_addParticles_1 : decode cX6_addParticles 1 = .ok (.bipush 6, 2) := by decide +kernel
theorem dX6_addParticles_3 : decode cX6_addParticles 3 = .ok (.imul, 1) := by decide +kernel
theorem dX6_addParticles_4 : decode cX6_addParticles 4 = .ok (.iload_n 2, 1) := by decide +kernel
theorem dX6_addParticles_5 : decode cX6_addParticles 5 = .ok (.iadd, 1) := by decide +kernel
theorem dX6_addParticles_6 : decode cX6_addParticles 6 = .ok (.istore 4, 2) := by decide +kernel
theorem dX6_addParticles_8 : decode cX6_addParticles 8 = .ok (.iload_n 3, 1) := by decide +kernel
theorem dX6_addParticles_9 : decode cX6_addParticles 9 = .ok (.aload_n 0, 1) := by decide +kernel
theorem dX6_addParticles_10 : decode cX6_addParticles 10 = .ok (.getfield 12, 3) := by decide +kernel
theorem dX6_addParticles_13 : decode cX6_addParticles 13 = .ok (.iload_n 1, 1) := by decide +kernel
theorem dX6_addParticles_14 : decode cX6_addParticles 14 = .ok (.invokevirtual 111, 3) := by decide +kernel
theorem dX6_addParticles_17 : decode cX6_addParticles 17 = .ok (.iconst (-1), 1) := by decide +kernel
theorem dX6_addParticles_18 : decode cX6_addParticles 18 = .ok (.ixor, 1) := by decide +kernel
theorem dX6_addParticles_19 : decode cX6_addParticles 19 = .ok (.iand, 1) := by decide +kernel
theorem dX6_addParticles_20 : decode cX6_addParticles 20 = .ok (.aload_n 0, 1) := by decide +kernel
theorem dX6_addParticles_21 : decode cX6_addParticles 21 = .ok (.getfield 12, 3) := by decide +kernel
theorem dX6_addParticles_24 : decode cX6_addParticles 24 = .ok (.getfield 115, 3) := by decide +kernel
theorem dX6_addParticles_27 : decode cX6_addParticles 27 = .ok (.iload 4, 2) := by decide +kernel
theorem dX6_addParticles_29 : decode cX6_addParticles 29 = .ok (.iaload, 1) := by decide +kernel
theorem dX6_addParticles_30 : decode cX6_addParticles 30 = .ok (.iconst (-1), 1) := by decide +kernel
theorem dX6_addParticles_31 : decode cX6_addParticles 31 = .ok (.ixor, 1) := by decide +kernel
theorem dX6_addParticles_32 : decode cX6_addParticles 32 = .ok (.iand, 1) := by decide +kernel
theorem dX6_addParticles_33 : decode cX6_addParticles 33 = .ok (.istore 5, 2) := by decide +kernel
theorem dX6_addParticles_35 : decode cX6_addParticles 35 = .ok (.iload 5, 2) := by decide +kernel
theorem dX6_addParticles_37 : decode cX6_addParticles 37 = .ok (.invokestatic 118, 3) := by decide +kernel
theorem dX6_addParticles_40 : decode cX6_addParticles 40 = .ok (.istore 6, 2) := by decide +kernel
theorem dX6_addParticles_42 : decode cX6_addParticles 42 = .ok (.aload_n 0, 1) := by decide +kernel
theorem dX6_addParticles_43 : decode cX6_addParticles 43 = .ok (.getfield 12, 3) := by decide +kernel
theorem dX6_addParticles_46 : decode cX6_addParticles 46 = .ok (.getfield 115, 3) := by decide +kernel
theorem dX6_addParticles_49 : decode cX6_addParticles 49 = .ok (.iload 4, 2) := by decide +kernel
theorem dX6_addParticles_51 : decode cX6_addParticles 51 = .ok (.dup2, 1) := by decide +kernel
theorem dX6_addParticles_52 : decode cX6_addParticles 52 = .ok (.iaload, 1) := by decide +kernel
theorem dX6_addParticles_53 : decode cX6_addParticles 53 = .ok (.iload 5, 2) := by decide +kernel
theorem dX6_addParticles_55 : decode cX6_addParticles 55 = .ok (.ior, 1) := by decide +kernel
theorem dX6_addParticles_56 : decode cX6_addParticles 56 = .ok (.iastore, 1) := by decide +kernel
theorem dX6_addParticles_57 : decode cX6_addParticles 57 = .ok (.aload_n 0, 1) := by decide +kernel
theorem dX6_addParticles_58 : decode cX6_addParticles 58 = .ok (.getfield 35, 3) := by decide +kernel
theorem dX6_addParticles_61 : decode cX6_addParticles 61 = .ok (.getfield 123, 3) := by decide +kernel
theorem dX6_addParticles_64 : decode cX6_addParticles 64 = .ok (.iconst 0, 1) := by decide +kernel
theorem dX6_addParticles_65 : decode cX6_addParticles 65 = .ok (.dup2, 1) := by decide +kernel
theorem dX6_addParticles_66 : decode cX6_addParticles 66 = .ok (.iaload, 1) := by decide +kernel
theorem dX6_addParticles_67 : decode cX6_addParticles 67 = .ok (.iload 6, 2) := by decide +kernel
theorem dX6_addParticles_69 : decode cX6_addParticles 69 = .ok (.iadd, 1) := by decide +kernel
theorem dX6_addParticles_70 : decode cX6_addParticles 70 = .ok (.iastore, 1) := by decide +kernel
theorem dX6_addParticles_71 : decode cX6_addParticles 71 = .ok (.aload_n 0, 1) := by decide +kernel
theorem dX6_addParticles_72 : decode cX6_addParticles 72 = .ok (.getfield 35, 3) := by decide +kernel
theorem dX6_addParticles_75 : decode cX6_addParticles 75 = .ok (.iconst 0, 1) := by decide +kernel
theorem dX6_addParticles_76 : decode cX6_addParticles 76 = .ok (.iload_n 2, 1) := by decide +kernel
theorem dX6_addParticles_77 : decode cX6_addParticles 77 = .ok (.iload 6, 2) := by decide +kernel
theorem dX6_addParticles_79 : decode cX6_addParticles 79 = .ok (.invokevirtual 124, 3) := by decide +kernel
theorem dX6_addParticles_82 : decode cX6_addParticles 82 = .ok (.iload 6, 2) := by decide +kernel
theorem dX6_addParticles_84 : decode cX6_addParticles 84 = .ok (.ireturn, 1) := by decide +kernel
def f_X6_addParticles : MX := mth 7 (sQ (sTi 4 (eOp o_iadd (eOp o_imul (eLi 1) (eI (6))) (eLi 2))) (sQ (sTi 5 (eOp o_iand (eOp o_iand (eLi 3) (eOp o_ixor (eM (gd 1 f_X1_solidColumns) (aI (aA (aN) (eGa (eLa 0) 6 0)) (eLi 1))) (eI (-1)))) (eOp o_ixor (eAi 0 (eGa (eGa (eLa 0) 6 0) 1 3) (eLi 4)) (eI (-1))))) (sQ (sTi 6 (eM (f_J6_bitCount_0f7a4) (aI (aN) (eLi 5)))) (sQ (sAo (eGa (eGa (eLa 0) 6 0) 1 3) (eLi 4) o_ior (eLi 5)) (sQ (sAo (eGa (eGa (eLa 0) 6 3) 0 0) (eI (0)) o_iadd (eLi 6)) (sQ (sM (gd 0 f_X0_credit) (aI (aI (aI (aA (aN) (eGa (eLa 0) 6 3)) (eI (0))) (eLi 2)) (eLi 6))) (sR (eLi 6))))))))
theorem Y_X6_addParticles : Yk yX6_addParticles cX6_addParticles 7 (some .int) 3 := ⟨w706, w2, by decide +kernel, by decide +kernel, by decide +kernel⟩
set_option maxRecDepth 20000 in
theorem k_X6_addParticles (l : Launch) (g : GE) : MetX l g yX6_addParticles cX6_addParticles 7 (some .int) 4 ({ frames := 1, cells := 0, slots := 0, locals := 23 } : Room) f_X6_addParticles := by
  unfold f_X6_addParticles
  exact MetX.of (own := RX6) 100 0 rfl (by decide +kernel) (by decide) (fun p e s m args below meth c Fin ad0 hr hn => ⟨_, _, Sv_seq (Sv_istore (Ev_iadd (Ev_imul (Ev_iload_n dX6_addParticles_0 rfl) (Ev_bipush dX6_addParticles_1 (by decide)) dX6_addParticles_3) (Ev_iload_n dX6_addParticles_4 rfl) dX6_addParticles_5) dX6_addParticles_6 (Nat.le_of_ble_eq_true rfl) (Nat.ne_of_beq_eq_false rfl)) (Sv_seq (Sv_istore (Ev_iand (Ev_iand (Ev_iload_n dX6_addParticles_8 rfl) (Ev_ixor (Ev_call (Av_i (Av_a (Av_nil) (Ev_getA Fx6 (Ev_aload_n dX6_addParticles_9 rfl) (k := 0) (by decide) w122 dX6_addParticles_10)) (Ev_iload_n dX6_addParticles_13 rfl)) (Rn_V (ci := 1) Fx1.1 rfl Y_X1_solidColumns (k_X1_solidColumns _ _) w707 w618 w619 dX6_addParticles_14 (Nat.le_of_ble_eq_true rfl) (Nat.le_of_ble_eq_true rfl) (Nat.le_of_ble_eq_true rfl) (Nat.ne_of_beq_eq_false rfl))) (Ev_iconst dX6_addParticles_17 (by decide)) dX6_addParticles_18) dX6_addParticles_19) (Ev_ixor (Ev_iaload (Ev_getA Fx1 (Ev_getA Fx6 (Ev_aload_n dX6_addParticles_20 rfl) (k := 0) (by decide) w122 dX6_addParticles_21) (k := 3) (by decide) w53 dX6_addParticles_24) (Ev_iload dX6_addParticles_27) dX6_addParticles_29) (Ev_iconst dX6_addParticles_30 (by decide)) dX6_addParticles_31) dX6_addParticles_32) dX6_addParticles_33 (Nat.le_of_ble_eq_true rfl) (Nat.ne_of_beq_eq_false rfl)) (Sv_seq (Sv_istore (Ev_call (Av_i (Av_nil) (Ev_iload dX6_addParticles_35)) (Rn_S Y_J6_bitCount_0f7a4 (k_J6_bitCount_0f7a4 _ _) w708 w361 dX6_addParticles_37 (Nat.le_of_ble_eq_true rfl) (Nat.le_of_ble_eq_true rfl) (Nat.le_of_ble_eq_true rfl) (Nat.ne_of_beq_eq_false rfl))) dX6_addParticles_40 (Nat.le_of_ble_eq_true rfl) (Nat.ne_of_beq_eq_false rfl)) (Sv_seq (Sv_aop_ior (Ev_getA Fx1 (Ev_getA Fx6 (Ev_aload_n dX6_addParticles_42 rfl) (k := 0) (by decide) w122 dX6_addParticles_43) (k := 3) (by decide) w53 dX6_addParticles_46) (Ev_iload dX6_addParticles_49) dX6_addParticles_51 dX6_addParticles_52 (Ev_iload dX6_addParticles_53) dX6_addParticles_55 dX6_addParticles_56) (Sv_seq (Sv_aop_iadd (Ev_getA Fx0 (Ev_getA Fx6 (Ev_aload_n dX6_addParticles_57 rfl) (k := 3) (by decide) w131 dX6_addParticles_58) (k := 0) (by decide) w112 dX6_addParticles_61) (Ev_iconst dX6_addParticles_64 (by decide)) dX6_addParticles_65 dX6_addParticles_66 (Ev_iload dX6_addParticles_67) dX6_addParticles_69 dX6_addParticles_70) (Sv_seq (Sv_call (Av_i (Av_i (Av_i (Av_a (Av_nil) (Ev_getA Fx6 (Ev_aload_n dX6_addParticles_71 rfl) (k := 3) (by decide) w131 dX6_addParticles_72)) (Ev_iconst dX6_addParticles_75 (by decide))) (Ev_iload_n dX6_addParticles_76 rfl)) (Ev_iload dX6_addParticles_77)) (Rn_V (ci := 0) Fx0.1 rfl Y_X0_credit (k_X0_credit _ _) w709 w710 w711 dX6_addParticles_79 (Nat.le_of_ble_eq_true rfl) (Nat.le_of_ble_eq_true rfl) (Nat.le_of_ble_eq_true rfl) (Nat.ne_of_beq_eq_false rfl))) (Sv_ret (Ev_iload dX6_addParticles_82) hr dX6_addParticles_84)))))), Nat.le_of_ble_eq_true rfl, Nat.le_of_ble_eq_true rfl⟩)
theorem dX6_removeParticles_0 : decode cX6_removeParticles 0 = .ok (.iconst 0, 1) := by decide +kernel
theorem dX6_removeParticles_1 : decode cX6_removeParticles 1 = .ok (.istore 4, 2) := by decide +kernel
theorem dX6_removeParticles_3 : decode cX6_removeParticles 3 = .ok (.iconst 0, 1) := by decide +kernel
theorem dX6_removeParticles_4 : decode cX6_removeParticles 4 = .ok (.istore 5, 2) := by decide +kernel
theorem dX6_removeParticles_6 : decode cX6_removeParticles 6 = .ok (.iload 5, 2) := by decide +kernel
theorem dX6_removeParticles_8 : decode cX6_removeParticles 8 = .ok (.bipush 6, 2) := by decide +kernel
theorem dX6_removeParticles_10 : decode cX6_removeParticles 10 = .ok (.if_icmp .ge 72, 3) := by decide +kernel
theorem dX6_removeParticles_13 : decode cX6_removeParticles 13 = .ok (.aload_n 0, 1) := by decide +kernel
theorem dX6_removeParticles_14 : decode cX6_removeParticles 14 = .ok (.getfield 12, 3) := by decide +kernel
theorem dX6_removeParticles_17 : decode cX6_removeParticles 17 = .ok (.getfield 115, 3) := by decide +kernel
theorem dX6_removeParticles_20 : decode cX6_removeParticles 20 = .ok (.iload_n 1, 1) := by decide +kernel
theorem dX6_removeParticles_21 : decode cX6_removeParticles 21 = .ok (.bipush 6, 2) := by decide +kernel
theorem dX6_removeParticles_23 : decode cX6_removeParticles 23 = .ok (.imul, 1) := by decide +kernel
theorem dX6_removeParticles_24 : decode cX6_removeParticles 24 = .ok (.iload 5, 2) := by decide +kernel
theorem dX6_removeParticles_26 : decode cX6_removeParticles 26 = .ok (.iadd, 1) := by decide +kernel
theorem dX6_removeParticles_27 : decode cX6_removeParticles 27 = .ok (.iaload, 1) := by decide +kernel
theorem dX6_removeParticles_28 : decode cX6_removeParticles 28 = .ok (.iload_n 2, 1) := by decide +kernel
theorem dX6_removeParticles_29 : decode cX6_removeParticles 29 = .ok (.iand, 1) := by decide +kernel
theorem dX6_removeParticles_30 : decode cX6_removeParticles 30 = .ok (.invokestatic 118, 3) := by decide +kernel
theorem dX6_removeParticles_33 : decode cX6_removeParticles 33 = .ok (.istore 6, 2) := by decide +kernel
theorem dX6_removeParticles_35 : decode cX6_removeParticles 35 = .ok (.aload_n 0, 1) := by decide +kernel
theorem dX6_removeParticles_36 : decode cX6_removeParticles 36 = .ok (.getfield 12, 3) := by decide +kernel
theorem dX6_removeParticles_39 : decode cX6_removeParticles 39 = .ok (.getfield 115, 3) := by decide +kernel
theorem dX6_removeParticles_42 : decode cX6_removeParticles 42 = .ok (.iload_n 1, 1) := by decide +kernel
theorem dX6_removeParticles_43 : decode cX6_removeParticles 43 = .ok (.bipush 6, 2) := by decide +kernel
theorem dX6_removeParticles_45 : decode cX6_removeParticles 45 = .ok (.imul, 1) := by decide +kernel
theorem dX6_removeParticles_46 : decode cX6_removeParticles 46 = .ok (.iload 5, 2) := by decide +kernel
theorem dX6_removeParticles_48 : decode cX6_removeParticles 48 = .ok (.iadd, 1) := by decide +kernel
theorem dX6_removeParticles_49 : decode cX6_removeParticles 49 = .ok (.dup2, 1) := by decide +kernel
theorem dX6_removeParticles_50 : decode cX6_removeParticles 50 = .ok (.iaload, 1) := by decide +kernel
theorem dX6_removeParticles_51 : decode cX6_removeParticles 51 = .ok (.iload_n 2, 1) := by decide +kernel
theorem dX6_removeParticles_52 : decode cX6_removeParticles 52 = .ok (.iconst (-1), 1) := by decide +kernel
theorem dX6_removeParticles_53 : decode cX6_removeParticles 53 = .ok (.ixor, 1) := by decide +kernel
theorem dX6_removeParticles_54 : decode cX6_removeParticles 54 = .ok (.iand, 1) := by decide +kernel
theorem dX6_removeParticles_55 : decode cX6_removeParticles 55 = .ok (.iastore, 1) := by decide +kernel
theorem dX6_removeParticles_56 : decode cX6_removeParticles 56 = .ok (.aload_n 0, 1) := by decide +kernel
theorem dX6_removeParticles_57 : decode cX6_removeParticles 57 = .ok (.getfield 35, 3) := by decide +kernel
theorem dX6_removeParticles_60 : decode cX6_removeParticles 60 = .ok (.iload_n 3, 1) := by decide +kernel
theorem dX6_removeParticles_61 : decode cX6_removeParticles 61 = .ok (.iload 5, 2) := by decide +kernel
theorem dX6_removeParticles_63 : decode cX6_removeParticles 63 = .ok (.iload 6, 2) := by decide +kernel
theorem dX6_removeParticles_65 : decode cX6_removeParticles 65 = .ok (.ineg, 1) := by decide +kernel
theorem dX6_removeParticles_66 : decode cX6_removeParticles 66 = .ok (.invokevirtual 124, 3) := by decide +kernel
theorem dX6_removeParticles_69 : decode cX6_removeParticles 69 = .ok (.iload 4, 2) := by decide +kernel
theorem dX6_removeParticles_71 : decode cX6_removeParticles 71 = .ok (.iload 6, 2) := by decide +kernel
theorem dX6_removeParticles_73 : decode cX6_removeParticles 73 = .ok (.iadd, 1) := by decide +kernel
theorem dX6_removeParticles_74 : decode cX6_removeParticles 74 = .ok (.istore 4, 2) := by decide +kernel
theorem dX6_removeParticles_76 : decode cX6_removeParticles 76 = .ok (.iinc 5 1, 3) := by decide +kernel
theorem dX6_removeParticles_79 : decode cX6_removeParticles 79 = .ok (.goto (-73), 3) := by decide +kernel
theorem dX6_removeParticles_82 : decode cX6_removeParticles 82 = .ok (.aload_n 0, 1) := by decide +kernel
theorem dX6_removeParticles_83 : decode cX6_removeParticles 83 = .ok (.getfield 35, 3) := by decide +kernel
theorem dX6_removeParticles_86 : decode cX6_removeParticles 86 = .ok (.getfield 123, 3) := by decide +kernel
theorem dX6_removeParticles_89 : decode cX6_removeParticles 89 = .ok (.iconst 2, 1) := by decide +kernel
theorem dX6_removeParticles_90 : decode cX6_removeParticles 90 = .ok (.dup2, 1) := by decide +kernel
theorem dX6_removeParticles_91 : decode cX6_removeParticles 91 = .ok (.iaload, 1) := by decide +kernel
theorem dX6_removeParticles_92 : decode cX6_removeParticles 92 = .ok (.iload 4, 2) := by decide +kernel
theorem dX6_removeParticles_94 : decode cX6_removeParticles 94 = .ok (.iadd, 1) := by decide +kernel
theorem dX6_removeParticles_95 : decode cX6_removeParticles 95 = .ok (.iastore, 1) := by decide +kernel
theorem dX6_removeParticles_96 : decode cX6_removeParticles 96 = .ok (.iload 4, 2) := by decide +kernel
theorem dX6_removeParticles_98 : decode cX6_removeParticles 98 = .ok (.ireturn, 1) := by decide +kernel
def f_X6_removeParticles : MX := mth 7 (sQ (sTi 4 (eI (0))) (sQ (sQ (sTi 5 (eI (0))) (sLp (cB c_lt (eLi 5) (eI (6))) (sQ (sQ (sTi 6 (eM (f_J6_bitCount_0f7a4) (aI (aN) (eOp o_iand (eAi 0 (eGa (eGa (eLa 0) 6 0) 1 3) (eOp o_iadd (eOp o_imul (eLi 1) (eI (6))) (eLi 5))) (eLi 2))))) (sQ (sAo (eGa (eGa (eLa 0) 6 0) 1 3) (eOp o_iadd (eOp o_imul (eLi 1) (eI (6))) (eLi 5)) o_iand (eOp o_ixor (eLi 2) (eI (-1)))) (sQ (sM (gd 0 f_X0_credit) (aI (aI (aI (aA (aN) (eGa (eLa 0) 6 3)) (eLi 3)) (eLi 5)) (eU o_ineg (eLi 6)))) (sTi 4 (eOp o_iadd (eLi 4) (eLi 6)))))) (sInc 5 (1))) NF)) (sQ (sAo (eGa (eGa (eLa 0) 6 3) 0 0) (eI (2)) o_iadd (eLi 4)) (sR (eLi 4)))))
theorem Y_X6_removeParticles : Yk yX6_removeParticles cX6_removeParticles 7 (some .int) 3 := ⟨w732, w2, by decide +kernel, by decide +kernel, by decide +kernel⟩
set_option maxRecDepth 20000 in
theorem k_X6_removeParticles (l : Launch) (g : GE) : MetX l g yX6_removeParticles cX6_removeParticles 7 (some .int) 4 ({ frames := 1, cells := 0, slots := 0, locals := 23 } : Room) f_X6_removeParticles := by
  unfold f_X6_removeParticles
  exact MetX.of (own := RX6) 100 0 rfl (by decide +kernel) (by decide) (fun p e s m args below meth c Fin ad0 hr hn => ⟨_, _, Sv_seq (Sv_istore (Ev_iconst dX6_removeParticles_0 (by decide)) dX6_removeParticles_1 (Nat.le_of_ble_eq_true rfl) (Nat.ne_of_beq_eq_false rfl)) (Sv_seq (Sv_seq (Sv_istore (Ev_iconst dX6_removeParticles_3 (by decide)) dX6_removeParticles_4 (Nat.le_of_ble_eq_true rfl) (Nat.ne_of_beq_eq_false rfl)) (Sv_loop0 NF (Cv_icmp_ge_n (Ev_iload dX6_removeParticles_6) (Ev_bipush dX6_removeParticles_8 (by decide)) (t := 82) dX6_removeParticles_10 (by decide)) (Sv_goto (pE := 6) (Sv_seq (Sv_seq (Sv_istore (Ev_call (Av_i (Av_nil) (Ev_iand (Ev_iaload (Ev_getA Fx1 (Ev_getA Fx6 (Ev_aload_n dX6_removeParticles_13 rfl) (k := 0) (by decide) w122 dX6_removeParticles_14) (k := 3) (by decide) w53 dX6_removeParticles_17) (Ev_iadd (Ev_imul (Ev_iload_n dX6_removeParticles_20 rfl) (Ev_bipush dX6_removeParticles_21 (by decide)) dX6_removeParticles_23) (Ev_iload dX6_removeParticles_24) dX6_removeParticles_26) dX6_removeParticles_27) (Ev_iload_n dX6_removeParticles_28 rfl) dX6_removeParticles_29)) (Rn_S Y_J6_bitCount_0f7a4 (k_J6_bitCount_0f7a4 _ _) w708 w361 dX6_removeParticles_30 (Nat.le_of_ble_eq_true rfl) (Nat.le_of_ble_eq_true rfl) (Nat.le_of_ble_eq_true rfl) (Nat.ne_of_beq_eq_false rfl))) dX6_removeParticles_33 (Nat.le_of_ble_eq_true rfl) (Nat.ne_of_beq_eq_false rfl)) (Sv_seq (Sv_aop_iand (Ev_getA Fx1 (Ev_getA Fx6 (Ev_aload_n dX6_removeParticles_35 rfl) (k := 0) (by decide) w122 dX6_removeParticles_36) (k := 3) (by decide) w53 dX6_removeParticles_39) (Ev_iadd (Ev_imul (Ev_iload_n dX6_removeParticles_42 rfl) (Ev_bipush dX6_removeParticles_43 (by decide)) dX6_removeParticles_45) (Ev_iload dX6_removeParticles_46) dX6_removeParticles_48) dX6_removeParticles_49 dX6_removeParticles_50 (Ev_ixor (Ev_iload_n dX6_removeParticles_51 rfl) (Ev_iconst dX6_removeParticles_52 (by decide)) dX6_removeParticles_53) dX6_removeParticles_54 dX6_removeParticles_55) (Sv_seq (Sv_call (Av_i (Av_i (Av_i (Av_a (Av_nil) (Ev_getA Fx6 (Ev_aload_n dX6_removeParticles_56 rfl) (k := 3) (by decide) w131 dX6_removeParticles_57)) (Ev_iload_n dX6_removeParticles_60 rfl)) (Ev_iload dX6_removeParticles_61)) (Ev_ineg (Ev_iload dX6_removeParticles_63) dX6_removeParticles_65)) (Rn_V (ci := 0) Fx0.1 rfl Y_X0_credit (k_X0_credit _ _) w709 w710 w711 dX6_removeParticles_66 (Nat.le_of_ble_eq_true rfl) (Nat.le_of_ble_eq_true rfl) (Nat.le_of_ble_eq_true rfl) (Nat.ne_of_beq_eq_false rfl))) (Sv_istore (Ev_iadd (Ev_iload dX6_removeParticles_69) (Ev_iload dX6_removeParticles_71) dX6_removeParticles_73) dX6_removeParticles_74 (Nat.le_of_ble_eq_true rfl) (Nat.ne_of_beq_eq_false rfl))))) (Sv_iinc dX6_removeParticles_76 (by decide) (Nat.le_of_ble_eq_true rfl) (Nat.ne_of_beq_eq_false rfl))) dX6_removeParticles_79 (by decide)))) (Sv_seq (Sv_aop_iadd (Ev_getA Fx0 (Ev_getA Fx6 (Ev_aload_n dX6_removeParticles_82 rfl) (k := 3) (by decide) w131 dX6_removeParticles_83) (k := 0) (by decide) w112 dX6_removeParticles_86) (Ev_iconst dX6_removeParticles_89 (by decide)) dX6_removeParticles_90 dX6_removeParticles_91 (Ev_iload dX6_removeParticles_92) dX6_removeParticles_94 dX6_removeParticles_95) (Sv_ret (Ev_iload dX6_removeParticles_96) hr dX6_removeParticles_98))), Nat.le_of_ble_eq_true rfl, Nat.le_of_ble_eq_true rfl⟩)
theorem dX6_crossingsOf_0 : decode cX6_crossingsOf 0 = .ok (.iconst 0, 1) := by decide +kernel
theorem dX6_crossingsOf_1 : decode cX6_crossingsOf 1 = .ok (.istore_n 2, 1) := by decide +kernel
theorem dX6_crossingsOf_2 : decode cX6_crossingsOf 2 = .ok (.iconst 0, 1) := by decide +kernel
theorem dX6_crossingsOf_3 : decode cX6_crossingsOf 3 = .ok (.istore_n 3, 1) := by decide +kernel
theorem dX6_crossingsOf_4 : decode cX6_crossingsOf 4 = .ok (.iload_n 3, 1) := by decide +kernel
theorem dX6_crossingsOf_5 : decode cX6_crossingsOf 5 = .ok (.aload_n 0, 1) := by decide +kernel
theorem dX6_crossingsOf_6 : decode cX6_crossingsOf 6 = .ok (.getfield 12, 3) := by decide +kernel
theorem dX6_crossingsOf_9 : decode cX6_crossingsOf 9 = .ok (.getfield 128, 3) := by decide +kernel
theorem dX6_crossingsOf_12 : decode cX6_crossingsOf 12 = .ok (.if_icmp .ge 63, 3) := by decide +kernel
theorem dX6_crossingsOf_15 : decode cX6_crossingsOf 15 = .ok (.iconst 0, 1) := by decide +kernel
theorem dX6_crossingsOf_16 : decode cX6_crossingsOf 16 = .ok (.istore 4, 2) := by decide +kernel
theorem dX6_crossingsOf_18 : decode cX6_crossingsOf 18 = .ok (.iload 4, 2) := by decide +kernel
theorem dX6_crossingsOf_20 : decode cX6_crossingsOf 20 = .ok (.bipush 6, 2) := by decide +kernel
theorem dX6_crossingsOf_22 : decode cX6_crossingsOf 22 = .ok (.if_icmp .ge 47, 3) := by decide +kernel
theorem dX6_crossingsOf_25 : decode cX6_crossingsOf 25 = .ok (.aload_n 0, 1) := by decide +kernel
theorem dX6_crossingsOf_26 : decode cX6_crossingsOf 26 = .ok (.getfield 49, 3) := by decide +kernel
theorem dX6_crossingsOf_29 : decode cX6_crossingsOf 29 = .ok (.iload_n 3, 1) := by decide +kernel
theorem dX6_crossingsOf_30 : decode cX6_crossingsOf 30 = .ok (.bipush 6, 2) := by decide +kernel
theorem dX6_crossingsOf_32 : decode cX6_crossingsOf 32 = .ok (.imul, 1) := by decide +kernel
theorem dX6_crossingsOf_33 : decode cX6_crossingsOf 33 = .ok (.iload 4, 2) := by decide +kernel
theorem dX6_crossingsOf_35 : decode cX6_crossingsOf 35 = .ok (.iadd, 1) := by decide +kernel
theorem dX6_crossingsOf_36 : decode cX6_crossingsOf 36 = .ok (.iaload, 1) := by decide +kernel
theorem dX6_crossingsOf_37 : decode cX6_crossingsOf 37 = .ok (.iload_n 1, 1) := by decide +kernel
theorem dX6_crossingsOf_38 : decode cX6_crossingsOf 38 = .ok (.iushr, 1) := by decide +kernel
theorem dX6_crossingsOf_39 : decode cX6_crossingsOf 39 = .ok (.iconst 1, 1) := by decide +kernel
theorem dX6_crossingsOf_40 : decode cX6_crossingsOf 40 = .ok (.iand, 1) := by decide +kernel
theorem dX6_crossingsOf_41 : decode cX6_crossingsOf 41 = .ok (.istore 5, 2) := by decide +kernel
theorem dX6_crossingsOf_43 : decode cX6_crossingsOf 43 = .ok (.iload_n 2, 1) := by decide +kernel
theorem dX6_crossingsOf_44 : decode cX6_crossingsOf 44 = .ok (.getstatic 131, 3) := by decide +kernel
theorem dX6_crossingsOf_47 : decode cX6_crossingsOf 47 = .ok (.iload 4, 2) := by decide +kernel
theorem dX6_crossingsOf_49 : decode cX6_crossingsOf 49 = .ok (.iaload, 1) := by decide +kernel
theorem dX6_crossingsOf_50 : decode cX6_crossingsOf 50 = .ok (.ifCond .le 8, 3) := by decide +kernel
theorem dX6_crossingsOf_53 : decode cX6_crossingsOf 53 = .ok (.iload 5, 2) := by decide +kernel
theorem dX6_crossingsOf_55 : decode cX6_crossingsOf 55 = .ok (.goto 6, 3) := by decide +kernel
theorem dX6_crossingsOf_58 : decode cX6_crossingsOf 58 = .ok (.iload 5, 2) := by decide +kernel
theorem dX6_crossingsOf_60 : decode cX6_crossingsOf 60 = .ok (.ineg, 1) := by decide +kernel
theorem dX6_crossingsOf_61 : decode cX6_crossingsOf 61 = .ok (.iadd, 1) := by decide +kernel
theorem dX6_crossingsOf_62 : decode cX6_crossingsOf 62 = .ok (.istore_n 2, 1) := by decide +kernel
theorem dX6_crossingsOf_63 : decode cX6_crossingsOf 63 = .ok (.iinc 4 1, 3) := by decide +kernel
theorem dX6_crossingsOf_66 : decode cX6_crossingsOf 66 = .ok (.goto (-48), 3) := by decide +kernel
theorem dX6_crossingsOf_69 : decode cX6_crossingsOf 69 = .ok (.iinc 3 1, 3) := by decide +kernel
theorem dX6_crossingsOf_72 : decode cX6_crossingsOf 72 = .ok (.goto (-68), 3) := by decide +kernel
theorem dX6_crossingsOf_75 : decode cX6_crossingsOf 75 = .ok (.iload_n 2, 1) := by decide +kernel
theorem dX6_crossingsOf_76 : decode cX6_crossingsOf 76 = .ok (.ireturn, 1) := by decide +kernel
def f_X6_crossingsOf : MX := mth 6 (sQ (sTi 2 (eI (0))) (sQ (sQ (sTi 3 (eI (0))) (sLp (cB c_lt (eLi 3) (eGi (eGa (eLa 0) 6 0) 1 1)) (sQ (sQ (sTi 4 (eI (0))) (sLp (cB c_lt (eLi 4) (eI (6))) (sQ (sQ (sTi 5 (eOp o_iand (eOp o_iushr (eAi 0 (eGa (eLa 0) 6 9) (eOp o_iadd (eOp o_imul (eLi 3) (eI (6))) (eLi 4))) (eLi 1)) (eI (1)))) (sTi 2 (eOp o_iadd (eLi 2) (eIf (cZ z_gt (eAi 0 (eZ 0) (eLi 4))) (eLi 5) (eU o_ineg (eLi 5)))))) (sInc 4 (1))) NF)) (sInc 3 (1))) NF)) (sR (eLi 2))))
theorem Y_X6_crossingsOf : Yk yX6_crossingsOf cX6_crossingsOf 6 (some .int) 1 := ⟨w963, w2, by decide +kernel, by decide +kernel, by decide +kernel⟩
set_option maxRecDepth 20000 in
theorem k_X6_crossingsOf (l : Launch) (g : GE) : MetX l g yX6_crossingsOf cX6_crossingsOf 6 (some .int) 2 ({ frames := 0, cells := 0, slots := 0, locals := 0 } : Room) f_X6_crossingsOf := by
  unfold f_X6_crossingsOf
  exact MetX.of (own := RX6) 100 0 rfl (by decide +kernel) (by decide) (fun p e s m args below meth c Fin ad0 hr hn => ⟨_, _, Sv_seq (Sv_istore_n (Ev_iconst dX6_crossingsOf_0 (by decide)) dX6_crossingsOf_1 rfl (Nat.le_of_ble_eq_true rfl) (Nat.ne_of_beq_eq_false rfl)) (Sv_seq (Sv_seq (Sv_istore_n (Ev_iconst dX6_crossingsOf_2 (by decide)) dX6_crossingsOf_3 rfl (Nat.le_of_ble_eq_true rfl) (Nat.ne_of_beq_eq_false rfl)) (Sv_loop0 NF (Cv_icmp_ge_n (Ev_iload_n dX6_crossingsOf_4 rfl) (Ev_getI Fx1 (Ev_getA Fx6 (Ev_aload_n dX6_crossingsOf_5 rfl) (k := 0) (by decide) w122 dX6_crossingsOf_6) (k := 1) (by decide) w47 dX6_crossingsOf_9) (t := 75) dX6_crossingsOf_12 (by decide)) (Sv_goto (pE := 4) (Sv_seq (Sv_seq (Sv_istore (Ev_iconst dX6_crossingsOf_15 (by decide)) dX6_crossingsOf_16 (Nat.le_of_ble_eq_true rfl) (Nat.ne_of_beq_eq_false rfl)) (Sv_loop0 NF (Cv_icmp_ge_n (Ev_iload dX6_crossingsOf_18) (Ev_bipush dX6_crossingsOf_20 (by decide)) (t := 69) dX6_crossingsOf_22 (by decide)) (Sv_goto (pE := 18) (Sv_seq (Sv_seq (Sv_istore (Ev_iand (Ev_iushr (Ev_iaload (Ev_getA Fx6 (Ev_aload_n dX6_crossingsOf_25 rfl) (k := 9) (by decide) w148 dX6_crossingsOf_26) (Ev_iadd (Ev_imul (Ev_iload_n dX6_crossingsOf_29 rfl) (Ev_bipush dX6_crossingsOf_30 (by decide)) dX6_crossingsOf_32) (Ev_iload dX6_crossingsOf_33) dX6_crossingsOf_35) dX6_crossingsOf_36) (Ev_iload_n dX6_crossingsOf_37 rfl) dX6_crossingsOf_38) (Ev_iconst dX6_crossingsOf_39 (by decide)) dX6_crossingsOf_40) dX6_crossingsOf_41 (Nat.le_of_ble_eq_true rfl) (Nat.ne_of_beq_eq_false rfl)) (Sv_istore_n (Ev_iadd (Ev_iload_n dX6_crossingsOf_43 rfl) (Ev_if (pT := 61) (Cv_if_le_n (Ev_iaload (Ev_getsN (q := ("ALONG", 0)) (by decide) w964 dX6_crossingsOf_44) (Ev_iload dX6_crossingsOf_47) dX6_crossingsOf_49) (t := 58) dX6_crossingsOf_50 (by decide)) (Ev_iload dX6_crossingsOf_53) dX6_crossingsOf_55 (by decide) (Ev_ineg (Ev_iload dX6_crossingsOf_58) dX6_crossingsOf_60)) dX6_crossingsOf_61) dX6_crossingsOf_62 rfl (Nat.le_of_ble_eq_true rfl) (Nat.ne_of_beq_eq_false rfl))) (Sv_iinc dX6_crossingsOf_63 (by decide) (Nat.le_of_ble_eq_true rfl) (Nat.ne_of_beq_eq_false rfl))) dX6_crossingsOf_66 (by decide)))) (Sv_iinc dX6_crossingsOf_69 (by decide) (Nat.le_of_ble_eq_true rfl) (Nat.ne_of_beq_eq_false rfl))) dX6_crossingsOf_72 (by decide)))) (Sv_ret (Ev_iload_n dX6_crossingsOf_75 rfl) hr dX6_crossingsOf_76)), Nat.le_of_ble_eq_true rfl, Nat.le_of_ble_eq_true rfl⟩)
