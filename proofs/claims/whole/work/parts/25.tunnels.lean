theorem dX7_init_0 : decode cX7_init 0 = .ok (.aload_n 0, 1) := by decide +kernel
theorem dX7_init_1 : decode cX7_init 1 = .ok (.invokespecial 3, 3) := by decide +kernel
theorem dX7_init_4 : decode cX7_init 4 = .ok (.aload_n 0, 1) := by decide +kernel
theorem dX7_init_5 : decode cX7_init 5 = .ok (.new 9, 3) := by decide +kernel
theorem dX7_init_8 : decode cX7_init 8 = .ok (.dup, 1) := by decide +kernel
theorem dX7_init_9 : decode cX7_init 9 = .ok (.invokespecial 11, 3) := by decide +kernel
theorem dX7_init_12 : decode cX7_init 12 = .ok (.putfield 12, 3) := by decide +kernel
theorem dX7_init_15 : decode cX7_init 15 = .ok (.aload_n 0, 1) := by decide +kernel
theorem dX7_init_16 : decode cX7_init 16 = .ok (.new 9, 3) := by decide +kernel
theorem dX7_init_19 : decode cX7_init 19 = .ok (.dup, 1) := by decide +kernel
theorem dX7_init_20 : decode cX7_init 20 = .ok (.invokespecial 11, 3) := by decide +kernel
theorem dX7_init_23 : decode cX7_init 23 = .ok (.putfield 16, 3) := by decide +kernel
theorem dX7_init_26 : decode cX7_init 26 = .ok (.aload_n 0, 1) := by decide +kernel
theorem dX7_init_27 : decode cX7_init 27 = .ok (.new 19, 3) := by decide +kernel
theorem dX7_init_30 : decode cX7_init 30 = .ok (.dup, 1) := by decide +kernel
theorem dX7_init_31 : decode cX7_init 31 = .ok (.invokespecial 21, 3) := by decide +kernel
theorem dX7_init_34 : decode cX7_init 34 = .ok (.putfield 22, 3) := by decide +kernel
theorem dX7_init_37 : decode cX7_init 37 = .ok (.aload_n 0, 1) := by decide +kernel
theorem dX7_init_38 : decode cX7_init 38 = .ok (.new 26, 3) := by decide +kernel
theorem dX7_init_41 : decode cX7_init 41 = .ok (.dup, 1) := by decide +kernel
theorem dX7_init_42 : decode cX7_init 42 = .ok (.invokespecial 28, 3) := by decide +kernel
theorem dX7_init_45 : decode cX7_init 45 = .ok (.putfield 29, 3) := by decide +kernel
theorem dX7_init_48 : decode cX7_init 48 = .ok (.aload_n 0, 1) := by decide +kernel
theorem dX7_init_49 : decode cX7_init 49 = .ok (.iconst 4, 1) := by decide +kernel
theorem dX7_init_50 : decode cX7_init 50 = .ok (.anewarray 9, 3) := by decide +kernel
theorem dX7_init_53 : decode cX7_init 53 = .ok (.putfield 33, 3) := by decide +kernel
theorem dX7_init_56 : decode cX7_init 56 = .ok (.aload_n 0, 1) := by decide +kernel
theorem dX7_init_57 : decode cX7_init 57 = .ok (.iconst 2, 1) := by decide +kernel
theorem dX7_init_58 : decode cX7_init 58 = .ok (.anewarray 9, 3) := by decide +kernel
theorem dX7_init_61 : decode cX7_init 61 = .ok (.putfield 37, 3) := by decide +kernel
theorem dX7_init_64 : decode cX7_init 64 = .ok (.aload_n 0, 1) := by decide +kernel
theorem dX7_init_65 : decode cX7_init 65 = .ok (.iconst 2, 1) := by decide +kernel
theorem dX7_init_66 : decode cX7_init 66 = .ok (.newarray .boolean, 2) := by decide +kernel
theorem dX7_init_68 : decode cX7_init 68 = .ok (.putfield 40, 3) := by decide +kernel
theorem dX7_init_71 : decode cX7_init 71 = .ok (.aload_n 0, 1) := by decide +kernel
theorem dX7_init_72 : decode cX7_init 72 = .ok (.sipush 2928, 3) := by decide +kernel
theorem dX7_init_75 : decode cX7_init 75 = .ok (.newarray .long, 2) := by decide +kernel
theorem dX7_init_77 : decode cX7_init 77 = .ok (.putfield 44, 3) := by decide +kernel
theorem dX7_init_80 : decode cX7_init 80 = .ok (.iconst 0, 1) := by decide +kernel
theorem dX7_init_81 : decode cX7_init 81 = .ok (.istore_n 1, 1) := by decide +kernel
theorem dX7_init_82 : decode cX7_init 82 = .ok (.iload_n 1, 1) := by decide +kernel
theorem dX7_init_83 : decode cX7_init 83 = .ok (.iconst 4, 1) := by decide +kernel
theorem dX7_init_84 : decode cX7_init 84 = .ok (.if_icmp .ge 22, 3) := by decide +kernel
theorem dX7_init_87 : decode cX7_init 87 = .ok (.aload_n 0, 1) := by decide +kernel
theorem dX7_init_88 : decode cX7_init 88 = .ok (.getfield 33, 3) := by decide +kernel
theorem dX7_init_91 : decode cX7_init 91 = .ok (.iload_n 1, 1) := by decide +kernel
theorem dX7_init_92 : decode cX7_init 92 = .ok (.new 9, 3) := by decide +kernel
theorem dX7_init_95 : decode cX7_init 95 = .ok (.dup, 1) := by decide +kernel
theorem dX7_init_96 : decode cX7_init 96 = .ok (.invokespecial 11, 3) := by decide +kernel
theorem dX7_init_99 : decode cX7_init 99 = .ok (.aastore, 1) := by decide +kernel
theorem dX7_init_100 : decode cX7_init 100 = .ok (.iinc 1 1, 3) := by decide +kernel
theorem dX7_init_103 : decode cX7_init 103 = .ok (.goto (-21), 3) := by decide +kernel
theorem dX7_init_106 : decode cX7_init 106 = .ok (.iconst 0, 1) := by decide +kernel
theorem dX7_init_107 : decode cX7_init 107 = .ok (.istore_n 1, 1) := by decide +kernel
theorem dX7_init_108 : decode cX7_init 108 = .ok (.iload_n 1, 1) := by decide +kernel
theorem dX7_init_109 : decode cX7_init 109 = .ok (.iconst 2, 1) := by decide +kernel
theorem dX7_init_110 : decode cX7_init 110 = .ok (.if_icmp .ge 22, 3) := by decide +kernel
theorem dX7_init_113 : decode cX7_init 113 = .ok (.aload_n 0, 1) := by decide +kernel
theorem dX7_init_114 : decode cX7_init 114 = .ok (.getfield 37, 3) := by decide +kernel
theorem dX7_init_117 : decode cX7_init 117 = .ok (.iload_n 1, 1) := by decide +kernel
theorem dX7_init_118 : decode cX7_init 118 = .ok (.new 9, 3) := by decide +kernel
theorem dX7_init_121 : decode cX7_init 121 = .ok (.dup, 1) := by decide +kernel
theorem dX7_init_122 : decode cX7_init 122 = .ok (.invokespecial 11, 3) := by decide +kernel
theorem dX7_init_125 : decode cX7_init 125 = .ok (.aastore, 1) := by decide +kernel
theorem dX7_init_126 : decode cX7_init 126 = .ok (.iinc 1 1, 3) := by decide +kernel
theorem dX7_init_129 : decode cX7_init 129 = .ok (.goto (-21), 3) := by decide +kernel
theorem dX7_init_132 : decode cX7_init 132 = .ok (.aload_n 0, 1) := by decide +kernel
theorem dX7_init_133 : decode cX7_init 133 = .ok (.getfield 12, 3) := by decide +kernel
theorem dX7_init_136 : decode cX7_init 136 = .ok (.bipush 16, 2) := by decide +kernel
theorem dX7_init_138 : decode cX7_init 138 = .ok (.bipush 8, 2) := by decide +kernel
theorem dX7_init_140 : decode cX7_init 140 = .ok (.invokevirtual 48, 3) := by decide +kernel
theorem dX7_init_143 : decode cX7_init 143 = .ok (.iconst 0, 1) := by decide +kernel
theorem dX7_init_144 : decode cX7_init 144 = .ok (.istore_n 1, 1) := by decide +kernel
theorem dX7_init_145 : decode cX7_init 145 = .ok (.iload_n 1, 1) := by decide +kernel
theorem dX7_init_146 : decode cX7_init 146 = .ok (.ldc 52, 2) := by decide +kernel
theorem dX7_init_148 : decode cX7_init 148 = .ok (.invokevirtual 54, 3) := by decide +kernel
theorem dX7_init_151 : decode cX7_init 151 = .ok (.if_icmp .ge 22, 3) := by decide +kernel
theorem dX7_init_154 : decode cX7_init 154 = .ok (.aload_n 0, 1) := by decide +kernel
theorem dX7_init_155 : decode cX7_init 155 = .ok (.getfield 29, 3) := by decide +kernel
theorem dX7_init_158 : decode cX7_init 158 = .ok (.ldc 52, 2) := by decide +kernel
theorem dX7_init_160 : decode cX7_init 160 = .ok (.iload_n 1, 1) := by decide +kernel
theorem dX7_init_161 : decode cX7_init 161 = .ok (.invokevirtual 60, 3) := by decide +kernel
theorem dX7_init_164 : decode cX7_init 164 = .ok (.invokevirtual 64, 3) := by decide +kernel
theorem dX7_init_167 : decode cX7_init 167 = .ok (.iinc 1 1, 3) := by decide +kernel
theorem dX7_init_170 : decode cX7_init 170 = .ok (.goto (-25), 3) := by decide +kernel
theorem dX7_init_173 : decode cX7_init 173 = .ok (.aload_n 0, 1) := by decide +kernel
theorem dX7_init_174 : decode cX7_init 174 = .ok (.getfield 29, 3) := by decide +kernel
theorem dX7_init_177 : decode cX7_init 177 = .ok (.invokevirtual 68, 3) := by decide +kernel
theorem dX7_init_180 : decode cX7_init 180 = .ok (.aload_n 0, 1) := by decide +kernel
theorem dX7_init_181 : decode cX7_init 181 = .ok (.getfield 12, 3) := by decide +kernel
theorem dX7_init_184 : decode cX7_init 184 = .ok (.aload_n 0, 1) := by decide +kernel
theorem dX7_init_185 : decode cX7_init 185 = .ok (.getfield 29, 3) := by decide +kernel
theorem dX7_init_188 : decode cX7_init 188 = .ok (.invokevirtual 71, 3) := by decide +kernel
theorem dX7_init_191 : decode cX7_init 191 = .ok (.aload_n 0, 1) := by decide +kernel
theorem dX7_init_192 : decode cX7_init 192 = .ok (.getfield 29, 3) := by decide +kernel
theorem dX7_init_195 : decode cX7_init 195 = .ok (.iconst 0, 1) := by decide +kernel
theorem dX7_init_196 : decode cX7_init 196 = .ok (.putfield 75, 3) := by decide +kernel
theorem dX7_init_199 : decode cX7_init 199 = .ok (.return_, 1) := by decide +kernel
def f_X7_init : MX := mth 2 (sQ (sO) (sQ (sPa (eLa 0) 7 0 (eNw 6 [.null, .null, .null, .null, .null, .null, .int 0, .int 0, .null, .null] f_X6_init)) (sQ (sPa (eLa 0) 7 1 (eNw 6 [.null, .null, .null, .null, .null, .null, .int 0, .int 0, .null, .null] f_X6_init)) (sQ (sPa (eLa 0) 7 2 (eNw 4 [.null, .null, .null] f_X4_init)) (sQ (sPa (eLa 0) 7 3 (eNw 3 [.null, .int 0, .null, .int 0, .int 0, .int 0, .null, .int 0, .int 0, .int 0, .int 0, .int 0, .int 0, .int 0] f_X3_init)) (sQ (sPa (eLa 0) 7 4 (eNq 4)) (sQ (sPa (eLa 0) 7 7 (eNq 2)) (sQ (sPa (eLa 0) 7 8 (eNi 2 2)) (sQ (sPa (eLa 0) 7 9 (eNl 2928)) (sQ (sQ (sQ (sTi 1 (eI (0))) (sLp (cB c_lt (eLi 1) (eI (4))) (sQ (sAa (eGa (eLa 0) 7 4) (eLi 1) 6 (eNw 6 [.null, .null, .null, .null, .null, .null, .int 0, .int 0, .null, .null] f_X6_init)) (sInc 1 (1))) 5)) (sQ (sQ (sTi 1 (eI (0))) (sLp (cB c_lt (eLi 1) (eI (2))) (sQ (sAa (eGa (eLa 0) 7 7) (eLi 1) 6 (eNw 6 [.null, .null, .null, .null, .null, .null, .int 0, .int 0, .null, .null] f_X6_init)) (sInc 1 (1))) 3)) (sQ (sM (gd 6 f_X6_buildAnew) (aI (aI (aA (aN) (eGa (eLa 0) 7 0)) (eI (16))) (eI (8)))) (sQ (sQ (sTi 1 (eI (0))) (sLp (cB c_lt (eLi 1) (eI 18)) (sQ (sM (gd 3 f_X3_append) (aI (aA (aN) (eGa (eLa 0) 7 3)) (eSt (eLi 1)))) (sInc 1 (1))) NF)) (sQ (sM (gd 3 f_X3_readBook) (aA (aN) (eGa (eLa 0) 7 3))) (sQ (sM (gd 6 f_X6_takeBook) (aA (aA (aN) (eGa (eLa 0) 7 0)) (eGa (eLa 0) 7 3))) (sPi (eGa (eLa 0) 7 3) 3 1 (eI (0))))))))) (sRv)))))))))))
theorem Y_X7_init : Yk yX7_init cX7_init 2 none 0 := ⟨w28, w1, by decide +kernel, by decide +kernel, by decide +kernel⟩
set_option maxRecDepth 20000 in
theorem k_X7_init (l : Launch) (g : GE) : MetX l g yX7_init cX7_init 2 none 1 ({ frames := 4, cells := 162, slots := 16165, locals := 89 } : Room) f_X7_init := by
  unfold f_X7_init
  exact MetX.of (own := RX7) 100 0 rfl (by decide +kernel) (by decide) (fun p e s m args below meth c Fin ad0 hr hn => ⟨_, _, Sv_seq (Sv_oinit w29 w30 wOc dX7_init_0 dX7_init_1 (Nat.le_of_ble_eq_true rfl) (Nat.le_of_ble_eq_true rfl)) (Sv_seq (Sv_putA Fx7 (Ev_aload_n dX7_init_4 rfl) (Ev_new Fx6 w32 w33 w2 (by decide +kernel) fsok_6 dX7_init_5 dX7_init_8 (Ri_IN Y_X6_init (k_X6_init _ _) w34 w35 rfl dX7_init_9 (Nat.le_of_ble_eq_true rfl) (Nat.le_of_ble_eq_true rfl) (Nat.le_of_ble_eq_true rfl) (Nat.ne_of_beq_eq_false rfl))) (k := 0) (by decide) rfl rfl hn rfl w384 dX7_init_12) (Sv_seq (Sv_putA Fx7 (Ev_aload_n dX7_init_15 rfl) (Ev_new Fx6 w32 w33 w2 (by decide +kernel) fsok_6 dX7_init_16 dX7_init_19 (Ri_IN Y_X6_init (k_X6_init _ _) w34 w35 rfl dX7_init_20 (Nat.le_of_ble_eq_true rfl) (Nat.le_of_ble_eq_true rfl) (Nat.le_of_ble_eq_true rfl) (Nat.ne_of_beq_eq_false rfl))) (k := 1) (by decide) rfl rfl hn rfl w385 dX7_init_23) (Sv_seq (Sv_putA Fx7 (Ev_aload_n dX7_init_26 rfl) (Ev_new Fx4 w171 w172 w7 (by decide +kernel) fsok_4 dX7_init_27 dX7_init_30 (Ri_IN Y_X4_init (k_X4_init _ _) w173 w174 rfl dX7_init_31 (Nat.le_of_ble_eq_true rfl) (Nat.le_of_ble_eq_true rfl) (Nat.le_of_ble_eq_true rfl) (Nat.ne_of_beq_eq_false rfl))) (k := 2) (by decide) rfl rfl hn rfl w386 dX7_init_34) (Sv_seq (Sv_putA Fx7 (Ev_aload_n dX7_init_37 rfl) (Ev_new Fx3 w187 w188 w8 (by decide +kernel) fsok_3 dX7_init_38 dX7_init_41 (Ri_IN Y_X3_init (k_X3_init _ _) w189 w190 rfl dX7_init_42 (Nat.le_of_ble_eq_true rfl) (Nat.le_of_ble_eq_true rfl) (Nat.le_of_ble_eq_true rfl) (Nat.ne_of_beq_eq_false rfl))) (k := 3) (by decide) rfl rfl hn rfl w387 dX7_init_45) (Sv_seq (Sv_putA Fx7 (Ev_aload_n dX7_init_48 rfl) (Ev_newq (N := 4) (v := 4) (Ev_iconst dX7_init_49 (by decide)) (by decide) (by decide +kernel) (by decide) w32 dX7_init_50) (k := 4) (by decide) rfl rfl hn rfl w388 dX7_init_53) (Sv_seq (Sv_putA Fx7 (Ev_aload_n dX7_init_56 rfl) (Ev_newq (N := 2) (v := 2) (Ev_iconst dX7_init_57 (by decide)) (by decide) (by decide +kernel) (by decide) w32 dX7_init_58) (k := 7) (by decide) rfl rfl hn rfl w391 dX7_init_61) (Sv_seq (Sv_putA Fx7 (Ev_aload_n dX7_init_64 rfl) (Ev_newa_boolean (N := 2) (v := 2) (Ev_iconst dX7_init_65 (by decide)) (by decide) (by decide +kernel) (by decide) w243 dX7_init_66) (k := 8) (by decide) rfl rfl hn rfl w392 dX7_init_68) (Sv_seq (Sv_putA Fx7 (Ev_aload_n dX7_init_71 rfl) (Ev_newa_long (N := 2928) (v := 2928) (Ev_sipush dX7_init_72 (by decide)) (by decide) (by decide +kernel) (by decide) w415 dX7_init_75) (k := 9) (by decide) rfl rfl hn rfl w393 dX7_init_77) (Sv_seq (Sv_seq (Sv_seq (Sv_istore_n (Ev_iconst dX7_init_80 (by decide)) dX7_init_81 rfl (Nat.le_of_ble_eq_true rfl) (Nat.ne_of_beq_eq_false rfl)) (Sv_loop (Cv_icmp_ge_n (Ev_iload_n dX7_init_82 rfl) (Ev_iconst dX7_init_83 (by decide)) (t := 106) dX7_init_84 (by decide)) (Sv_goto (pE := 82) (Sv_seq (Sv_aastore (Ev_getA Fx7 (Ev_aload_n dX7_init_87 rfl) (k := 4) (by decide) w388 dX7_init_88) (Ev_iload_n dX7_init_91 rfl) (Ev_new Fx6 w32 w33 w2 (by decide +kernel) fsok_6 dX7_init_92 dX7_init_95 (Ri_IN Y_X6_init (k_X6_init _ _) w34 w35 rfl dX7_init_96 (Nat.le_of_ble_eq_true rfl) (Nat.le_of_ble_eq_true rfl) (Nat.le_of_ble_eq_true rfl) (Nat.ne_of_beq_eq_false rfl))) Fx6.1 dX7_init_99) (Sv_iinc dX7_init_100 (by decide) (Nat.le_of_ble_eq_true rfl) (Nat.ne_of_beq_eq_false rfl))) dX7_init_103 (by decide)) 5)) (Sv_seq (Sv_seq (Sv_istore_n (Ev_iconst dX7_init_106 (by decide)) dX7_init_107 rfl (Nat.le_of_ble_eq_true rfl) (Nat.ne_of_beq_eq_false rfl)) (Sv_loop (Cv_icmp_ge_n (Ev_iload_n dX7_init_108 rfl) (Ev_iconst dX7_init_109 (by decide)) (t := 132) dX7_init_110 (by decide)) (Sv_goto (pE := 108) (Sv_seq (Sv_aastore (Ev_getA Fx7 (Ev_aload_n dX7_init_113 rfl) (k := 7) (by decide) w391 dX7_init_114) (Ev_iload_n dX7_init_117 rfl) (Ev_new Fx6 w32 w33 w2 (by decide +kernel) fsok_6 dX7_init_118 dX7_init_121 (Ri_IN Y_X6_init (k_X6_init _ _) w34 w35 rfl dX7_init_122 (Nat.le_of_ble_eq_true rfl) (Nat.le_of_ble_eq_true rfl) (Nat.le_of_ble_eq_true rfl) (Nat.ne_of_beq_eq_false rfl))) Fx6.1 dX7_init_125) (Sv_iinc dX7_init_126 (by decide) (Nat.le_of_ble_eq_true rfl) (Nat.ne_of_beq_eq_false rfl))) dX7_init_129 (by decide)) 3)) (Sv_seq (Sv_call (Av_i (Av_i (Av_a (Av_nil) (Ev_getA Fx7 (Ev_aload_n dX7_init_132 rfl) (k := 0) (by decide) w384 dX7_init_133)) (Ev_bipush dX7_init_136 (by decide))) (Ev_bipush dX7_init_138 (by decide))) (Rn_V (ci := 6) Fx6.1 rfl Y_X6_buildAnew (k_X6_buildAnew _ _) w245 w246 w247 dX7_init_140 (Nat.le_of_ble_eq_true rfl) (Nat.le_of_ble_eq_true rfl) (Nat.le_of_ble_eq_true rfl) (Nat.ne_of_beq_eq_false rfl))) (Sv_seq (Sv_seq (Sv_istore_n (Ev_iconst dX7_init_143 (by decide)) dX7_init_144 rfl (Nat.le_of_ble_eq_true rfl) (Nat.ne_of_beq_eq_false rfl)) (Sv_loop0 NF (Cv_icmp_ge_n (Ev_iload_n dX7_init_145 rfl) (Ev_strlen rfl w270 dX7_init_146 dX7_init_148 (Nat.le_of_ble_eq_true rfl) (Nat.le_of_ble_eq_true rfl) (Nat.le_of_ble_eq_true rfl)) (t := 173) dX7_init_151 (by decide)) (Sv_goto (pE := 145) (Sv_seq (Sv_call (Av_i (Av_a (Av_nil) (Ev_getA Fx7 (Ev_aload_n dX7_init_154 rfl) (k := 3) (by decide) w387 dX7_init_155)) (Ev_strch rfl w280 dX7_init_158 (Ev_iload_n dX7_init_160 rfl) dX7_init_161 (Nat.le_of_ble_eq_true rfl) (Nat.le_of_ble_eq_true rfl) (Nat.le_of_ble_eq_true rfl))) (Rn_V (ci := 3) Fx3.1 rfl Y_X3_append (k_X3_append _ _) w318 w319 w320 dX7_init_164 (Nat.le_of_ble_eq_true rfl) (Nat.le_of_ble_eq_true rfl) (Nat.le_of_ble_eq_true rfl) (Nat.ne_of_beq_eq_false rfl))) (Sv_iinc dX7_init_167 (by decide) (Nat.le_of_ble_eq_true rfl) (Nat.ne_of_beq_eq_false rfl))) dX7_init_170 (by decide)))) (Sv_seq (Sv_call (Av_a (Av_nil) (Ev_getA Fx7 (Ev_aload_n dX7_init_173 rfl) (k := 3) (by decide) w387 dX7_init_174)) (Rn_V (ci := 3) Fx3.1 rfl Y_X3_readBook (k_X3_readBook _ _) w322 w323 w324 dX7_init_177 (Nat.le_of_ble_eq_true rfl) (Nat.le_of_ble_eq_true rfl) (Nat.le_of_ble_eq_true rfl) (Nat.ne_of_beq_eq_false rfl))) (Sv_seq (Sv_call (Av_a (Av_a (Av_nil) (Ev_getA Fx7 (Ev_aload_n dX7_init_180 rfl) (k := 0) (by decide) w384 dX7_init_181)) (Ev_getA Fx7 (Ev_aload_n dX7_init_184 rfl) (k := 3) (by decide) w387 dX7_init_185)) (Rn_V (ci := 6) Fx6.1 rfl Y_X6_takeBook (k_X6_takeBook _ _) w377 w378 w379 dX7_init_188 (Nat.le_of_ble_eq_true rfl) (Nat.le_of_ble_eq_true rfl) (Nat.le_of_ble_eq_true rfl) (Nat.ne_of_beq_eq_false rfl))) (Sv_putI Fx3 (Ev_getA Fx7 (Ev_aload_n dX7_init_191 rfl) (k := 3) (by decide) w387 dX7_init_192) (Ev_iconst dX7_init_195 (by decide)) (k := 1) (by decide) rfl rfl w194 dX7_init_196))))))) (Sv_retv hr dX7_init_199)))))))))), Nat.le_of_ble_eq_true rfl, Nat.le_of_ble_eq_true rfl⟩)
theorem dX7_needRange_0 : decode cX7_needRange 0 = .ok (.iload_n 0, 1) := by decide +kernel
theorem dX7_needRange_1 : decode cX7_needRange 1 = .ok (.iload_n 1, 1) := by decide +kernel
theorem dX7_needRange_2 : decode cX7_needRange 2 = .ok (.if_icmp .lt 8, 3) := by decide +kernel
theorem dX7_needRange_5 : decode cX7_needRange 5 = .ok (.iload_n 0, 1) := by decide +kernel
theorem dX7_needRange_6 : decode cX7_needRange 6 = .ok (.iload_n 2, 1) := by decide +kernel
theorem dX7_needRange_7 : decode cX7_needRange 7 = .ok (.if_icmp .le 14, 3) := by decide +kernel
theorem dX7_needRange_10 : decode cX7_needRange 10 = .ok (.new 307, 3) := by decide +kernel
theorem dX7_needRange_13 : decode cX7_needRange 13 = .ok (.dup, 1) := by decide +kernel
theorem dX7_needRange_14 : decode cX7_needRange 14 = .ok (.ldc_w 309, 3) := by decide +kernel
theorem dX7_needRange_17 : decode cX7_needRange 17 = .ok (.invokespecial 311, 3) := by decide +kernel
theorem dX7_needRange_20 : decode cX7_needRange 20 = .ok (.athrow, 1) := by decide +kernel
theorem dX7_needRange_21 : decode cX7_needRange 21 = .ok (.return_, 1) := by decide +kernel
def f_X7_needRange : MX := mth 3 (sQ (sIf (cOr (cB c_lt (eLi 0) (eLi 1)) (cB c_gt (eLi 0) (eLi 2))) (sX xA) sN) (sRv))
theorem Y_X7_needRange : Yk yX7_needRange cX7_needRange 3 none 3 := ⟨w448, w1, by decide +kernel, by decide +kernel, by decide +kernel⟩
set_option maxRecDepth 20000 in
theorem k_X7_needRange (l : Launch) (g : GE) : MetX l g yX7_needRange cX7_needRange 3 none 3 ({ frames := 6, cells := 1, slots := 6, locals := 82 } : Room) f_X7_needRange := by
  unfold f_X7_needRange
  exact MetX.of (own := RX7) 100 0 rfl (by decide +kernel) (by decide) (fun p e s m args below meth c Fin ad0 hr hn => ⟨_, _, Sv_seq (Sv_if (Cv_or (Cv_icmp_lt_j (Ev_iload_n dX7_needRange_0 rfl) (Ev_iload_n dX7_needRange_1 rfl) (t := 10) dX7_needRange_2 (by decide)) (Cv_icmp_le_n (Ev_iload_n dX7_needRange_5 rfl) (Ev_iload_n dX7_needRange_6 rfl) (t := 21) dX7_needRange_7 (by decide))) (Sv_throw Xk_xA_307_311 (q := (309, "an argument is out of its range")) (by decide) rfl dX7_needRange_10 dX7_needRange_13 dX7_needRange_14 dX7_needRange_17 dX7_needRange_20 (Nat.le_of_ble_eq_true rfl) (Nat.le_of_ble_eq_true rfl) (Nat.ne_of_beq_eq_false rfl)) Sv_nop) (Sv_retv hr dX7_needRange_21), Nat.le_of_ble_eq_true rfl, Nat.le_of_ble_eq_true rfl⟩)
theorem dX7_recordChange_0 : decode cX7_recordChange 0 = .ok (.aload_n 0, 1) := by decide +kernel
theorem dX7_recordChange_1 : decode cX7_recordChange 1 = .ok (.getfield 265, 3) := by decide +kernel
theorem dX7_recordChange_4 : decode cX7_recordChange 4 = .ok (.iconst 4, 1) := by decide +kernel
theorem dX7_recordChange_5 : decode cX7_recordChange 5 = .ok (.if_icmp .ne 25, 3) := by decide +kernel
theorem dX7_recordChange_8 : decode cX7_recordChange 8 = .ok (.aload_n 0, 1) := by decide +kernel
theorem dX7_recordChange_9 : decode cX7_recordChange 9 = .ok (.aload_n 0, 1) := by decide +kernel
theorem dX7_recordChange_10 : decode cX7_recordChange 10 = .ok (.getfield 297, 3) := by decide +kernel
theorem dX7_recordChange_13 : decode cX7_recordChange 13 = .ok (.iconst 1, 1) := by decide +kernel
theorem dX7_recordChange_14 : decode cX7_recordChange 14 = .ok (.iadd, 1) := by decide +kernel
theorem dX7_recordChange_15 : decode cX7_recordChange 15 = .ok (.iconst 4, 1) := by decide +kernel
theorem dX7_recordChange_16 : decode cX7_recordChange 16 = .ok (.irem, 1) := by decide +kernel
theorem dX7_recordChange_17 : decode cX7_recordChange 17 = .ok (.putfield 297, 3) := by decide +kernel
theorem dX7_recordChange_20 : decode cX7_recordChange 20 = .ok (.aload_n 0, 1) := by decide +kernel
theorem dX7_recordChange_21 : decode cX7_recordChange 21 = .ok (.dup, 1) := by decide +kernel
theorem dX7_recordChange_22 : decode cX7_recordChange 22 = .ok (.getfield 265, 3) := by decide +kernel
theorem dX7_recordChange_25 : decode cX7_recordChange 25 = .ok (.iconst 1, 1) := by decide +kernel
theorem dX7_recordChange_26 : decode cX7_recordChange 26 = .ok (.isub, 1) := by decide +kernel
theorem dX7_recordChange_27 : decode cX7_recordChange 27 = .ok (.putfield 265, 3) := by decide +kernel
theorem dX7_recordChange_30 : decode cX7_recordChange 30 = .ok (.aload_n 0, 1) := by decide +kernel
theorem dX7_recordChange_31 : decode cX7_recordChange 31 = .ok (.getfield 33, 3) := by decide +kernel
theorem dX7_recordChange_34 : decode cX7_recordChange 34 = .ok (.aload_n 0, 1) := by decide +kernel
theorem dX7_recordChange_35 : decode cX7_recordChange 35 = .ok (.getfield 297, 3) := by decide +kernel
theorem dX7_recordChange_38 : decode cX7_recordChange 38 = .ok (.aload_n 0, 1) := by decide +kernel
theorem dX7_recordChange_39 : decode cX7_recordChange 39 = .ok (.getfield 265, 3) := by decide +kernel
theorem dX7_recordChange_42 : decode cX7_recordChange 42 = .ok (.iadd, 1) := by decide +kernel
theorem dX7_recordChange_43 : decode cX7_recordChange 43 = .ok (.iconst 4, 1) := by decide +kernel
theorem dX7_recordChange_44 : decode cX7_recordChange 44 = .ok (.irem, 1) := by decide +kernel
theorem dX7_recordChange_45 : decode cX7_recordChange 45 = .ok (.aaload, 1) := by decide +kernel
theorem dX7_recordChange_46 : decode cX7_recordChange 46 = .ok (.aload_n 0, 1) := by decide +kernel
theorem dX7_recordChange_47 : decode cX7_recordChange 47 = .ok (.getfield 12, 3) := by decide +kernel
theorem dX7_recordChange_50 : decode cX7_recordChange 50 = .ok (.invokevirtual 268, 3) := by decide +kernel
theorem dX7_recordChange_53 : decode cX7_recordChange 53 = .ok (.aload_n 0, 1) := by decide +kernel
theorem dX7_recordChange_54 : decode cX7_recordChange 54 = .ok (.dup, 1) := by decide +kernel
theorem dX7_recordChange_55 : decode cX7_recordChange 55 = .ok (.getfield 265, 3) := by decide +kernel
theorem dX7_recordChange_58 : decode cX7_recordChange 58 = .ok (.iconst 1, 1) := by decide +kernel
theorem dX7_recordChange_59 : decode cX7_recordChange 59 = .ok (.iadd, 1) := by decide +kernel
theorem dX7_recordChange_60 : decode cX7_recordChange 60 = .ok (.putfield 265, 3) := by decide +kernel
theorem dX7_recordChange_63 : decode cX7_recordChange 63 = .ok (.return_, 1) := by decide +kernel
def f_X7_recordChange : MX := mth 1 (sQ (sQ (sIf (cB c_eq (eGi (eLa 0) 7 6) (eI (4))) (sQ (sPi (eLa 0) 7 5 (eQ o_irem (eOp o_iadd (eGi (eLa 0) 7 5) (eI (1))) (eI (4)))) (sPo (eLa 0) 7 6 o_isub (eI (1)))) sN) (sQ (sM (gd 6 f_X6_copyFrom) (aA (aA (aN) (eAa (eGa (eLa 0) 7 4) (eQ o_irem (eOp o_iadd (eGi (eLa 0) 7 5) (eGi (eLa 0) 7 6)) (eI (4))))) (eGa (eLa 0) 7 0))) (sPo (eLa 0) 7 6 o_iadd (eI (1))))) (sRv))
theorem Y_X7_recordChange : Yk yX7_recordChange cX7_recordChange 1 none 0 := ⟨w519, w1, by decide +kernel, by decide +kernel, by decide +kernel⟩
set_option maxRecDepth 20000 in
theorem k_X7_recordChange (l : Launch) (g : GE) : MetX l g yX7_recordChange cX7_recordChange 1 none 1 ({ frames := 3, cells := 0, slots := 0, locals := 82 } : Room) f_X7_recordChange := by
  unfold f_X7_recordChange
  exact MetX.of (own := RX7) 100 0 rfl (by decide +kernel) (by decide) (fun p e s m args below meth c Fin ad0 hr hn => ⟨_, _, Sv_seq (Sv_seq (Sv_if (Cv_icmp_ne_n (Ev_getI Fx7 (Ev_aload_n dX7_recordChange_0 rfl) (k := 6) (by decide) w390 dX7_recordChange_1) (Ev_iconst dX7_recordChange_4 (by decide)) (t := 30) dX7_recordChange_5 (by decide)) (Sv_seq (Sv_putI Fx7 (Ev_aload_n dX7_recordChange_8 rfl) (Ev_irem (Ev_iadd (Ev_getI Fx7 (Ev_aload_n dX7_recordChange_9 rfl) (k := 5) (by decide) w389 dX7_recordChange_10) (Ev_iconst dX7_recordChange_13 (by decide)) dX7_recordChange_14) (Ev_iconst dX7_recordChange_15 (by decide)) dX7_recordChange_16) (k := 5) (by decide) rfl rfl w389 dX7_recordChange_17) (Sv_fop_isub (idx2 := 0) Fx7 (Ev_aload_n dX7_recordChange_20 rfl) dX7_recordChange_21 dX7_recordChange_22 (Ev_iconst dX7_recordChange_25 (by decide)) dX7_recordChange_26 (k := 6) (by decide) rfl rfl w390 dX7_recordChange_27)) Sv_nop) (Sv_seq (Sv_call (Av_a (Av_a (Av_nil) (Ev_aaload (Ev_getA Fx7 (Ev_aload_n dX7_recordChange_30 rfl) (k := 4) (by decide) w388 dX7_recordChange_31) (Ev_irem (Ev_iadd (Ev_getI Fx7 (Ev_aload_n dX7_recordChange_34 rfl) (k := 5) (by decide) w389 dX7_recordChange_35) (Ev_getI Fx7 (Ev_aload_n dX7_recordChange_38 rfl) (k := 6) (by decide) w390 dX7_recordChange_39) dX7_recordChange_42) (Ev_iconst dX7_recordChange_43 (by decide)) dX7_recordChange_44) dX7_recordChange_45)) (Ev_getA Fx7 (Ev_aload_n dX7_recordChange_46 rfl) (k := 0) (by decide) w384 dX7_recordChange_47)) (Rn_V (ci := 6) Fx6.1 rfl Y_X6_copyFrom (k_X6_copyFrom _ _) w520 w521 w522 dX7_recordChange_50 (Nat.le_of_ble_eq_true rfl) (Nat.le_of_ble_eq_true rfl) (Nat.le_of_ble_eq_true rfl) (Nat.ne_of_beq_eq_false rfl))) (Sv_fop_iadd (idx2 := 0) Fx7 (Ev_aload_n dX7_recordChange_53 rfl) dX7_recordChange_54 dX7_recordChange_55 (Ev_iconst dX7_recordChange_58 (by decide)) dX7_recordChange_59 (k := 6) (by decide) rfl rfl w390 dX7_recordChange_60))) (Sv_retv hr dX7_recordChange_63), Nat.le_of_ble_eq_true rfl, Nat.le_of_ble_eq_true rfl⟩)
theorem dX7_build_0 : decode cX7_build 0 = .ok (.iload_n 1, 1) := by decide +kernel
theorem dX7_build_1 : decode cX7_build 1 = .ok (.iconst 4, 1) := by decide +kernel
theorem dX7_build_2 : decode cX7_build 2 = .ok (.bipush 32, 2) := by decide +kernel
theorem dX7_build_4 : decode cX7_build 4 = .ok (.invokestatic 78, 3) := by decide +kernel
theorem dX7_build_7 : decode cX7_build 7 = .ok (.iload_n 2, 1) := by decide +kernel
theorem dX7_build_8 : decode cX7_build 8 = .ok (.iconst 2, 1) := by decide +kernel
theorem dX7_build_9 : decode cX7_build 9 = .ok (.bipush 16, 2) := by decide +kernel
theorem dX7_build_11 : decode cX7_build 11 = .ok (.invokestatic 78, 3) := by decide +kernel
theorem dX7_build_14 : decode cX7_build 14 = .ok (.aload_n 0, 1) := by decide +kernel
theorem dX7_build_15 : decode cX7_build 15 = .ok (.invokevirtual 82, 3) := by decide +kernel
theorem dX7_build_18 : decode cX7_build 18 = .ok (.aload_n 0, 1) := by decide +kernel
theorem dX7_build_19 : decode cX7_build 19 = .ok (.getfield 12, 3) := by decide +kernel
theorem dX7_build_22 : decode cX7_build 22 = .ok (.iload_n 1, 1) := by decide +kernel
theorem dX7_build_23 : decode cX7_build 23 = .ok (.iload_n 2, 1) := by decide +kernel
theorem dX7_build_24 : decode cX7_build 24 = .ok (.invokevirtual 48, 3) := by decide +kernel
theorem dX7_build_27 : decode cX7_build 27 = .ok (.iload_n 1, 1) := by decide +kernel
theorem dX7_build_28 : decode cX7_build 28 = .ok (.iload_n 2, 1) := by decide +kernel
theorem dX7_build_29 : decode cX7_build 29 = .ok (.imul, 1) := by decide +kernel
theorem dX7_build_30 : decode cX7_build 30 = .ok (.ireturn, 1) := by decide +kernel
def f_X7_build : MX := mth 3 (sQ (sM (f_X7_needRange) (aI (aI (aI (aN) (eLi 1)) (eI (4))) (eI (32)))) (sQ (sM (f_X7_needRange) (aI (aI (aI (aN) (eLi 2)) (eI (2))) (eI (16)))) (sQ (sM (gd 7 f_X7_recordChange) (aA (aN) (eLa 0))) (sQ (sM (gd 6 f_X6_buildAnew) (aI (aI (aA (aN) (eGa (eLa 0) 7 0)) (eLi 1)) (eLi 2))) (sR (eOp o_imul (eLi 1) (eLi 2)))))))
theorem Y_X7_build : Yk yX7_build cX7_build 3 (some .int) 2 := ⟨w445, w1, by decide +kernel, by decide +kernel, by decide +kernel⟩
set_option maxRecDepth 20000 in
theorem k_X7_build (l : Launch) (g : GE) : MetX l g yX7_build cX7_build 3 (some .int) 3 ({ frames := 7, cells := 2, slots := 12, locals := 104 } : Room) f_X7_build := by
  unfold f_X7_build
  exact MetX.of (own := RX7) 100 0 rfl (by decide +kernel) (by decide) (fun p e s m args below meth c Fin ad0 hr hn => ⟨_, _, Sv_seq (Sv_call (Av_i (Av_i (Av_i (Av_nil) (Ev_iload_n dX7_build_0 rfl)) (Ev_iconst dX7_build_1 (by decide))) (Ev_bipush dX7_build_2 (by decide))) (Rn_S Y_X7_needRange (k_X7_needRange _ _) w446 w447 dX7_build_4 (Nat.le_of_ble_eq_true rfl) (Nat.le_of_ble_eq_true rfl) (Nat.le_of_ble_eq_true rfl) (Nat.ne_of_beq_eq_false rfl))) (Sv_seq (Sv_call (Av_i (Av_i (Av_i (Av_nil) (Ev_iload_n dX7_build_7 rfl)) (Ev_iconst dX7_build_8 (by decide))) (Ev_bipush dX7_build_9 (by decide))) (Rn_S Y_X7_needRange (k_X7_needRange _ _) w446 w447 dX7_build_11 (Nat.le_of_ble_eq_true rfl) (Nat.le_of_ble_eq_true rfl) (Nat.le_of_ble_eq_true rfl) (Nat.ne_of_beq_eq_false rfl))) (Sv_seq (Sv_call (Av_a (Av_nil) (Ev_aload_n dX7_build_14 rfl)) (Rn_V (ci := 7) Fx7.1 rfl Y_X7_recordChange (k_X7_recordChange _ _) w516 w518 wp10 dX7_build_15 (Nat.le_of_ble_eq_true rfl) (Nat.le_of_ble_eq_true rfl) (Nat.le_of_ble_eq_true rfl) (Nat.ne_of_beq_eq_false rfl))) (Sv_seq (Sv_call (Av_i (Av_i (Av_a (Av_nil) (Ev_getA Fx7 (Ev_aload_n dX7_build_18 rfl) (k := 0) (by decide) w384 dX7_build_19)) (Ev_iload_n dX7_build_22 rfl)) (Ev_iload_n dX7_build_23 rfl)) (Rn_V (ci := 6) Fx6.1 rfl Y_X6_buildAnew (k_X6_buildAnew _ _) w245 w246 w247 dX7_build_24 (Nat.le_of_ble_eq_true rfl) (Nat.le_of_ble_eq_true rfl) (Nat.le_of_ble_eq_true rfl) (Nat.ne_of_beq_eq_false rfl))) (Sv_ret (Ev_imul (Ev_iload_n dX7_build_27 rfl) (Ev_iload_n dX7_build_28 rfl) dX7_build_29) hr dX7_build_30)))), Nat.le_of_ble_eq_true rfl, Nat.le_of_ble_eq_true rfl⟩)
theorem dX7_set_0 : decode cX7_set 0 = .ok (.iload_n 1, 1) := by decide +kernel
theorem dX7_set_1 : decode cX7_set 1 = .ok (.iconst 0, 1) := by decide +kernel
theorem dX7_set_2 : decode cX7_set 2 = .ok (.iconst 2, 1) := by decide +kernel
theorem dX7_set_3 : decode cX7_set 3 = .ok (.invokestatic 78, 3) := by decide +kernel
theorem dX7_set_6 : decode cX7_set 6 = .ok (.iload_n 2, 1) := by decide +kernel
theorem dX7_set_7 : decode cX7_set 7 = .ok (.iconst 0, 1) := by decide +kernel
theorem dX7_set_8 : decode cX7_set 8 = .ok (.iconst 1, 1) := by decide +kernel
theorem dX7_set_9 : decode cX7_set 9 = .ok (.invokestatic 78, 3) := by decide +kernel
theorem dX7_set_12 : decode cX7_set 12 = .ok (.aload_n 0, 1) := by decide +kernel
theorem dX7_set_13 : decode cX7_set 13 = .ok (.invokevirtual 82, 3) := by decide +kernel
theorem dX7_set_16 : decode cX7_set 16 = .ok (.aload_n 0, 1) := by decide +kernel
theorem dX7_set_17 : decode cX7_set 17 = .ok (.getfield 12, 3) := by decide +kernel
theorem dX7_set_20 : decode cX7_set 20 = .ok (.getfield 85, 3) := by decide +kernel
theorem dX7_set_23 : decode cX7_set 23 = .ok (.iload_n 1, 1) := by decide +kernel
theorem dX7_set_24 : decode cX7_set 24 = .ok (.iaload, 1) := by decide +kernel
theorem dX7_set_25 : decode cX7_set 25 = .ok (.istore_n 3, 1) := by decide +kernel
theorem dX7_set_26 : decode cX7_set 26 = .ok (.aload_n 0, 1) := by decide +kernel
theorem dX7_set_27 : decode cX7_set 27 = .ok (.getfield 12, 3) := by decide +kernel
theorem dX7_set_30 : decode cX7_set 30 = .ok (.getfield 85, 3) := by decide +kernel
theorem dX7_set_33 : decode cX7_set 33 = .ok (.iload_n 1, 1) := by decide +kernel
theorem dX7_set_34 : decode cX7_set 34 = .ok (.iload_n 2, 1) := by decide +kernel
theorem dX7_set_35 : decode cX7_set 35 = .ok (.iastore, 1) := by decide +kernel
theorem dX7_set_36 : decode cX7_set 36 = .ok (.iload_n 3, 1) := by decide +kernel
theorem dX7_set_37 : decode cX7_set 37 = .ok (.ireturn, 1) := by decide +kernel
def f_X7_set : MX := mth 4 (sQ (sM (f_X7_needRange) (aI (aI (aI (aN) (eLi 1)) (eI (0))) (eI (2)))) (sQ (sM (f_X7_needRange) (aI (aI (aI (aN) (eLi 2)) (eI (0))) (eI (1)))) (sQ (sM (gd 7 f_X7_recordChange) (aA (aN) (eLa 0))) (sQ (sTi 3 (eAi 0 (eGa (eGa (eLa 0) 7 0) 6 4) (eLi 1))) (sQ (sAi 0 (eGa (eGa (eLa 0) 7 0) 6 4) (eLi 1) (eLi 2)) (sR (eLi 3)))))))
theorem Y_X7_set : Yk yX7_set cX7_set 4 (some .int) 2 := ⟨w550, w1, by decide +kernel, by decide +kernel, by decide +kernel⟩
set_option maxRecDepth 20000 in
theorem k_X7_set (l : Launch) (g : GE) : MetX l g yX7_set cX7_set 4 (some .int) 3 ({ frames := 7, cells := 2, slots := 12, locals := 104 } : Room) f_X7_set := by
  unfold f_X7_set
  exact MetX.of (own := RX7) 100 0 rfl (by decide +kernel) (by decide) (fun p e s m args below meth c Fin ad0 hr hn => ⟨_, _, Sv_seq (Sv_call (Av_i (Av_i (Av_i (Av_nil) (Ev_iload_n dX7_set_0 rfl)) (Ev_iconst dX7_set_1 (by decide))) (Ev_iconst dX7_set_2 (by decide))) (Rn_S Y_X7_needRange (k_X7_needRange _ _) w446 w447 dX7_set_3 (Nat.le_of_ble_eq_true rfl) (Nat.le_of_ble_eq_true rfl) (Nat.le_of_ble_eq_true rfl) (Nat.ne_of_beq_eq_false rfl))) (Sv_seq (Sv_call (Av_i (Av_i (Av_i (Av_nil) (Ev_iload_n dX7_set_6 rfl)) (Ev_iconst dX7_set_7 (by decide))) (Ev_iconst dX7_set_8 (by decide))) (Rn_S Y_X7_needRange (k_X7_needRange _ _) w446 w447 dX7_set_9 (Nat.le_of_ble_eq_true rfl) (Nat.le_of_ble_eq_true rfl) (Nat.le_of_ble_eq_true rfl) (Nat.ne_of_beq_eq_false rfl))) (Sv_seq (Sv_call (Av_a (Av_nil) (Ev_aload_n dX7_set_12 rfl)) (Rn_V (ci := 7) Fx7.1 rfl Y_X7_recordChange (k_X7_recordChange _ _) w516 w518 wp10 dX7_set_13 (Nat.le_of_ble_eq_true rfl) (Nat.le_of_ble_eq_true rfl) (Nat.le_of_ble_eq_true rfl) (Nat.ne_of_beq_eq_false rfl))) (Sv_seq (Sv_istore_n (Ev_iaload (Ev_getA Fx6 (Ev_getA Fx7 (Ev_aload_n dX7_set_16 rfl) (k := 0) (by decide) w384 dX7_set_17) (k := 4) (by decide) w135 dX7_set_20) (Ev_iload_n dX7_set_23 rfl) dX7_set_24) dX7_set_25 rfl (Nat.le_of_ble_eq_true rfl) (Nat.ne_of_beq_eq_false rfl)) (Sv_seq (Sv_iastore (Ev_getA Fx6 (Ev_getA Fx7 (Ev_aload_n dX7_set_26 rfl) (k := 0) (by decide) w384 dX7_set_27) (k := 4) (by decide) w135 dX7_set_30) (Ev_iload_n dX7_set_33 rfl) (Ev_iload_n dX7_set_34 rfl) dX7_set_35) (Sv_ret (Ev_iload_n dX7_set_36 rfl) hr dX7_set_37))))), Nat.le_of_ble_eq_true rfl, Nat.le_of_ble_eq_true rfl⟩)
theorem dX7_needIndex_0 : decode cX7_needIndex 0 = .ok (.iload_n 0, 1) := by decide +kernel
theorem dX7_needIndex_1 : decode cX7_needIndex 1 = .ok (.ifCond .lt 8, 3) := by decide +kernel
theorem dX7_needIndex_4 : decode cX7_needIndex 4 = .ok (.iload_n 0, 1) := by decide +kernel
theorem dX7_needIndex_5 : decode cX7_needIndex 5 = .ok (.iload_n 1, 1) := by decide +kernel
theorem dX7_needIndex_6 : decode cX7_needIndex 6 = .ok (.if_icmp .lt 14, 3) := by decide +kernel
theorem dX7_needIndex_9 : decode cX7_needIndex 9 = .ok (.new 300, 3) := by decide +kernel
theorem dX7_needIndex_12 : decode cX7_needIndex 12 = .ok (.dup, 1) := by decide +kernel
theorem dX7_needIndex_13 : decode cX7_needIndex 13 = .ok (.ldc_w 302, 3) := by decide +kernel
theorem dX7_needIndex_16 : decode cX7_needIndex 16 = .ok (.invokespecial 304, 3) := by decide +kernel
theorem dX7_needIndex_19 : decode cX7_needIndex 19 = .ok (.athrow, 1) := by decide +kernel
theorem dX7_needIndex_20 : decode cX7_needIndex 20 = .ok (.return_, 1) := by decide +kernel
def f_X7_needIndex : MX := mth 2 (sQ (sIf (cOr (cZ z_lt (eLi 0)) (cB c_ge (eLi 0) (eLi 1))) (sX xI) sN) (sRv))
theorem Y_X7_needIndex : Yk yX7_needIndex cX7_needIndex 2 none 2 := ⟨w565, w1, by decide +kernel, by decide +kernel, by decide +kernel⟩
set_option maxRecDepth 20000 in
theorem k_X7_needIndex (l : Launch) (g : GE) : MetX l g yX7_needIndex cX7_needIndex 2 none 2 ({ frames := 6, cells := 1, slots := 6, locals := 82 } : Room) f_X7_needIndex := by
  unfold f_X7_needIndex
  exact MetX.of (own := RX7) 100 0 rfl (by decide +kernel) (by decide) (fun p e s m args below meth c Fin ad0 hr hn => ⟨_, _, Sv_seq (Sv_if (Cv_or (Cv_if_lt_j (Ev_iload_n dX7_needIndex_0 rfl) (t := 9) dX7_needIndex_1 (by decide)) (Cv_icmp_lt_n (Ev_iload_n dX7_needIndex_4 rfl) (Ev_iload_n dX7_needIndex_5 rfl) (t := 20) dX7_needIndex_6 (by decide))) (Sv_throw Xk_xI_300_304 (q := (302, "there is no such column, row, body, gust or slot")) (by decide) rfl dX7_needIndex_9 dX7_needIndex_12 dX7_needIndex_13 dX7_needIndex_16 dX7_needIndex_19 (Nat.le_of_ble_eq_true rfl) (Nat.le_of_ble_eq_true rfl) (Nat.ne_of_beq_eq_false rfl)) Sv_nop) (Sv_retv hr dX7_needIndex_20), Nat.le_of_ble_eq_true rfl, Nat.le_of_ble_eq_true rfl⟩)
theorem dX7_needBody_0 : decode cX7_needBody 0 = .ok (.iload_n 0, 1) := by decide +kernel
theorem dX7_needBody_1 : decode cX7_needBody 1 = .ok (.bipush 6, 2) := by decide +kernel
theorem dX7_needBody_3 : decode cX7_needBody 3 = .ok (.invokestatic 160, 3) := by decide +kernel
theorem dX7_needBody_6 : decode cX7_needBody 6 = .ok (.return_, 1) := by decide +kernel
def f_X7_needBody : MX := mth 1 (sQ (sM (f_X7_needIndex) (aI (aI (aN) (eLi 0)) (eI (6)))) (sRv))
theorem Y_X7_needBody : Yk yX7_needBody cX7_needBody 1 none 1 := ⟨w562, w1, by decide +kernel, by decide +kernel, by decide +kernel⟩
set_option maxRecDepth 20000 in
theorem k_X7_needBody (l : Launch) (g : GE) : MetX l g yX7_needBody cX7_needBody 1 none 1 ({ frames := 7, cells := 1, slots := 6, locals := 103 } : Room) f_X7_needBody := by
  unfold f_X7_needBody
  exact MetX.of (own := RX7) 100 0 rfl (by decide +kernel) (by decide) (fun p e s m args below meth c Fin ad0 hr hn => ⟨_, _, Sv_seq (Sv_call (Av_i (Av_i (Av_nil) (Ev_iload_n dX7_needBody_0 rfl)) (Ev_bipush dX7_needBody_1 (by decide))) (Rn_S Y_X7_needIndex (k_X7_needIndex _ _) w563 w564 dX7_needBody_3 (Nat.le_of_ble_eq_true rfl) (Nat.le_of_ble_eq_true rfl) (Nat.le_of_ble_eq_true rfl) (Nat.ne_of_beq_eq_false rfl))) (Sv_retv hr dX7_needBody_6), Nat.le_of_ble_eq_true rfl, Nat.le_of_ble_eq_true rfl⟩)
theorem dX7_needCell_0 : decode cX7_needCell 0 = .ok (.iload_n 1, 1) := by decide +kernel
theorem dX7_needCell_1 : decode cX7_needCell 1 = .ok (.aload_n 0, 1) := by decide +kernel
theorem dX7_needCell_2 : decode cX7_needCell 2 = .ok (.getfield 12, 3) := by decide +kernel
theorem dX7_needCell_5 : decode cX7_needCell 5 = .ok (.getfield 96, 3) := by decide +kernel
theorem dX7_needCell_8 : decode cX7_needCell 8 = .ok (.getfield 206, 3) := by decide +kernel
theorem dX7_needCell_11 : decode cX7_needCell 11 = .ok (.invokestatic 160, 3) := by decide +kernel
theorem dX7_needCell_14 : decode cX7_needCell 14 = .ok (.iload_n 2, 1) := by decide +kernel
theorem dX7_needCell_15 : decode cX7_needCell 15 = .ok (.aload_n 0, 1) := by decide +kernel
theorem dX7_needCell_16 : decode cX7_needCell 16 = .ok (.getfield 12, 3) := by decide +kernel
theorem dX7_needCell_19 : decode cX7_needCell 19 = .ok (.getfield 96, 3) := by decide +kernel
theorem dX7_needCell_22 : decode cX7_needCell 22 = .ok (.getfield 246, 3) := by decide +kernel
theorem dX7_needCell_25 : decode cX7_needCell 25 = .ok (.invokestatic 160, 3) := by decide +kernel
theorem dX7_needCell_28 : decode cX7_needCell 28 = .ok (.return_, 1) := by decide +kernel
def f_X7_needCell : MX := mth 3 (sQ (sQ (sM (f_X7_needIndex) (aI (aI (aN) (eLi 1)) (eGi (eGa (eGa (eLa 0) 7 0) 6 0) 1 0))) (sM (f_X7_needIndex) (aI (aI (aN) (eLi 2)) (eGi (eGa (eGa (eLa 0) 7 0) 6 0) 1 1)))) (sRv))
theorem Y_X7_needCell : Yk yX7_needCell cX7_needCell 3 none 2 := ⟨w585, w1, by decide +kernel, by decide +kernel, by decide +kernel⟩
set_option maxRecDepth 20000 in
theorem k_X7_needCell (l : Launch) (g : GE) : MetX l g yX7_needCell cX7_needCell 3 none 3 ({ frames := 7, cells := 2, slots := 12, locals := 103 } : Room) f_X7_needCell := by
  unfold f_X7_needCell
  exact MetX.of (own := RX7) 100 0 rfl (by decide +kernel) (by decide) (fun p e s m args below meth c Fin ad0 hr hn => ⟨_, _, Sv_seq (Sv_seq (Sv_call (Av_i (Av_i (Av_nil) (Ev_iload_n dX7_needCell_0 rfl)) (Ev_getI Fx1 (Ev_getA Fx6 (Ev_getA Fx7 (Ev_aload_n dX7_needCell_1 rfl) (k := 0) (by decide) w384 dX7_needCell_2) (k := 0) (by decide) w124 dX7_needCell_5) (k := 0) (by decide) w45 dX7_needCell_8)) (Rn_S Y_X7_needIndex (k_X7_needIndex _ _) w563 w564 dX7_needCell_11 (Nat.le_of_ble_eq_true rfl) (Nat.le_of_ble_eq_true rfl) (Nat.le_of_ble_eq_true rfl) (Nat.ne_of_beq_eq_false rfl))) (Sv_call (Av_i (Av_i (Av_nil) (Ev_iload_n dX7_needCell_14 rfl)) (Ev_getI Fx1 (Ev_getA Fx6 (Ev_getA Fx7 (Ev_aload_n dX7_needCell_15 rfl) (k := 0) (by decide) w384 dX7_needCell_16) (k := 0) (by decide) w124 dX7_needCell_19) (k := 1) (by decide) w49 dX7_needCell_22)) (Rn_S Y_X7_needIndex (k_X7_needIndex _ _) w563 w564 dX7_needCell_25 (Nat.le_of_ble_eq_true rfl) (Nat.le_of_ble_eq_true rfl) (Nat.le_of_ble_eq_true rfl) (Nat.ne_of_beq_eq_false rfl)))) (Sv_retv hr dX7_needCell_28), Nat.le_of_ble_eq_true rfl, Nat.le_of_ble_eq_true rfl⟩)
theorem dX7_needState_0 : decode cX7_needState 0 = .ok (.iload_n 0, 1) := by decide +kernel
theorem dX7_needState_1 : decode cX7_needState 1 = .ok (.ifCond .ne 14, 3) := by decide +kernel
theorem dX7_needState_4 : decode cX7_needState 4 = .ok (.new 314, 3) := by decide +kernel
theorem dX7_needState_7 : decode cX7_needState 7 = .ok (.dup, 1) := by decide +kernel
theorem dX7_needState_8 : decode cX7_needState 8 = .ok (.ldc_w 316, 3) := by decide +kernel
theorem dX7_needState_11 : decode cX7_needState 11 = .ok (.invokespecial 318, 3) := by decide +kernel
theorem dX7_needState_14 : decode cX7_needState 14 = .ok (.athrow, 1) := by decide +kernel
theorem dX7_needState_15 : decode cX7_needState 15 = .ok (.return_, 1) := by decide +kernel
def f_X7_needState : MX := mth 1 (sQ (sIf (cNot (cZ z_ne (eLi 0))) (sX xS) sN) (sRv))
theorem Y_X7_needState : Yk yX7_needState cX7_needState 1 none 1 := ⟨w596, w1, by decide +kernel, by decide +kernel, by decide +kernel⟩
set_option maxRecDepth 20000 in
theorem k_X7_needState (l : Launch) (g : GE) : MetX l g yX7_needState cX7_needState 1 none 1 ({ frames := 6, cells := 1, slots := 6, locals := 82 } : Room) f_X7_needState := by
  unfold f_X7_needState
  exact MetX.of (own := RX7) 100 0 rfl (by decide +kernel) (by decide) (fun p e s m args below meth c Fin ad0 hr hn => ⟨_, _, Sv_seq (Sv_if (Cv_not (Cv_if_ne_j (Ev_iload_n dX7_needState_0 rfl) (t := 15) dX7_needState_1 (by decide))) (Sv_throw Xk_xS_314_318 (q := (316, "the call is not possible as things are")) (by decide) rfl dX7_needState_4 dX7_needState_7 dX7_needState_8 dX7_needState_11 dX7_needState_14 (Nat.le_of_ble_eq_true rfl) (Nat.le_of_ble_eq_true rfl) (Nat.ne_of_beq_eq_false rfl)) Sv_nop) (Sv_retv hr dX7_needState_15), Nat.le_of_ble_eq_true rfl, Nat.le_of_ble_eq_true rfl⟩)
theorem dX7_solid_0 : decode cX7_solid 0 = .ok (.iload_n 1, 1) := by decide +kernel
theorem dX7_solid_1 : decode cX7_solid 1 = .ok (.invokestatic 89, 3) := by decide +kernel
theorem dX7_solid_4 : decode cX7_solid 4 = .ok (.aload_n 0, 1) := by decide +kernel
theorem dX7_solid_5 : decode cX7_solid 5 = .ok (.iload_n 2, 1) := by decide +kernel
theorem dX7_solid_6 : decode cX7_solid 6 = .ok (.iload_n 3, 1) := by decide +kernel
theorem dX7_solid_7 : decode cX7_solid 7 = .ok (.invokevirtual 93, 3) := by decide +kernel
theorem dX7_solid_10 : decode cX7_solid 10 = .ok (.aload_n 0, 1) := by decide +kernel
theorem dX7_solid_11 : decode cX7_solid 11 = .ok (.getfield 12, 3) := by decide +kernel
theorem dX7_solid_14 : decode cX7_solid 14 = .ok (.getfield 96, 3) := by decide +kernel
theorem dX7_solid_17 : decode cX7_solid 17 = .ok (.iload_n 2, 1) := by decide +kernel
theorem dX7_solid_18 : decode cX7_solid 18 = .ok (.iload_n 3, 1) := by decide +kernel
theorem dX7_solid_19 : decode cX7_solid 19 = .ok (.invokevirtual 100, 3) := by decide +kernel
theorem dX7_solid_22 : decode cX7_solid 22 = .ok (.iconst (-1), 1) := by decide +kernel
theorem dX7_solid_23 : decode cX7_solid 23 = .ok (.if_icmp .ne 22, 3) := by decide +kernel
theorem dX7_solid_26 : decode cX7_solid 26 = .ok (.aload_n 0, 1) := by decide +kernel
theorem dX7_solid_27 : decode cX7_solid 27 = .ok (.getfield 12, 3) := by decide +kernel
theorem dX7_solid_30 : decode cX7_solid 30 = .ok (.getfield 96, 3) := by decide +kernel
theorem dX7_solid_33 : decode cX7_solid 33 = .ok (.iload_n 2, 1) := by decide +kernel
theorem dX7_solid_34 : decode cX7_solid 34 = .ok (.iload_n 3, 1) := by decide +kernel
theorem dX7_solid_35 : decode cX7_solid 35 = .ok (.invokevirtual 106, 3) := by decide +kernel
theorem dX7_solid_38 : decode cX7_solid 38 = .ok (.ifCond .ne 7, 3) := by decide +kernel
theorem dX7_solid_41 : decode cX7_solid 41 = .ok (.iconst 1, 1) := by decide +kernel
theorem dX7_solid_42 : decode cX7_solid 42 = .ok (.goto 4, 3) := by decide +kernel
theorem dX7_solid_45 : decode cX7_solid 45 = .ok (.iconst 0, 1) := by decide +kernel
theorem dX7_solid_46 : decode cX7_solid 46 = .ok (.invokestatic 109, 3) := by decide +kernel
theorem dX7_solid_49 : decode cX7_solid 49 = .ok (.aload_n 0, 1) := by decide +kernel
theorem dX7_solid_50 : decode cX7_solid 50 = .ok (.invokevirtual 82, 3) := by decide +kernel
theorem dX7_solid_53 : decode cX7_solid 53 = .ok (.aload_n 0, 1) := by decide +kernel
theorem dX7_solid_54 : decode cX7_solid 54 = .ok (.getfield 12, 3) := by decide +kernel
theorem dX7_solid_57 : decode cX7_solid 57 = .ok (.getfield 96, 3) := by decide +kernel
theorem dX7_solid_60 : decode cX7_solid 60 = .ok (.iload_n 1, 1) := by decide +kernel
theorem dX7_solid_61 : decode cX7_solid 61 = .ok (.iload_n 3, 1) := by decide +kernel
theorem dX7_solid_62 : decode cX7_solid 62 = .ok (.iconst 1, 1) := by decide +kernel
theorem dX7_solid_63 : decode cX7_solid 63 = .ok (.iload_n 2, 1) := by decide +kernel
theorem dX7_solid_64 : decode cX7_solid 64 = .ok (.ishl, 1) := by decide +kernel
theorem dX7_solid_65 : decode cX7_solid 65 = .ok (.invokevirtual 113, 3) := by decide +kernel
theorem dX7_solid_68 : decode cX7_solid 68 = .ok (.pop, 1) := by decide +kernel
theorem dX7_solid_69 : decode cX7_solid 69 = .ok (.aload_n 0, 1) := by decide +kernel
theorem dX7_solid_70 : decode cX7_solid 70 = .ok (.getfield 12, 3) := by decide +kernel
theorem dX7_solid_73 : decode cX7_solid 73 = .ok (.getfield 96, 3) := by decide +kernel
theorem dX7_solid_76 : decode cX7_solid 76 = .ok (.iload_n 1, 1) := by decide +kernel
theorem dX7_solid_77 : decode cX7_solid 77 = .ok (.invokevirtual 117, 3) := by decide +kernel
theorem dX7_solid_80 : decode cX7_solid 80 = .ok (.ireturn, 1) := by decide +kernel
def f_X7_solid : MX := mth 4 (sQ (sM (f_X7_needBody) (aI (aN) (eLi 1))) (sQ (sM (gd 7 f_X7_needCell) (aI (aI (aA (aN) (eLa 0)) (eLi 2)) (eLi 3))) (sQ (sM (f_X7_needState) (aI (aN) (eC (cAnd (cB c_eq (eM (gd 1 f_X1_bodyAt) (aI (aI (aA (aN) (eGa (eGa (eLa 0) 7 0) 6 0)) (eLi 2)) (eLi 3))) (eI (-1))) (cZ z_eq (eM (gd 1 f_X1_particlesAt) (aI (aI (aA (aN) (eGa (eGa (eLa 0) 7 0) 6 0)) (eLi 2)) (eLi 3)))))))) (sQ (sM (gd 7 f_X7_recordChange) (aA (aN) (eLa 0))) (sQ (sMp (gd 1 f_X1_harden) (aI (aI (aI (aA (aN) (eGa (eGa (eLa 0) 7 0) 6 0)) (eLi 1)) (eLi 3)) (eOp o_ishl (eI (1)) (eLi 2)))) (sR (eM (gd 1 f_X1_sizeOf) (aI (aA (aN) (eGa (eGa (eLa 0) 7 0) 6 0)) (eLi 1)))))))))
theorem Y_X7_solid : Yk yX7_solid cX7_solid 4 (some .int) 3 := ⟨w559, w1, by decide +kernel, by decide +kernel, by decide +kernel⟩
set_option maxRecDepth 20000 in
theorem k_X7_solid (l : Launch) (g : GE) : MetX l g yX7_solid cX7_solid 4 (some .int) 4 ({ frames := 8, cells := 4, slots := 24, locals := 125 } : Room) f_X7_solid := by
  unfold f_X7_solid
  exact MetX.of (own := RX7) 100 0 rfl (by decide +kernel) (by decide) (fun p e s m args below meth c Fin ad0 hr hn => ⟨_, _, Sv_seq (Sv_call (Av_i (Av_nil) (Ev_iload_n dX7_solid_0 rfl)) (Rn_S Y_X7_needBody (k_X7_needBody _ _) w560 w561 dX7_solid_1 (Nat.le_of_ble_eq_true rfl) (Nat.le_of_ble_eq_true rfl) (Nat.le_of_ble_eq_true rfl) (Nat.ne_of_beq_eq_false rfl))) (Sv_seq (Sv_call (Av_i (Av_i (Av_a (Av_nil) (Ev_aload_n dX7_solid_4 rfl)) (Ev_iload_n dX7_solid_5 rfl)) (Ev_iload_n dX7_solid_6 rfl)) (Rn_V (ci := 7) Fx7.1 rfl Y_X7_needCell (k_X7_needCell _ _) w582 w584 wp11 dX7_solid_7 (Nat.le_of_ble_eq_true rfl) (Nat.le_of_ble_eq_true rfl) (Nat.le_of_ble_eq_true rfl) (Nat.ne_of_beq_eq_false rfl))) (Sv_seq (Sv_call (Av_i (Av_nil) (Ev_if (pT := 46) (Cv_and (Cv_icmp_ne_n (Ev_call (Av_i (Av_i (Av_a (Av_nil) (Ev_getA Fx6 (Ev_getA Fx7 (Ev_aload_n dX7_solid_10 rfl) (k := 0) (by decide) w384 dX7_solid_11) (k := 0) (by decide) w124 dX7_solid_14)) (Ev_iload_n dX7_solid_17 rfl)) (Ev_iload_n dX7_solid_18 rfl)) (Rn_V (ci := 1) Fx1.1 rfl Y_X1_bodyAt (k_X1_bodyAt _ _) w586 w587 w588 dX7_solid_19 (Nat.le_of_ble_eq_true rfl) (Nat.le_of_ble_eq_true rfl) (Nat.le_of_ble_eq_true rfl) (Nat.ne_of_beq_eq_false rfl))) (Ev_iconst dX7_solid_22 (by decide)) (t := 45) dX7_solid_23 (by decide)) (Cv_if_ne_n (Ev_call (Av_i (Av_i (Av_a (Av_nil) (Ev_getA Fx6 (Ev_getA Fx7 (Ev_aload_n dX7_solid_26 rfl) (k := 0) (by decide) w384 dX7_solid_27) (k := 0) (by decide) w124 dX7_solid_30)) (Ev_iload_n dX7_solid_33 rfl)) (Ev_iload_n dX7_solid_34 rfl)) (Rn_V (ci := 1) Fx1.1 rfl Y_X1_particlesAt (k_X1_particlesAt _ _) w590 w591 w592 dX7_solid_35 (Nat.le_of_ble_eq_true rfl) (Nat.le_of_ble_eq_true rfl) (Nat.le_of_ble_eq_true rfl) (Nat.ne_of_beq_eq_false rfl))) (t := 45) dX7_solid_38 (by decide))) (Ev_iconst dX7_solid_41 (by decide)) dX7_solid_42 (by decide) (Ev_iconst dX7_solid_45 (by decide)))) (Rn_S Y_X7_needState (k_X7_needState _ _) w594 w595 dX7_solid_46 (Nat.le_of_ble_eq_true rfl) (Nat.le_of_ble_eq_true rfl) (Nat.le_of_ble_eq_true rfl) (Nat.ne_of_beq_eq_false rfl))) (Sv_seq (Sv_call (Av_a (Av_nil) (Ev_aload_n dX7_solid_49 rfl)) (Rn_V (ci := 7) Fx7.1 rfl Y_X7_recordChange (k_X7_recordChange _ _) w516 w518 wp10 dX7_solid_50 (Nat.le_of_ble_eq_true rfl) (Nat.le_of_ble_eq_true rfl) (Nat.le_of_ble_eq_true rfl) (Nat.ne_of_beq_eq_false rfl))) (Sv_seq (Sv_callp (Av_i (Av_i (Av_i (Av_a (Av_nil) (Ev_getA Fx6 (Ev_getA Fx7 (Ev_aload_n dX7_solid_53 rfl) (k := 0) (by decide) w384 dX7_solid_54) (k := 0) (by decide) w124 dX7_solid_57)) (Ev_iload_n dX7_solid_60 rfl)) (Ev_iload_n dX7_solid_61 rfl)) (Ev_ishl (Ev_iconst dX7_solid_62 (by decide)) (Ev_iload_n dX7_solid_63 rfl) dX7_solid_64)) (Rn_V (ci := 1) Fx1.1 rfl Y_X1_harden (k_X1_harden _ _) w613 w614 w615 dX7_solid_65 (Nat.le_of_ble_eq_true rfl) (Nat.le_of_ble_eq_true rfl) (Nat.le_of_ble_eq_true rfl) (Nat.ne_of_beq_eq_false rfl)) dX7_solid_68) (Sv_ret (Ev_call (Av_i (Av_a (Av_nil) (Ev_getA Fx6 (Ev_getA Fx7 (Ev_aload_n dX7_solid_69 rfl) (k := 0) (by decide) w384 dX7_solid_70) (k := 0) (by decide) w124 dX7_solid_73)) (Ev_iload_n dX7_solid_76 rfl)) (Rn_V (ci := 1) Fx1.1 rfl Y_X1_sizeOf (k_X1_sizeOf _ _) w626 w627 w628 dX7_solid_77 (Nat.le_of_ble_eq_true rfl) (Nat.le_of_ble_eq_true rfl) (Nat.le_of_ble_eq_true rfl) (Nat.ne_of_beq_eq_false rfl))) hr dX7_solid_80))))), Nat.le_of_ble_eq_true rfl, Nat.le_of_ble_eq_true rfl⟩)
theorem dX7_needCells_0 : decode cX7_needCells 0 = .ok (.aload_n 0, 1) := by decide +kernel
theorem dX7_needCells_1 : decode cX7_needCells 1 = .ok (.iload_n 1, 1) := by decide +kernel
theorem dX7_needCells_2 : decode cX7_needCells 2 = .ok (.iload_n 2, 1) := by decide +kernel
theorem dX7_needCells_3 : decode cX7_needCells 3 = .ok (.invokevirtual 93, 3) := by decide +kernel
theorem dX7_needCells_6 : decode cX7_needCells 6 = .ok (.aload_n 0, 1) := by decide +kernel
theorem dX7_needCells_7 : decode cX7_needCells 7 = .ok (.iload_n 3, 1) := by decide +kernel
theorem dX7_needCells_8 : decode cX7_needCells 8 = .ok (.iload 4, 2) := by decide +kernel
theorem dX7_needCells_10 : decode cX7_needCells 10 = .ok (.invokevirtual 93, 3) := by decide +kernel
theorem dX7_needCells_13 : decode cX7_needCells 13 = .ok (.return_, 1) := by decide +kernel
def f_X7_needCells : MX := mth 5 (sQ (sQ (sM (gd 7 f_X7_needCell) (aI (aI (aA (aN) (eLa 0)) (eLi 1)) (eLi 2))) (sM (gd 7 f_X7_needCell) (aI (aI (aA (aN) (eLa 0)) (eLi 3)) (eLi 4)))) (sRv))
theorem Y_X7_needCells : Yk yX7_needCells cX7_needCells 5 none 4 := ⟨w640, w1, by decide +kernel, by decide +kernel, by decide +kernel⟩
set_option maxRecDepth 20000 in
theorem k_X7_needCells (l : Launch) (g : GE) : MetX l g yX7_needCells cX7_needCells 5 none 5 ({ frames := 8, cells := 4, slots := 24, locals := 125 } : Room) f_X7_needCells := by
  unfold f_X7_needCells
  exact MetX.of (own := RX7) 100 0 rfl (by decide +kernel) (by decide) (fun p e s m args below meth c Fin ad0 hr hn => ⟨_, _, Sv_seq (Sv_seq (Sv_call (Av_i (Av_i (Av_a (Av_nil) (Ev_aload_n dX7_needCells_0 rfl)) (Ev_iload_n dX7_needCells_1 rfl)) (Ev_iload_n dX7_needCells_2 rfl)) (Rn_V (ci := 7) Fx7.1 rfl Y_X7_needCell (k_X7_needCell _ _) w582 w584 wp11 dX7_needCells_3 (Nat.le_of_ble_eq_true rfl) (Nat.le_of_ble_eq_true rfl) (Nat.le_of_ble_eq_true rfl) (Nat.ne_of_beq_eq_false rfl))) (Sv_call (Av_i (Av_i (Av_a (Av_nil) (Ev_aload_n dX7_needCells_6 rfl)) (Ev_iload_n dX7_needCells_7 rfl)) (Ev_iload dX7_needCells_8)) (Rn_V (ci := 7) Fx7.1 rfl Y_X7_needCell (k_X7_needCell _ _) w582 w584 wp11 dX7_needCells_10 (Nat.le_of_ble_eq_true rfl) (Nat.le_of_ble_eq_true rfl) (Nat.le_of_ble_eq_true rfl) (Nat.ne_of_beq_eq_false rfl)))) (Sv_retv hr dX7_needCells_13), Nat.le_of_ble_eq_true rfl, Nat.le_of_ble_eq_true rfl⟩)
theorem dX7_needOrder_0 : decode cX7_needOrder 0 = .ok (.iload_n 2, 1) := by decide +kernel
theorem dX7_needOrder_1 : decode cX7_needOrder 1 = .ok (.iload_n 0, 1) := by decide +kernel
theorem dX7_needOrder_2 : decode cX7_needOrder 2 = .ok (.if_icmp .lt 8, 3) := by decide +kernel
theorem dX7_needOrder_5 : decode cX7_needOrder 5 = .ok (.iload_n 3, 1) := by decide +kernel
theorem dX7_needOrder_6 : decode cX7_needOrder 6 = .ok (.iload_n 1, 1) := by decide +kernel
theorem dX7_needOrder_7 : decode cX7_needOrder 7 = .ok (.if_icmp .ge 14, 3) := by decide +kernel
theorem dX7_needOrder_10 : decode cX7_needOrder 10 = .ok (.new 307, 3) := by decide +kernel
theorem dX7_needOrder_13 : decode cX7_needOrder 13 = .ok (.dup, 1) := by decide +kernel
theorem dX7_needOrder_14 : decode cX7_needOrder 14 = .ok (.ldc_w 312, 3) := by decide +kernel
theorem dX7_needOrder_17 : decode cX7_needOrder 17 = .ok (.invokespecial 311, 3) := by decide +kernel
theorem dX7_needOrder_20 : decode cX7_needOrder 20 = .ok (.athrow, 1) := by decide +kernel
theorem dX7_needOrder_21 : decode cX7_needOrder 21 = .ok (.return_, 1) := by decide +kernel
def f_X7_needOrder : MX := mth 4 (sQ (sIf (cOr (cB c_lt (eLi 2) (eLi 0)) (cB c_lt (eLi 3) (eLi 1))) (sX xA) sN) (sRv))
theorem Y_X7_needOrder : Yk yX7_needOrder cX7_needOrder 4 none 4 := ⟨w643, w1, by decide +kernel, by decide +kernel, by decide +kernel⟩
set_option maxRecDepth 20000 in
theorem k_X7_needOrder (l : Launch) (g : GE) : MetX l g yX7_needOrder cX7_needOrder 4 none 4 ({ frames := 6, cells := 1, slots := 6, locals := 82 } : Room) f_X7_needOrder := by
  unfold f_X7_needOrder
  exact MetX.of (own := RX7) 100 0 rfl (by decide +kernel) (by decide) (fun p e s m args below meth c Fin ad0 hr hn => ⟨_, _, Sv_seq (Sv_if (Cv_or (Cv_icmp_lt_j (Ev_iload_n dX7_needOrder_0 rfl) (Ev_iload_n dX7_needOrder_1 rfl) (t := 10) dX7_needOrder_2 (by decide)) (Cv_icmp_ge_n (Ev_iload_n dX7_needOrder_5 rfl) (Ev_iload_n dX7_needOrder_6 rfl) (t := 21) dX7_needOrder_7 (by decide))) (Sv_throw Xk_xA_307_311 (q := (312, "a second column or row is less than the first one")) (by decide) rfl dX7_needOrder_10 dX7_needOrder_13 dX7_needOrder_14 dX7_needOrder_17 dX7_needOrder_20 (Nat.le_of_ble_eq_true rfl) (Nat.le_of_ble_eq_true rfl) (Nat.ne_of_beq_eq_false rfl)) Sv_nop) (Sv_retv hr dX7_needOrder_21), Nat.le_of_ble_eq_true rfl, Nat.le_of_ble_eq_true rfl⟩)
theorem dX7_block_0 : decode cX7_block 0 = .ok (.iload_n 1, 1) := by decide +kernel
theorem dX7_block_1 : decode cX7_block 1 = .ok (.invokestatic 89, 3) := by decide +kernel
theorem dX7_block_4 : decode cX7_block 4 = .ok (.aload_n 0, 1) := by decide +kernel
theorem dX7_block_5 : decode cX7_block 5 = .ok (.iload_n 2, 1) := by decide +kernel
theorem dX7_block_6 : decode cX7_block 6 = .ok (.iload_n 3, 1) := by decide +kernel
theorem dX7_block_7 : decode cX7_block 7 = .ok (.iload 4, 2) := by decide +kernel
theorem dX7_block_9 : decode cX7_block 9 = .ok (.iload 5, 2) := by decide +kernel
theorem dX7_block_11 : decode cX7_block 11 = .ok (.invokevirtual 121, 3) := by decide +kernel
theorem dX7_block_14 : decode cX7_block 14 = .ok (.iload_n 2, 1) := by decide +kernel
theorem dX7_block_15 : decode cX7_block 15 = .ok (.iload_n 3, 1) := by decide +kernel
theorem dX7_block_16 : decode cX7_block 16 = .ok (.iload 4, 2) := by decide +kernel
theorem dX7_block_18 : decode cX7_block 18 = .ok (.iload 5, 2) := by decide +kernel
theorem dX7_block_20 : decode cX7_block 20 = .ok (.invokestatic 125, 3) := by decide +kernel
theorem dX7_block_23 : decode cX7_block 23 = .ok (.aload_n 0, 1) := by decide +kernel
theorem dX7_block_24 : decode cX7_block 24 = .ok (.invokevirtual 82, 3) := by decide +kernel
theorem dX7_block_27 : decode cX7_block 27 = .ok (.iload_n 2, 1) := by decide +kernel
theorem dX7_block_28 : decode cX7_block 28 = .ok (.iload 4, 2) := by decide +kernel
theorem dX7_block_30 : decode cX7_block 30 = .ok (.invokestatic 128, 3) := by decide +kernel
theorem dX7_block_33 : decode cX7_block 33 = .ok (.istore 6, 2) := by decide +kernel
theorem dX7_block_35 : decode cX7_block 35 = .ok (.iconst 0, 1) := by decide +kernel
theorem dX7_block_36 : decode cX7_block 36 = .ok (.istore 7, 2) := by decide +kernel
theorem dX7_block_38 : decode cX7_block 38 = .ok (.iload_n 3, 1) := by decide +kernel
theorem dX7_block_39 : decode cX7_block 39 = .ok (.istore 8, 2) := by decide +kernel
theorem dX7_block_41 : decode cX7_block 41 = .ok (.iload 8, 2) := by decide +kernel
theorem dX7_block_43 : decode cX7_block 43 = .ok (.iload 5, 2) := by decide +kernel
theorem dX7_block_45 : decode cX7_block 45 = .ok (.if_icmp .gt 29, 3) := by decide +kernel
theorem dX7_block_48 : decode cX7_block 48 = .ok (.iload 7, 2) := by decide +kernel
theorem dX7_block_50 : decode cX7_block 50 = .ok (.aload_n 0, 1) := by decide +kernel
theorem dX7_block_51 : decode cX7_block 51 = .ok (.getfield 12, 3) := by decide +kernel
theorem dX7_block_54 : decode cX7_block 54 = .ok (.getfield 96, 3) := by decide +kernel
theorem dX7_block_57 : decode cX7_block 57 = .ok (.iload_n 1, 1) := by decide +kernel
theorem dX7_block_58 : decode cX7_block 58 = .ok (.iload 8, 2) := by decide +kernel
theorem dX7_block_60 : decode cX7_block 60 = .ok (.iload 6, 2) := by decide +kernel
theorem dX7_block_62 : decode cX7_block 62 = .ok (.invokevirtual 113, 3) := by decide +kernel
theorem dX7_block_65 : decode cX7_block 65 = .ok (.iadd, 1) := by decide +kernel
theorem dX7_block_66 : decode cX7_block 66 = .ok (.istore 7, 2) := by decide +kernel
theorem dX7_block_68 : decode cX7_block 68 = .ok (.iinc 8 1, 3) := by decide +kernel
theorem dX7_block_71 : decode cX7_block 71 = .ok (.goto (-30), 3) := by decide +kernel
theorem dX7_block_74 : decode cX7_block 74 = .ok (.iload 7, 2) := by decide +kernel
theorem dX7_block_76 : decode cX7_block 76 = .ok (.ireturn, 1) := by decide +kernel
def f_X7_block : MX := mth 9 (sQ (sM (f_X7_needBody) (aI (aN) (eLi 1))) (sQ (sM (gd 7 f_X7_needCells) (aI (aI (aI (aI (aA (aN) (eLa 0)) (eLi 2)) (eLi 3)) (eLi 4)) (eLi 5))) (sQ (sM (f_X7_needOrder) (aI (aI (aI (aI (aN) (eLi 2)) (eLi 3)) (eLi 4)) (eLi 5))) (sQ (sM (gd 7 f_X7_recordChange) (aA (aN) (eLa 0))) (sQ (sTi 6 (eM (f_X7_columnsBetween) (aI (aI (aN) (eLi 2)) (eLi 4)))) (sQ (sTi 7 (eI (0))) (sQ (sQ (sTi 8 (eLi 3)) (sLp (cB c_le (eLi 8) (eLi 5)) (sQ (sTi 7 (eOp o_iadd (eLi 7) (eM (gd 1 f_X1_harden) (aI (aI (aI (aA (aN) (eGa (eGa (eLa 0) 7 0) 6 0)) (eLi 1)) (eLi 8)) (eLi 6))))) (sInc 8 (1))) NF)) (sR (eLi 7)))))))))
theorem Y_X7_block : Yk yX7_block cX7_block 9 (some .int) 5 := ⟨w636, w1, by decide +kernel, by decide +kernel, by decide +kernel⟩
set_option maxRecDepth 20000 in
theorem k_X7_block (l : Launch) (g : GE) : MetX l g yX7_block cX7_block 9 (some .int) 6 ({ frames := 9, cells := 6, slots := 36, locals := 149 } : Room) f_X7_block := by
  unfold f_X7_block
  exact MetX.of (own := RX7) 100 0 rfl (by decide +kernel) (by decide) (fun p e s m args below meth c Fin ad0 hr hn => ⟨_, _, Sv_seq (Sv_call (Av_i (Av_nil) (Ev_iload_n dX7_block_0 rfl)) (Rn_S Y_X7_needBody (k_X7_needBody _ _) w560 w561 dX7_block_1 (Nat.le_of_ble_eq_true rfl) (Nat.le_of_ble_eq_true rfl) (Nat.le_of_ble_eq_true rfl) (Nat.ne_of_beq_eq_false rfl))) (Sv_seq (Sv_call (Av_i (Av_i (Av_i (Av_i (Av_a (Av_nil) (Ev_aload_n dX7_block_4 rfl)) (Ev_iload_n dX7_block_5 rfl)) (Ev_iload_n dX7_block_6 rfl)) (Ev_iload dX7_block_7)) (Ev_iload dX7_block_9)) (Rn_V (ci := 7) Fx7.1 rfl Y_X7_needCells (k_X7_needCells _ _) w637 w639 wp12 dX7_block_11 (Nat.le_of_ble_eq_true rfl) (Nat.le_of_ble_eq_true rfl) (Nat.le_of_ble_eq_true rfl) (Nat.ne_of_beq_eq_false rfl))) (Sv_seq (Sv_call (Av_i (Av_i (Av_i (Av_i (Av_nil) (Ev_iload_n dX7_block_14 rfl)) (Ev_iload_n dX7_block_15 rfl)) (Ev_iload dX7_block_16)) (Ev_iload dX7_block_18)) (Rn_S Y_X7_needOrder (k_X7_needOrder _ _) w641 w642 dX7_block_20 (Nat.le_of_ble_eq_true rfl) (Nat.le_of_ble_eq_true rfl) (Nat.le_of_ble_eq_true rfl) (Nat.ne_of_beq_eq_false rfl))) (Sv_seq (Sv_call (Av_a (Av_nil) (Ev_aload_n dX7_block_23 rfl)) (Rn_V (ci := 7) Fx7.1 rfl Y_X7_recordChange (k_X7_recordChange _ _) w516 w518 wp10 dX7_block_24 (Nat.le_of_ble_eq_true rfl) (Nat.le_of_ble_eq_true rfl) (Nat.le_of_ble_eq_true rfl) (Nat.ne_of_beq_eq_false rfl))) (Sv_seq (Sv_istore (Ev_call (Av_i (Av_i (Av_nil) (Ev_iload_n dX7_block_27 rfl)) (Ev_iload dX7_block_28)) (Rn_S Y_X7_columnsBetween (k_X7_columnsBetween _ _) w645 w254 dX7_block_30 (Nat.le_of_ble_eq_true rfl) (Nat.le_of_ble_eq_true rfl) (Nat.le_of_ble_eq_true rfl) (Nat.ne_of_beq_eq_false rfl))) dX7_block_33 (Nat.le_of_ble_eq_true rfl) (Nat.ne_of_beq_eq_false rfl)) (Sv_seq (Sv_istore (Ev_iconst dX7_block_35 (by decide)) dX7_block_36 (Nat.le_of_ble_eq_true rfl) (Nat.ne_of_beq_eq_false rfl)) (Sv_seq (Sv_seq (Sv_istore (Ev_iload_n dX7_block_38 rfl) dX7_block_39 (Nat.le_of_ble_eq_true rfl) (Nat.ne_of_beq_eq_false rfl)) (Sv_loop0 NF (Cv_icmp_gt_n (Ev_iload dX7_block_41) (Ev_iload dX7_block_43) (t := 74) dX7_block_45 (by decide)) (Sv_goto (pE := 41) (Sv_seq (Sv_istore (Ev_iadd (Ev_iload dX7_block_48) (Ev_call (Av_i (Av_i (Av_i (Av_a (Av_nil) (Ev_getA Fx6 (Ev_getA Fx7 (Ev_aload_n dX7_block_50 rfl) (k := 0) (by decide) w384 dX7_block_51) (k := 0) (by decide) w124 dX7_block_54)) (Ev_iload_n dX7_block_57 rfl)) (Ev_iload dX7_block_58)) (Ev_iload dX7_block_60)) (Rn_V (ci := 1) Fx1.1 rfl Y_X1_harden (k_X1_harden _ _) w613 w614 w615 dX7_block_62 (Nat.le_of_ble_eq_true rfl) (Nat.le_of_ble_eq_true rfl) (Nat.le_of_ble_eq_true rfl) (Nat.ne_of_beq_eq_false rfl))) dX7_block_65) dX7_block_66 (Nat.le_of_ble_eq_true rfl) (Nat.ne_of_beq_eq_false rfl)) (Sv_iinc dX7_block_68 (by decide) (Nat.le_of_ble_eq_true rfl) (Nat.ne_of_beq_eq_false rfl))) dX7_block_71 (by decide)))) (Sv_ret (Ev_iload dX7_block_74) hr dX7_block_76))))))), Nat.le_of_ble_eq_true rfl, Nat.le_of_ble_eq_true rfl⟩)
theorem dX7_clear_0 : decode cX7_clear 0 = .ok (.aload_n 0, 1) := by decide +kernel
theorem dX7_clear_1 : decode cX7_clear 1 = .ok (.iload_n 1, 1) := by decide +kernel
theorem dX7_clear_2 : decode cX7_clear 2 = .ok (.iload_n 2, 1) := by decide +kernel
theorem dX7_clear_3 : decode cX7_clear 3 = .ok (.invokevirtual 93, 3) := by decide +kernel
theorem dX7_clear_6 : decode cX7_clear 6 = .ok (.aload_n 0, 1) := by decide +kernel
theorem dX7_clear_7 : decode cX7_clear 7 = .ok (.getfield 12, 3) := by decide +kernel
theorem dX7_clear_10 : decode cX7_clear 10 = .ok (.getfield 96, 3) := by decide +kernel
theorem dX7_clear_13 : decode cX7_clear 13 = .ok (.iload_n 1, 1) := by decide +kernel
theorem dX7_clear_14 : decode cX7_clear 14 = .ok (.iload_n 2, 1) := by decide +kernel
theorem dX7_clear_15 : decode cX7_clear 15 = .ok (.invokevirtual 100, 3) := by decide +kernel
theorem dX7_clear_18 : decode cX7_clear 18 = .ok (.istore_n 3, 1) := by decide +kernel
theorem dX7_clear_19 : decode cX7_clear 19 = .ok (.iload_n 3, 1) := by decide +kernel
theorem dX7_clear_20 : decode cX7_clear 20 = .ok (.iconst (-1), 1) := by decide +kernel
theorem dX7_clear_21 : decode cX7_clear 21 = .ok (.if_icmp .eq 7, 3) := by decide +kernel
theorem dX7_clear_24 : decode cX7_clear 24 = .ok (.iconst 1, 1) := by decide +kernel
theorem dX7_clear_25 : decode cX7_clear 25 = .ok (.goto 4, 3) := by decide +kernel
theorem dX7_clear_28 : decode cX7_clear 28 = .ok (.iconst 0, 1) := by decide +kernel
theorem dX7_clear_29 : decode cX7_clear 29 = .ok (.invokestatic 109, 3) := by decide +kernel
theorem dX7_clear_32 : decode cX7_clear 32 = .ok (.aload_n 0, 1) := by decide +kernel
theorem dX7_clear_33 : decode cX7_clear 33 = .ok (.invokevirtual 82, 3) := by decide +kernel
theorem dX7_clear_36 : decode cX7_clear 36 = .ok (.aload_n 0, 1) := by decide +kernel
theorem dX7_clear_37 : decode cX7_clear 37 = .ok (.getfield 12, 3) := by decide +kernel
theorem dX7_clear_40 : decode cX7_clear 40 = .ok (.getfield 96, 3) := by decide +kernel
theorem dX7_clear_43 : decode cX7_clear 43 = .ok (.iload_n 3, 1) := by decide +kernel
theorem dX7_clear_44 : decode cX7_clear 44 = .ok (.iload_n 1, 1) := by decide +kernel
theorem dX7_clear_45 : decode cX7_clear 45 = .ok (.iload_n 2, 1) := by decide +kernel
theorem dX7_clear_46 : decode cX7_clear 46 = .ok (.invokevirtual 131, 3) := by decide +kernel
theorem dX7_clear_49 : decode cX7_clear 49 = .ok (.iload_n 3, 1) := by decide +kernel
theorem dX7_clear_50 : decode cX7_clear 50 = .ok (.ireturn, 1) := by decide +kernel
def f_X7_clear : MX := mth 4 (sQ (sM (gd 7 f_X7_needCell) (aI (aI (aA (aN) (eLa 0)) (eLi 1)) (eLi 2))) (sQ (sTi 3 (eM (gd 1 f_X1_bodyAt) (aI (aI (aA (aN) (eGa (eGa (eLa 0) 7 0) 6 0)) (eLi 1)) (eLi 2)))) (sQ (sM (f_X7_needState) (aI (aN) (eC (cB c_ne (eLi 3) (eI (-1)))))) (sQ (sM (gd 7 f_X7_recordChange) (aA (aN) (eLa 0))) (sQ (sM (gd 1 f_X1_soften) (aI (aI (aI (aA (aN) (eGa (eGa (eLa 0) 7 0) 6 0)) (eLi 3)) (eLi 1)) (eLi 2))) (sR (eLi 3)))))))
theorem Y_X7_clear : Yk yX7_clear cX7_clear 4 (some .int) 2 := ⟨w652, w1, by decide +kernel, by decide +kernel, by decide +kernel⟩
set_option maxRecDepth 20000 in
theorem k_X7_clear (l : Launch) (g : GE) : MetX l g yX7_clear cX7_clear 4 (some .int) 3 ({ frames := 8, cells := 3, slots := 18, locals := 125 } : Room) f_X7_clear := by
  unfold f_X7_clear
  exact MetX.of (own := RX7) 100 0 rfl (by decide +kernel) (by decide) (fun p e s m args below meth c Fin ad0 hr hn => ⟨_, _, Sv_seq (Sv_call (Av_i (Av_i (Av_a (Av_nil) (Ev_aload_n dX7_clear_0 rfl)) (Ev_iload_n dX7_clear_1 rfl)) (Ev_iload_n dX7_clear_2 rfl)) (Rn_V (ci := 7) Fx7.1 rfl Y_X7_needCell (k_X7_needCell _ _) w582 w584 wp11 dX7_clear_3 (Nat.le_of_ble_eq_true rfl) (Nat.le_of_ble_eq_true rfl) (Nat.le_of_ble_eq_true rfl) (Nat.ne_of_beq_eq_false rfl))) (Sv_seq (Sv_istore_n (Ev_call (Av_i (Av_i (Av_a (Av_nil) (Ev_getA Fx6 (Ev_getA Fx7 (Ev_aload_n dX7_clear_6 rfl) (k := 0) (by decide) w384 dX7_clear_7) (k := 0) (by decide) w124 dX7_clear_10)) (Ev_iload_n dX7_clear_13 rfl)) (Ev_iload_n dX7_clear_14 rfl)) (Rn_V (ci := 1) Fx1.1 rfl Y_X1_bodyAt (k_X1_bodyAt _ _) w586 w587 w588 dX7_clear_15 (Nat.le_of_ble_eq_true rfl) (Nat.le_of_ble_eq_true rfl) (Nat.le_of_ble_eq_true rfl) (Nat.ne_of_beq_eq_false rfl))) dX7_clear_18 rfl (Nat.le_of_ble_eq_true rfl) (Nat.ne_of_beq_eq_false rfl)) (Sv_seq (Sv_call (Av_i (Av_nil) (Ev_if (pT := 29) (Cv_icmp_eq_n (Ev_iload_n dX7_clear_19 rfl) (Ev_iconst dX7_clear_20 (by decide)) (t := 28) dX7_clear_21 (by decide)) (Ev_iconst dX7_clear_24 (by decide)) dX7_clear_25 (by decide) (Ev_iconst dX7_clear_28 (by decide)))) (Rn_S Y_X7_needState (k_X7_needState _ _) w594 w595 dX7_clear_29 (Nat.le_of_ble_eq_true rfl) (Nat.le_of_ble_eq_true rfl) (Nat.le_of_ble_eq_true rfl) (Nat.ne_of_beq_eq_false rfl))) (Sv_seq (Sv_call (Av_a (Av_nil) (Ev_aload_n dX7_clear_32 rfl)) (Rn_V (ci := 7) Fx7.1 rfl Y_X7_recordChange (k_X7_recordChange _ _) w516 w518 wp10 dX7_clear_33 (Nat.le_of_ble_eq_true rfl) (Nat.le_of_ble_eq_true rfl) (Nat.le_of_ble_eq_true rfl) (Nat.ne_of_beq_eq_false rfl))) (Sv_seq (Sv_call (Av_i (Av_i (Av_i (Av_a (Av_nil) (Ev_getA Fx6 (Ev_getA Fx7 (Ev_aload_n dX7_clear_36 rfl) (k := 0) (by decide) w384 dX7_clear_37) (k := 0) (by decide) w124 dX7_clear_40)) (Ev_iload_n dX7_clear_43 rfl)) (Ev_iload_n dX7_clear_44 rfl)) (Ev_iload_n dX7_clear_45 rfl)) (Rn_V (ci := 1) Fx1.1 rfl Y_X1_soften (k_X1_soften _ _) w653 w654 w655 dX7_clear_46 (Nat.le_of_ble_eq_true rfl) (Nat.le_of_ble_eq_true rfl) (Nat.le_of_ble_eq_true rfl) (Nat.ne_of_beq_eq_false rfl))) (Sv_ret (Ev_iload_n dX7_clear_49 rfl) hr dX7_clear_50))))), Nat.le_of_ble_eq_true rfl, Nat.le_of_ble_eq_true rfl⟩)
theorem dX7_shift_0 : decode cX7_shift 0 = .ok (.iload_n 1, 1) := by decide +kernel
theorem dX7_shift_1 : decode cX7_shift 1 = .ok (.invokestatic 89, 3) := by decide +kernel
theorem dX7_shift_4 : decode cX7_shift 4 = .ok (.iload_n 2, 1) := by decide +kernel
theorem dX7_shift_5 : decode cX7_shift 5 = .ok (.bipush (-8), 2) := by decide +kernel
theorem dX7_shift_7 : decode cX7_shift 7 = .ok (.bipush 8, 2) := by decide +kernel
theorem dX7_shift_9 : decode cX7_shift 9 = .ok (.invokestatic 78, 3) := by decide +kernel
theorem dX7_shift_12 : decode cX7_shift 12 = .ok (.iload_n 3, 1) := by decide +kernel
theorem dX7_shift_13 : decode cX7_shift 13 = .ok (.bipush (-8), 2) := by decide +kernel
theorem dX7_shift_15 : decode cX7_shift 15 = .ok (.bipush 8, 2) := by decide +kernel
theorem dX7_shift_17 : decode cX7_shift 17 = .ok (.invokestatic 78, 3) := by decide +kernel
theorem dX7_shift_20 : decode cX7_shift 20 = .ok (.aload_n 0, 1) := by decide +kernel
theorem dX7_shift_21 : decode cX7_shift 21 = .ok (.getfield 12, 3) := by decide +kernel
theorem dX7_shift_24 : decode cX7_shift 24 = .ok (.getfield 96, 3) := by decide +kernel
theorem dX7_shift_27 : decode cX7_shift 27 = .ok (.iload_n 1, 1) := by decide +kernel
theorem dX7_shift_28 : decode cX7_shift 28 = .ok (.iload_n 2, 1) := by decide +kernel
theorem dX7_shift_29 : decode cX7_shift 29 = .ok (.iload_n 3, 1) := by decide +kernel
theorem dX7_shift_30 : decode cX7_shift 30 = .ok (.invokevirtual 134, 3) := by decide +kernel
theorem dX7_shift_33 : decode cX7_shift 33 = .ok (.invokestatic 109, 3) := by decide +kernel
theorem dX7_shift_36 : decode cX7_shift 36 = .ok (.aload_n 0, 1) := by decide +kernel
theorem dX7_shift_37 : decode cX7_shift 37 = .ok (.invokevirtual 82, 3) := by decide +kernel
theorem dX7_shift_40 : decode cX7_shift 40 = .ok (.aload_n 0, 1) := by decide +kernel
theorem dX7_shift_41 : decode cX7_shift 41 = .ok (.getfield 12, 3) := by decide +kernel
theorem dX7_shift_44 : decode cX7_shift 44 = .ok (.getfield 96, 3) := by decide +kernel
theorem dX7_shift_47 : decode cX7_shift 47 = .ok (.iload_n 1, 1) := by decide +kernel
theorem dX7_shift_48 : decode cX7_shift 48 = .ok (.iload_n 2, 1) := by decide +kernel
theorem dX7_shift_49 : decode cX7_shift 49 = .ok (.iload_n 3, 1) := by decide +kernel
theorem dX7_shift_50 : decode cX7_shift 50 = .ok (.invokevirtual 138, 3) := by decide +kernel
theorem dX7_shift_53 : decode cX7_shift 53 = .ok (.aload_n 0, 1) := by decide +kernel
theorem dX7_shift_54 : decode cX7_shift 54 = .ok (.getfield 12, 3) := by decide +kernel
theorem dX7_shift_57 : decode cX7_shift 57 = .ok (.getfield 96, 3) := by decide +kernel
theorem dX7_shift_60 : decode cX7_shift 60 = .ok (.iload_n 1, 1) := by decide +kernel
theorem dX7_shift_61 : decode cX7_shift 61 = .ok (.invokevirtual 117, 3) := by decide +kernel
theorem dX7_shift_64 : decode cX7_shift 64 = .ok (.ireturn, 1) := by decide +kernel
def f_X7_shift : MX := mth 4 (sQ (sM (f_X7_needBody) (aI (aN) (eLi 1))) (sQ (sM (f_X7_needRange) (aI (aI (aI (aN) (eLi 2)) (eI (-8))) (eI (8)))) (sQ (sM (f_X7_needRange) (aI (aI (aI (aN) (eLi 3)) (eI (-8))) (eI (8)))) (sQ (sM (f_X7_needState) (aI (aN) (eM (gd 1 f_X1_canMoveBody) (aI (aI (aI (aA (aN) (eGa (eGa (eLa 0) 7 0) 6 0)) (eLi 1)) (eLi 2)) (eLi 3))))) (sQ (sM (gd 7 f_X7_recordChange) (aA (aN) (eLa 0))) (sQ (sM (gd 1 f_X1_moveBody) (aI (aI (aI (aA (aN) (eGa (eGa (eLa 0) 7 0) 6 0)) (eLi 1)) (eLi 2)) (eLi 3))) (sR (eM (gd 1 f_X1_sizeOf) (aI (aA (aN) (eGa (eGa (eLa 0) 7 0) 6 0)) (eLi 1))))))))))
theorem Y_X7_shift : Yk yX7_shift cX7_shift 4 (some .int) 3 := ⟨w663, w1, by decide +kernel, by decide +kernel, by decide +kernel⟩
set_option maxRecDepth 20000 in
theorem k_X7_shift (l : Launch) (g : GE) : MetX l g yX7_shift cX7_shift 4 (some .int) 4 ({ frames := 8, cells := 4, slots := 24, locals := 123 } : Room) f_X7_shift := by
  unfold f_X7_shift
  exact MetX.of (own := RX7) 100 0 rfl (by decide +kernel) (by decide) (fun p e s m args below meth c Fin ad0 hr hn => ⟨_, _, Sv_seq (Sv_call (Av_i (Av_nil) (Ev_iload_n dX7_shift_0 rfl)) (Rn_S Y_X7_needBody (k_X7_needBody _ _) w560 w561 dX7_shift_1 (Nat.le_of_ble_eq_true rfl) (Nat.le_of_ble_eq_true rfl) (Nat.le_of_ble_eq_true rfl) (Nat.ne_of_beq_eq_false rfl))) (Sv_seq (Sv_call (Av_i (Av_i (Av_i (Av_nil) (Ev_iload_n dX7_shift_4 rfl)) (Ev_bipush dX7_shift_5 (by decide))) (Ev_bipush dX7_shift_7 (by decide))) (Rn_S Y_X7_needRange (k_X7_needRange _ _) w446 w447 dX7_shift_9 (Nat.le_of_ble_eq_true rfl) (Nat.le_of_ble_eq_true rfl) (Nat.le_of_ble_eq_true rfl) (Nat.ne_of_beq_eq_false rfl))) (Sv_seq (Sv_call (Av_i (Av_i (Av_i (Av_nil) (Ev_iload_n dX7_shift_12 rfl)) (Ev_bipush dX7_shift_13 (by decide))) (Ev_bipush dX7_shift_15 (by decide))) (Rn_S Y_X7_needRange (k_X7_needRange _ _) w446 w447 dX7_shift_17 (Nat.le_of_ble_eq_true rfl) (Nat.le_of_ble_eq_true rfl) (Nat.le_of_ble_eq_true rfl) (Nat.ne_of_beq_eq_false rfl))) (Sv_seq (Sv_call (Av_i (Av_nil) (Ev_call (Av_i (Av_i (Av_i (Av_a (Av_nil) (Ev_getA Fx6 (Ev_getA Fx7 (Ev_aload_n dX7_shift_20 rfl) (k := 0) (by decide) w384 dX7_shift_21) (k := 0) (by decide) w124 dX7_shift_24)) (Ev_iload_n dX7_shift_27 rfl)) (Ev_iload_n dX7_shift_28 rfl)) (Ev_iload_n dX7_shift_29 rfl)) (Rn_V (ci := 1) Fx1.1 rfl Y_X1_canMoveBody (k_X1_canMoveBody _ _) w664 w665 w666 dX7_shift_30 (Nat.le_of_ble_eq_true rfl) (Nat.le_of_ble_eq_true rfl) (Nat.le_of_ble_eq_true rfl) (Nat.ne_of_beq_eq_false rfl)))) (Rn_S Y_X7_needState (k_X7_needState _ _) w594 w595 dX7_shift_33 (Nat.le_of_ble_eq_true rfl) (Nat.le_of_ble_eq_true rfl) (Nat.le_of_ble_eq_true rfl) (Nat.ne_of_beq_eq_false rfl))) (Sv_seq (Sv_call (Av_a (Av_nil) (Ev_aload_n dX7_shift_36 rfl)) (Rn_V (ci := 7) Fx7.1 rfl Y_X7_recordChange (k_X7_recordChange _ _) w516 w518 wp10 dX7_shift_37 (Nat.le_of_ble_eq_true rfl) (Nat.le_of_ble_eq_true rfl) (Nat.le_of_ble_eq_true rfl) (Nat.ne_of_beq_eq_false rfl))) (Sv_seq (Sv_call (Av_i (Av_i (Av_i (Av_a (Av_nil) (Ev_getA Fx6 (Ev_getA Fx7 (Ev_aload_n dX7_shift_40 rfl) (k := 0) (by decide) w384 dX7_shift_41) (k := 0) (by decide) w124 dX7_shift_44)) (Ev_iload_n dX7_shift_47 rfl)) (Ev_iload_n dX7_shift_48 rfl)) (Ev_iload_n dX7_shift_49 rfl)) (Rn_V (ci := 1) Fx1.1 rfl Y_X1_moveBody (k_X1_moveBody _ _) w692 w693 w694 dX7_shift_50 (Nat.le_of_ble_eq_true rfl) (Nat.le_of_ble_eq_true rfl) (Nat.le_of_ble_eq_true rfl) (Nat.ne_of_beq_eq_false rfl))) (Sv_ret (Ev_call (Av_i (Av_a (Av_nil) (Ev_getA Fx6 (Ev_getA Fx7 (Ev_aload_n dX7_shift_53 rfl) (k := 0) (by decide) w384 dX7_shift_54) (k := 0) (by decide) w124 dX7_shift_57)) (Ev_iload_n dX7_shift_60 rfl)) (Rn_V (ci := 1) Fx1.1 rfl Y_X1_sizeOf (k_X1_sizeOf _ _) w626 w627 w628 dX7_shift_61 (Nat.le_of_ble_eq_true rfl) (Nat.le_of_ble_eq_true rfl) (Nat.le_of_ble_eq_true rfl) (Nat.ne_of_beq_eq_false rfl))) hr dX7_shift_64)))))), Nat.le_of_ble_eq_true rfl, Nat.le_of_ble_eq_true rfl⟩)
theorem dX7_put_0 : decode cX7_put 0 = .ok (.aload_n 0, 1) := by decide +kernel
theorem dX7_put_1 : decode cX7_put 1 = .ok (.iload_n 1, 1) := by decide +kernel
theorem dX7_put_2 : decode cX7_put 2 = .ok (.iload_n 2, 1) := by decide +kernel
theorem dX7_put_3 : decode cX7_put 3 = .ok (.invokevirtual 93, 3) := by decide +kernel
theorem dX7_put_6 : decode cX7_put 6 = .ok (.iload_n 3, 1) := by decide +kernel
theorem dX7_put_7 : decode cX7_put 7 = .ok (.iconst 0, 1) := by decide +kernel
theorem dX7_put_8 : decode cX7_put 8 = .ok (.iconst 5, 1) := by decide +kernel
theorem dX7_put_9 : decode cX7_put 9 = .ok (.invokestatic 78, 3) := by decide +kernel
theorem dX7_put_12 : decode cX7_put 12 = .ok (.aload_n 0, 1) := by decide +kernel
theorem dX7_put_13 : decode cX7_put 13 = .ok (.getfield 12, 3) := by decide +kernel
theorem dX7_put_16 : decode cX7_put 16 = .ok (.getfield 96, 3) := by decide +kernel
theorem dX7_put_19 : decode cX7_put 19 = .ok (.iload_n 1, 1) := by decide +kernel
theorem dX7_put_20 : decode cX7_put 20 = .ok (.iload_n 2, 1) := by decide +kernel
theorem dX7_put_21 : decode cX7_put 21 = .ok (.invokevirtual 100, 3) := by decide +kernel
theorem dX7_put_24 : decode cX7_put 24 = .ok (.iconst (-1), 1) := by decide +kernel
theorem dX7_put_25 : decode cX7_put 25 = .ok (.if_icmp .ne 26, 3) := by decide +kernel
theorem dX7_put_28 : decode cX7_put 28 = .ok (.aload_n 0, 1) := by decide +kernel
theorem dX7_put_29 : decode cX7_put 29 = .ok (.getfield 12, 3) := by decide +kernel
theorem dX7_put_32 : decode cX7_put 32 = .ok (.getfield 96, 3) := by decide +kernel
theorem dX7_put_35 : decode cX7_put 35 = .ok (.iload_n 1, 1) := by decide +kernel
theorem dX7_put_36 : decode cX7_put 36 = .ok (.iload_n 2, 1) := by decide +kernel
theorem dX7_put_37 : decode cX7_put 37 = .ok (.invokevirtual 106, 3) := by decide +kernel
theorem dX7_put_40 : decode cX7_put 40 = .ok (.iload_n 3, 1) := by decide +kernel
theorem dX7_put_41 : decode cX7_put 41 = .ok (.ishr, 1) := by decide +kernel
theorem dX7_put_42 : decode cX7_put 42 = .ok (.iconst 1, 1) := by decide +kernel
theorem dX7_put_43 : decode cX7_put 43 = .ok (.iand, 1) := by decide +kernel
theorem dX7_put_44 : decode cX7_put 44 = .ok (.ifCond .ne 7, 3) := by decide +kernel
theorem dX7_put_47 : decode cX7_put 47 = .ok (.iconst 1, 1) := by decide +kernel
theorem dX7_put_48 : decode cX7_put 48 = .ok (.goto 4, 3) := by decide +kernel
theorem dX7_put_51 : decode cX7_put 51 = .ok (.iconst 0, 1) := by decide +kernel
theorem dX7_put_52 : decode cX7_put 52 = .ok (.invokestatic 109, 3) := by decide +kernel
theorem dX7_put_55 : decode cX7_put 55 = .ok (.aload_n 0, 1) := by decide +kernel
theorem dX7_put_56 : decode cX7_put 56 = .ok (.invokevirtual 82, 3) := by decide +kernel
theorem dX7_put_59 : decode cX7_put 59 = .ok (.aload_n 0, 1) := by decide +kernel
theorem dX7_put_60 : decode cX7_put 60 = .ok (.getfield 12, 3) := by decide +kernel
theorem dX7_put_63 : decode cX7_put 63 = .ok (.iload_n 2, 1) := by decide +kernel
theorem dX7_put_64 : decode cX7_put 64 = .ok (.iload_n 3, 1) := by decide +kernel
theorem dX7_put_65 : decode cX7_put 65 = .ok (.iconst 1, 1) := by decide +kernel
theorem dX7_put_66 : decode cX7_put 66 = .ok (.iload_n 1, 1) := by decide +kernel
theorem dX7_put_67 : decode cX7_put 67 = .ok (.ishl, 1) := by decide +kernel
theorem dX7_put_68 : decode cX7_put 68 = .ok (.invokevirtual 141, 3) := by decide +kernel
theorem dX7_put_71 : decode cX7_put 71 = .ok (.pop, 1) := by decide +kernel
theorem dX7_put_72 : decode cX7_put 72 = .ok (.aload_n 0, 1) := by decide +kernel
theorem dX7_put_73 : decode cX7_put 73 = .ok (.getfield 12, 3) := by decide +kernel
theorem dX7_put_76 : decode cX7_put 76 = .ok (.getfield 96, 3) := by decide +kernel
theorem dX7_put_79 : decode cX7_put 79 = .ok (.iload_n 1, 1) := by decide +kernel
theorem dX7_put_80 : decode cX7_put 80 = .ok (.iload_n 2, 1) := by decide +kernel
theorem dX7_put_81 : decode cX7_put 81 = .ok (.invokevirtual 106, 3) := by decide +kernel
theorem dX7_put_84 : decode cX7_put 84 = .ok (.ireturn, 1) := by decide +kernel
def f_X7_put : MX := mth 4 (sQ (sM (gd 7 f_X7_needCell) (aI (aI (aA (aN) (eLa 0)) (eLi 1)) (eLi 2))) (sQ (sM (f_X7_needRange) (aI (aI (aI (aN) (eLi 3)) (eI (0))) (eI (5)))) (sQ (sM (f_X7_needState) (aI (aN) (eC (cAnd (cB c_eq (eM (gd 1 f_X1_bodyAt) (aI (aI (aA (aN) (eGa (eGa (eLa 0) 7 0) 6 0)) (eLi 1)) (eLi 2))) (eI (-1))) (cZ z_eq (eOp o_iand (eOp o_ishr (eM (gd 1 f_X1_particlesAt) (aI (aI (aA (aN) (eGa (eGa (eLa 0) 7 0) 6 0)) (eLi 1)) (eLi 2))) (eLi 3)) (eI (1)))))))) (sQ (sM (gd 7 f_X7_recordChange) (aA (aN) (eLa 0))) (sQ (sMp (gd 6 f_X6_addParticles) (aI (aI (aI (aA (aN) (eGa (eLa 0) 7 0)) (eLi 2)) (eLi 3)) (eOp o_ishl (eI (1)) (eLi 1)))) (sR (eM (gd 1 f_X1_particlesAt) (aI (aI (aA (aN) (eGa (eGa (eLa 0) 7 0) 6 0)) (eLi 1)) (eLi 2)))))))))
theorem Y_X7_put : Yk yX7_put cX7_put 4 (some .int) 3 := ⟨w702, w1, by decide +kernel, by decide +kernel, by decide +kernel⟩
set_option maxRecDepth 20000 in
theorem k_X7_put (l : Launch) (g : GE) : MetX l g yX7_put cX7_put 4 (some .int) 4 ({ frames := 8, cells := 4, slots := 24, locals := 125 } : Room) f_X7_put := by
  unfold f_X7_put
  exact MetX.of (own := RX7) 100 0 rfl (by decide +kernel) (by decide) (fun p e s m args below meth c Fin ad0 hr hn => ⟨_, _, Sv_seq (Sv_call (Av_i (Av_i (Av_a (Av_nil) (Ev_aload_n dX7_put_0 rfl)) (Ev_iload_n dX7_put_1 rfl)) (Ev_iload_n dX7_put_2 rfl)) (Rn_V (ci := 7) Fx7.1 rfl Y_X7_needCell (k_X7_needCell _ _) w582 w584 wp11 dX7_put_3 (Nat.le_of_ble_eq_true rfl) (Nat.le_of_ble_eq_true rfl) (Nat.le_of_ble_eq_true rfl) (Nat.ne_of_beq_eq_false rfl))) (Sv_seq (Sv_call (Av_i (Av_i (Av_i (Av_nil) (Ev_iload_n dX7_put_6 rfl)) (Ev_iconst dX7_put_7 (by decide))) (Ev_iconst dX7_put_8 (by decide))) (Rn_S Y_X7_needRange (k_X7_needRange _ _) w446 w447 dX7_put_9 (Nat.le_of_ble_eq_true rfl) (Nat.le_of_ble_eq_true rfl) (Nat.le_of_ble_eq_true rfl) (Nat.ne_of_beq_eq_false rfl))) (Sv_seq (Sv_call (Av_i (Av_nil) (Ev_if (pT := 52) (Cv_and (Cv_icmp_ne_n (Ev_call (Av_i (Av_i (Av_a (Av_nil) (Ev_getA Fx6 (Ev_getA Fx7 (Ev_aload_n dX7_put_12 rfl) (k := 0) (by decide) w384 dX7_put_13) (k := 0) (by decide) w124 dX7_put_16)) (Ev_iload_n dX7_put_19 rfl)) (Ev_iload_n dX7_put_20 rfl)) (Rn_V (ci := 1) Fx1.1 rfl Y_X1_bodyAt (k_X1_bodyAt _ _) w586 w587 w588 dX7_put_21 (Nat.le_of_ble_eq_true rfl) (Nat.le_of_ble_eq_true rfl) (Nat.le_of_ble_eq_true rfl) (Nat.ne_of_beq_eq_false rfl))) (Ev_iconst dX7_put_24 (by decide)) (t := 51) dX7_put_25 (by decide)) (Cv_if_ne_n (Ev_iand (Ev_ishr (Ev_call (Av_i (Av_i (Av_a (Av_nil) (Ev_getA Fx6 (Ev_getA Fx7 (Ev_aload_n dX7_put_28 rfl) (k := 0) (by decide) w384 dX7_put_29) (k := 0) (by decide) w124 dX7_put_32)) (Ev_iload_n dX7_put_35 rfl)) (Ev_iload_n dX7_put_36 rfl)) (Rn_V (ci := 1) Fx1.1 rfl Y_X1_particlesAt (k_X1_particlesAt _ _) w590 w591 w592 dX7_put_37 (Nat.le_of_ble_eq_true rfl) (Nat.le_of_ble_eq_true rfl) (Nat.le_of_ble_eq_true rfl) (Nat.ne_of_beq_eq_false rfl))) (Ev_iload_n dX7_put_40 rfl) dX7_put_41) (Ev_iconst dX7_put_42 (by decide)) dX7_put_43) (t := 51) dX7_put_44 (by decide))) (Ev_iconst dX7_put_47 (by decide)) dX7_put_48 (by decide) (Ev_iconst dX7_put_51 (by decide)))) (Rn_S Y_X7_needState (k_X7_needState _ _) w594 w595 dX7_put_52 (Nat.le_of_ble_eq_true rfl) (Nat.le_of_ble_eq_true rfl) (Nat.le_of_ble_eq_true rfl) (Nat.ne_of_beq_eq_false rfl))) (Sv_seq (Sv_call (Av_a (Av_nil) (Ev_aload_n dX7_put_55 rfl)) (Rn_V (ci := 7) Fx7.1 rfl Y_X7_recordChange (k_X7_recordChange _ _) w516 w518 wp10 dX7_put_56 (Nat.le_of_ble_eq_true rfl) (Nat.le_of_ble_eq_true rfl) (Nat.le_of_ble_eq_true rfl) (Nat.ne_of_beq_eq_false rfl))) (Sv_seq (Sv_callp (Av_i (Av_i (Av_i (Av_a (Av_nil) (Ev_getA Fx7 (Ev_aload_n dX7_put_59 rfl) (k := 0) (by decide) w384 dX7_put_60)) (Ev_iload_n dX7_put_63 rfl)) (Ev_iload_n dX7_put_64 rfl)) (Ev_ishl (Ev_iconst dX7_put_65 (by decide)) (Ev_iload_n dX7_put_66 rfl) dX7_put_67)) (Rn_V (ci := 6) Fx6.1 rfl Y_X6_addParticles (k_X6_addParticles _ _) w703 w704 w705 dX7_put_68 (Nat.le_of_ble_eq_true rfl) (Nat.le_of_ble_eq_true rfl) (Nat.le_of_ble_eq_true rfl) (Nat.ne_of_beq_eq_false rfl)) dX7_put_71) (Sv_ret (Ev_call (Av_i (Av_i (Av_a (Av_nil) (Ev_getA Fx6 (Ev_getA Fx7 (Ev_aload_n dX7_put_72 rfl) (k := 0) (by decide) w384 dX7_put_73) (k := 0) (by decide) w124 dX7_put_76)) (Ev_iload_n dX7_put_79 rfl)) (Ev_iload_n dX7_put_80 rfl)) (Rn_V (ci := 1) Fx1.1 rfl Y_X1_particlesAt (k_X1_particlesAt _ _) w590 w591 w592 dX7_put_81 (Nat.le_of_ble_eq_true rfl) (Nat.le_of_ble_eq_true rfl) (Nat.le_of_ble_eq_true rfl) (Nat.ne_of_beq_eq_false rfl))) hr dX7_put_84))))), Nat.le_of_ble_eq_true rfl, Nat.le_of_ble_eq_true rfl⟩)
theorem dX7_fill_0 : decode cX7_fill 0 = .ok (.aload_n 0, 1) := by decide +kernel
theorem dX7_fill_1 : decode cX7_fill 1 = .ok (.iload_n 2, 1) := by decide +kernel
theorem dX7_fill_2 : decode cX7_fill 2 = .ok (.iload_n 3, 1) := by decide +kernel
theorem dX7_fill_3 : decode cX7_fill 3 = .ok (.iload 4, 2) := by decide +kernel
theorem dX7_fill_5 : decode cX7_fill 5 = .ok (.iload 5, 2) := by decide +kernel
theorem dX7_fill_7 : decode cX7_fill 7 = .ok (.invokevirtual 121, 3) := by decide +kernel
theorem dX7_fill_10 : decode cX7_fill 10 = .ok (.iload_n 1, 1) := by decide +kernel
theorem dX7_fill_11 : decode cX7_fill 11 = .ok (.iconst 1, 1) := by decide +kernel
theorem dX7_fill_12 : decode cX7_fill 12 = .ok (.bipush 63, 2) := by decide +kernel
theorem dX7_fill_14 : decode cX7_fill 14 = .ok (.invokestatic 78, 3) := by decide +kernel
theorem dX7_fill_17 : decode cX7_fill 17 = .ok (.iload_n 2, 1) := by decide +kernel
theorem dX7_fill_18 : decode cX7_fill 18 = .ok (.iload_n 3, 1) := by decide +kernel
theorem dX7_fill_19 : decode cX7_fill 19 = .ok (.iload 4, 2) := by decide +kernel
theorem dX7_fill_21 : decode cX7_fill 21 = .ok (.iload 5, 2) := by decide +kernel
theorem dX7_fill_23 : decode cX7_fill 23 = .ok (.invokestatic 125, 3) := by decide +kernel
theorem dX7_fill_26 : decode cX7_fill 26 = .ok (.aload_n 0, 1) := by decide +kernel
theorem dX7_fill_27 : decode cX7_fill 27 = .ok (.invokevirtual 82, 3) := by decide +kernel
theorem dX7_fill_30 : decode cX7_fill 30 = .ok (.iload_n 2, 1) := by decide +kernel
theorem dX7_fill_31 : decode cX7_fill 31 = .ok (.iload 4, 2) := by decide +kernel
theorem dX7_fill_33 : decode cX7_fill 33 = .ok (.invokestatic 128, 3) := by decide +kernel
theorem dX7_fill_36 : decode cX7_fill 36 = .ok (.istore 6, 2) := by decide +kernel
theorem dX7_fill_38 : decode cX7_fill 38 = .ok (.iconst 0, 1) := by decide +kernel
theorem dX7_fill_39 : decode cX7_fill 39 = .ok (.istore 7, 2) := by decide +kernel
theorem dX7_fill_41 : decode cX7_fill 41 = .ok (.iload_n 3, 1) := by decide +kernel
theorem dX7_fill_42 : decode cX7_fill 42 = .ok (.istore 8, 2) := by decide +kernel
theorem dX7_fill_44 : decode cX7_fill 44 = .ok (.iload 8, 2) := by decide +kernel
theorem dX7_fill_46 : decode cX7_fill 46 = .ok (.iload 5, 2) := by decide +kernel
theorem dX7_fill_48 : decode cX7_fill 48 = .ok (.if_icmp .gt 52, 3) := by decide +kernel
theorem dX7_fill_51 : decode cX7_fill 51 = .ok (.iconst 0, 1) := by decide +kernel
theorem dX7_fill_52 : decode cX7_fill 52 = .ok (.istore 9, 2) := by decide +kernel
theorem dX7_fill_54 : decode cX7_fill 54 = .ok (.iload 9, 2) := by decide +kernel
theorem dX7_fill_56 : decode cX7_fill 56 = .ok (.bipush 6, 2) := by decide +kernel
theorem dX7_fill_58 : decode cX7_fill 58 = .ok (.if_icmp .ge 36, 3) := by decide +kernel
theorem dX7_fill_61 : decode cX7_fill 61 = .ok (.iload_n 1, 1) := by decide +kernel
theorem dX7_fill_62 : decode cX7_fill 62 = .ok (.iload 9, 2) := by decide +kernel
theorem dX7_fill_64 : decode cX7_fill 64 = .ok (.ishr, 1) := by decide +kernel
theorem dX7_fill_65 : decode cX7_fill 65 = .ok (.iconst 1, 1) := by decide +kernel
theorem dX7_fill_66 : decode cX7_fill 66 = .ok (.iand, 1) := by decide +kernel
theorem dX7_fill_67 : decode cX7_fill 67 = .ok (.ifCond .eq 21, 3) := by decide +kernel
theorem dX7_fill_70 : decode cX7_fill 70 = .ok (.iload 7, 2) := by decide +kernel
theorem dX7_fill_72 : decode cX7_fill 72 = .ok (.aload_n 0, 1) := by decide +kernel
theorem dX7_fill_73 : decode cX7_fill 73 = .ok (.getfield 12, 3) := by decide +kernel
theorem dX7_fill_76 : decode cX7_fill 76 = .ok (.iload 8, 2) := by decide +kernel
theorem dX7_fill_78 : decode cX7_fill 78 = .ok (.iload 9, 2) := by decide +kernel
theorem dX7_fill_80 : decode cX7_fill 80 = .ok (.iload 6, 2) := by decide +kernel
theorem dX7_fill_82 : decode cX7_fill 82 = .ok (.invokevirtual 141, 3) := by decide +kernel
theorem dX7_fill_85 : decode cX7_fill 85 = .ok (.iadd, 1) := by decide +kernel
theorem dX7_fill_86 : decode cX7_fill 86 = .ok (.istore 7, 2) := by decide +kernel
theorem dX7_fill_88 : decode cX7_fill 88 = .ok (.iinc 9 1, 3) := by decide +kernel
theorem dX7_fill_91 : decode cX7_fill 91 = .ok (.goto (-37), 3) := by decide +kernel
theorem dX7_fill_94 : decode cX7_fill 94 = .ok (.iinc 8 1, 3) := by decide +kernel
theorem dX7_fill_97 : decode cX7_fill 97 = .ok (.goto (-53), 3) := by decide +kernel
theorem dX7_fill_100 : decode cX7_fill 100 = .ok (.iload 7, 2) := by decide +kernel
theorem dX7_fill_102 : decode cX7_fill 102 = .ok (.ireturn, 1) := by decide +kernel
def f_X7_fill : MX := mth 10 (sQ (sM (gd 7 f_X7_needCells) (aI (aI (aI (aI (aA (aN) (eLa 0)) (eLi 2)) (eLi 3)) (eLi 4)) (eLi 5))) (sQ (sM (f_X7_needRange) (aI (aI (aI (aN) (eLi 1)) (eI (1))) (eI (63)))) (sQ (sM (f_X7_needOrder) (aI (aI (aI (aI (aN) (eLi 2)) (eLi 3)) (eLi 4)) (eLi 5))) (sQ (sM (gd 7 f_X7_recordChange) (aA (aN) (eLa 0))) (sQ (sTi 6 (eM (f_X7_columnsBetween) (aI (aI (aN) (eLi 2)) (eLi 4)))) (sQ (sTi 7 (eI (0))) (sQ (sQ (sTi 8 (eLi 3)) (sLp (cB c_le (eLi 8) (eLi 5)) (sQ (sQ (sTi 9 (eI (0))) (sLp (cB c_lt (eLi 9) (eI (6))) (sQ (sIf (cZ z_ne (eOp o_iand (eOp o_ishr (eLi 1) (eLi 9)) (eI (1)))) (sTi 7 (eOp o_iadd (eLi 7) (eM (gd 6 f_X6_addParticles) (aI (aI (aI (aA (aN) (eGa (eLa 0) 7 0)) (eLi 8)) (eLi 9)) (eLi 6))))) sN) (sInc 9 (1))) NF)) (sInc 8 (1))) NF)) (sR (eLi 7)))))))))
theorem Y_X7_fill : Yk yX7_fill cX7_fill 10 (some .int) 5 := ⟨w721, w1, by decide +kernel, by decide +kernel, by decide +kernel⟩
set_option maxRecDepth 20000 in
theorem k_X7_fill (l : Launch) (g : GE) : MetX l g yX7_fill cX7_fill 10 (some .int) 6 ({ frames := 9, cells := 6, slots := 36, locals := 149 } : Room) f_X7_fill := by
  unfold f_X7_fill
  exact MetX.of (own := RX7) 100 0 rfl (by decide +kernel) (by decide) (fun p e s m args below meth c Fin ad0 hr hn => ⟨_, _, Sv_seq (Sv_call (Av_i (Av_i (Av_i (Av_i (Av_a (Av_nil) (Ev_aload_n dX7_fill_0 rfl)) (Ev_iload_n dX7_fill_1 rfl)) (Ev_iload_n dX7_fill_2 rfl)) (Ev_iload dX7_fill_3)) (Ev_iload dX7_fill_5)) (Rn_V (ci := 7) Fx7.1 rfl Y_X7_needCells (k_X7_needCells _ _) w637 w639 wp12 dX7_fill_7 (Nat.le_of_ble_eq_true rfl) (Nat.le_of_ble_eq_true rfl) (Nat.le_of_ble_eq_true rfl) (Nat.ne_of_beq_eq_false rfl))) (Sv_seq (Sv_call (Av_i (Av_i (Av_i (Av_nil) (Ev_iload_n dX7_fill_10 rfl)) (Ev_iconst dX7_fill_11 (by decide))) (Ev_bipush dX7_fill_12 (by decide))) (Rn_S Y_X7_needRange (k_X7_needRange _ _) w446 w447 dX7_fill_14 (Nat.le_of_ble_eq_true rfl) (Nat.le_of_ble_eq_true rfl) (Nat.le_of_ble_eq_true rfl) (Nat.ne_of_beq_eq_false rfl))) (Sv_seq (Sv_call (Av_i (Av_i (Av_i (Av_i (Av_nil) (Ev_iload_n dX7_fill_17 rfl)) (Ev_iload_n dX7_fill_18 rfl)) (Ev_iload dX7_fill_19)) (Ev_iload dX7_fill_21)) (Rn_S Y_X7_needOrder (k_X7_needOrder _ _) w641 w642 dX7_fill_23 (Nat.le_of_ble_eq_true rfl) (Nat.le_of_ble_eq_true rfl) (Nat.le_of_ble_eq_true rfl) (Nat.ne_of_beq_eq_false rfl))) (Sv_seq (Sv_call (Av_a (Av_nil) (Ev_aload_n dX7_fill_26 rfl)) (Rn_V (ci := 7) Fx7.1 rfl Y_X7_recordChange (k_X7_recordChange _ _) w516 w518 wp10 dX7_fill_27 (Nat.le_of_ble_eq_true rfl) (Nat.le_of_ble_eq_true rfl) (Nat.le_of_ble_eq_true rfl) (Nat.ne_of_beq_eq_false rfl))) (Sv_seq (Sv_istore (Ev_call (Av_i (Av_i (Av_nil) (Ev_iload_n dX7_fill_30 rfl)) (Ev_iload dX7_fill_31)) (Rn_S Y_X7_columnsBetween (k_X7_columnsBetween _ _) w645 w254 dX7_fill_33 (Nat.le_of_ble_eq_true rfl) (Nat.le_of_ble_eq_true rfl) (Nat.le_of_ble_eq_true rfl) (Nat.ne_of_beq_eq_false rfl))) dX7_fill_36 (Nat.le_of_ble_eq_true rfl) (Nat.ne_of_beq_eq_false rfl)) (Sv_seq (Sv_istore (Ev_iconst dX7_fill_38 (by decide)) dX7_fill_39 (Nat.le_of_ble_eq_true rfl) (Nat.ne_of_beq_eq_false rfl)) (Sv_seq (Sv_seq (Sv_istore (Ev_iload_n dX7_fill_41 rfl) dX7_fill_42 (Nat.le_of_ble_eq_true rfl) (Nat.ne_of_beq_eq_false rfl)) (Sv_loop0 NF (Cv_icmp_gt_n (Ev_iload dX7_fill_44) (Ev_iload dX7_fill_46) (t := 100) dX7_fill_48 (by decide)) (Sv_goto (pE := 44) (Sv_seq (Sv_seq (Sv_istore (Ev_iconst dX7_fill_51 (by decide)) dX7_fill_52 (Nat.le_of_ble_eq_true rfl) (Nat.ne_of_beq_eq_false rfl)) (Sv_loop0 NF (Cv_icmp_ge_n (Ev_iload dX7_fill_54) (Ev_bipush dX7_fill_56 (by decide)) (t := 94) dX7_fill_58 (by decide)) (Sv_goto (pE := 54) (Sv_seq (Sv_if (Cv_if_eq_n (Ev_iand (Ev_ishr (Ev_iload_n dX7_fill_61 rfl) (Ev_iload dX7_fill_62) dX7_fill_64) (Ev_iconst dX7_fill_65 (by decide)) dX7_fill_66) (t := 88) dX7_fill_67 (by decide)) (Sv_istore (Ev_iadd (Ev_iload dX7_fill_70) (Ev_call (Av_i (Av_i (Av_i (Av_a (Av_nil) (Ev_getA Fx7 (Ev_aload_n dX7_fill_72 rfl) (k := 0) (by decide) w384 dX7_fill_73)) (Ev_iload dX7_fill_76)) (Ev_iload dX7_fill_78)) (Ev_iload dX7_fill_80)) (Rn_V (ci := 6) Fx6.1 rfl Y_X6_addParticles (k_X6_addParticles _ _) w703 w704 w705 dX7_fill_82 (Nat.le_of_ble_eq_true rfl) (Nat.le_of_ble_eq_true rfl) (Nat.le_of_ble_eq_true rfl) (Nat.ne_of_beq_eq_false rfl))) dX7_fill_85) dX7_fill_86 (Nat.le_of_ble_eq_true rfl) (Nat.ne_of_beq_eq_false rfl)) Sv_nop) (Sv_iinc dX7_fill_88 (by decide) (Nat.le_of_ble_eq_true rfl) (Nat.ne_of_beq_eq_false rfl))) dX7_fill_91 (by decide)))) (Sv_iinc dX7_fill_94 (by decide) (Nat.le_of_ble_eq_true rfl) (Nat.ne_of_beq_eq_false rfl))) dX7_fill_97 (by decide)))) (Sv_ret (Ev_iload dX7_fill_100) hr dX7_fill_102))))))), Nat.le_of_ble_eq_true rfl, Nat.le_of_ble_eq_true rfl⟩)
theorem dX7_empty_0 : decode cX7_empty 0 = .ok (.aload_n 0, 1) := by decide +kernel
theorem dX7_empty_1 : decode cX7_empty 1 = .ok (.iload_n 1, 1) := by decide +kernel
theorem dX7_empty_2 : decode cX7_empty 2 = .ok (.iload_n 2, 1) := by decide +kernel
theorem dX7_empty_3 : decode cX7_empty 3 = .ok (.iload_n 3, 1) := by decide +kernel
theorem dX7_empty_4 : decode cX7_empty 4 = .ok (.iload 4, 2) := by decide +kernel
theorem dX7_empty_6 : decode cX7_empty 6 = .ok (.invokevirtual 121, 3) := by decide +kernel
theorem dX7_empty_9 : decode cX7_empty 9 = .ok (.iload_n 1, 1) := by decide +kernel
theorem dX7_empty_10 : decode cX7_empty 10 = .ok (.iload_n 2, 1) := by decide +kernel
theorem dX7_empty_11 : decode cX7_empty 11 = .ok (.iload_n 3, 1) := by decide +kernel
theorem dX7_empty_12 : decode cX7_empty 12 = .ok (.iload 4, 2) := by decide +kernel
theorem dX7_empty_14 : decode cX7_empty 14 = .ok (.invokestatic 125, 3) := by decide +kernel
theorem dX7_empty_17 : decode cX7_empty 17 = .ok (.aload_n 0, 1) := by decide +kernel
theorem dX7_empty_18 : decode cX7_empty 18 = .ok (.invokevirtual 82, 3) := by decide +kernel
theorem dX7_empty_21 : decode cX7_empty 21 = .ok (.iload_n 1, 1) := by decide +kernel
theorem dX7_empty_22 : decode cX7_empty 22 = .ok (.iload_n 3, 1) := by decide +kernel
theorem dX7_empty_23 : decode cX7_empty 23 = .ok (.invokestatic 128, 3) := by decide +kernel
theorem dX7_empty_26 : decode cX7_empty 26 = .ok (.istore 5, 2) := by decide +kernel
theorem dX7_empty_28 : decode cX7_empty 28 = .ok (.iconst 0, 1) := by decide +kernel
theorem dX7_empty_29 : decode cX7_empty 29 = .ok (.istore 6, 2) := by decide +kernel
theorem dX7_empty_31 : decode cX7_empty 31 = .ok (.iload_n 2, 1) := by decide +kernel
theorem dX7_empty_32 : decode cX7_empty 32 = .ok (.istore 7, 2) := by decide +kernel
theorem dX7_empty_34 : decode cX7_empty 34 = .ok (.iload 7, 2) := by decide +kernel
theorem dX7_empty_36 : decode cX7_empty 36 = .ok (.iload 4, 2) := by decide +kernel
theorem dX7_empty_38 : decode cX7_empty 38 = .ok (.if_icmp .gt 26, 3) := by decide +kernel
theorem dX7_empty_41 : decode cX7_empty 41 = .ok (.iload 6, 2) := by decide +kernel
theorem dX7_empty_43 : decode cX7_empty 43 = .ok (.aload_n 0, 1) := by decide +kernel
theorem dX7_empty_44 : decode cX7_empty 44 = .ok (.getfield 12, 3) := by decide +kernel
theorem dX7_empty_47 : decode cX7_empty 47 = .ok (.iload 7, 2) := by decide +kernel
theorem dX7_empty_49 : decode cX7_empty 49 = .ok (.iload 5, 2) := by decide +kernel
theorem dX7_empty_51 : decode cX7_empty 51 = .ok (.iconst 0, 1) := by decide +kernel
theorem dX7_empty_52 : decode cX7_empty 52 = .ok (.invokevirtual 144, 3) := by decide +kernel
theorem dX7_empty_55 : decode cX7_empty 55 = .ok (.iadd, 1) := by decide +kernel
theorem dX7_empty_56 : decode cX7_empty 56 = .ok (.istore 6, 2) := by decide +kernel
theorem dX7_empty_58 : decode cX7_empty 58 = .ok (.iinc 7 1, 3) := by decide +kernel
theorem dX7_empty_61 : decode cX7_empty 61 = .ok (.goto (-27), 3) := by decide +kernel
theorem dX7_empty_64 : decode cX7_empty 64 = .ok (.iload 6, 2) := by decide +kernel
theorem dX7_empty_66 : decode cX7_empty 66 = .ok (.ireturn, 1) := by decide +kernel
def f_X7_empty : MX := mth 8 (sQ (sM (gd 7 f_X7_needCells) (aI (aI (aI (aI (aA (aN) (eLa 0)) (eLi 1)) (eLi 2)) (eLi 3)) (eLi 4))) (sQ (sM (f_X7_needOrder) (aI (aI (aI (aI (aN) (eLi 1)) (eLi 2)) (eLi 3)) (eLi 4))) (sQ (sM (gd 7 f_X7_recordChange) (aA (aN) (eLa 0))) (sQ (sTi 5 (eM (f_X7_columnsBetween) (aI (aI (aN) (eLi 1)) (eLi 3)))) (sQ (sTi 6 (eI (0))) (sQ (sQ (sTi 7 (eLi 2)) (sLp (cB c_le (eLi 7) (eLi 4)) (sQ (sTi 6 (eOp o_iadd (eLi 6) (eM (gd 6 f_X6_removeParticles) (aI (aI (aI (aA (aN) (eGa (eLa 0) 7 0)) (eLi 7)) (eLi 5)) (eI (0)))))) (sInc 7 (1))) NF)) (sR (eLi 6))))))))
theorem Y_X7_empty : Yk yX7_empty cX7_empty 8 (some .int) 4 := ⟨w728, w1, by decide +kernel, by decide +kernel, by decide +kernel⟩
set_option maxRecDepth 20000 in
theorem k_X7_empty (l : Launch) (g : GE) : MetX l g yX7_empty cX7_empty 8 (some .int) 5 ({ frames := 9, cells := 5, slots := 30, locals := 149 } : Room) f_X7_empty := by
  unfold f_X7_empty
  exact MetX.of (own := RX7) 100 0 rfl (by decide +kernel) (by decide) (fun p e s m args below meth c Fin ad0 hr hn => ⟨_, _, Sv_seq (Sv_call (Av_i (Av_i (Av_i (Av_i (Av_a (Av_nil) (Ev_aload_n dX7_empty_0 rfl)) (Ev_iload_n dX7_empty_1 rfl)) (Ev_iload_n dX7_empty_2 rfl)) (Ev_iload_n dX7_empty_3 rfl)) (Ev_iload dX7_empty_4)) (Rn_V (ci := 7) Fx7.1 rfl Y_X7_needCells (k_X7_needCells _ _) w637 w639 wp12 dX7_empty_6 (Nat.le_of_ble_eq_true rfl) (Nat.le_of_ble_eq_true rfl) (Nat.le_of_ble_eq_true rfl) (Nat.ne_of_beq_eq_false rfl))) (Sv_seq (Sv_call (Av_i (Av_i (Av_i (Av_i (Av_nil) (Ev_iload_n dX7_empty_9 rfl)) (Ev_iload_n dX7_empty_10 rfl)) (Ev_iload_n dX7_empty_11 rfl)) (Ev_iload dX7_empty_12)) (Rn_S Y_X7_needOrder (k_X7_needOrder _ _) w641 w642 dX7_empty_14 (Nat.le_of_ble_eq_true rfl) (Nat.le_of_ble_eq_true rfl) (Nat.le_of_ble_eq_true rfl) (Nat.ne_of_beq_eq_false rfl))) (Sv_seq (Sv_call (Av_a (Av_nil) (Ev_aload_n dX7_empty_17 rfl)) (Rn_V (ci := 7) Fx7.1 rfl Y_X7_recordChange (k_X7_recordChange _ _) w516 w518 wp10 dX7_empty_18 (Nat.le_of_ble_eq_true rfl) (Nat.le_of_ble_eq_true rfl) (Nat.le_of_ble_eq_true rfl) (Nat.ne_of_beq_eq_false rfl))) (Sv_seq (Sv_istore (Ev_call (Av_i (Av_i (Av_nil) (Ev_iload_n dX7_empty_21 rfl)) (Ev_iload_n dX7_empty_22 rfl)) (Rn_S Y_X7_columnsBetween (k_X7_columnsBetween _ _) w645 w254 dX7_empty_23 (Nat.le_of_ble_eq_true rfl) (Nat.le_of_ble_eq_true rfl) (Nat.le_of_ble_eq_true rfl) (Nat.ne_of_beq_eq_false rfl))) dX7_empty_26 (Nat.le_of_ble_eq_true rfl) (Nat.ne_of_beq_eq_false rfl)) (Sv_seq (Sv_istore (Ev_iconst dX7_empty_28 (by decide)) dX7_empty_29 (Nat.le_of_ble_eq_true rfl) (Nat.ne_of_beq_eq_false rfl)) (Sv_seq (Sv_seq (Sv_istore (Ev_iload_n dX7_empty_31 rfl) dX7_empty_32 (Nat.le_of_ble_eq_true rfl) (Nat.ne_of_beq_eq_false rfl)) (Sv_loop0 NF (Cv_icmp_gt_n (Ev_iload dX7_empty_34) (Ev_iload dX7_empty_36) (t := 64) dX7_empty_38 (by decide)) (Sv_goto (pE := 34) (Sv_seq (Sv_istore (Ev_iadd (Ev_iload dX7_empty_41) (Ev_call (Av_i (Av_i (Av_i (Av_a (Av_nil) (Ev_getA Fx7 (Ev_aload_n dX7_empty_43 rfl) (k := 0) (by decide) w384 dX7_empty_44)) (Ev_iload dX7_empty_47)) (Ev_iload dX7_empty_49)) (Ev_iconst dX7_empty_51 (by decide))) (Rn_V (ci := 6) Fx6.1 rfl Y_X6_removeParticles (k_X6_removeParticles _ _) w729 w730 w731 dX7_empty_52 (Nat.le_of_ble_eq_true rfl) (Nat.le_of_ble_eq_true rfl) (Nat.le_of_ble_eq_true rfl) (Nat.ne_of_beq_eq_false rfl))) dX7_empty_55) dX7_empty_56 (Nat.le_of_ble_eq_true rfl) (Nat.ne_of_beq_eq_false rfl)) (Sv_iinc dX7_empty_58 (by decide) (Nat.le_of_ble_eq_true rfl) (Nat.ne_of_beq_eq_false rfl))) dX7_empty_61 (by decide)))) (Sv_ret (Ev_iload dX7_empty_64) hr dX7_empty_66)))))), Nat.le_of_ble_eq_true rfl, Nat.le_of_ble_eq_true rfl⟩)
theorem dX7_addGust_0 : decode cX7_addGust 0 = .ok (.aload_n 0, 1) := by decide +kernel
theorem dX7_addGust_1 : decode cX7_addGust 1 = .ok (.iload_n 2, 1) := by decide +kernel
theorem dX7_addGust_2 : decode cX7_addGust 2 = .ok (.iload_n 3, 1) := by decide +kernel
theorem dX7_addGust_3 : decode cX7_addGust 3 = .ok (.iload_n 2, 1) := by decide +kernel
theorem dX7_addGust_4 : decode cX7_addGust 4 = .ok (.iload 4, 2) := by decide +kernel
theorem dX7_addGust_6 : decode cX7_addGust 6 = .ok (.invokevirtual 121, 3) := by decide +kernel
theorem dX7_addGust_9 : decode cX7_addGust 9 = .ok (.iload_n 2, 1) := by decide +kernel
theorem dX7_addGust_10 : decode cX7_addGust 10 = .ok (.iload_n 3, 1) := by decide +kernel
theorem dX7_addGust_11 : decode cX7_addGust 11 = .ok (.iload_n 2, 1) := by decide +kernel
theorem dX7_addGust_12 : decode cX7_addGust 12 = .ok (.iload 4, 2) := by decide +kernel
theorem dX7_addGust_14 : decode cX7_addGust 14 = .ok (.invokestatic 125, 3) := by decide +kernel
theorem dX7_addGust_17 : decode cX7_addGust 17 = .ok (.iload 5, 2) := by decide +kernel
theorem dX7_addGust_19 : decode cX7_addGust 19 = .ok (.iconst 0, 1) := by decide +kernel
theorem dX7_addGust_20 : decode cX7_addGust 20 = .ok (.sipush 10000, 3) := by decide +kernel
theorem dX7_addGust_23 : decode cX7_addGust 23 = .ok (.invokestatic 78, 3) := by decide +kernel
theorem dX7_addGust_26 : decode cX7_addGust 26 = .ok (.iload 6, 2) := by decide +kernel
theorem dX7_addGust_28 : decode cX7_addGust 28 = .ok (.iconst 1, 1) := by decide +kernel
theorem dX7_addGust_29 : decode cX7_addGust 29 = .ok (.bipush 60, 2) := by decide +kernel
theorem dX7_addGust_31 : decode cX7_addGust 31 = .ok (.invokestatic 78, 3) := by decide +kernel
theorem dX7_addGust_34 : decode cX7_addGust 34 = .ok (.iload 7, 2) := by decide +kernel
theorem dX7_addGust_36 : decode cX7_addGust 36 = .ok (.iconst 1, 1) := by decide +kernel
theorem dX7_addGust_37 : decode cX7_addGust 37 = .ok (.iload 6, 2) := by decide +kernel
theorem dX7_addGust_39 : decode cX7_addGust 39 = .ok (.invokestatic 78, 3) := by decide +kernel
theorem dX7_addGust_42 : decode cX7_addGust 42 = .ok (.aload_n 0, 1) := by decide +kernel
theorem dX7_addGust_43 : decode cX7_addGust 43 = .ok (.getfield 12, 3) := by decide +kernel
theorem dX7_addGust_46 : decode cX7_addGust 46 = .ok (.getfield 151, 3) := by decide +kernel
theorem dX7_addGust_49 : decode cX7_addGust 49 = .ok (.getfield 155, 3) := by decide +kernel
theorem dX7_addGust_52 : decode cX7_addGust 52 = .ok (.bipush 6, 2) := by decide +kernel
theorem dX7_addGust_54 : decode cX7_addGust 54 = .ok (.if_icmp .ge 7, 3) := by decide +kernel
theorem dX7_addGust_57 : decode cX7_addGust 57 = .ok (.iconst 1, 1) := by decide +kernel
theorem dX7_addGust_58 : decode cX7_addGust 58 = .ok (.goto 4, 3) := by decide +kernel
theorem dX7_addGust_61 : decode cX7_addGust 61 = .ok (.iconst 0, 1) := by decide +kernel
theorem dX7_addGust_62 : decode cX7_addGust 62 = .ok (.invokestatic 109, 3) := by decide +kernel
theorem dX7_addGust_65 : decode cX7_addGust 65 = .ok (.aload_n 0, 1) := by decide +kernel
theorem dX7_addGust_66 : decode cX7_addGust 66 = .ok (.invokevirtual 82, 3) := by decide +kernel
theorem dX7_addGust_69 : decode cX7_addGust 69 = .ok (.aload_n 0, 1) := by decide +kernel
theorem dX7_addGust_70 : decode cX7_addGust 70 = .ok (.getfield 12, 3) := by decide +kernel
theorem dX7_addGust_73 : decode cX7_addGust 73 = .ok (.getfield 151, 3) := by decide +kernel
theorem dX7_addGust_76 : decode cX7_addGust 76 = .ok (.iload_n 1, 1) := by decide +kernel
theorem dX7_addGust_77 : decode cX7_addGust 77 = .ok (.iload_n 2, 1) := by decide +kernel
theorem dX7_addGust_78 : decode cX7_addGust 78 = .ok (.iload_n 3, 1) := by decide +kernel
theorem dX7_addGust_79 : decode cX7_addGust 79 = .ok (.iload 4, 2) := by decide +kernel
theorem dX7_addGust_81 : decode cX7_addGust 81 = .ok (.invokevirtual 166, 3) := by decide +kernel
theorem dX7_addGust_84 : decode cX7_addGust 84 = .ok (.istore 8, 2) := by decide +kernel
theorem dX7_addGust_86 : decode cX7_addGust 86 = .ok (.aload_n 0, 1) := by decide +kernel
theorem dX7_addGust_87 : decode cX7_addGust 87 = .ok (.getfield 12, 3) := by decide +kernel
theorem dX7_addGust_90 : decode cX7_addGust 90 = .ok (.getfield 151, 3) := by decide +kernel
theorem dX7_addGust_93 : decode cX7_addGust 93 = .ok (.iload 8, 2) := by decide +kernel
theorem dX7_addGust_95 : decode cX7_addGust 95 = .ok (.iload 5, 2) := by decide +kernel
theorem dX7_addGust_97 : decode cX7_addGust 97 = .ok (.iload 6, 2) := by decide +kernel
theorem dX7_addGust_99 : decode cX7_addGust 99 = .ok (.iload 7, 2) := by decide +kernel
theorem dX7_addGust_101 : decode cX7_addGust 101 = .ok (.invokevirtual 170, 3) := by decide +kernel
theorem dX7_addGust_104 : decode cX7_addGust 104 = .ok (.iload 8, 2) := by decide +kernel
theorem dX7_addGust_106 : decode cX7_addGust 106 = .ok (.ireturn, 1) := by decide +kernel
def f_X7_addGust : MX := mth 9 (sQ (sM (gd 7 f_X7_needCells) (aI (aI (aI (aI (aA (aN) (eLa 0)) (eLi 2)) (eLi 3)) (eLi 2)) (eLi 4))) (sQ (sM (f_X7_needOrder) (aI (aI (aI (aI (aN) (eLi 2)) (eLi 3)) (eLi 2)) (eLi 4))) (sQ (sM (f_X7_needRange) (aI (aI (aI (aN) (eLi 5)) (eI (0))) (eI (10000)))) (sQ (sM (f_X7_needRange) (aI (aI (aI (aN) (eLi 6)) (eI (1))) (eI (60)))) (sQ (sM (f_X7_needRange) (aI (aI (aI (aN) (eLi 7)) (eI (1))) (eLi 6))) (sQ (sM (f_X7_needState) (aI (aN) (eC (cB c_lt (eGi (eGa (eGa (eLa 0) 7 0) 6 1) 2 0) (eI (6)))))) (sQ (sM (gd 7 f_X7_recordChange) (aA (aN) (eLa 0))) (sQ (sTi 8 (eM (gd 2 f_X2_addPlace) (aI (aI (aI (aI (aA (aN) (eGa (eGa (eLa 0) 7 0) 6 1)) (eLi 1)) (eLi 2)) (eLi 3)) (eLi 4)))) (sQ (sM (gd 2 f_X2_setTimes) (aI (aI (aI (aI (aA (aN) (eGa (eGa (eLa 0) 7 0) 6 1)) (eLi 8)) (eLi 5)) (eLi 6)) (eLi 7))) (sR (eLi 8)))))))))))
theorem Y_X7_addGust : Yk yX7_addGust cX7_addGust 9 (some .int) 7 := ⟨w743, w1, by decide +kernel, by decide +kernel, by decide +kernel⟩
set_option maxRecDepth 20000 in
theorem k_X7_addGust (l : Launch) (g : GE) : MetX l g yX7_addGust cX7_addGust 9 (some .int) 8 ({ frames := 9, cells := 9, slots := 54, locals := 149 } : Room) f_X7_addGust := by
  unfold f_X7_addGust
  exact MetX.of (own := RX7) 100 0 rfl (by decide +kernel) (by decide) (fun p e s m args below meth c Fin ad0 hr hn => ⟨_, _, Sv_seq (Sv_call (Av_i (Av_i (Av_i (Av_i (Av_a (Av_nil) (Ev_aload_n dX7_addGust_0 rfl)) (Ev_iload_n dX7_addGust_1 rfl)) (Ev_iload_n dX7_addGust_2 rfl)) (Ev_iload_n dX7_addGust_3 rfl)) (Ev_iload dX7_addGust_4)) (Rn_V (ci := 7) Fx7.1 rfl Y_X7_needCells (k_X7_needCells _ _) w637 w639 wp12 dX7_addGust_6 (Nat.le_of_ble_eq_true rfl) (Nat.le_of_ble_eq_true rfl) (Nat.le_of_ble_eq_true rfl) (Nat.ne_of_beq_eq_false rfl))) (Sv_seq (Sv_call (Av_i (Av_i (Av_i (Av_i (Av_nil) (Ev_iload_n dX7_addGust_9 rfl)) (Ev_iload_n dX7_addGust_10 rfl)) (Ev_iload_n dX7_addGust_11 rfl)) (Ev_iload dX7_addGust_12)) (Rn_S Y_X7_needOrder (k_X7_needOrder _ _) w641 w642 dX7_addGust_14 (Nat.le_of_ble_eq_true rfl) (Nat.le_of_ble_eq_true rfl) (Nat.le_of_ble_eq_true rfl) (Nat.ne_of_beq_eq_false rfl))) (Sv_seq (Sv_call (Av_i (Av_i (Av_i (Av_nil) (Ev_iload dX7_addGust_17)) (Ev_iconst dX7_addGust_19 (by decide))) (Ev_sipush dX7_addGust_20 (by decide))) (Rn_S Y_X7_needRange (k_X7_needRange _ _) w446 w447 dX7_addGust_23 (Nat.le_of_ble_eq_true rfl) (Nat.le_of_ble_eq_true rfl) (Nat.le_of_ble_eq_true rfl) (Nat.ne_of_beq_eq_false rfl))) (Sv_seq (Sv_call (Av_i (Av_i (Av_i (Av_nil) (Ev_iload dX7_addGust_26)) (Ev_iconst dX7_addGust_28 (by decide))) (Ev_bipush dX7_addGust_29 (by decide))) (Rn_S Y_X7_needRange (k_X7_needRange _ _) w446 w447 dX7_addGust_31 (Nat.le_of_ble_eq_true rfl) (Nat.le_of_ble_eq_true rfl) (Nat.le_of_ble_eq_true rfl) (Nat.ne_of_beq_eq_false rfl))) (Sv_seq (Sv_call (Av_i (Av_i (Av_i (Av_nil) (Ev_iload dX7_addGust_34)) (Ev_iconst dX7_addGust_36 (by decide))) (Ev_iload dX7_addGust_37)) (Rn_S Y_X7_needRange (k_X7_needRange _ _) w446 w447 dX7_addGust_39 (Nat.le_of_ble_eq_true rfl) (Nat.le_of_ble_eq_true rfl) (Nat.le_of_ble_eq_true rfl) (Nat.ne_of_beq_eq_false rfl))) (Sv_seq (Sv_call (Av_i (Av_nil) (Ev_if (pT := 62) (Cv_icmp_ge_n (Ev_getI Fx2 (Ev_getA Fx6 (Ev_getA Fx7 (Ev_aload_n dX7_addGust_42 rfl) (k := 0) (by decide) w384 dX7_addGust_43) (k := 1) (by decide) w127 dX7_addGust_46) (k := 0) (by decide) w78 dX7_addGust_49) (Ev_bipush dX7_addGust_52 (by decide)) (t := 61) dX7_addGust_54 (by decide)) (Ev_iconst dX7_addGust_57 (by decide)) dX7_addGust_58 (by decide) (Ev_iconst dX7_addGust_61 (by decide)))) (Rn_S Y_X7_needState (k_X7_needState _ _) w594 w595 dX7_addGust_62 (Nat.le_of_ble_eq_true rfl) (Nat.le_of_ble_eq_true rfl) (Nat.le_of_ble_eq_true rfl) (Nat.ne_of_beq_eq_false rfl))) (Sv_seq (Sv_call (Av_a (Av_nil) (Ev_aload_n dX7_addGust_65 rfl)) (Rn_V (ci := 7) Fx7.1 rfl Y_X7_recordChange (k_X7_recordChange _ _) w516 w518 wp10 dX7_addGust_66 (Nat.le_of_ble_eq_true rfl) (Nat.le_of_ble_eq_true rfl) (Nat.le_of_ble_eq_true rfl) (Nat.ne_of_beq_eq_false rfl))) (Sv_seq (Sv_istore (Ev_call (Av_i (Av_i (Av_i (Av_i (Av_a (Av_nil) (Ev_getA Fx6 (Ev_getA Fx7 (Ev_aload_n dX7_addGust_69 rfl) (k := 0) (by decide) w384 dX7_addGust_70) (k := 1) (by decide) w127 dX7_addGust_73)) (Ev_iload_n dX7_addGust_76 rfl)) (Ev_iload_n dX7_addGust_77 rfl)) (Ev_iload_n dX7_addGust_78 rfl)) (Ev_iload dX7_addGust_79)) (Rn_V (ci := 2) Fx2.1 rfl Y_X2_addPlace (k_X2_addPlace _ _) w744 w745 w746 dX7_addGust_81 (Nat.le_of_ble_eq_true rfl) (Nat.le_of_ble_eq_true rfl) (Nat.le_of_ble_eq_true rfl) (Nat.ne_of_beq_eq_false rfl))) dX7_addGust_84 (Nat.le_of_ble_eq_true rfl) (Nat.ne_of_beq_eq_false rfl)) (Sv_seq (Sv_call (Av_i (Av_i (Av_i (Av_i (Av_a (Av_nil) (Ev_getA Fx6 (Ev_getA Fx7 (Ev_aload_n dX7_addGust_86 rfl) (k := 0) (by decide) w384 dX7_addGust_87) (k := 1) (by decide) w127 dX7_addGust_90)) (Ev_iload dX7_addGust_93)) (Ev_iload dX7_addGust_95)) (Ev_iload dX7_addGust_97)) (Ev_iload dX7_addGust_99)) (Rn_V (ci := 2) Fx2.1 rfl Y_X2_setTimes (k_X2_setTimes _ _) w748 w749 w750 dX7_addGust_101 (Nat.le_of_ble_eq_true rfl) (Nat.le_of_ble_eq_true rfl) (Nat.le_of_ble_eq_true rfl) (Nat.ne_of_beq_eq_false rfl))) (Sv_ret (Ev_iload dX7_addGust_104) hr dX7_addGust_106))))))))), Nat.le_of_ble_eq_true rfl, Nat.le_of_ble_eq_true rfl⟩)
theorem dX7_inlet_0 : decode cX7_inlet 0 = .ok (.aload_n 0, 1) := by decide +kernel
theorem dX7_inlet_1 : decode cX7_inlet 1 = .ok (.iconst 0, 1) := by decide +kernel
theorem dX7_inlet_2 : decode cX7_inlet 2 = .ok (.iconst 0, 1) := by decide +kernel
theorem dX7_inlet_3 : decode cX7_inlet 3 = .ok (.iload_n 1, 1) := by decide +kernel
theorem dX7_inlet_4 : decode cX7_inlet 4 = .ok (.iload_n 2, 1) := by decide +kernel
theorem dX7_inlet_5 : decode cX7_inlet 5 = .ok (.iload_n 3, 1) := by decide +kernel
theorem dX7_inlet_6 : decode cX7_inlet 6 = .ok (.iload 4, 2) := by decide +kernel
theorem dX7_inlet_8 : decode cX7_inlet 8 = .ok (.iload 5, 2) := by decide +kernel
theorem dX7_inlet_10 : decode cX7_inlet 10 = .ok (.invokevirtual 147, 3) := by decide +kernel
theorem dX7_inlet_13 : decode cX7_inlet 13 = .ok (.ireturn, 1) := by decide +kernel
def f_X7_inlet : MX := mth 6 (sR (eM (gd 7 f_X7_addGust) (aI (aI (aI (aI (aI (aI (aI (aA (aN) (eLa 0)) (eI (0))) (eI (0))) (eLi 1)) (eLi 2)) (eLi 3)) (eLi 4)) (eLi 5))))
theorem Y_X7_inlet : Yk yX7_inlet cX7_inlet 6 (some .int) 5 := ⟨w739, w1, by decide +kernel, by decide +kernel, by decide +kernel⟩
set_option maxRecDepth 20000 in
theorem k_X7_inlet (l : Launch) (g : GE) : MetX l g yX7_inlet cX7_inlet 6 (some .int) 6 ({ frames := 10, cells := 9, slots := 54, locals := 177 } : Room) f_X7_inlet := by
  unfold f_X7_inlet
  exact MetX.of (own := RX7) 100 0 rfl (by decide +kernel) (by decide) (fun p e s m args below meth c Fin ad0 hr hn => ⟨_, _, Sv_ret (Ev_call (Av_i (Av_i (Av_i (Av_i (Av_i (Av_i (Av_i (Av_a (Av_nil) (Ev_aload_n dX7_inlet_0 rfl)) (Ev_iconst dX7_inlet_1 (by decide))) (Ev_iconst dX7_inlet_2 (by decide))) (Ev_iload_n dX7_inlet_3 rfl)) (Ev_iload_n dX7_inlet_4 rfl)) (Ev_iload_n dX7_inlet_5 rfl)) (Ev_iload dX7_inlet_6)) (Ev_iload dX7_inlet_8)) (Rn_V (ci := 7) Fx7.1 rfl Y_X7_addGust (k_X7_addGust _ _) w740 w742 wp14 dX7_inlet_10 (Nat.le_of_ble_eq_true rfl) (Nat.le_of_ble_eq_true rfl) (Nat.le_of_ble_eq_true rfl) (Nat.ne_of_beq_eq_false rfl))) hr dX7_inlet_13, Nat.le_of_ble_eq_true rfl, Nat.le_of_ble_eq_true rfl⟩)
theorem dX7_fan_0 : decode cX7_fan 0 = .ok (.aload_n 0, 1) := by decide +kernel
theorem dX7_fan_1 : decode cX7_fan 1 = .ok (.iconst 1, 1) := by decide +kernel
theorem dX7_fan_2 : decode cX7_fan 2 = .ok (.iload_n 1, 1) := by decide +kernel
theorem dX7_fan_3 : decode cX7_fan 3 = .ok (.iload_n 2, 1) := by decide +kernel
theorem dX7_fan_4 : decode cX7_fan 4 = .ok (.iload_n 3, 1) := by decide +kernel
theorem dX7_fan_5 : decode cX7_fan 5 = .ok (.iload 4, 2) := by decide +kernel
theorem dX7_fan_7 : decode cX7_fan 7 = .ok (.iload 5, 2) := by decide +kernel
theorem dX7_fan_9 : decode cX7_fan 9 = .ok (.iload 6, 2) := by decide +kernel
theorem dX7_fan_11 : decode cX7_fan 11 = .ok (.invokevirtual 147, 3) := by decide +kernel
theorem dX7_fan_14 : decode cX7_fan 14 = .ok (.ireturn, 1) := by decide +kernel
def f_X7_fan : MX := mth 7 (sR (eM (gd 7 f_X7_addGust) (aI (aI (aI (aI (aI (aI (aI (aA (aN) (eLa 0)) (eI (1))) (eLi 1)) (eLi 2)) (eLi 3)) (eLi 4)) (eLi 5)) (eLi 6))))
theorem Y_X7_fan : Yk yX7_fan cX7_fan 7 (some .int) 6 := ⟨w758, w1, by decide +kernel, by decide +kernel, by decide +kernel⟩
set_option maxRecDepth 20000 in
theorem k_X7_fan (l : Launch) (g : GE) : MetX l g yX7_fan cX7_fan 7 (some .int) 7 ({ frames := 10, cells := 9, slots := 54, locals := 177 } : Room) f_X7_fan := by
  unfold f_X7_fan
  exact MetX.of (own := RX7) 100 0 rfl (by decide +kernel) (by decide) (fun p e s m args below meth c Fin ad0 hr hn => ⟨_, _, Sv_ret (Ev_call (Av_i (Av_i (Av_i (Av_i (Av_i (Av_i (Av_i (Av_a (Av_nil) (Ev_aload_n dX7_fan_0 rfl)) (Ev_iconst dX7_fan_1 (by decide))) (Ev_iload_n dX7_fan_2 rfl)) (Ev_iload_n dX7_fan_3 rfl)) (Ev_iload_n dX7_fan_4 rfl)) (Ev_iload dX7_fan_5)) (Ev_iload dX7_fan_7)) (Ev_iload dX7_fan_9)) (Rn_V (ci := 7) Fx7.1 rfl Y_X7_addGust (k_X7_addGust _ _) w740 w742 wp14 dX7_fan_11 (Nat.le_of_ble_eq_true rfl) (Nat.le_of_ble_eq_true rfl) (Nat.le_of_ble_eq_true rfl) (Nat.ne_of_beq_eq_false rfl))) hr dX7_fan_14, Nat.le_of_ble_eq_true rfl, Nat.le_of_ble_eq_true rfl⟩)
theorem dX7_drain_0 : decode cX7_drain 0 = .ok (.aload_n 0, 1) := by decide +kernel
theorem dX7_drain_1 : decode cX7_drain 1 = .ok (.iconst 2, 1) := by decide +kernel
theorem dX7_drain_2 : decode cX7_drain 2 = .ok (.iload_n 1, 1) := by decide +kernel
theorem dX7_drain_3 : decode cX7_drain 3 = .ok (.iload_n 2, 1) := by decide +kernel
theorem dX7_drain_4 : decode cX7_drain 4 = .ok (.iload_n 3, 1) := by decide +kernel
theorem dX7_drain_5 : decode cX7_drain 5 = .ok (.iload 4, 2) := by decide +kernel
theorem dX7_drain_7 : decode cX7_drain 7 = .ok (.iload 5, 2) := by decide +kernel
theorem dX7_drain_9 : decode cX7_drain 9 = .ok (.iload 6, 2) := by decide +kernel
theorem dX7_drain_11 : decode cX7_drain 11 = .ok (.invokevirtual 147, 3) := by decide +kernel
theorem dX7_drain_14 : decode cX7_drain 14 = .ok (.ireturn, 1) := by decide +kernel
def f_X7_drain : MX := mth 7 (sR (eM (gd 7 f_X7_addGust) (aI (aI (aI (aI (aI (aI (aI (aA (aN) (eLa 0)) (eI (2))) (eLi 1)) (eLi 2)) (eLi 3)) (eLi 4)) (eLi 5)) (eLi 6))))
theorem Y_X7_drain : Yk yX7_drain cX7_drain 7 (some .int) 6 := ⟨w765, w1, by decide +kernel, by decide +kernel, by decide +kernel⟩
set_option maxRecDepth 20000 in
theorem k_X7_drain (l : Launch) (g : GE) : MetX l g yX7_drain cX7_drain 7 (some .int) 7 ({ frames := 10, cells := 9, slots := 54, locals := 177 } : Room) f_X7_drain := by
  unfold f_X7_drain
  exact MetX.of (own := RX7) 100 0 rfl (by decide +kernel) (by decide) (fun p e s m args below meth c Fin ad0 hr hn => ⟨_, _, Sv_ret (Ev_call (Av_i (Av_i (Av_i (Av_i (Av_i (Av_i (Av_i (Av_a (Av_nil) (Ev_aload_n dX7_drain_0 rfl)) (Ev_iconst dX7_drain_1 (by decide))) (Ev_iload_n dX7_drain_2 rfl)) (Ev_iload_n dX7_drain_3 rfl)) (Ev_iload_n dX7_drain_4 rfl)) (Ev_iload dX7_drain_5)) (Ev_iload dX7_drain_7)) (Ev_iload dX7_drain_9)) (Rn_V (ci := 7) Fx7.1 rfl Y_X7_addGust (k_X7_addGust _ _) w740 w742 wp14 dX7_drain_11 (Nat.le_of_ble_eq_true rfl) (Nat.le_of_ble_eq_true rfl) (Nat.le_of_ble_eq_true rfl) (Nat.ne_of_beq_eq_false rfl))) hr dX7_drain_14, Nat.le_of_ble_eq_true rfl, Nat.le_of_ble_eq_true rfl⟩)
theorem dX7_drop_0 : decode cX7_drop 0 = .ok (.iload_n 1, 1) := by decide +kernel
theorem dX7_drop_1 : decode cX7_drop 1 = .ok (.aload_n 0, 1) := by decide +kernel
theorem dX7_drop_2 : decode cX7_drop 2 = .ok (.getfield 12, 3) := by decide +kernel
theorem dX7_drop_5 : decode cX7_drop 5 = .ok (.getfield 151, 3) := by decide +kernel
theorem dX7_drop_8 : decode cX7_drop 8 = .ok (.getfield 155, 3) := by decide +kernel
theorem dX7_drop_11 : decode cX7_drop 11 = .ok (.invokestatic 160, 3) := by decide +kernel
theorem dX7_drop_14 : decode cX7_drop 14 = .ok (.aload_n 0, 1) := by decide +kernel
theorem dX7_drop_15 : decode cX7_drop 15 = .ok (.invokevirtual 82, 3) := by decide +kernel
theorem dX7_drop_18 : decode cX7_drop 18 = .ok (.aload_n 0, 1) := by decide +kernel
theorem dX7_drop_19 : decode cX7_drop 19 = .ok (.getfield 12, 3) := by decide +kernel
theorem dX7_drop_22 : decode cX7_drop 22 = .ok (.getfield 151, 3) := by decide +kernel
theorem dX7_drop_25 : decode cX7_drop 25 = .ok (.iload_n 1, 1) := by decide +kernel
theorem dX7_drop_26 : decode cX7_drop 26 = .ok (.invokevirtual 163, 3) := by decide +kernel
theorem dX7_drop_29 : decode cX7_drop 29 = .ok (.aload_n 0, 1) := by decide +kernel
theorem dX7_drop_30 : decode cX7_drop 30 = .ok (.getfield 12, 3) := by decide +kernel
theorem dX7_drop_33 : decode cX7_drop 33 = .ok (.getfield 151, 3) := by decide +kernel
theorem dX7_drop_36 : decode cX7_drop 36 = .ok (.getfield 155, 3) := by decide +kernel
theorem dX7_drop_39 : decode cX7_drop 39 = .ok (.ireturn, 1) := by decide +kernel
def f_X7_drop : MX := mth 2 (sQ (sM (f_X7_needIndex) (aI (aI (aN) (eLi 1)) (eGi (eGa (eGa (eLa 0) 7 0) 6 1) 2 0))) (sQ (sM (gd 7 f_X7_recordChange) (aA (aN) (eLa 0))) (sQ (sM (gd 2 f_X2_remove) (aI (aA (aN) (eGa (eGa (eLa 0) 7 0) 6 1)) (eLi 1))) (sR (eGi (eGa (eGa (eLa 0) 7 0) 6 1) 2 0)))))
theorem Y_X7_drop : Yk yX7_drop cX7_drop 2 (some .int) 1 := ⟨w772, w1, by decide +kernel, by decide +kernel, by decide +kernel⟩
set_option maxRecDepth 20000 in
theorem k_X7_drop (l : Launch) (g : GE) : MetX l g yX7_drop cX7_drop 2 (some .int) 2 ({ frames := 7, cells := 1, slots := 6, locals := 103 } : Room) f_X7_drop := by
  unfold f_X7_drop
  exact MetX.of (own := RX7) 100 0 rfl (by decide +kernel) (by decide) (fun p e s m args below meth c Fin ad0 hr hn => ⟨_, _, Sv_seq (Sv_call (Av_i (Av_i (Av_nil) (Ev_iload_n dX7_drop_0 rfl)) (Ev_getI Fx2 (Ev_getA Fx6 (Ev_getA Fx7 (Ev_aload_n dX7_drop_1 rfl) (k := 0) (by decide) w384 dX7_drop_2) (k := 1) (by decide) w127 dX7_drop_5) (k := 0) (by decide) w78 dX7_drop_8)) (Rn_S Y_X7_needIndex (k_X7_needIndex _ _) w563 w564 dX7_drop_11 (Nat.le_of_ble_eq_true rfl) (Nat.le_of_ble_eq_true rfl) (Nat.le_of_ble_eq_true rfl) (Nat.ne_of_beq_eq_false rfl))) (Sv_seq (Sv_call (Av_a (Av_nil) (Ev_aload_n dX7_drop_14 rfl)) (Rn_V (ci := 7) Fx7.1 rfl Y_X7_recordChange (k_X7_recordChange _ _) w516 w518 wp10 dX7_drop_15 (Nat.le_of_ble_eq_true rfl) (Nat.le_of_ble_eq_true rfl) (Nat.le_of_ble_eq_true rfl) (Nat.ne_of_beq_eq_false rfl))) (Sv_seq (Sv_call (Av_i (Av_a (Av_nil) (Ev_getA Fx6 (Ev_getA Fx7 (Ev_aload_n dX7_drop_18 rfl) (k := 0) (by decide) w384 dX7_drop_19) (k := 1) (by decide) w127 dX7_drop_22)) (Ev_iload_n dX7_drop_25 rfl)) (Rn_V (ci := 2) Fx2.1 rfl Y_X2_remove (k_X2_remove _ _) w773 w774 w775 dX7_drop_26 (Nat.le_of_ble_eq_true rfl) (Nat.le_of_ble_eq_true rfl) (Nat.le_of_ble_eq_true rfl) (Nat.ne_of_beq_eq_false rfl))) (Sv_ret (Ev_getI Fx2 (Ev_getA Fx6 (Ev_getA Fx7 (Ev_aload_n dX7_drop_29 rfl) (k := 0) (by decide) w384 dX7_drop_30) (k := 1) (by decide) w127 dX7_drop_33) (k := 0) (by decide) w78 dX7_drop_36) hr dX7_drop_39))), Nat.le_of_ble_eq_true rfl, Nat.le_of_ble_eq_true rfl⟩)
theorem dX7_type_0 : decode cX7_type 0 = .ok (.iload_n 1, 1) := by decide +kernel
theorem dX7_type_1 : decode cX7_type 1 = .ok (.bipush 33, 2) := by decide +kernel
theorem dX7_type_3 : decode cX7_type 3 = .ok (.bipush 126, 2) := by decide +kernel
theorem dX7_type_5 : decode cX7_type 5 = .ok (.invokestatic 78, 3) := by decide +kernel
theorem dX7_type_8 : decode cX7_type 8 = .ok (.aload_n 0, 1) := by decide +kernel
theorem dX7_type_9 : decode cX7_type 9 = .ok (.getfield 29, 3) := by decide +kernel
theorem dX7_type_12 : decode cX7_type 12 = .ok (.getfield 75, 3) := by decide +kernel
theorem dX7_type_15 : decode cX7_type 15 = .ok (.bipush 80, 2) := by decide +kernel
theorem dX7_type_17 : decode cX7_type 17 = .ok (.if_icmp .ge 7, 3) := by decide +kernel
theorem dX7_type_20 : decode cX7_type 20 = .ok (.iconst 1, 1) := by decide +kernel
theorem dX7_type_21 : decode cX7_type 21 = .ok (.goto 4, 3) := by decide +kernel
theorem dX7_type_24 : decode cX7_type 24 = .ok (.iconst 0, 1) := by decide +kernel
theorem dX7_type_25 : decode cX7_type 25 = .ok (.invokestatic 109, 3) := by decide +kernel
theorem dX7_type_28 : decode cX7_type 28 = .ok (.aload_n 0, 1) := by decide +kernel
theorem dX7_type_29 : decode cX7_type 29 = .ok (.getfield 29, 3) := by decide +kernel
theorem dX7_type_32 : decode cX7_type 32 = .ok (.iload_n 1, 1) := by decide +kernel
theorem dX7_type_33 : decode cX7_type 33 = .ok (.i2c, 1) := by decide +kernel
theorem dX7_type_34 : decode cX7_type 34 = .ok (.invokevirtual 64, 3) := by decide +kernel
theorem dX7_type_37 : decode cX7_type 37 = .ok (.aload_n 0, 1) := by decide +kernel
theorem dX7_type_38 : decode cX7_type 38 = .ok (.getfield 29, 3) := by decide +kernel
theorem dX7_type_41 : decode cX7_type 41 = .ok (.getfield 75, 3) := by decide +kernel
theorem dX7_type_44 : decode cX7_type 44 = .ok (.ireturn, 1) := by decide +kernel
def f_X7_type : MX := mth 2 (sQ (sM (f_X7_needRange) (aI (aI (aI (aN) (eLi 1)) (eI (33))) (eI (126)))) (sQ (sM (f_X7_needState) (aI (aN) (eC (cB c_lt (eGi (eGa (eLa 0) 7 3) 3 1) (eI (80)))))) (sQ (sM (gd 3 f_X3_append) (aI (aA (aN) (eGa (eLa 0) 7 3)) (eU o_i2c (eLi 1)))) (sR (eGi (eGa (eLa 0) 7 3) 3 1)))))
theorem Y_X7_type : Yk yX7_type cX7_type 2 (some .int) 1 := ⟨w783, w1, by decide +kernel, by decide +kernel, by decide +kernel⟩
set_option maxRecDepth 20000 in
theorem k_X7_type (l : Launch) (g : GE) : MetX l g yX7_type cX7_type 2 (some .int) 2 ({ frames := 7, cells := 2, slots := 12, locals := 104 } : Room) f_X7_type := by
  unfold f_X7_type
  exact MetX.of (own := RX7) 100 0 rfl (by decide +kernel) (by decide) (fun p e s m args below meth c Fin ad0 hr hn => ⟨_, _, Sv_seq (Sv_call (Av_i (Av_i (Av_i (Av_nil) (Ev_iload_n dX7_type_0 rfl)) (Ev_bipush dX7_type_1 (by decide))) (Ev_bipush dX7_type_3 (by decide))) (Rn_S Y_X7_needRange (k_X7_needRange _ _) w446 w447 dX7_type_5 (Nat.le_of_ble_eq_true rfl) (Nat.le_of_ble_eq_true rfl) (Nat.le_of_ble_eq_true rfl) (Nat.ne_of_beq_eq_false rfl))) (Sv_seq (Sv_call (Av_i (Av_nil) (Ev_if (pT := 25) (Cv_icmp_ge_n (Ev_getI Fx3 (Ev_getA Fx7 (Ev_aload_n dX7_type_8 rfl) (k := 3) (by decide) w387 dX7_type_9) (k := 1) (by decide) w194 dX7_type_12) (Ev_bipush dX7_type_15 (by decide)) (t := 24) dX7_type_17 (by decide)) (Ev_iconst dX7_type_20 (by decide)) dX7_type_21 (by decide) (Ev_iconst dX7_type_24 (by decide)))) (Rn_S Y_X7_needState (k_X7_needState _ _) w594 w595 dX7_type_25 (Nat.le_of_ble_eq_true rfl) (Nat.le_of_ble_eq_true rfl) (Nat.le_of_ble_eq_true rfl) (Nat.ne_of_beq_eq_false rfl))) (Sv_seq (Sv_call (Av_i (Av_a (Av_nil) (Ev_getA Fx7 (Ev_aload_n dX7_type_28 rfl) (k := 3) (by decide) w387 dX7_type_29)) (Ev_i2c (Ev_iload_n dX7_type_32 rfl) dX7_type_33)) (Rn_V (ci := 3) Fx3.1 rfl Y_X3_append (k_X3_append _ _) w318 w319 w320 dX7_type_34 (Nat.le_of_ble_eq_true rfl) (Nat.le_of_ble_eq_true rfl) (Nat.le_of_ble_eq_true rfl) (Nat.ne_of_beq_eq_false rfl))) (Sv_ret (Ev_getI Fx3 (Ev_getA Fx7 (Ev_aload_n dX7_type_37 rfl) (k := 3) (by decide) w387 dX7_type_38) (k := 1) (by decide) w194 dX7_type_41) hr dX7_type_44))), Nat.le_of_ble_eq_true rfl, Nat.le_of_ble_eq_true rfl⟩)
theorem dX7_wipe_0 : decode cX7_wipe 0 = .ok (.aload_n 0, 1) := by decide +kernel
theorem dX7_wipe_1 : decode cX7_wipe 1 = .ok (.getfield 29, 3) := by decide +kernel
theorem dX7_wipe_4 : decode cX7_wipe 4 = .ok (.getfield 75, 3) := by decide +kernel
theorem dX7_wipe_7 : decode cX7_wipe 7 = .ok (.istore_n 1, 1) := by decide +kernel
theorem dX7_wipe_8 : decode cX7_wipe 8 = .ok (.aload_n 0, 1) := by decide +kernel
theorem dX7_wipe_9 : decode cX7_wipe 9 = .ok (.getfield 29, 3) := by decide +kernel
theorem dX7_wipe_12 : decode cX7_wipe 12 = .ok (.iconst 0, 1) := by decide +kernel
theorem dX7_wipe_13 : decode cX7_wipe 13 = .ok (.putfield 75, 3) := by decide +kernel
theorem dX7_wipe_16 : decode cX7_wipe 16 = .ok (.iload_n 1, 1) := by decide +kernel
theorem dX7_wipe_17 : decode cX7_wipe 17 = .ok (.ireturn, 1) := by decide +kernel
def f_X7_wipe : MX := mth 2 (sQ (sTi 1 (eGi (eGa (eLa 0) 7 3) 3 1)) (sQ (sPi (eGa (eLa 0) 7 3) 3 1 (eI (0))) (sR (eLi 1))))
theorem Y_X7_wipe : Yk yX7_wipe cX7_wipe 2 (some .int) 0 := ⟨w420, w1, by decide +kernel, by decide +kernel, by decide +kernel⟩
set_option maxRecDepth 20000 in
theorem k_X7_wipe (l : Launch) (g : GE) : MetX l g yX7_wipe cX7_wipe 2 (some .int) 1 ({ frames := 0, cells := 0, slots := 0, locals := 0 } : Room) f_X7_wipe := by
  unfold f_X7_wipe
  exact MetX.of (own := RX7) 100 0 rfl (by decide +kernel) (by decide) (fun p e s m args below meth c Fin ad0 hr hn => ⟨_, _, Sv_seq (Sv_istore_n (Ev_getI Fx3 (Ev_getA Fx7 (Ev_aload_n dX7_wipe_0 rfl) (k := 3) (by decide) w387 dX7_wipe_1) (k := 1) (by decide) w194 dX7_wipe_4) dX7_wipe_7 rfl (Nat.le_of_ble_eq_true rfl) (Nat.ne_of_beq_eq_false rfl)) (Sv_seq (Sv_putI Fx3 (Ev_getA Fx7 (Ev_aload_n dX7_wipe_8 rfl) (k := 3) (by decide) w387 dX7_wipe_9) (Ev_iconst dX7_wipe_12 (by decide)) (k := 1) (by decide) rfl rfl w194 dX7_wipe_13) (Sv_ret (Ev_iload_n dX7_wipe_16 rfl) hr dX7_wipe_17)), Nat.le_of_ble_eq_true rfl, Nat.le_of_ble_eq_true rfl⟩)
theorem dX7_fault_0 : decode cX7_fault 0 = .ok (.iload_n 1, 1) := by decide +kernel
theorem dX7_fault_1 : decode cX7_fault 1 = .ok (.iconst 0, 1) := by decide +kernel
theorem dX7_fault_2 : decode cX7_fault 2 = .ok (.iconst 2, 1) := by decide +kernel
theorem dX7_fault_3 : decode cX7_fault 3 = .ok (.invokestatic 78, 3) := by decide +kernel
theorem dX7_fault_6 : decode cX7_fault 6 = .ok (.aload_n 0, 1) := by decide +kernel
theorem dX7_fault_7 : decode cX7_fault 7 = .ok (.getfield 29, 3) := by decide +kernel
theorem dX7_fault_10 : decode cX7_fault 10 = .ok (.invokevirtual 68, 3) := by decide +kernel
theorem dX7_fault_13 : decode cX7_fault 13 = .ok (.aload_n 0, 1) := by decide +kernel
theorem dX7_fault_14 : decode cX7_fault 14 = .ok (.getfield 29, 3) := by decide +kernel
theorem dX7_fault_17 : decode cX7_fault 17 = .ok (.getfield 173, 3) := by decide +kernel
theorem dX7_fault_20 : decode cX7_fault 20 = .ok (.ifCond .ne 5, 3) := by decide +kernel
theorem dX7_fault_23 : decode cX7_fault 23 = .ok (.iconst (-1), 1) := by decide +kernel
theorem dX7_fault_24 : decode cX7_fault 24 = .ok (.ireturn, 1) := by decide +kernel
theorem dX7_fault_25 : decode cX7_fault 25 = .ok (.iload_n 1, 1) := by decide +kernel
theorem dX7_fault_26 : decode cX7_fault 26 = .ok (.lookupswitch 42 #[(0, 26), (1, 34)], 26) := by decide +kernel
theorem dX7_fault_52 : decode cX7_fault 52 = .ok (.aload_n 0, 1) := by decide +kernel
theorem dX7_fault_53 : decode cX7_fault 53 = .ok (.getfield 29, 3) := by decide +kernel
theorem dX7_fault_56 : decode cX7_fault 56 = .ok (.getfield 176, 3) := by decide +kernel
theorem dX7_fault_59 : decode cX7_fault 59 = .ok (.ireturn, 1) := by decide +kernel
theorem dX7_fault_60 : decode cX7_fault 60 = .ok (.aload_n 0, 1) := by decide +kernel
theorem dX7_fault_61 : decode cX7_fault 61 = .ok (.getfield 29, 3) := by decide +kernel
theorem dX7_fault_64 : decode cX7_fault 64 = .ok (.getfield 173, 3) := by decide +kernel
theorem dX7_fault_67 : decode cX7_fault 67 = .ok (.ireturn, 1) := by decide +kernel
theorem dX7_fault_68 : decode cX7_fault 68 = .ok (.aload_n 0, 1) := by decide +kernel
theorem dX7_fault_69 : decode cX7_fault 69 = .ok (.getfield 29, 3) := by decide +kernel
theorem dX7_fault_72 : decode cX7_fault 72 = .ok (.getfield 179, 3) := by decide +kernel
theorem dX7_fault_75 : decode cX7_fault 75 = .ok (.ireturn, 1) := by decide +kernel
def f_X7_fault : MX := mth 2 (sQ (sM (f_X7_needRange) (aI (aI (aI (aN) (eLi 1)) (eI (0))) (eI (2)))) (sQ (sM (gd 3 f_X3_readBook) (aA (aN) (eGa (eLa 0) 7 3))) (sQ (sIf (cZ z_eq (eGi (eGa (eLa 0) 7 3) 3 4)) (sR (eI (-1))) sN) (sSc (eLi 1) 0 [sR (eGi (eGa (eLa 0) 7 3) 3 5), sR (eGi (eGa (eLa 0) 7 3) 3 4)] (sR (eGi (eGa (eLa 0) 7 3) 3 3))))))
theorem Y_X7_fault : Yk yX7_fault cX7_fault 2 (some .int) 1 := ⟨w790, w1, by decide +kernel, by decide +kernel, by decide +kernel⟩
set_option maxRecDepth 20000 in
theorem k_X7_fault (l : Launch) (g : GE) : MetX l g yX7_fault cX7_fault 2 (some .int) 2 ({ frames := 7, cells := 1, slots := 6, locals := 104 } : Room) f_X7_fault := by
  unfold f_X7_fault
  exact MetX.of (own := RX7) 100 0 rfl (by decide +kernel) (by decide) (fun p e s m args below meth c Fin ad0 hr hn => ⟨_, _, Sv_seq (Sv_call (Av_i (Av_i (Av_i (Av_nil) (Ev_iload_n dX7_fault_0 rfl)) (Ev_iconst dX7_fault_1 (by decide))) (Ev_iconst dX7_fault_2 (by decide))) (Rn_S Y_X7_needRange (k_X7_needRange _ _) w446 w447 dX7_fault_3 (Nat.le_of_ble_eq_true rfl) (Nat.le_of_ble_eq_true rfl) (Nat.le_of_ble_eq_true rfl) (Nat.ne_of_beq_eq_false rfl))) (Sv_seq (Sv_call (Av_a (Av_nil) (Ev_getA Fx7 (Ev_aload_n dX7_fault_6 rfl) (k := 3) (by decide) w387 dX7_fault_7)) (Rn_V (ci := 3) Fx3.1 rfl Y_X3_readBook (k_X3_readBook _ _) w322 w323 w324 dX7_fault_10 (Nat.le_of_ble_eq_true rfl) (Nat.le_of_ble_eq_true rfl) (Nat.le_of_ble_eq_true rfl) (Nat.ne_of_beq_eq_false rfl))) (Sv_seq (Sv_if (Cv_if_ne_n (Ev_getI Fx3 (Ev_getA Fx7 (Ev_aload_n dX7_fault_13 rfl) (k := 3) (by decide) w387 dX7_fault_14) (k := 4) (by decide) w202 dX7_fault_17) (t := 25) dX7_fault_20 (by decide)) (Sv_ret (Ev_iconst dX7_fault_23 (by decide)) hr dX7_fault_24) Sv_nop) (Sv_lsw (k2 := 0) (n2 := 0) (t0 := 52) (t1 := 60) (td := 68) (Ev_iload_n dX7_fault_25 rfl) dX7_fault_26 (by decide) (Sv.weaken (Sv_ret (Ev_getI Fx3 (Ev_getA Fx7 (Ev_aload_n dX7_fault_52 rfl) (k := 3) (by decide) w387 dX7_fault_53) (k := 5) (by decide) w204 dX7_fault_56) hr dX7_fault_59) (by decide) (by decide)) (by decide) (Sv.weaken (Sv_ret (Ev_getI Fx3 (Ev_getA Fx7 (Ev_aload_n dX7_fault_60 rfl) (k := 3) (by decide) w387 dX7_fault_61) (k := 4) (by decide) w202 dX7_fault_64) hr dX7_fault_67) (by decide) (by decide)) (by decide) (Sv.weaken (Sv_ret (Ev_getI Fx3 (Ev_getA Fx7 (Ev_aload_n dX7_fault_68 rfl) (k := 3) (by decide) w387 dX7_fault_69) (k := 3) (by decide) w200 dX7_fault_72) hr dX7_fault_75) (by decide) (by decide))))), Nat.le_of_ble_eq_true rfl, Nat.le_of_ble_eq_true rfl⟩)
theorem dX7_rules_0 : decode cX7_rules 0 = .ok (.aload_n 0, 1) := by decide +kernel
theorem dX7_rules_1 : decode cX7_rules 1 = .ok (.getfield 29, 3) := by decide +kernel
theorem dX7_rules_4 : decode cX7_rules 4 = .ok (.invokevirtual 68, 3) := by decide +kernel
theorem dX7_rules_7 : decode cX7_rules 7 = .ok (.aload_n 0, 1) := by decide +kernel
theorem dX7_rules_8 : decode cX7_rules 8 = .ok (.getfield 29, 3) := by decide +kernel
theorem dX7_rules_11 : decode cX7_rules 11 = .ok (.getfield 173, 3) := by decide +kernel
theorem dX7_rules_14 : decode cX7_rules 14 = .ok (.ifCond .ne 7, 3) := by decide +kernel
theorem dX7_rules_17 : decode cX7_rules 17 = .ok (.iconst 1, 1) := by decide +kernel
theorem dX7_rules_18 : decode cX7_rules 18 = .ok (.goto 4, 3) := by decide +kernel
theorem dX7_rules_21 : decode cX7_rules 21 = .ok (.iconst 0, 1) := by decide +kernel
theorem dX7_rules_22 : decode cX7_rules 22 = .ok (.invokestatic 109, 3) := by decide +kernel
theorem dX7_rules_25 : decode cX7_rules 25 = .ok (.aload_n 0, 1) := by decide +kernel
theorem dX7_rules_26 : decode cX7_rules 26 = .ok (.invokevirtual 82, 3) := by decide +kernel
theorem dX7_rules_29 : decode cX7_rules 29 = .ok (.aload_n 0, 1) := by decide +kernel
theorem dX7_rules_30 : decode cX7_rules 30 = .ok (.getfield 12, 3) := by decide +kernel
theorem dX7_rules_33 : decode cX7_rules 33 = .ok (.aload_n 0, 1) := by decide +kernel
theorem dX7_rules_34 : decode cX7_rules 34 = .ok (.getfield 29, 3) := by decide +kernel
theorem dX7_rules_37 : decode cX7_rules 37 = .ok (.invokevirtual 71, 3) := by decide +kernel
theorem dX7_rules_40 : decode cX7_rules 40 = .ok (.aload_n 0, 1) := by decide +kernel
theorem dX7_rules_41 : decode cX7_rules 41 = .ok (.getfield 29, 3) := by decide +kernel
theorem dX7_rules_44 : decode cX7_rules 44 = .ok (.iconst 0, 1) := by decide +kernel
theorem dX7_rules_45 : decode cX7_rules 45 = .ok (.putfield 75, 3) := by decide +kernel
theorem dX7_rules_48 : decode cX7_rules 48 = .ok (.aload_n 0, 1) := by decide +kernel
theorem dX7_rules_49 : decode cX7_rules 49 = .ok (.getfield 12, 3) := by decide +kernel
theorem dX7_rules_52 : decode cX7_rules 52 = .ok (.getfield 182, 3) := by decide +kernel
theorem dX7_rules_55 : decode cX7_rules 55 = .ok (.ireturn, 1) := by decide +kernel
def f_X7_rules : MX := mth 1 (sQ (sM (gd 3 f_X3_readBook) (aA (aN) (eGa (eLa 0) 7 3))) (sQ (sM (f_X7_needState) (aI (aN) (eC (cZ z_eq (eGi (eGa (eLa 0) 7 3) 3 4))))) (sQ (sM (gd 7 f_X7_recordChange) (aA (aN) (eLa 0))) (sQ (sM (gd 6 f_X6_takeBook) (aA (aA (aN) (eGa (eLa 0) 7 0)) (eGa (eLa 0) 7 3))) (sQ (sPi (eGa (eLa 0) 7 3) 3 1 (eI (0))) (sR (eGi (eGa (eLa 0) 7 0) 6 6)))))))
theorem Y_X7_rules : Yk yX7_rules cX7_rules 1 (some .int) 0 := ⟨w797, w1, by decide +kernel, by decide +kernel, by decide +kernel⟩
set_option maxRecDepth 20000 in
theorem k_X7_rules (l : Launch) (g : GE) : MetX l g yX7_rules cX7_rules 1 (some .int) 1 ({ frames := 7, cells := 1, slots := 6, locals := 102 } : Room) f_X7_rules := by
  unfold f_X7_rules
  exact MetX.of (own := RX7) 100 0 rfl (by decide +kernel) (by decide) (fun p e s m args below meth c Fin ad0 hr hn => ⟨_, _, Sv_seq (Sv_call (Av_a (Av_nil) (Ev_getA Fx7 (Ev_aload_n dX7_rules_0 rfl) (k := 3) (by decide) w387 dX7_rules_1)) (Rn_V (ci := 3) Fx3.1 rfl Y_X3_readBook (k_X3_readBook _ _) w322 w323 w324 dX7_rules_4 (Nat.le_of_ble_eq_true rfl) (Nat.le_of_ble_eq_true rfl) (Nat.le_of_ble_eq_true rfl) (Nat.ne_of_beq_eq_false rfl))) (Sv_seq (Sv_call (Av_i (Av_nil) (Ev_if (pT := 22) (Cv_if_ne_n (Ev_getI Fx3 (Ev_getA Fx7 (Ev_aload_n dX7_rules_7 rfl) (k := 3) (by decide) w387 dX7_rules_8) (k := 4) (by decide) w202 dX7_rules_11) (t := 21) dX7_rules_14 (by decide)) (Ev_iconst dX7_rules_17 (by decide)) dX7_rules_18 (by decide) (Ev_iconst dX7_rules_21 (by decide)))) (Rn_S Y_X7_needState (k_X7_needState _ _) w594 w595 dX7_rules_22 (Nat.le_of_ble_eq_true rfl) (Nat.le_of_ble_eq_true rfl) (Nat.le_of_ble_eq_true rfl) (Nat.ne_of_beq_eq_false rfl))) (Sv_seq (Sv_call (Av_a (Av_nil) (Ev_aload_n dX7_rules_25 rfl)) (Rn_V (ci := 7) Fx7.1 rfl Y_X7_recordChange (k_X7_recordChange _ _) w516 w518 wp10 dX7_rules_26 (Nat.le_of_ble_eq_true rfl) (Nat.le_of_ble_eq_true rfl) (Nat.le_of_ble_eq_true rfl) (Nat.ne_of_beq_eq_false rfl))) (Sv_seq (Sv_call (Av_a (Av_a (Av_nil) (Ev_getA Fx7 (Ev_aload_n dX7_rules_29 rfl) (k := 0) (by decide) w384 dX7_rules_30)) (Ev_getA Fx7 (Ev_aload_n dX7_rules_33 rfl) (k := 3) (by decide) w387 dX7_rules_34)) (Rn_V (ci := 6) Fx6.1 rfl Y_X6_takeBook (k_X6_takeBook _ _) w377 w378 w379 dX7_rules_37 (Nat.le_of_ble_eq_true rfl) (Nat.le_of_ble_eq_true rfl) (Nat.le_of_ble_eq_true rfl) (Nat.ne_of_beq_eq_false rfl))) (Sv_seq (Sv_putI Fx3 (Ev_getA Fx7 (Ev_aload_n dX7_rules_40 rfl) (k := 3) (by decide) w387 dX7_rules_41) (Ev_iconst dX7_rules_44 (by decide)) (k := 1) (by decide) rfl rfl w194 dX7_rules_45) (Sv_ret (Ev_getI Fx6 (Ev_getA Fx7 (Ev_aload_n dX7_rules_48 rfl) (k := 0) (by decide) w384 dX7_rules_49) (k := 6) (by decide) w141 dX7_rules_52) hr dX7_rules_55))))), Nat.le_of_ble_eq_true rfl, Nat.le_of_ble_eq_true rfl⟩)
theorem dX7_becomes_0 : decode cX7_becomes 0 = .ok (.iload_n 1, 1) := by decide +kernel
theorem dX7_becomes_1 : decode cX7_becomes 1 = .ok (.iconst 0, 1) := by decide +kernel
theorem dX7_becomes_2 : decode cX7_becomes 2 = .ok (.bipush 63, 2) := by decide +kernel
theorem dX7_becomes_4 : decode cX7_becomes 4 = .ok (.invokestatic 78, 3) := by decide +kernel
theorem dX7_becomes_7 : decode cX7_becomes 7 = .ok (.aload_n 0, 1) := by decide +kernel
theorem dX7_becomes_8 : decode cX7_becomes 8 = .ok (.getfield 12, 3) := by decide +kernel
theorem dX7_becomes_11 : decode cX7_becomes 11 = .ok (.getfield 183, 3) := by decide +kernel
theorem dX7_becomes_14 : decode cX7_becomes 14 = .ok (.iload_n 2, 1) := by decide +kernel
theorem dX7_becomes_15 : decode cX7_becomes 15 = .ok (.ifCond .eq 10, 3) := by decide +kernel
theorem dX7_becomes_18 : decode cX7_becomes 18 = .ok (.bipush 64, 2) := by decide +kernel
theorem dX7_becomes_20 : decode cX7_becomes 20 = .ok (.iload_n 1, 1) := by decide +kernel
theorem dX7_becomes_21 : decode cX7_becomes 21 = .ok (.iadd, 1) := by decide +kernel
theorem dX7_becomes_22 : decode cX7_becomes 22 = .ok (.goto 4, 3) := by decide +kernel
theorem dX7_becomes_25 : decode cX7_becomes 25 = .ok (.iload_n 1, 1) := by decide +kernel
theorem dX7_becomes_26 : decode cX7_becomes 26 = .ok (.iaload, 1) := by decide +kernel
theorem dX7_becomes_27 : decode cX7_becomes 27 = .ok (.ireturn, 1) := by decide +kernel
def f_X7_becomes : MX := mth 3 (sQ (sM (f_X7_needRange) (aI (aI (aI (aN) (eLi 1)) (eI (0))) (eI (63)))) (sR (eAi 0 (eGa (eGa (eLa 0) 7 0) 6 5) (eIf (cZ z_ne (eLi 2)) (eOp o_iadd (eI (64)) (eLi 1)) (eLi 1)))))
theorem Y_X7_becomes : Yk yX7_becomes cX7_becomes 3 (some .int) 2 := ⟨w804, w1, by decide +kernel, by decide +kernel, by decide +kernel⟩
set_option maxRecDepth 20000 in
theorem k_X7_becomes (l : Launch) (g : GE) : MetX l g yX7_becomes cX7_becomes 3 (some .int) 3 ({ frames := 7, cells := 1, slots := 6, locals := 104 } : Room) f_X7_becomes := by
  unfold f_X7_becomes
  exact MetX.of (own := RX7) 100 0 rfl (by decide +kernel) (by decide) (fun p e s m args below meth c Fin ad0 hr hn => ⟨_, _, Sv_seq (Sv_call (Av_i (Av_i (Av_i (Av_nil) (Ev_iload_n dX7_becomes_0 rfl)) (Ev_iconst dX7_becomes_1 (by decide))) (Ev_bipush dX7_becomes_2 (by decide))) (Rn_S Y_X7_needRange (k_X7_needRange _ _) w446 w447 dX7_becomes_4 (Nat.le_of_ble_eq_true rfl) (Nat.le_of_ble_eq_true rfl) (Nat.le_of_ble_eq_true rfl) (Nat.ne_of_beq_eq_false rfl))) (Sv_ret (Ev_iaload (Ev_getA Fx6 (Ev_getA Fx7 (Ev_aload_n dX7_becomes_7 rfl) (k := 0) (by decide) w384 dX7_becomes_8) (k := 5) (by decide) w139 dX7_becomes_11) (Ev_if (pT := 26) (Cv_if_eq_n (Ev_iload_n dX7_becomes_14 rfl) (t := 25) dX7_becomes_15 (by decide)) (Ev_iadd (Ev_bipush dX7_becomes_18 (by decide)) (Ev_iload_n dX7_becomes_20 rfl) dX7_becomes_21) dX7_becomes_22 (by decide) (Ev_iload_n dX7_becomes_25 rfl)) dX7_becomes_26) hr dX7_becomes_27), Nat.le_of_ble_eq_true rfl, Nat.le_of_ble_eq_true rfl⟩)
theorem dX7_run_0 : decode cX7_run 0 = .ok (.iload_n 1, 1) := by decide +kernel
theorem dX7_run_1 : decode cX7_run 1 = .ok (.iconst 1, 1) := by decide +kernel
theorem dX7_run_2 : decode cX7_run 2 = .ok (.bipush 40, 2) := by decide +kernel
theorem dX7_run_4 : decode cX7_run 4 = .ok (.invokestatic 78, 3) := by decide +kernel
theorem dX7_run_7 : decode cX7_run 7 = .ok (.aload_n 0, 1) := by decide +kernel
theorem dX7_run_8 : decode cX7_run 8 = .ok (.invokevirtual 82, 3) := by decide +kernel
theorem dX7_run_11 : decode cX7_run 11 = .ok (.iconst 0, 1) := by decide +kernel
theorem dX7_run_12 : decode cX7_run 12 = .ok (.istore_n 2, 1) := by decide +kernel
theorem dX7_run_13 : decode cX7_run 13 = .ok (.iload_n 2, 1) := by decide +kernel
theorem dX7_run_14 : decode cX7_run 14 = .ok (.iload_n 1, 1) := by decide +kernel
theorem dX7_run_15 : decode cX7_run 15 = .ok (.if_icmp .ge 20, 3) := by decide +kernel
theorem dX7_run_18 : decode cX7_run 18 = .ok (.aload_n 0, 1) := by decide +kernel
theorem dX7_run_19 : decode cX7_run 19 = .ok (.getfield 22, 3) := by decide +kernel
theorem dX7_run_22 : decode cX7_run 22 = .ok (.aload_n 0, 1) := by decide +kernel
theorem dX7_run_23 : decode cX7_run 23 = .ok (.getfield 12, 3) := by decide +kernel
theorem dX7_run_26 : decode cX7_run 26 = .ok (.invokevirtual 186, 3) := by decide +kernel
theorem dX7_run_29 : decode cX7_run 29 = .ok (.iinc 2 1, 3) := by decide +kernel
theorem dX7_run_32 : decode cX7_run 32 = .ok (.goto (-19), 3) := by decide +kernel
theorem dX7_run_35 : decode cX7_run 35 = .ok (.aload_n 0, 1) := by decide +kernel
theorem dX7_run_36 : decode cX7_run 36 = .ok (.getfield 12, 3) := by decide +kernel
theorem dX7_run_39 : decode cX7_run 39 = .ok (.getfield 190, 3) := by decide +kernel
theorem dX7_run_42 : decode cX7_run 42 = .ok (.ireturn, 1) := by decide +kernel
def f_X7_run : MX := mth 3 (sQ (sM (f_X7_needRange) (aI (aI (aI (aN) (eLi 1)) (eI (1))) (eI (40)))) (sQ (sM (gd 7 f_X7_recordChange) (aA (aN) (eLa 0))) (sQ (sQ (sTi 2 (eI (0))) (sLp (cB c_lt (eLi 2) (eLi 1)) (sQ (sM (gd 4 f_X4_tick) (aA (aA (aN) (eGa (eLa 0) 7 2)) (eGa (eLa 0) 7 0))) (sInc 2 (1))) NF)) (sR (eGi (eGa (eLa 0) 7 0) 6 7)))))
theorem Y_X7_run : Yk yX7_run cX7_run 3 (some .int) 1 := ⟨w811, w1, by decide +kernel, by decide +kernel, by decide +kernel⟩
set_option maxRecDepth 20000 in
theorem k_X7_run (l : Launch) (g : GE) : MetX l g yX7_run cX7_run 3 (some .int) 2 ({ frames := 7, cells := 1, slots := 6, locals := 130 } : Room) f_X7_run := by
  unfold f_X7_run
  exact MetX.of (own := RX7) 100 0 rfl (by decide +kernel) (by decide) (fun p e s m args below meth c Fin ad0 hr hn => ⟨_, _, Sv_seq (Sv_call (Av_i (Av_i (Av_i (Av_nil) (Ev_iload_n dX7_run_0 rfl)) (Ev_iconst dX7_run_1 (by decide))) (Ev_bipush dX7_run_2 (by decide))) (Rn_S Y_X7_needRange (k_X7_needRange _ _) w446 w447 dX7_run_4 (Nat.le_of_ble_eq_true rfl) (Nat.le_of_ble_eq_true rfl) (Nat.le_of_ble_eq_true rfl) (Nat.ne_of_beq_eq_false rfl))) (Sv_seq (Sv_call (Av_a (Av_nil) (Ev_aload_n dX7_run_7 rfl)) (Rn_V (ci := 7) Fx7.1 rfl Y_X7_recordChange (k_X7_recordChange _ _) w516 w518 wp10 dX7_run_8 (Nat.le_of_ble_eq_true rfl) (Nat.le_of_ble_eq_true rfl) (Nat.le_of_ble_eq_true rfl) (Nat.ne_of_beq_eq_false rfl))) (Sv_seq (Sv_seq (Sv_istore_n (Ev_iconst dX7_run_11 (by decide)) dX7_run_12 rfl (Nat.le_of_ble_eq_true rfl) (Nat.ne_of_beq_eq_false rfl)) (Sv_loop0 NF (Cv_icmp_ge_n (Ev_iload_n dX7_run_13 rfl) (Ev_iload_n dX7_run_14 rfl) (t := 35) dX7_run_15 (by decide)) (Sv_goto (pE := 13) (Sv_seq (Sv_call (Av_a (Av_a (Av_nil) (Ev_getA Fx7 (Ev_aload_n dX7_run_18 rfl) (k := 2) (by decide) w386 dX7_run_19)) (Ev_getA Fx7 (Ev_aload_n dX7_run_22 rfl) (k := 0) (by decide) w384 dX7_run_23)) (Rn_V (ci := 4) Fx4.1 rfl Y_X4_tick (k_X4_tick _ _) w812 w813 w814 dX7_run_26 (Nat.le_of_ble_eq_true rfl) (Nat.le_of_ble_eq_true rfl) (Nat.le_of_ble_eq_true rfl) (Nat.ne_of_beq_eq_false rfl))) (Sv_iinc dX7_run_29 (by decide) (Nat.le_of_ble_eq_true rfl) (Nat.ne_of_beq_eq_false rfl))) dX7_run_32 (by decide)))) (Sv_ret (Ev_getI Fx6 (Ev_getA Fx7 (Ev_aload_n dX7_run_35 rfl) (k := 0) (by decide) w384 dX7_run_36) (k := 7) (by decide) w144 dX7_run_39) hr dX7_run_42))), Nat.le_of_ble_eq_true rfl, Nat.le_of_ble_eq_true rfl⟩)
theorem dX7_reversible_0 : decode cX7_reversible 0 = .ok (.aload_n 0, 1) := by decide +kernel
theorem dX7_reversible_1 : decode cX7_reversible 1 = .ok (.getfield 12, 3) := by decide +kernel
theorem dX7_reversible_4 : decode cX7_reversible 4 = .ok (.invokevirtual 193, 3) := by decide +kernel
theorem dX7_reversible_7 : decode cX7_reversible 7 = .ok (.ireturn, 1) := by decide +kernel
def f_X7_reversible : MX := mth 1 (sRz (eM (gd 6 f_X6_canGoBack) (aA (aN) (eGa (eLa 0) 7 0))))
theorem Y_X7_reversible : Yk yX7_reversible cX7_reversible 1 (some .boolean) 0 := ⟨w424, w1, by decide +kernel, by decide +kernel, by decide +kernel⟩
set_option maxRecDepth 20000 in
theorem k_X7_reversible (l : Launch) (g : GE) : MetX l g yX7_reversible cX7_reversible 1 (some .boolean) 1 ({ frames := 2, cells := 0, slots := 0, locals := 44 } : Room) f_X7_reversible := by
  unfold f_X7_reversible
  exact MetX.of (own := RX7) 100 0 rfl (by decide +kernel) (by decide) (fun p e s m args below meth c Fin ad0 hr hn => ⟨_, _, Sv_retz (Ev_call (Av_a (Av_nil) (Ev_getA Fx7 (Ev_aload_n dX7_reversible_0 rfl) (k := 0) (by decide) w384 dX7_reversible_1)) (Rn_V (ci := 6) Fx6.1 rfl Y_X6_canGoBack (k_X6_canGoBack _ _) w425 w426 w427 dX7_reversible_4 (Nat.le_of_ble_eq_true rfl) (Nat.le_of_ble_eq_true rfl) (Nat.le_of_ble_eq_true rfl) (Nat.ne_of_beq_eq_false rfl))) hr dX7_reversible_7, Nat.le_of_ble_eq_true rfl, Nat.le_of_ble_eq_true rfl⟩)
theorem dX7_back_0 : decode cX7_back 0 = .ok (.iload_n 1, 1) := by decide +kernel
theorem dX7_back_1 : decode cX7_back 1 = .ok (.iconst 1, 1) := by decide +kernel
theorem dX7_back_2 : decode cX7_back 2 = .ok (.bipush 40, 2) := by decide +kernel
theorem dX7_back_4 : decode cX7_back 4 = .ok (.invokestatic 78, 3) := by decide +kernel
theorem dX7_back_7 : decode cX7_back 7 = .ok (.aload_n 0, 1) := by decide +kernel
theorem dX7_back_8 : decode cX7_back 8 = .ok (.getfield 12, 3) := by decide +kernel
theorem dX7_back_11 : decode cX7_back 11 = .ok (.invokevirtual 193, 3) := by decide +kernel
theorem dX7_back_14 : decode cX7_back 14 = .ok (.ifCond .eq 18, 3) := by decide +kernel
theorem dX7_back_17 : decode cX7_back 17 = .ok (.aload_n 0, 1) := by decide +kernel
theorem dX7_back_18 : decode cX7_back 18 = .ok (.getfield 12, 3) := by decide +kernel
theorem dX7_back_21 : decode cX7_back 21 = .ok (.getfield 190, 3) := by decide +kernel
theorem dX7_back_24 : decode cX7_back 24 = .ok (.iload_n 1, 1) := by decide +kernel
theorem dX7_back_25 : decode cX7_back 25 = .ok (.if_icmp .lt 7, 3) := by decide +kernel
theorem dX7_back_28 : decode cX7_back 28 = .ok (.iconst 1, 1) := by decide +kernel
theorem dX7_back_29 : decode cX7_back 29 = .ok (.goto 4, 3) := by decide +kernel
theorem dX7_back_32 : decode cX7_back 32 = .ok (.iconst 0, 1) := by decide +kernel
theorem dX7_back_33 : decode cX7_back 33 = .ok (.invokestatic 109, 3) := by decide +kernel
theorem dX7_back_36 : decode cX7_back 36 = .ok (.aload_n 0, 1) := by decide +kernel
theorem dX7_back_37 : decode cX7_back 37 = .ok (.invokevirtual 82, 3) := by decide +kernel
theorem dX7_back_40 : decode cX7_back 40 = .ok (.iconst 0, 1) := by decide +kernel
theorem dX7_back_41 : decode cX7_back 41 = .ok (.istore_n 2, 1) := by decide +kernel
theorem dX7_back_42 : decode cX7_back 42 = .ok (.iload_n 2, 1) := by decide +kernel
theorem dX7_back_43 : decode cX7_back 43 = .ok (.iload_n 1, 1) := by decide +kernel
theorem dX7_back_44 : decode cX7_back 44 = .ok (.if_icmp .ge 20, 3) := by decide +kernel
theorem dX7_back_47 : decode cX7_back 47 = .ok (.aload_n 0, 1) := by decide +kernel
theorem dX7_back_48 : decode cX7_back 48 = .ok (.getfield 22, 3) := by decide +kernel
theorem dX7_back_51 : decode cX7_back 51 = .ok (.aload_n 0, 1) := by decide +kernel
theorem dX7_back_52 : decode cX7_back 52 = .ok (.getfield 12, 3) := by decide +kernel
theorem dX7_back_55 : decode cX7_back 55 = .ok (.invokevirtual 197, 3) := by decide +kernel
theorem dX7_back_58 : decode cX7_back 58 = .ok (.iinc 2 1, 3) := by decide +kernel
theorem dX7_back_61 : decode cX7_back 61 = .ok (.goto (-19), 3) := by decide +kernel
theorem dX7_back_64 : decode cX7_back 64 = .ok (.aload_n 0, 1) := by decide +kernel
theorem dX7_back_65 : decode cX7_back 65 = .ok (.getfield 12, 3) := by decide +kernel
theorem dX7_back_68 : decode cX7_back 68 = .ok (.getfield 190, 3) := by decide +kernel
theorem dX7_back_71 : decode cX7_back 71 = .ok (.ireturn, 1) := by decide +kernel
def f_X7_back : MX := mth 3 (sQ (sM (f_X7_needRange) (aI (aI (aI (aN) (eLi 1)) (eI (1))) (eI (40)))) (sQ (sM (f_X7_needState) (aI (aN) (eC (cAnd (cZ z_ne (eM (gd 6 f_X6_canGoBack) (aA (aN) (eGa (eLa 0) 7 0)))) (cB c_ge (eGi (eGa (eLa 0) 7 0) 6 7) (eLi 1)))))) (sQ (sM (gd 7 f_X7_recordChange) (aA (aN) (eLa 0))) (sQ (sQ (sTi 2 (eI (0))) (sLp (cB c_lt (eLi 2) (eLi 1)) (sQ (sM (gd 4 f_X4_tickBack) (aA (aA (aN) (eGa (eLa 0) 7 2)) (eGa (eLa 0) 7 0))) (sInc 2 (1))) NF)) (sR (eGi (eGa (eLa 0) 7 0) 6 7))))))
theorem Y_X7_back : Yk yX7_back cX7_back 3 (some .int) 1 := ⟨w907, w1, by decide +kernel, by decide +kernel, by decide +kernel⟩
set_option maxRecDepth 20000 in
theorem k_X7_back (l : Launch) (g : GE) : MetX l g yX7_back cX7_back 3 (some .int) 2 ({ frames := 7, cells := 2, slots := 12, locals := 131 } : Room) f_X7_back := by
  unfold f_X7_back
  exact MetX.of (own := RX7) 100 0 rfl (by decide +kernel) (by decide) (fun p e s m args below meth c Fin ad0 hr hn => ⟨_, _, Sv_seq (Sv_call (Av_i (Av_i (Av_i (Av_nil) (Ev_iload_n dX7_back_0 rfl)) (Ev_iconst dX7_back_1 (by decide))) (Ev_bipush dX7_back_2 (by decide))) (Rn_S Y_X7_needRange (k_X7_needRange _ _) w446 w447 dX7_back_4 (Nat.le_of_ble_eq_true rfl) (Nat.le_of_ble_eq_true rfl) (Nat.le_of_ble_eq_true rfl) (Nat.ne_of_beq_eq_false rfl))) (Sv_seq (Sv_call (Av_i (Av_nil) (Ev_if (pT := 33) (Cv_and (Cv_if_eq_n (Ev_call (Av_a (Av_nil) (Ev_getA Fx7 (Ev_aload_n dX7_back_7 rfl) (k := 0) (by decide) w384 dX7_back_8)) (Rn_V (ci := 6) Fx6.1 rfl Y_X6_canGoBack (k_X6_canGoBack _ _) w425 w426 w427 dX7_back_11 (Nat.le_of_ble_eq_true rfl) (Nat.le_of_ble_eq_true rfl) (Nat.le_of_ble_eq_true rfl) (Nat.ne_of_beq_eq_false rfl))) (t := 32) dX7_back_14 (by decide)) (Cv_icmp_lt_n (Ev_getI Fx6 (Ev_getA Fx7 (Ev_aload_n dX7_back_17 rfl) (k := 0) (by decide) w384 dX7_back_18) (k := 7) (by decide) w144 dX7_back_21) (Ev_iload_n dX7_back_24 rfl) (t := 32) dX7_back_25 (by decide))) (Ev_iconst dX7_back_28 (by decide)) dX7_back_29 (by decide) (Ev_iconst dX7_back_32 (by decide)))) (Rn_S Y_X7_needState (k_X7_needState _ _) w594 w595 dX7_back_33 (Nat.le_of_ble_eq_true rfl) (Nat.le_of_ble_eq_true rfl) (Nat.le_of_ble_eq_true rfl) (Nat.ne_of_beq_eq_false rfl))) (Sv_seq (Sv_call (Av_a (Av_nil) (Ev_aload_n dX7_back_36 rfl)) (Rn_V (ci := 7) Fx7.1 rfl Y_X7_recordChange (k_X7_recordChange _ _) w516 w518 wp10 dX7_back_37 (Nat.le_of_ble_eq_true rfl) (Nat.le_of_ble_eq_true rfl) (Nat.le_of_ble_eq_true rfl) (Nat.ne_of_beq_eq_false rfl))) (Sv_seq (Sv_seq (Sv_istore_n (Ev_iconst dX7_back_40 (by decide)) dX7_back_41 rfl (Nat.le_of_ble_eq_true rfl) (Nat.ne_of_beq_eq_false rfl)) (Sv_loop0 NF (Cv_icmp_ge_n (Ev_iload_n dX7_back_42 rfl) (Ev_iload_n dX7_back_43 rfl) (t := 64) dX7_back_44 (by decide)) (Sv_goto (pE := 42) (Sv_seq (Sv_call (Av_a (Av_a (Av_nil) (Ev_getA Fx7 (Ev_aload_n dX7_back_47 rfl) (k := 2) (by decide) w386 dX7_back_48)) (Ev_getA Fx7 (Ev_aload_n dX7_back_51 rfl) (k := 0) (by decide) w384 dX7_back_52)) (Rn_V (ci := 4) Fx4.1 rfl Y_X4_tickBack (k_X4_tickBack _ _) w908 w909 w910 dX7_back_55 (Nat.le_of_ble_eq_true rfl) (Nat.le_of_ble_eq_true rfl) (Nat.le_of_ble_eq_true rfl) (Nat.ne_of_beq_eq_false rfl))) (Sv_iinc dX7_back_58 (by decide) (Nat.le_of_ble_eq_true rfl) (Nat.ne_of_beq_eq_false rfl))) dX7_back_61 (by decide)))) (Sv_ret (Ev_getI Fx6 (Ev_getA Fx7 (Ev_aload_n dX7_back_64 rfl) (k := 0) (by decide) w384 dX7_back_65) (k := 7) (by decide) w144 dX7_back_68) hr dX7_back_71)))), Nat.le_of_ble_eq_true rfl, Nat.le_of_ble_eq_true rfl⟩)
theorem dX7_cell_0 : decode cX7_cell 0 = .ok (.aload_n 0, 1) := by decide +kernel
theorem dX7_cell_1 : decode cX7_cell 1 = .ok (.iload_n 1, 1) := by decide +kernel
theorem dX7_cell_2 : decode cX7_cell 2 = .ok (.iload_n 2, 1) := by decide +kernel
theorem dX7_cell_3 : decode cX7_cell 3 = .ok (.invokevirtual 93, 3) := by decide +kernel
theorem dX7_cell_6 : decode cX7_cell 6 = .ok (.aload_n 0, 1) := by decide +kernel
theorem dX7_cell_7 : decode cX7_cell 7 = .ok (.getfield 12, 3) := by decide +kernel
theorem dX7_cell_10 : decode cX7_cell 10 = .ok (.getfield 96, 3) := by decide +kernel
theorem dX7_cell_13 : decode cX7_cell 13 = .ok (.iload_n 1, 1) := by decide +kernel
theorem dX7_cell_14 : decode cX7_cell 14 = .ok (.iload_n 2, 1) := by decide +kernel
theorem dX7_cell_15 : decode cX7_cell 15 = .ok (.invokevirtual 100, 3) := by decide +kernel
theorem dX7_cell_18 : decode cX7_cell 18 = .ok (.istore_n 3, 1) := by decide +kernel
theorem dX7_cell_19 : decode cX7_cell 19 = .ok (.iload_n 3, 1) := by decide +kernel
theorem dX7_cell_20 : decode cX7_cell 20 = .ok (.iconst (-1), 1) := by decide +kernel
theorem dX7_cell_21 : decode cX7_cell 21 = .ok (.if_icmp .ne 18, 3) := by decide +kernel
theorem dX7_cell_24 : decode cX7_cell 24 = .ok (.aload_n 0, 1) := by decide +kernel
theorem dX7_cell_25 : decode cX7_cell 25 = .ok (.getfield 12, 3) := by decide +kernel
theorem dX7_cell_28 : decode cX7_cell 28 = .ok (.getfield 96, 3) := by decide +kernel
theorem dX7_cell_31 : decode cX7_cell 31 = .ok (.iload_n 1, 1) := by decide +kernel
theorem dX7_cell_32 : decode cX7_cell 32 = .ok (.iload_n 2, 1) := by decide +kernel
theorem dX7_cell_33 : decode cX7_cell 33 = .ok (.invokevirtual 106, 3) := by decide +kernel
theorem dX7_cell_36 : decode cX7_cell 36 = .ok (.goto 6, 3) := by decide +kernel
theorem dX7_cell_39 : decode cX7_cell 39 = .ok (.iconst (-1), 1) := by decide +kernel
theorem dX7_cell_40 : decode cX7_cell 40 = .ok (.iload_n 3, 1) := by decide +kernel
theorem dX7_cell_41 : decode cX7_cell 41 = .ok (.isub, 1) := by decide +kernel
theorem dX7_cell_42 : decode cX7_cell 42 = .ok (.ireturn, 1) := by decide +kernel
def f_X7_cell : MX := mth 4 (sQ (sM (gd 7 f_X7_needCell) (aI (aI (aA (aN) (eLa 0)) (eLi 1)) (eLi 2))) (sQ (sTi 3 (eM (gd 1 f_X1_bodyAt) (aI (aI (aA (aN) (eGa (eGa (eLa 0) 7 0) 6 0)) (eLi 1)) (eLi 2)))) (sR (eIf (cB c_eq (eLi 3) (eI (-1))) (eM (gd 1 f_X1_particlesAt) (aI (aI (aA (aN) (eGa (eGa (eLa 0) 7 0) 6 0)) (eLi 1)) (eLi 2))) (eOp o_isub (eI (-1)) (eLi 3))))))
theorem Y_X7_cell : Yk yX7_cell cX7_cell 4 (some .int) 2 := ⟨w929, w1, by decide +kernel, by decide +kernel, by decide +kernel⟩
set_option maxRecDepth 20000 in
theorem k_X7_cell (l : Launch) (g : GE) : MetX l g yX7_cell cX7_cell 4 (some .int) 3 ({ frames := 8, cells := 2, slots := 12, locals := 125 } : Room) f_X7_cell := by
  unfold f_X7_cell
  exact MetX.of (own := RX7) 100 0 rfl (by decide +kernel) (by decide) (fun p e s m args below meth c Fin ad0 hr hn => ⟨_, _, Sv_seq (Sv_call (Av_i (Av_i (Av_a (Av_nil) (Ev_aload_n dX7_cell_0 rfl)) (Ev_iload_n dX7_cell_1 rfl)) (Ev_iload_n dX7_cell_2 rfl)) (Rn_V (ci := 7) Fx7.1 rfl Y_X7_needCell (k_X7_needCell _ _) w582 w584 wp11 dX7_cell_3 (Nat.le_of_ble_eq_true rfl) (Nat.le_of_ble_eq_true rfl) (Nat.le_of_ble_eq_true rfl) (Nat.ne_of_beq_eq_false rfl))) (Sv_seq (Sv_istore_n (Ev_call (Av_i (Av_i (Av_a (Av_nil) (Ev_getA Fx6 (Ev_getA Fx7 (Ev_aload_n dX7_cell_6 rfl) (k := 0) (by decide) w384 dX7_cell_7) (k := 0) (by decide) w124 dX7_cell_10)) (Ev_iload_n dX7_cell_13 rfl)) (Ev_iload_n dX7_cell_14 rfl)) (Rn_V (ci := 1) Fx1.1 rfl Y_X1_bodyAt (k_X1_bodyAt _ _) w586 w587 w588 dX7_cell_15 (Nat.le_of_ble_eq_true rfl) (Nat.le_of_ble_eq_true rfl) (Nat.le_of_ble_eq_true rfl) (Nat.ne_of_beq_eq_false rfl))) dX7_cell_18 rfl (Nat.le_of_ble_eq_true rfl) (Nat.ne_of_beq_eq_false rfl)) (Sv_ret (Ev_if (pT := 42) (Cv_icmp_ne_n (Ev_iload_n dX7_cell_19 rfl) (Ev_iconst dX7_cell_20 (by decide)) (t := 39) dX7_cell_21 (by decide)) (Ev_call (Av_i (Av_i (Av_a (Av_nil) (Ev_getA Fx6 (Ev_getA Fx7 (Ev_aload_n dX7_cell_24 rfl) (k := 0) (by decide) w384 dX7_cell_25) (k := 0) (by decide) w124 dX7_cell_28)) (Ev_iload_n dX7_cell_31 rfl)) (Ev_iload_n dX7_cell_32 rfl)) (Rn_V (ci := 1) Fx1.1 rfl Y_X1_particlesAt (k_X1_particlesAt _ _) w590 w591 w592 dX7_cell_33 (Nat.le_of_ble_eq_true rfl) (Nat.le_of_ble_eq_true rfl) (Nat.le_of_ble_eq_true rfl) (Nat.ne_of_beq_eq_false rfl))) dX7_cell_36 (by decide) (Ev_isub (Ev_iconst dX7_cell_39 (by decide)) (Ev_iload_n dX7_cell_40 rfl) dX7_cell_41)) hr dX7_cell_42)), Nat.le_of_ble_eq_true rfl, Nat.le_of_ble_eq_true rfl⟩)
theorem dX7_density_0 : decode cX7_density 0 = .ok (.aload_n 0, 1) := by decide +kernel
theorem dX7_density_1 : decode cX7_density 1 = .ok (.iload_n 1, 1) := by decide +kernel
theorem dX7_density_2 : decode cX7_density 2 = .ok (.iload_n 2, 1) := by decide +kernel
theorem dX7_density_3 : decode cX7_density 3 = .ok (.iload_n 3, 1) := by decide +kernel
theorem dX7_density_4 : decode cX7_density 4 = .ok (.iload 4, 2) := by decide +kernel
theorem dX7_density_6 : decode cX7_density 6 = .ok (.invokevirtual 121, 3) := by decide +kernel
theorem dX7_density_9 : decode cX7_density 9 = .ok (.iload_n 1, 1) := by decide +kernel
theorem dX7_density_10 : decode cX7_density 10 = .ok (.iload_n 2, 1) := by decide +kernel
theorem dX7_density_11 : decode cX7_density 11 = .ok (.iload_n 3, 1) := by decide +kernel
theorem dX7_density_12 : decode cX7_density 12 = .ok (.iload 4, 2) := by decide +kernel
theorem dX7_density_14 : decode cX7_density 14 = .ok (.invokestatic 125, 3) := by decide +kernel
theorem dX7_density_17 : decode cX7_density 17 = .ok (.aload_n 0, 1) := by decide +kernel
theorem dX7_density_18 : decode cX7_density 18 = .ok (.getfield 12, 3) := by decide +kernel
theorem dX7_density_21 : decode cX7_density 21 = .ok (.getfield 96, 3) := by decide +kernel
theorem dX7_density_24 : decode cX7_density 24 = .ok (.iload_n 1, 1) := by decide +kernel
theorem dX7_density_25 : decode cX7_density 25 = .ok (.iload_n 3, 1) := by decide +kernel
theorem dX7_density_26 : decode cX7_density 26 = .ok (.invokestatic 128, 3) := by decide +kernel
theorem dX7_density_29 : decode cX7_density 29 = .ok (.iload_n 2, 1) := by decide +kernel
theorem dX7_density_30 : decode cX7_density 30 = .ok (.iload 4, 2) := by decide +kernel
theorem dX7_density_32 : decode cX7_density 32 = .ok (.invokevirtual 200, 3) := by decide +kernel
theorem dX7_density_35 : decode cX7_density 35 = .ok (.ireturn, 1) := by decide +kernel
def f_X7_density : MX := mth 5 (sQ (sM (gd 7 f_X7_needCells) (aI (aI (aI (aI (aA (aN) (eLa 0)) (eLi 1)) (eLi 2)) (eLi 3)) (eLi 4))) (sQ (sM (f_X7_needOrder) (aI (aI (aI (aI (aN) (eLi 1)) (eLi 2)) (eLi 3)) (eLi 4))) (sR (eM (gd 1 f_X1_numberIn) (aI (aI (aI (aA (aN) (eGa (eGa (eLa 0) 7 0) 6 0)) (eM (f_X7_columnsBetween) (aI (aI (aN) (eLi 1)) (eLi 3)))) (eLi 2)) (eLi 4))))))
theorem Y_X7_density : Yk yX7_density cX7_density 5 (some .int) 4 := ⟨w936, w1, by decide +kernel, by decide +kernel, by decide +kernel⟩
set_option maxRecDepth 20000 in
theorem k_X7_density (l : Launch) (g : GE) : MetX l g yX7_density cX7_density 5 (some .int) 5 ({ frames := 9, cells := 5, slots := 30, locals := 149 } : Room) f_X7_density := by
  unfold f_X7_density
  exact MetX.of (own := RX7) 100 0 rfl (by decide +kernel) (by decide) (fun p e s m args below meth c Fin ad0 hr hn => ⟨_, _, Sv_seq (Sv_call (Av_i (Av_i (Av_i (Av_i (Av_a (Av_nil) (Ev_aload_n dX7_density_0 rfl)) (Ev_iload_n dX7_density_1 rfl)) (Ev_iload_n dX7_density_2 rfl)) (Ev_iload_n dX7_density_3 rfl)) (Ev_iload dX7_density_4)) (Rn_V (ci := 7) Fx7.1 rfl Y_X7_needCells (k_X7_needCells _ _) w637 w639 wp12 dX7_density_6 (Nat.le_of_ble_eq_true rfl) (Nat.le_of_ble_eq_true rfl) (Nat.le_of_ble_eq_true rfl) (Nat.ne_of_beq_eq_false rfl))) (Sv_seq (Sv_call (Av_i (Av_i (Av_i (Av_i (Av_nil) (Ev_iload_n dX7_density_9 rfl)) (Ev_iload_n dX7_density_10 rfl)) (Ev_iload_n dX7_density_11 rfl)) (Ev_iload dX7_density_12)) (Rn_S Y_X7_needOrder (k_X7_needOrder _ _) w641 w642 dX7_density_14 (Nat.le_of_ble_eq_true rfl) (Nat.le_of_ble_eq_true rfl) (Nat.le_of_ble_eq_true rfl) (Nat.ne_of_beq_eq_false rfl))) (Sv_ret (Ev_call (Av_i (Av_i (Av_i (Av_a (Av_nil) (Ev_getA Fx6 (Ev_getA Fx7 (Ev_aload_n dX7_density_17 rfl) (k := 0) (by decide) w384 dX7_density_18) (k := 0) (by decide) w124 dX7_density_21)) (Ev_call (Av_i (Av_i (Av_nil) (Ev_iload_n dX7_density_24 rfl)) (Ev_iload_n dX7_density_25 rfl)) (Rn_S Y_X7_columnsBetween (k_X7_columnsBetween _ _) w645 w254 dX7_density_26 (Nat.le_of_ble_eq_true rfl) (Nat.le_of_ble_eq_true rfl) (Nat.le_of_ble_eq_true rfl) (Nat.ne_of_beq_eq_false rfl)))) (Ev_iload_n dX7_density_29 rfl)) (Ev_iload dX7_density_30)) (Rn_V (ci := 1) Fx1.1 rfl Y_X1_numberIn (k_X1_numberIn _ _) w937 w938 w939 dX7_density_32 (Nat.le_of_ble_eq_true rfl) (Nat.le_of_ble_eq_true rfl) (Nat.le_of_ble_eq_true rfl) (Nat.ne_of_beq_eq_false rfl))) hr dX7_density_35)), Nat.le_of_ble_eq_true rfl, Nat.le_of_ble_eq_true rfl⟩)
theorem dX7_wind_0 : decode cX7_wind 0 = .ok (.aload_n 0, 1) := by decide +kernel
theorem dX7_wind_1 : decode cX7_wind 1 = .ok (.iload_n 2, 1) := by decide +kernel
theorem dX7_wind_2 : decode cX7_wind 2 = .ok (.iload_n 3, 1) := by decide +kernel
theorem dX7_wind_3 : decode cX7_wind 3 = .ok (.iload 4, 2) := by decide +kernel
theorem dX7_wind_5 : decode cX7_wind 5 = .ok (.iload 5, 2) := by decide +kernel
theorem dX7_wind_7 : decode cX7_wind 7 = .ok (.invokevirtual 121, 3) := by decide +kernel
theorem dX7_wind_10 : decode cX7_wind 10 = .ok (.iload_n 1, 1) := by decide +kernel
theorem dX7_wind_11 : decode cX7_wind 11 = .ok (.iconst 0, 1) := by decide +kernel
theorem dX7_wind_12 : decode cX7_wind 12 = .ok (.iconst 1, 1) := by decide +kernel
theorem dX7_wind_13 : decode cX7_wind 13 = .ok (.invokestatic 78, 3) := by decide +kernel
theorem dX7_wind_16 : decode cX7_wind 16 = .ok (.iload_n 2, 1) := by decide +kernel
theorem dX7_wind_17 : decode cX7_wind 17 = .ok (.iload_n 3, 1) := by decide +kernel
theorem dX7_wind_18 : decode cX7_wind 18 = .ok (.iload 4, 2) := by decide +kernel
theorem dX7_wind_20 : decode cX7_wind 20 = .ok (.iload 5, 2) := by decide +kernel
theorem dX7_wind_22 : decode cX7_wind 22 = .ok (.invokestatic 125, 3) := by decide +kernel
theorem dX7_wind_25 : decode cX7_wind 25 = .ok (.aload_n 0, 1) := by decide +kernel
theorem dX7_wind_26 : decode cX7_wind 26 = .ok (.getfield 12, 3) := by decide +kernel
theorem dX7_wind_29 : decode cX7_wind 29 = .ok (.getfield 96, 3) := by decide +kernel
theorem dX7_wind_32 : decode cX7_wind 32 = .ok (.iload_n 1, 1) := by decide +kernel
theorem dX7_wind_33 : decode cX7_wind 33 = .ok (.iload_n 2, 1) := by decide +kernel
theorem dX7_wind_34 : decode cX7_wind 34 = .ok (.iload 4, 2) := by decide +kernel
theorem dX7_wind_36 : decode cX7_wind 36 = .ok (.invokestatic 128, 3) := by decide +kernel
theorem dX7_wind_39 : decode cX7_wind 39 = .ok (.iload_n 3, 1) := by decide +kernel
theorem dX7_wind_40 : decode cX7_wind 40 = .ok (.iload 5, 2) := by decide +kernel
theorem dX7_wind_42 : decode cX7_wind 42 = .ok (.invokevirtual 203, 3) := by decide +kernel
theorem dX7_wind_45 : decode cX7_wind 45 = .ok (.ireturn, 1) := by decide +kernel
def f_X7_wind : MX := mth 6 (sQ (sM (gd 7 f_X7_needCells) (aI (aI (aI (aI (aA (aN) (eLa 0)) (eLi 2)) (eLi 3)) (eLi 4)) (eLi 5))) (sQ (sM (f_X7_needRange) (aI (aI (aI (aN) (eLi 1)) (eI (0))) (eI (1)))) (sQ (sM (f_X7_needOrder) (aI (aI (aI (aI (aN) (eLi 2)) (eLi 3)) (eLi 4)) (eLi 5))) (sR (eM (gd 1 f_X1_momentumIn) (aI (aI (aI (aI (aA (aN) (eGa (eGa (eLa 0) 7 0) 6 0)) (eLi 1)) (eM (f_X7_columnsBetween) (aI (aI (aN) (eLi 2)) (eLi 4)))) (eLi 3)) (eLi 5)))))))
theorem Y_X7_wind : Yk yX7_wind cX7_wind 6 (some .int) 5 := ⟨w947, w1, by decide +kernel, by decide +kernel, by decide +kernel⟩
set_option maxRecDepth 20000 in
theorem k_X7_wind (l : Launch) (g : GE) : MetX l g yX7_wind cX7_wind 6 (some .int) 6 ({ frames := 9, cells := 6, slots := 36, locals := 149 } : Room) f_X7_wind := by
  unfold f_X7_wind
  exact MetX.of (own := RX7) 100 0 rfl (by decide +kernel) (by decide) (fun p e s m args below meth c Fin ad0 hr hn => ⟨_, _, Sv_seq (Sv_call (Av_i (Av_i (Av_i (Av_i (Av_a (Av_nil) (Ev_aload_n dX7_wind_0 rfl)) (Ev_iload_n dX7_wind_1 rfl)) (Ev_iload_n dX7_wind_2 rfl)) (Ev_iload dX7_wind_3)) (Ev_iload dX7_wind_5)) (Rn_V (ci := 7) Fx7.1 rfl Y_X7_needCells (k_X7_needCells _ _) w637 w639 wp12 dX7_wind_7 (Nat.le_of_ble_eq_true rfl) (Nat.le_of_ble_eq_true rfl) (Nat.le_of_ble_eq_true rfl) (Nat.ne_of_beq_eq_false rfl))) (Sv_seq (Sv_call (Av_i (Av_i (Av_i (Av_nil) (Ev_iload_n dX7_wind_10 rfl)) (Ev_iconst dX7_wind_11 (by decide))) (Ev_iconst dX7_wind_12 (by decide))) (Rn_S Y_X7_needRange (k_X7_needRange _ _) w446 w447 dX7_wind_13 (Nat.le_of_ble_eq_true rfl) (Nat.le_of_ble_eq_true rfl) (Nat.le_of_ble_eq_true rfl) (Nat.ne_of_beq_eq_false rfl))) (Sv_seq (Sv_call (Av_i (Av_i (Av_i (Av_i (Av_nil) (Ev_iload_n dX7_wind_16 rfl)) (Ev_iload_n dX7_wind_17 rfl)) (Ev_iload dX7_wind_18)) (Ev_iload dX7_wind_20)) (Rn_S Y_X7_needOrder (k_X7_needOrder _ _) w641 w642 dX7_wind_22 (Nat.le_of_ble_eq_true rfl) (Nat.le_of_ble_eq_true rfl) (Nat.le_of_ble_eq_true rfl) (Nat.ne_of_beq_eq_false rfl))) (Sv_ret (Ev_call (Av_i (Av_i (Av_i (Av_i (Av_a (Av_nil) (Ev_getA Fx6 (Ev_getA Fx7 (Ev_aload_n dX7_wind_25 rfl) (k := 0) (by decide) w384 dX7_wind_26) (k := 0) (by decide) w124 dX7_wind_29)) (Ev_iload_n dX7_wind_32 rfl)) (Ev_call (Av_i (Av_i (Av_nil) (Ev_iload_n dX7_wind_33 rfl)) (Ev_iload dX7_wind_34)) (Rn_S Y_X7_columnsBetween (k_X7_columnsBetween _ _) w645 w254 dX7_wind_36 (Nat.le_of_ble_eq_true rfl) (Nat.le_of_ble_eq_true rfl) (Nat.le_of_ble_eq_true rfl) (Nat.ne_of_beq_eq_false rfl)))) (Ev_iload_n dX7_wind_39 rfl)) (Ev_iload dX7_wind_40)) (Rn_V (ci := 1) Fx1.1 rfl Y_X1_momentumIn (k_X1_momentumIn _ _) w948 w949 w950 dX7_wind_42 (Nat.le_of_ble_eq_true rfl) (Nat.le_of_ble_eq_true rfl) (Nat.le_of_ble_eq_true rfl) (Nat.ne_of_beq_eq_false rfl))) hr dX7_wind_45))), Nat.le_of_ble_eq_true rfl, Nat.le_of_ble_eq_true rfl⟩)
theorem dX7_crossed_0 : decode cX7_crossed 0 = .ok (.iload_n 1, 1) := by decide +kernel
theorem dX7_crossed_1 : decode cX7_crossed 1 = .ok (.aload_n 0, 1) := by decide +kernel
theorem dX7_crossed_2 : decode cX7_crossed 2 = .ok (.getfield 12, 3) := by decide +kernel
theorem dX7_crossed_5 : decode cX7_crossed 5 = .ok (.getfield 96, 3) := by decide +kernel
theorem dX7_crossed_8 : decode cX7_crossed 8 = .ok (.getfield 206, 3) := by decide +kernel
theorem dX7_crossed_11 : decode cX7_crossed 11 = .ok (.invokestatic 160, 3) := by decide +kernel
theorem dX7_crossed_14 : decode cX7_crossed 14 = .ok (.aload_n 0, 1) := by decide +kernel
theorem dX7_crossed_15 : decode cX7_crossed 15 = .ok (.getfield 12, 3) := by decide +kernel
theorem dX7_crossed_18 : decode cX7_crossed 18 = .ok (.iload_n 1, 1) := by decide +kernel
theorem dX7_crossed_19 : decode cX7_crossed 19 = .ok (.invokevirtual 209, 3) := by decide +kernel
theorem dX7_crossed_22 : decode cX7_crossed 22 = .ok (.ireturn, 1) := by decide +kernel
def f_X7_crossed : MX := mth 2 (sQ (sM (f_X7_needIndex) (aI (aI (aN) (eLi 1)) (eGi (eGa (eGa (eLa 0) 7 0) 6 0) 1 0))) (sR (eM (gd 6 f_X6_crossingsOf) (aI (aA (aN) (eGa (eLa 0) 7 0)) (eLi 1)))))
theorem Y_X7_crossed : Yk yX7_crossed cX7_crossed 2 (some .int) 1 := ⟨w959, w1, by decide +kernel, by decide +kernel, by decide +kernel⟩
set_option maxRecDepth 20000 in
theorem k_X7_crossed (l : Launch) (g : GE) : MetX l g yX7_crossed cX7_crossed 2 (some .int) 2 ({ frames := 7, cells := 1, slots := 6, locals := 103 } : Room) f_X7_crossed := by
  unfold f_X7_crossed
  exact MetX.of (own := RX7) 100 0 rfl (by decide +kernel) (by decide) (fun p e s m args below meth c Fin ad0 hr hn => ⟨_, _, Sv_seq (Sv_call (Av_i (Av_i (Av_nil) (Ev_iload_n dX7_crossed_0 rfl)) (Ev_getI Fx1 (Ev_getA Fx6 (Ev_getA Fx7 (Ev_aload_n dX7_crossed_1 rfl) (k := 0) (by decide) w384 dX7_crossed_2) (k := 0) (by decide) w124 dX7_crossed_5) (k := 0) (by decide) w45 dX7_crossed_8)) (Rn_S Y_X7_needIndex (k_X7_needIndex _ _) w563 w564 dX7_crossed_11 (Nat.le_of_ble_eq_true rfl) (Nat.le_of_ble_eq_true rfl) (Nat.le_of_ble_eq_true rfl) (Nat.ne_of_beq_eq_false rfl))) (Sv_ret (Ev_call (Av_i (Av_a (Av_nil) (Ev_getA Fx7 (Ev_aload_n dX7_crossed_14 rfl) (k := 0) (by decide) w384 dX7_crossed_15)) (Ev_iload_n dX7_crossed_18 rfl)) (Rn_V (ci := 6) Fx6.1 rfl Y_X6_crossingsOf (k_X6_crossingsOf _ _) w960 w961 w962 dX7_crossed_19 (Nat.le_of_ble_eq_true rfl) (Nat.le_of_ble_eq_true rfl) (Nat.le_of_ble_eq_true rfl) (Nat.ne_of_beq_eq_false rfl))) hr dX7_crossed_22), Nat.le_of_ble_eq_true rfl, Nat.le_of_ble_eq_true rfl⟩)
theorem dX7_gust_0 : decode cX7_gust 0 = .ok (.iload_n 1, 1) := by decide +kernel
theorem dX7_gust_1 : decode cX7_gust 1 = .ok (.aload_n 0, 1) := by decide +kernel
theorem dX7_gust_2 : decode cX7_gust 2 = .ok (.getfield 12, 3) := by decide +kernel
theorem dX7_gust_5 : decode cX7_gust 5 = .ok (.getfield 151, 3) := by decide +kernel
theorem dX7_gust_8 : decode cX7_gust 8 = .ok (.getfield 155, 3) := by decide +kernel
theorem dX7_gust_11 : decode cX7_gust 11 = .ok (.invokestatic 160, 3) := by decide +kernel
theorem dX7_gust_14 : decode cX7_gust 14 = .ok (.iload_n 2, 1) := by decide +kernel
theorem dX7_gust_15 : decode cX7_gust 15 = .ok (.iconst 0, 1) := by decide +kernel
theorem dX7_gust_16 : decode cX7_gust 16 = .ok (.bipush 8, 2) := by decide +kernel
theorem dX7_gust_18 : decode cX7_gust 18 = .ok (.invokestatic 78, 3) := by decide +kernel
theorem dX7_gust_21 : decode cX7_gust 21 = .ok (.iload_n 2, 1) := by decide +kernel
theorem dX7_gust_22 : decode cX7_gust 22 = .ok (.bipush 8, 2) := by decide +kernel
theorem dX7_gust_24 : decode cX7_gust 24 = .ok (.if_icmp .ne 30, 3) := by decide +kernel
theorem dX7_gust_27 : decode cX7_gust 27 = .ok (.aload_n 0, 1) := by decide +kernel
theorem dX7_gust_28 : decode cX7_gust 28 = .ok (.getfield 12, 3) := by decide +kernel
theorem dX7_gust_31 : decode cX7_gust 31 = .ok (.getfield 151, 3) := by decide +kernel
theorem dX7_gust_34 : decode cX7_gust 34 = .ok (.iload_n 1, 1) := by decide +kernel
theorem dX7_gust_35 : decode cX7_gust 35 = .ok (.aload_n 0, 1) := by decide +kernel
theorem dX7_gust_36 : decode cX7_gust 36 = .ok (.getfield 12, 3) := by decide +kernel
theorem dX7_gust_39 : decode cX7_gust 39 = .ok (.getfield 190, 3) := by decide +kernel
theorem dX7_gust_42 : decode cX7_gust 42 = .ok (.invokevirtual 212, 3) := by decide +kernel
theorem dX7_gust_45 : decode cX7_gust 45 = .ok (.ifCond .eq 7, 3) := by decide +kernel
theorem dX7_gust_48 : decode cX7_gust 48 = .ok (.iconst 1, 1) := by decide +kernel
theorem dX7_gust_49 : decode cX7_gust 49 = .ok (.goto 4, 3) := by decide +kernel
theorem dX7_gust_52 : decode cX7_gust 52 = .ok (.iconst 0, 1) := by decide +kernel
theorem dX7_gust_53 : decode cX7_gust 53 = .ok (.ireturn, 1) := by decide +kernel
theorem dX7_gust_54 : decode cX7_gust 54 = .ok (.aload_n 0, 1) := by decide +kernel
theorem dX7_gust_55 : decode cX7_gust 55 = .ok (.getfield 12, 3) := by decide +kernel
theorem dX7_gust_58 : decode cX7_gust 58 = .ok (.getfield 151, 3) := by decide +kernel
theorem dX7_gust_61 : decode cX7_gust 61 = .ok (.getfield 216, 3) := by decide +kernel
theorem dX7_gust_64 : decode cX7_gust 64 = .ok (.iload_n 1, 1) := by decide +kernel
theorem dX7_gust_65 : decode cX7_gust 65 = .ok (.bipush 8, 2) := by decide +kernel
theorem dX7_gust_67 : decode cX7_gust 67 = .ok (.imul, 1) := by decide +kernel
theorem dX7_gust_68 : decode cX7_gust 68 = .ok (.iload_n 2, 1) := by decide +kernel
theorem dX7_gust_69 : decode cX7_gust 69 = .ok (.iadd, 1) := by decide +kernel
theorem dX7_gust_70 : decode cX7_gust 70 = .ok (.iaload, 1) := by decide +kernel
theorem dX7_gust_71 : decode cX7_gust 71 = .ok (.ireturn, 1) := by decide +kernel
def f_X7_gust : MX := mth 3 (sQ (sM (f_X7_needIndex) (aI (aI (aN) (eLi 1)) (eGi (eGa (eGa (eLa 0) 7 0) 6 1) 2 0))) (sQ (sM (f_X7_needRange) (aI (aI (aI (aN) (eLi 2)) (eI (0))) (eI (8)))) (sQ (sIf (cB c_eq (eLi 2) (eI (8))) (sR (eIf (cZ z_ne (eM (gd 2 f_X2_isBlowing) (aI (aI (aA (aN) (eGa (eGa (eLa 0) 7 0) 6 1)) (eLi 1)) (eGi (eGa (eLa 0) 7 0) 6 7)))) (eI (1)) (eI (0)))) sN) (sR (eAi 0 (eGa (eGa (eGa (eLa 0) 7 0) 6 1) 2 1) (eOp o_iadd (eOp o_imul (eLi 1) (eI (8))) (eLi 2)))))))
theorem Y_X7_gust : Yk yX7_gust cX7_gust 3 (some .int) 2 := ⟨w971, w1, by decide +kernel, by decide +kernel, by decide +kernel⟩
set_option maxRecDepth 20000 in
theorem k_X7_gust (l : Launch) (g : GE) : MetX l g yX7_gust cX7_gust 3 (some .int) 3 ({ frames := 7, cells := 2, slots := 12, locals := 104 } : Room) f_X7_gust := by
  unfold f_X7_gust
  exact MetX.of (own := RX7) 100 0 rfl (by decide +kernel) (by decide) (fun p e s m args below meth c Fin ad0 hr hn => ⟨_, _, Sv_seq (Sv_call (Av_i (Av_i (Av_nil) (Ev_iload_n dX7_gust_0 rfl)) (Ev_getI Fx2 (Ev_getA Fx6 (Ev_getA Fx7 (Ev_aload_n dX7_gust_1 rfl) (k := 0) (by decide) w384 dX7_gust_2) (k := 1) (by decide) w127 dX7_gust_5) (k := 0) (by decide) w78 dX7_gust_8)) (Rn_S Y_X7_needIndex (k_X7_needIndex _ _) w563 w564 dX7_gust_11 (Nat.le_of_ble_eq_true rfl) (Nat.le_of_ble_eq_true rfl) (Nat.le_of_ble_eq_true rfl) (Nat.ne_of_beq_eq_false rfl))) (Sv_seq (Sv_call (Av_i (Av_i (Av_i (Av_nil) (Ev_iload_n dX7_gust_14 rfl)) (Ev_iconst dX7_gust_15 (by decide))) (Ev_bipush dX7_gust_16 (by decide))) (Rn_S Y_X7_needRange (k_X7_needRange _ _) w446 w447 dX7_gust_18 (Nat.le_of_ble_eq_true rfl) (Nat.le_of_ble_eq_true rfl) (Nat.le_of_ble_eq_true rfl) (Nat.ne_of_beq_eq_false rfl))) (Sv_seq (Sv_if (Cv_icmp_ne_n (Ev_iload_n dX7_gust_21 rfl) (Ev_bipush dX7_gust_22 (by decide)) (t := 54) dX7_gust_24 (by decide)) (Sv_ret (Ev_if (pT := 53) (Cv_if_eq_n (Ev_call (Av_i (Av_i (Av_a (Av_nil) (Ev_getA Fx6 (Ev_getA Fx7 (Ev_aload_n dX7_gust_27 rfl) (k := 0) (by decide) w384 dX7_gust_28) (k := 1) (by decide) w127 dX7_gust_31)) (Ev_iload_n dX7_gust_34 rfl)) (Ev_getI Fx6 (Ev_getA Fx7 (Ev_aload_n dX7_gust_35 rfl) (k := 0) (by decide) w384 dX7_gust_36) (k := 7) (by decide) w144 dX7_gust_39)) (Rn_V (ci := 2) Fx2.1 rfl Y_X2_isBlowing (k_X2_isBlowing _ _) w972 w820 w821 dX7_gust_42 (Nat.le_of_ble_eq_true rfl) (Nat.le_of_ble_eq_true rfl) (Nat.le_of_ble_eq_true rfl) (Nat.ne_of_beq_eq_false rfl))) (t := 52) dX7_gust_45 (by decide)) (Ev_iconst dX7_gust_48 (by decide)) dX7_gust_49 (by decide) (Ev_iconst dX7_gust_52 (by decide))) hr dX7_gust_53) Sv_nop) (Sv_ret (Ev_iaload (Ev_getA Fx2 (Ev_getA Fx6 (Ev_getA Fx7 (Ev_aload_n dX7_gust_54 rfl) (k := 0) (by decide) w384 dX7_gust_55) (k := 1) (by decide) w127 dX7_gust_58) (k := 1) (by decide) w81 dX7_gust_61) (Ev_iadd (Ev_imul (Ev_iload_n dX7_gust_64 rfl) (Ev_bipush dX7_gust_65 (by decide)) dX7_gust_67) (Ev_iload_n dX7_gust_68 rfl) dX7_gust_69) dX7_gust_70) hr dX7_gust_71))), Nat.le_of_ble_eq_true rfl, Nat.le_of_ble_eq_true rfl⟩)
theorem dX7_body_0 : decode cX7_body 0 = .ok (.iload_n 1, 1) := by decide +kernel
theorem dX7_body_1 : decode cX7_body 1 = .ok (.invokestatic 89, 3) := by decide +kernel
theorem dX7_body_4 : decode cX7_body 4 = .ok (.iload_n 2, 1) := by decide +kernel
theorem dX7_body_5 : decode cX7_body 5 = .ok (.iconst 0, 1) := by decide +kernel
theorem dX7_body_6 : decode cX7_body 6 = .ok (.bipush 6, 2) := by decide +kernel
theorem dX7_body_8 : decode cX7_body 8 = .ok (.invokestatic 78, 3) := by decide +kernel
theorem dX7_body_11 : decode cX7_body 11 = .ok (.iload_n 2, 1) := by decide +kernel
theorem dX7_body_12 : decode cX7_body 12 = .ok (.tableswitch 114 0 5 #[40, 52, 64, 78, 90, 102], 40) := by decide +kernel
theorem dX7_body_52 : decode cX7_body 52 = .ok (.aload_n 0, 1) := by decide +kernel
theorem dX7_body_53 : decode cX7_body 53 = .ok (.getfield 12, 3) := by decide +kernel
theorem dX7_body_56 : decode cX7_body 56 = .ok (.getfield 96, 3) := by decide +kernel
theorem dX7_body_59 : decode cX7_body 59 = .ok (.iload_n 1, 1) := by decide +kernel
theorem dX7_body_60 : decode cX7_body 60 = .ok (.invokevirtual 117, 3) := by decide +kernel
theorem dX7_body_63 : decode cX7_body 63 = .ok (.ireturn, 1) := by decide +kernel
theorem dX7_body_64 : decode cX7_body 64 = .ok (.aload_n 0, 1) := by decide +kernel
theorem dX7_body_65 : decode cX7_body 65 = .ok (.getfield 12, 3) := by decide +kernel
theorem dX7_body_68 : decode cX7_body 68 = .ok (.getfield 219, 3) := by decide +kernel
theorem dX7_body_71 : decode cX7_body 71 = .ok (.iload_n 1, 1) := by decide +kernel
theorem dX7_body_72 : decode cX7_body 72 = .ok (.iconst 2, 1) := by decide +kernel
theorem dX7_body_73 : decode cX7_body 73 = .ok (.imul, 1) := by decide +kernel
theorem dX7_body_74 : decode cX7_body 74 = .ok (.iaload, 1) := by decide +kernel
theorem dX7_body_75 : decode cX7_body 75 = .ok (.ireturn, 1) := by decide +kernel
theorem dX7_body_76 : decode cX7_body 76 = .ok (.aload_n 0, 1) := by decide +kernel
theorem dX7_body_77 : decode cX7_body 77 = .ok (.getfield 12, 3) := by decide +kernel
theorem dX7_body_80 : decode cX7_body 80 = .ok (.getfield 219, 3) := by decide +kernel
theorem dX7_body_83 : decode cX7_body 83 = .ok (.iload_n 1, 1) := by decide +kernel
theorem dX7_body_84 : decode cX7_body 84 = .ok (.iconst 2, 1) := by decide +kernel
theorem dX7_body_85 : decode cX7_body 85 = .ok (.imul, 1) := by decide +kernel
theorem dX7_body_86 : decode cX7_body 86 = .ok (.iconst 1, 1) := by decide +kernel
theorem dX7_body_87 : decode cX7_body 87 = .ok (.iadd, 1) := by decide +kernel
theorem dX7_body_88 : decode cX7_body 88 = .ok (.iaload, 1) := by decide +kernel
theorem dX7_body_89 : decode cX7_body 89 = .ok (.ireturn, 1) := by decide +kernel
theorem dX7_body_90 : decode cX7_body 90 = .ok (.aload_n 0, 1) := by decide +kernel
theorem dX7_body_91 : decode cX7_body 91 = .ok (.getfield 12, 3) := by decide +kernel
theorem dX7_body_94 : decode cX7_body 94 = .ok (.getfield 96, 3) := by decide +kernel
theorem dX7_body_97 : decode cX7_body 97 = .ok (.iload_n 1, 1) := by decide +kernel
theorem dX7_body_98 : decode cX7_body 98 = .ok (.invokevirtual 222, 3) := by decide +kernel
theorem dX7_body_101 : decode cX7_body 101 = .ok (.ireturn, 1) := by decide +kernel
theorem dX7_body_102 : decode cX7_body 102 = .ok (.aload_n 0, 1) := by decide +kernel
theorem dX7_body_103 : decode cX7_body 103 = .ok (.getfield 12, 3) := by decide +kernel
theorem dX7_body_106 : decode cX7_body 106 = .ok (.getfield 96, 3) := by decide +kernel
theorem dX7_body_109 : decode cX7_body 109 = .ok (.iload_n 1, 1) := by decide +kernel
theorem dX7_body_110 : decode cX7_body 110 = .ok (.invokevirtual 225, 3) := by decide +kernel
theorem dX7_body_113 : decode cX7_body 113 = .ok (.ireturn, 1) := by decide +kernel
theorem dX7_body_114 : decode cX7_body 114 = .ok (.aload_n 0, 1) := by decide +kernel
theorem dX7_body_115 : decode cX7_body 115 = .ok (.getfield 12, 3) := by decide +kernel
theorem dX7_body_118 : decode cX7_body 118 = .ok (.getfield 96, 3) := by decide +kernel
theorem dX7_body_121 : decode cX7_body 121 = .ok (.iload_n 1, 1) := by decide +kernel
theorem dX7_body_122 : decode cX7_body 122 = .ok (.invokevirtual 228, 3) := by decide +kernel
theorem dX7_body_125 : decode cX7_body 125 = .ok (.ireturn, 1) := by decide +kernel
theorem dX7_body_126 : decode cX7_body 126 = .ok (.aload_n 0, 1) := by decide +kernel
theorem dX7_body_127 : decode cX7_body 127 = .ok (.getfield 12, 3) := by decide +kernel
theorem dX7_body_130 : decode cX7_body 130 = .ok (.getfield 96, 3) := by decide +kernel
theorem dX7_body_133 : decode cX7_body 133 = .ok (.iload_n 1, 1) := by decide +kernel
theorem dX7_body_134 : decode cX7_body 134 = .ok (.invokevirtual 231, 3) := by decide +kernel
theorem dX7_body_137 : decode cX7_body 137 = .ok (.ireturn, 1) := by decide +kernel
def f_X7_body : MX := mth 3 (sQ (sM (f_X7_needBody) (aI (aN) (eLi 1))) (sQ (sM (f_X7_needRange) (aI (aI (aI (aN) (eLi 2)) (eI (0))) (eI (6)))) (sSc (eLi 2) 0 [sR (eM (gd 1 f_X1_sizeOf) (aI (aA (aN) (eGa (eGa (eLa 0) 7 0) 6 0)) (eLi 1))), sR (eAi 0 (eGa (eGa (eLa 0) 7 0) 6 8) (eOp o_imul (eLi 1) (eI (2)))), sR (eAi 0 (eGa (eGa (eLa 0) 7 0) 6 8) (eOp o_iadd (eOp o_imul (eLi 1) (eI (2))) (eI (1)))), sR (eM (gd 1 f_X1_firstColumnOf) (aI (aA (aN) (eGa (eGa (eLa 0) 7 0) 6 0)) (eLi 1))), sR (eM (gd 1 f_X1_lastColumnOf) (aI (aA (aN) (eGa (eGa (eLa 0) 7 0) 6 0)) (eLi 1))), sR (eM (gd 1 f_X1_firstRowOf) (aI (aA (aN) (eGa (eGa (eLa 0) 7 0) 6 0)) (eLi 1)))] (sR (eM (gd 1 f_X1_lastRowOf) (aI (aA (aN) (eGa (eGa (eLa 0) 7 0) 6 0)) (eLi 1)))))))
theorem Y_X7_body : Yk yX7_body cX7_body 3 (some .int) 2 := ⟨w979, w1, by decide +kernel, by decide +kernel, by decide +kernel⟩
set_option maxRecDepth 20000 in
theorem k_X7_body (l : Launch) (g : GE) : MetX l g yX7_body cX7_body 3 (some .int) 3 ({ frames := 8, cells := 2, slots := 12, locals := 123 } : Room) f_X7_body := by
  unfold f_X7_body
  exact MetX.of (own := RX7) 100 0 rfl (by decide +kernel) (by decide) (fun p e s m args below meth c Fin ad0 hr hn => ⟨_, _, Sv_seq (Sv_call (Av_i (Av_nil) (Ev_iload_n dX7_body_0 rfl)) (Rn_S Y_X7_needBody (k_X7_needBody _ _) w560 w561 dX7_body_1 (Nat.le_of_ble_eq_true rfl) (Nat.le_of_ble_eq_true rfl) (Nat.le_of_ble_eq_true rfl) (Nat.ne_of_beq_eq_false rfl))) (Sv_seq (Sv_call (Av_i (Av_i (Av_i (Av_nil) (Ev_iload_n dX7_body_4 rfl)) (Ev_iconst dX7_body_5 (by decide))) (Ev_bipush dX7_body_6 (by decide))) (Rn_S Y_X7_needRange (k_X7_needRange _ _) w446 w447 dX7_body_8 (Nat.le_of_ble_eq_true rfl) (Nat.le_of_ble_eq_true rfl) (Nat.le_of_ble_eq_true rfl) (Nat.ne_of_beq_eq_false rfl))) (Sv_tsw (k2 := 0) (n2 := 0) (td := 126) (Ev_iload_n dX7_body_11 rfl) dX7_body_12 rfl (fun n a h => match n, a, h with
      | 0, _, h => by cases h; exact ⟨_, 52, rfl, by decide, Sv.weaken (Sv_ret (Ev_call (Av_i (Av_a (Av_nil) (Ev_getA Fx6 (Ev_getA Fx7 (Ev_aload_n dX7_body_52 rfl) (k := 0) (by decide) w384 dX7_body_53) (k := 0) (by decide) w124 dX7_body_56)) (Ev_iload_n dX7_body_59 rfl)) (Rn_V (ci := 1) Fx1.1 rfl Y_X1_sizeOf (k_X1_sizeOf _ _) w626 w627 w628 dX7_body_60 (Nat.le_of_ble_eq_true rfl) (Nat.le_of_ble_eq_true rfl) (Nat.le_of_ble_eq_true rfl) (Nat.ne_of_beq_eq_false rfl))) hr dX7_body_63) (by decide) (by decide)⟩
      | 1, _, h => by cases h; exact ⟨_, 64, rfl, by decide, Sv.weaken (Sv_ret (Ev_iaload (Ev_getA Fx6 (Ev_getA Fx7 (Ev_aload_n dX7_body_64 rfl) (k := 0) (by decide) w384 dX7_body_65) (k := 8) (by decide) w147 dX7_body_68) (Ev_imul (Ev_iload_n dX7_body_71 rfl) (Ev_iconst dX7_body_72 (by decide)) dX7_body_73) dX7_body_74) hr dX7_body_75) (by decide) (by decide)⟩
      | 2, _, h => by cases h; exact ⟨_, 76, rfl, by decide, Sv.weaken (Sv_ret (Ev_iaload (Ev_getA Fx6 (Ev_getA Fx7 (Ev_aload_n dX7_body_76 rfl) (k := 0) (by decide) w384 dX7_body_77) (k := 8) (by decide) w147 dX7_body_80) (Ev_iadd (Ev_imul (Ev_iload_n dX7_body_83 rfl) (Ev_iconst dX7_body_84 (by decide)) dX7_body_85) (Ev_iconst dX7_body_86 (by decide)) dX7_body_87) dX7_body_88) hr dX7_body_89) (by decide) (by decide)⟩
      | 3, _, h => by cases h; exact ⟨_, 90, rfl, by decide, Sv.weaken (Sv_ret (Ev_call (Av_i (Av_a (Av_nil) (Ev_getA Fx6 (Ev_getA Fx7 (Ev_aload_n dX7_body_90 rfl) (k := 0) (by decide) w384 dX7_body_91) (k := 0) (by decide) w124 dX7_body_94)) (Ev_iload_n dX7_body_97 rfl)) (Rn_V (ci := 1) Fx1.1 rfl Y_X1_firstColumnOf (k_X1_firstColumnOf _ _) w980 w670 w671 dX7_body_98 (Nat.le_of_ble_eq_true rfl) (Nat.le_of_ble_eq_true rfl) (Nat.le_of_ble_eq_true rfl) (Nat.ne_of_beq_eq_false rfl))) hr dX7_body_101) (by decide) (by decide)⟩
      | 4, _, h => by cases h; exact ⟨_, 102, rfl, by decide, Sv.weaken (Sv_ret (Ev_call (Av_i (Av_a (Av_nil) (Ev_getA Fx6 (Ev_getA Fx7 (Ev_aload_n dX7_body_102 rfl) (k := 0) (by decide) w384 dX7_body_103) (k := 0) (by decide) w124 dX7_body_106)) (Ev_iload_n dX7_body_109 rfl)) (Rn_V (ci := 1) Fx1.1 rfl Y_X1_lastColumnOf (k_X1_lastColumnOf _ _) w981 w678 w679 dX7_body_110 (Nat.le_of_ble_eq_true rfl) (Nat.le_of_ble_eq_true rfl) (Nat.le_of_ble_eq_true rfl) (Nat.ne_of_beq_eq_false rfl))) hr dX7_body_113) (by decide) (by decide)⟩
      | 5, _, h => by cases h; exact ⟨_, 114, rfl, by decide, Sv.weaken (Sv_ret (Ev_call (Av_i (Av_a (Av_nil) (Ev_getA Fx6 (Ev_getA Fx7 (Ev_aload_n dX7_body_114 rfl) (k := 0) (by decide) w384 dX7_body_115) (k := 0) (by decide) w124 dX7_body_118)) (Ev_iload_n dX7_body_121 rfl)) (Rn_V (ci := 1) Fx1.1 rfl Y_X1_firstRowOf (k_X1_firstRowOf _ _) w982 w682 w683 dX7_body_122 (Nat.le_of_ble_eq_true rfl) (Nat.le_of_ble_eq_true rfl) (Nat.le_of_ble_eq_true rfl) (Nat.ne_of_beq_eq_false rfl))) hr dX7_body_125) (by decide) (by decide)⟩
      | n + 6, _, h => by simp at h) (by decide) (Sv.weaken (Sv_ret (Ev_call (Av_i (Av_a (Av_nil) (Ev_getA Fx6 (Ev_getA Fx7 (Ev_aload_n dX7_body_126 rfl) (k := 0) (by decide) w384 dX7_body_127) (k := 0) (by decide) w124 dX7_body_130)) (Ev_iload_n dX7_body_133 rfl)) (Rn_V (ci := 1) Fx1.1 rfl Y_X1_lastRowOf (k_X1_lastRowOf _ _) w983 w686 w687 dX7_body_134 (Nat.le_of_ble_eq_true rfl) (Nat.le_of_ble_eq_true rfl) (Nat.le_of_ble_eq_true rfl) (Nat.ne_of_beq_eq_false rfl))) hr dX7_body_137) (by decide) (by decide)))), Nat.le_of_ble_eq_true rfl, Nat.le_of_ble_eq_true rfl⟩)
theorem dX7_zero_0 : decode cX7_zero 0 = .ok (.iload_n 1, 1) := by decide +kernel
theorem dX7_zero_1 : decode cX7_zero 1 = .ok (.invokestatic 89, 3) := by decide +kernel
theorem dX7_zero_4 : decode cX7_zero 4 = .ok (.aload_n 0, 1) := by decide +kernel
theorem dX7_zero_5 : decode cX7_zero 5 = .ok (.invokevirtual 82, 3) := by decide +kernel
theorem dX7_zero_8 : decode cX7_zero 8 = .ok (.aload_n 0, 1) := by decide +kernel
theorem dX7_zero_9 : decode cX7_zero 9 = .ok (.getfield 12, 3) := by decide +kernel
theorem dX7_zero_12 : decode cX7_zero 12 = .ok (.getfield 219, 3) := by decide +kernel
theorem dX7_zero_15 : decode cX7_zero 15 = .ok (.iload_n 1, 1) := by decide +kernel
theorem dX7_zero_16 : decode cX7_zero 16 = .ok (.iconst 2, 1) := by decide +kernel
theorem dX7_zero_17 : decode cX7_zero 17 = .ok (.imul, 1) := by decide +kernel
theorem dX7_zero_18 : decode cX7_zero 18 = .ok (.iconst 1, 1) := by decide +kernel
theorem dX7_zero_19 : decode cX7_zero 19 = .ok (.iadd, 1) := by decide +kernel
theorem dX7_zero_20 : decode cX7_zero 20 = .ok (.iaload, 1) := by decide +kernel
theorem dX7_zero_21 : decode cX7_zero 21 = .ok (.istore_n 2, 1) := by decide +kernel
theorem dX7_zero_22 : decode cX7_zero 22 = .ok (.aload_n 0, 1) := by decide +kernel
theorem dX7_zero_23 : decode cX7_zero 23 = .ok (.getfield 12, 3) := by decide +kernel
theorem dX7_zero_26 : decode cX7_zero 26 = .ok (.getfield 219, 3) := by decide +kernel
theorem dX7_zero_29 : decode cX7_zero 29 = .ok (.iload_n 1, 1) := by decide +kernel
theorem dX7_zero_30 : decode cX7_zero 30 = .ok (.iconst 2, 1) := by decide +kernel
theorem dX7_zero_31 : decode cX7_zero 31 = .ok (.imul, 1) := by decide +kernel
theorem dX7_zero_32 : decode cX7_zero 32 = .ok (.iconst 0, 1) := by decide +kernel
theorem dX7_zero_33 : decode cX7_zero 33 = .ok (.iastore, 1) := by decide +kernel
theorem dX7_zero_34 : decode cX7_zero 34 = .ok (.aload_n 0, 1) := by decide +kernel
theorem dX7_zero_35 : decode cX7_zero 35 = .ok (.getfield 12, 3) := by decide +kernel
theorem dX7_zero_38 : decode cX7_zero 38 = .ok (.getfield 219, 3) := by decide +kernel
theorem dX7_zero_41 : decode cX7_zero 41 = .ok (.iload_n 1, 1) := by decide +kernel
theorem dX7_zero_42 : decode cX7_zero 42 = .ok (.iconst 2, 1) := by decide +kernel
theorem dX7_zero_43 : decode cX7_zero 43 = .ok (.imul, 1) := by decide +kernel
theorem dX7_zero_44 : decode cX7_zero 44 = .ok (.iconst 1, 1) := by decide +kernel
theorem dX7_zero_45 : decode cX7_zero 45 = .ok (.iadd, 1) := by decide +kernel
theorem dX7_zero_46 : decode cX7_zero 46 = .ok (.iconst 0, 1) := by decide +kernel
theorem dX7_zero_47 : decode cX7_zero 47 = .ok (.iastore, 1) := by decide +kernel
theorem dX7_zero_48 : decode cX7_zero 48 = .ok (.iload_n 2, 1) := by decide +kernel
theorem dX7_zero_49 : decode cX7_zero 49 = .ok (.ireturn, 1) := by decide +kernel
def f_X7_zero : MX := mth 3 (sQ (sM (f_X7_needBody) (aI (aN) (eLi 1))) (sQ (sM (gd 7 f_X7_recordChange) (aA (aN) (eLa 0))) (sQ (sTi 2 (eAi 0 (eGa (eGa (eLa 0) 7 0) 6 8) (eOp o_iadd (eOp o_imul (eLi 1) (eI (2))) (eI (1))))) (sQ (sAi 0 (eGa (eGa (eLa 0) 7 0) 6 8) (eOp o_imul (eLi 1) (eI (2))) (eI (0))) (sQ (sAi 0 (eGa (eGa (eLa 0) 7 0) 6 8) (eOp o_iadd (eOp o_imul (eLi 1) (eI (2))) (eI (1))) (eI (0))) (sR (eLi 2)))))))
theorem Y_X7_zero : Yk yX7_zero cX7_zero 3 (some .int) 1 := ⟨w990, w1, by decide +kernel, by decide +kernel, by decide +kernel⟩
set_option maxRecDepth 20000 in
theorem k_X7_zero (l : Launch) (g : GE) : MetX l g yX7_zero cX7_zero 3 (some .int) 2 ({ frames := 8, cells := 1, slots := 6, locals := 123 } : Room) f_X7_zero := by
  unfold f_X7_zero
  exact MetX.of (own := RX7) 100 0 rfl (by decide +kernel) (by decide) (fun p e s m args below meth c Fin ad0 hr hn => ⟨_, _, Sv_seq (Sv_call (Av_i (Av_nil) (Ev_iload_n dX7_zero_0 rfl)) (Rn_S Y_X7_needBody (k_X7_needBody _ _) w560 w561 dX7_zero_1 (Nat.le_of_ble_eq_true rfl) (Nat.le_of_ble_eq_true rfl) (Nat.le_of_ble_eq_true rfl) (Nat.ne_of_beq_eq_false rfl))) (Sv_seq (Sv_call (Av_a (Av_nil) (Ev_aload_n dX7_zero_4 rfl)) (Rn_V (ci := 7) Fx7.1 rfl Y_X7_recordChange (k_X7_recordChange _ _) w516 w518 wp10 dX7_zero_5 (Nat.le_of_ble_eq_true rfl) (Nat.le_of_ble_eq_true rfl) (Nat.le_of_ble_eq_true rfl) (Nat.ne_of_beq_eq_false rfl))) (Sv_seq (Sv_istore_n (Ev_iaload (Ev_getA Fx6 (Ev_getA Fx7 (Ev_aload_n dX7_zero_8 rfl) (k := 0) (by decide) w384 dX7_zero_9) (k := 8) (by decide) w147 dX7_zero_12) (Ev_iadd (Ev_imul (Ev_iload_n dX7_zero_15 rfl) (Ev_iconst dX7_zero_16 (by decide)) dX7_zero_17) (Ev_iconst dX7_zero_18 (by decide)) dX7_zero_19) dX7_zero_20) dX7_zero_21 rfl (Nat.le_of_ble_eq_true rfl) (Nat.ne_of_beq_eq_false rfl)) (Sv_seq (Sv_iastore (Ev_getA Fx6 (Ev_getA Fx7 (Ev_aload_n dX7_zero_22 rfl) (k := 0) (by decide) w384 dX7_zero_23) (k := 8) (by decide) w147 dX7_zero_26) (Ev_imul (Ev_iload_n dX7_zero_29 rfl) (Ev_iconst dX7_zero_30 (by decide)) dX7_zero_31) (Ev_iconst dX7_zero_32 (by decide)) dX7_zero_33) (Sv_seq (Sv_iastore (Ev_getA Fx6 (Ev_getA Fx7 (Ev_aload_n dX7_zero_34 rfl) (k := 0) (by decide) w384 dX7_zero_35) (k := 8) (by decide) w147 dX7_zero_38) (Ev_iadd (Ev_imul (Ev_iload_n dX7_zero_41 rfl) (Ev_iconst dX7_zero_42 (by decide)) dX7_zero_43) (Ev_iconst dX7_zero_44 (by decide)) dX7_zero_45) (Ev_iconst dX7_zero_46 (by decide)) dX7_zero_47) (Sv_ret (Ev_iload_n dX7_zero_48 rfl) hr dX7_zero_49))))), Nat.le_of_ble_eq_true rfl, Nat.le_of_ble_eq_true rfl⟩)
theorem dX7_recent_0 : decode cX7_recent 0 = .ok (.iload_n 1, 1) := by decide +kernel
theorem dX7_recent_1 : decode cX7_recent 1 = .ok (.invokestatic 89, 3) := by decide +kernel
theorem dX7_recent_4 : decode cX7_recent 4 = .ok (.iload_n 2, 1) := by decide +kernel
theorem dX7_recent_5 : decode cX7_recent 5 = .ok (.iconst 0, 1) := by decide +kernel
theorem dX7_recent_6 : decode cX7_recent 6 = .ok (.iconst 1, 1) := by decide +kernel
theorem dX7_recent_7 : decode cX7_recent 7 = .ok (.invokestatic 78, 3) := by decide +kernel
theorem dX7_recent_10 : decode cX7_recent 10 = .ok (.iload_n 3, 1) := by decide +kernel
theorem dX7_recent_11 : decode cX7_recent 11 = .ok (.iconst 1, 1) := by decide +kernel
theorem dX7_recent_12 : decode cX7_recent 12 = .ok (.bipush 64, 2) := by decide +kernel
theorem dX7_recent_14 : decode cX7_recent 14 = .ok (.invokestatic 78, 3) := by decide +kernel
theorem dX7_recent_17 : decode cX7_recent 17 = .ok (.aload_n 0, 1) := by decide +kernel
theorem dX7_recent_18 : decode cX7_recent 18 = .ok (.getfield 12, 3) := by decide +kernel
theorem dX7_recent_21 : decode cX7_recent 21 = .ok (.getfield 234, 3) := by decide +kernel
theorem dX7_recent_24 : decode cX7_recent 24 = .ok (.iload_n 1, 1) := by decide +kernel
theorem dX7_recent_25 : decode cX7_recent 25 = .ok (.iload_n 2, 1) := by decide +kernel
theorem dX7_recent_26 : decode cX7_recent 26 = .ok (.iconst 0, 1) := by decide +kernel
theorem dX7_recent_27 : decode cX7_recent 27 = .ok (.iload_n 3, 1) := by decide +kernel
theorem dX7_recent_28 : decode cX7_recent 28 = .ok (.invokevirtual 238, 3) := by decide +kernel
theorem dX7_recent_31 : decode cX7_recent 31 = .ok (.ireturn, 1) := by decide +kernel
def f_X7_recent : MX := mth 4 (sQ (sM (f_X7_needBody) (aI (aN) (eLi 1))) (sQ (sM (f_X7_needRange) (aI (aI (aI (aN) (eLi 2)) (eI (0))) (eI (1)))) (sQ (sM (f_X7_needRange) (aI (aI (aI (aN) (eLi 3)) (eI (1))) (eI (64)))) (sR (eM (gd 5 f_X5_sumOf) (aI (aI (aI (aI (aA (aN) (eGa (eGa (eLa 0) 7 0) 6 2)) (eLi 1)) (eLi 2)) (eI (0))) (eLi 3)))))))
theorem Y_X7_recent : Yk yX7_recent cX7_recent 4 (some .int) 3 := ⟨w997, w1, by decide +kernel, by decide +kernel, by decide +kernel⟩
set_option maxRecDepth 20000 in
theorem k_X7_recent (l : Launch) (g : GE) : MetX l g yX7_recent cX7_recent 4 (some .int) 4 ({ frames := 8, cells := 3, slots := 18, locals := 123 } : Room) f_X7_recent := by
  unfold f_X7_recent
  exact MetX.of (own := RX7) 100 0 rfl (by decide +kernel) (by decide) (fun p e s m args below meth c Fin ad0 hr hn => ⟨_, _, Sv_seq (Sv_call (Av_i (Av_nil) (Ev_iload_n dX7_recent_0 rfl)) (Rn_S Y_X7_needBody (k_X7_needBody _ _) w560 w561 dX7_recent_1 (Nat.le_of_ble_eq_true rfl) (Nat.le_of_ble_eq_true rfl) (Nat.le_of_ble_eq_true rfl) (Nat.ne_of_beq_eq_false rfl))) (Sv_seq (Sv_call (Av_i (Av_i (Av_i (Av_nil) (Ev_iload_n dX7_recent_4 rfl)) (Ev_iconst dX7_recent_5 (by decide))) (Ev_iconst dX7_recent_6 (by decide))) (Rn_S Y_X7_needRange (k_X7_needRange _ _) w446 w447 dX7_recent_7 (Nat.le_of_ble_eq_true rfl) (Nat.le_of_ble_eq_true rfl) (Nat.le_of_ble_eq_true rfl) (Nat.ne_of_beq_eq_false rfl))) (Sv_seq (Sv_call (Av_i (Av_i (Av_i (Av_nil) (Ev_iload_n dX7_recent_10 rfl)) (Ev_iconst dX7_recent_11 (by decide))) (Ev_bipush dX7_recent_12 (by decide))) (Rn_S Y_X7_needRange (k_X7_needRange _ _) w446 w447 dX7_recent_14 (Nat.le_of_ble_eq_true rfl) (Nat.le_of_ble_eq_true rfl) (Nat.le_of_ble_eq_true rfl) (Nat.ne_of_beq_eq_false rfl))) (Sv_ret (Ev_call (Av_i (Av_i (Av_i (Av_i (Av_a (Av_nil) (Ev_getA Fx6 (Ev_getA Fx7 (Ev_aload_n dX7_recent_17 rfl) (k := 0) (by decide) w384 dX7_recent_18) (k := 2) (by decide) w130 dX7_recent_21)) (Ev_iload_n dX7_recent_24 rfl)) (Ev_iload_n dX7_recent_25 rfl)) (Ev_iconst dX7_recent_26 (by decide))) (Ev_iload_n dX7_recent_27 rfl)) (Rn_V (ci := 5) Fx5.1 rfl Y_X5_sumOf (k_X5_sumOf _ _) w998 w999 w1000 dX7_recent_28 (Nat.le_of_ble_eq_true rfl) (Nat.le_of_ble_eq_true rfl) (Nat.le_of_ble_eq_true rfl) (Nat.ne_of_beq_eq_false rfl))) hr dX7_recent_31))), Nat.le_of_ble_eq_true rfl, Nat.le_of_ble_eq_true rfl⟩)
theorem dX7_steady_0 : decode cX7_steady 0 = .ok (.iload_n 1, 1) := by decide +kernel
theorem dX7_steady_1 : decode cX7_steady 1 = .ok (.invokestatic 89, 3) := by decide +kernel
theorem dX7_steady_4 : decode cX7_steady 4 = .ok (.iload_n 2, 1) := by decide +kernel
theorem dX7_steady_5 : decode cX7_steady 5 = .ok (.iconst 1, 1) := by decide +kernel
theorem dX7_steady_6 : decode cX7_steady 6 = .ok (.bipush 32, 2) := by decide +kernel
theorem dX7_steady_8 : decode cX7_steady 8 = .ok (.invokestatic 78, 3) := by decide +kernel
theorem dX7_steady_11 : decode cX7_steady 11 = .ok (.iload_n 3, 1) := by decide +kernel
theorem dX7_steady_12 : decode cX7_steady 12 = .ok (.iconst 0, 1) := by decide +kernel
theorem dX7_steady_13 : decode cX7_steady 13 = .ok (.sipush 1000, 3) := by decide +kernel
theorem dX7_steady_16 : decode cX7_steady 16 = .ok (.invokestatic 78, 3) := by decide +kernel
theorem dX7_steady_19 : decode cX7_steady 19 = .ok (.aload_n 0, 1) := by decide +kernel
theorem dX7_steady_20 : decode cX7_steady 20 = .ok (.getfield 12, 3) := by decide +kernel
theorem dX7_steady_23 : decode cX7_steady 23 = .ok (.getfield 234, 3) := by decide +kernel
theorem dX7_steady_26 : decode cX7_steady 26 = .ok (.iload_n 1, 1) := by decide +kernel
theorem dX7_steady_27 : decode cX7_steady 27 = .ok (.iload_n 2, 1) := by decide +kernel
theorem dX7_steady_28 : decode cX7_steady 28 = .ok (.iload_n 3, 1) := by decide +kernel
theorem dX7_steady_29 : decode cX7_steady 29 = .ok (.invokevirtual 243, 3) := by decide +kernel
theorem dX7_steady_32 : decode cX7_steady 32 = .ok (.ireturn, 1) := by decide +kernel
def f_X7_steady : MX := mth 4 (sQ (sM (f_X7_needBody) (aI (aN) (eLi 1))) (sQ (sM (f_X7_needRange) (aI (aI (aI (aN) (eLi 2)) (eI (1))) (eI (32)))) (sQ (sM (f_X7_needRange) (aI (aI (aI (aN) (eLi 3)) (eI (0))) (eI (1000)))) (sRz (eM (gd 5 f_X5_isSteady) (aI (aI (aI (aA (aN) (eGa (eGa (eLa 0) 7 0) 6 2)) (eLi 1)) (eLi 2)) (eLi 3)))))))
theorem Y_X7_steady : Yk yX7_steady cX7_steady 4 (some .boolean) 3 := ⟨w1008, w1, by decide +kernel, by decide +kernel, by decide +kernel⟩
set_option maxRecDepth 20000 in
theorem k_X7_steady (l : Launch) (g : GE) : MetX l g yX7_steady cX7_steady 4 (some .boolean) 4 ({ frames := 8, cells := 3, slots := 18, locals := 123 } : Room) f_X7_steady := by
  unfold f_X7_steady
  exact MetX.of (own := RX7) 100 0 rfl (by decide +kernel) (by decide) (fun p e s m args below meth c Fin ad0 hr hn => ⟨_, _, Sv_seq (Sv_call (Av_i (Av_nil) (Ev_iload_n dX7_steady_0 rfl)) (Rn_S Y_X7_needBody (k_X7_needBody _ _) w560 w561 dX7_steady_1 (Nat.le_of_ble_eq_true rfl) (Nat.le_of_ble_eq_true rfl) (Nat.le_of_ble_eq_true rfl) (Nat.ne_of_beq_eq_false rfl))) (Sv_seq (Sv_call (Av_i (Av_i (Av_i (Av_nil) (Ev_iload_n dX7_steady_4 rfl)) (Ev_iconst dX7_steady_5 (by decide))) (Ev_bipush dX7_steady_6 (by decide))) (Rn_S Y_X7_needRange (k_X7_needRange _ _) w446 w447 dX7_steady_8 (Nat.le_of_ble_eq_true rfl) (Nat.le_of_ble_eq_true rfl) (Nat.le_of_ble_eq_true rfl) (Nat.ne_of_beq_eq_false rfl))) (Sv_seq (Sv_call (Av_i (Av_i (Av_i (Av_nil) (Ev_iload_n dX7_steady_11 rfl)) (Ev_iconst dX7_steady_12 (by decide))) (Ev_sipush dX7_steady_13 (by decide))) (Rn_S Y_X7_needRange (k_X7_needRange _ _) w446 w447 dX7_steady_16 (Nat.le_of_ble_eq_true rfl) (Nat.le_of_ble_eq_true rfl) (Nat.le_of_ble_eq_true rfl) (Nat.ne_of_beq_eq_false rfl))) (Sv_retz (Ev_call (Av_i (Av_i (Av_i (Av_a (Av_nil) (Ev_getA Fx6 (Ev_getA Fx7 (Ev_aload_n dX7_steady_19 rfl) (k := 0) (by decide) w384 dX7_steady_20) (k := 2) (by decide) w130 dX7_steady_23)) (Ev_iload_n dX7_steady_26 rfl)) (Ev_iload_n dX7_steady_27 rfl)) (Ev_iload_n dX7_steady_28 rfl)) (Rn_V (ci := 5) Fx5.1 rfl Y_X5_isSteady (k_X5_isSteady _ _) w1009 w1010 w1011 dX7_steady_29 (Nat.le_of_ble_eq_true rfl) (Nat.le_of_ble_eq_true rfl) (Nat.le_of_ble_eq_true rfl) (Nat.ne_of_beq_eq_false rfl))) hr dX7_steady_32))), Nat.le_of_ble_eq_true rfl, Nat.le_of_ble_eq_true rfl⟩)
theorem dX7_particles_0 : decode cX7_particles 0 = .ok (.iload_n 1, 1) := by decide +kernel
theorem dX7_particles_1 : decode cX7_particles 1 = .ok (.iconst 0, 1) := by decide +kernel
theorem dX7_particles_2 : decode cX7_particles 2 = .ok (.iconst 4, 1) := by decide +kernel
theorem dX7_particles_3 : decode cX7_particles 3 = .ok (.invokestatic 78, 3) := by decide +kernel
theorem dX7_particles_6 : decode cX7_particles 6 = .ok (.iload_n 1, 1) := by decide +kernel
theorem dX7_particles_7 : decode cX7_particles 7 = .ok (.iconst 4, 1) := by decide +kernel
theorem dX7_particles_8 : decode cX7_particles 8 = .ok (.if_icmp .ne 28, 3) := by decide +kernel
theorem dX7_particles_11 : decode cX7_particles 11 = .ok (.aload_n 0, 1) := by decide +kernel
theorem dX7_particles_12 : decode cX7_particles 12 = .ok (.getfield 12, 3) := by decide +kernel
theorem dX7_particles_15 : decode cX7_particles 15 = .ok (.getfield 96, 3) := by decide +kernel
theorem dX7_particles_18 : decode cX7_particles 18 = .ok (.iconst (-1), 1) := by decide +kernel
theorem dX7_particles_19 : decode cX7_particles 19 = .ok (.iconst 0, 1) := by decide +kernel
theorem dX7_particles_20 : decode cX7_particles 20 = .ok (.aload_n 0, 1) := by decide +kernel
theorem dX7_particles_21 : decode cX7_particles 21 = .ok (.getfield 12, 3) := by decide +kernel
theorem dX7_particles_24 : decode cX7_particles 24 = .ok (.getfield 96, 3) := by decide +kernel
theorem dX7_particles_27 : decode cX7_particles 27 = .ok (.getfield 246, 3) := by decide +kernel
theorem dX7_particles_30 : decode cX7_particles 30 = .ok (.iconst 1, 1) := by decide +kernel
theorem dX7_particles_31 : decode cX7_particles 31 = .ok (.isub, 1) := by decide +kernel
theorem dX7_particles_32 : decode cX7_particles 32 = .ok (.invokevirtual 200, 3) := by decide +kernel
theorem dX7_particles_35 : decode cX7_particles 35 = .ok (.ireturn, 1) := by decide +kernel
theorem dX7_particles_36 : decode cX7_particles 36 = .ok (.aload_n 0, 1) := by decide +kernel
theorem dX7_particles_37 : decode cX7_particles 37 = .ok (.getfield 12, 3) := by decide +kernel
theorem dX7_particles_40 : decode cX7_particles 40 = .ok (.getfield 249, 3) := by decide +kernel
theorem dX7_particles_43 : decode cX7_particles 43 = .ok (.getfield 253, 3) := by decide +kernel
theorem dX7_particles_46 : decode cX7_particles 46 = .ok (.iload_n 1, 1) := by decide +kernel
theorem dX7_particles_47 : decode cX7_particles 47 = .ok (.iaload, 1) := by decide +kernel
theorem dX7_particles_48 : decode cX7_particles 48 = .ok (.ireturn, 1) := by decide +kernel
def f_X7_particles : MX := mth 2 (sQ (sM (f_X7_needRange) (aI (aI (aI (aN) (eLi 1)) (eI (0))) (eI (4)))) (sQ (sIf (cB c_eq (eLi 1) (eI (4))) (sR (eM (gd 1 f_X1_numberIn) (aI (aI (aI (aA (aN) (eGa (eGa (eLa 0) 7 0) 6 0)) (eI (-1))) (eI (0))) (eOp o_isub (eGi (eGa (eGa (eLa 0) 7 0) 6 0) 1 1) (eI (1)))))) sN) (sR (eAi 0 (eGa (eGa (eGa (eLa 0) 7 0) 6 3) 0 0) (eLi 1)))))
theorem Y_X7_particles : Yk yX7_particles cX7_particles 2 (some .int) 1 := ⟨w1023, w1, by decide +kernel, by decide +kernel, by decide +kernel⟩
set_option maxRecDepth 20000 in
theorem k_X7_particles (l : Launch) (g : GE) : MetX l g yX7_particles cX7_particles 2 (some .int) 2 ({ frames := 7, cells := 1, slots := 6, locals := 104 } : Room) f_X7_particles := by
  unfold f_X7_particles
  exact MetX.of (own := RX7) 100 0 rfl (by decide +kernel) (by decide) (fun p e s m args below meth c Fin ad0 hr hn => ⟨_, _, Sv_seq (Sv_call (Av_i (Av_i (Av_i (Av_nil) (Ev_iload_n dX7_particles_0 rfl)) (Ev_iconst dX7_particles_1 (by decide))) (Ev_iconst dX7_particles_2 (by decide))) (Rn_S Y_X7_needRange (k_X7_needRange _ _) w446 w447 dX7_particles_3 (Nat.le_of_ble_eq_true rfl) (Nat.le_of_ble_eq_true rfl) (Nat.le_of_ble_eq_true rfl) (Nat.ne_of_beq_eq_false rfl))) (Sv_seq (Sv_if (Cv_icmp_ne_n (Ev_iload_n dX7_particles_6 rfl) (Ev_iconst dX7_particles_7 (by decide)) (t := 36) dX7_particles_8 (by decide)) (Sv_ret (Ev_call (Av_i (Av_i (Av_i (Av_a (Av_nil) (Ev_getA Fx6 (Ev_getA Fx7 (Ev_aload_n dX7_particles_11 rfl) (k := 0) (by decide) w384 dX7_particles_12) (k := 0) (by decide) w124 dX7_particles_15)) (Ev_iconst dX7_particles_18 (by decide))) (Ev_iconst dX7_particles_19 (by decide))) (Ev_isub (Ev_getI Fx1 (Ev_getA Fx6 (Ev_getA Fx7 (Ev_aload_n dX7_particles_20 rfl) (k := 0) (by decide) w384 dX7_particles_21) (k := 0) (by decide) w124 dX7_particles_24) (k := 1) (by decide) w49 dX7_particles_27) (Ev_iconst dX7_particles_30 (by decide)) dX7_particles_31)) (Rn_V (ci := 1) Fx1.1 rfl Y_X1_numberIn (k_X1_numberIn _ _) w937 w938 w939 dX7_particles_32 (Nat.le_of_ble_eq_true rfl) (Nat.le_of_ble_eq_true rfl) (Nat.le_of_ble_eq_true rfl) (Nat.ne_of_beq_eq_false rfl))) hr dX7_particles_35) Sv_nop) (Sv_ret (Ev_iaload (Ev_getA Fx0 (Ev_getA Fx6 (Ev_getA Fx7 (Ev_aload_n dX7_particles_36 rfl) (k := 0) (by decide) w384 dX7_particles_37) (k := 3) (by decide) w133 dX7_particles_40) (k := 0) (by decide) w113 dX7_particles_43) (Ev_iload_n dX7_particles_46 rfl) dX7_particles_47) hr dX7_particles_48)), Nat.le_of_ble_eq_true rfl, Nat.le_of_ble_eq_true rfl⟩)
theorem dX7_momentum_0 : decode cX7_momentum 0 = .ok (.iload_n 1, 1) := by decide +kernel
theorem dX7_momentum_1 : decode cX7_momentum 1 = .ok (.iconst 0, 1) := by decide +kernel
theorem dX7_momentum_2 : decode cX7_momentum 2 = .ok (.iconst 1, 1) := by decide +kernel
theorem dX7_momentum_3 : decode cX7_momentum 3 = .ok (.invokestatic 78, 3) := by decide +kernel
theorem dX7_momentum_6 : decode cX7_momentum 6 = .ok (.iload_n 2, 1) := by decide +kernel
theorem dX7_momentum_7 : decode cX7_momentum 7 = .ok (.iconst 0, 1) := by decide +kernel
theorem dX7_momentum_8 : decode cX7_momentum 8 = .ok (.iconst 5, 1) := by decide +kernel
theorem dX7_momentum_9 : decode cX7_momentum 9 = .ok (.invokestatic 78, 3) := by decide +kernel
theorem dX7_momentum_12 : decode cX7_momentum 12 = .ok (.iload_n 2, 1) := by decide +kernel
theorem dX7_momentum_13 : decode cX7_momentum 13 = .ok (.iconst 5, 1) := by decide +kernel
theorem dX7_momentum_14 : decode cX7_momentum 14 = .ok (.if_icmp .ne 29, 3) := by decide +kernel
theorem dX7_momentum_17 : decode cX7_momentum 17 = .ok (.aload_n 0, 1) := by decide +kernel
theorem dX7_momentum_18 : decode cX7_momentum 18 = .ok (.getfield 12, 3) := by decide +kernel
theorem dX7_momentum_21 : decode cX7_momentum 21 = .ok (.getfield 96, 3) := by decide +kernel
theorem dX7_momentum_24 : decode cX7_momentum 24 = .ok (.iload_n 1, 1) := by decide +kernel
theorem dX7_momentum_25 : decode cX7_momentum 25 = .ok (.iconst (-1), 1) := by decide +kernel
theorem dX7_momentum_26 : decode cX7_momentum 26 = .ok (.iconst 0, 1) := by decide +kernel
theorem dX7_momentum_27 : decode cX7_momentum 27 = .ok (.aload_n 0, 1) := by decide +kernel
theorem dX7_momentum_28 : decode cX7_momentum 28 = .ok (.getfield 12, 3) := by decide +kernel
theorem dX7_momentum_31 : decode cX7_momentum 31 = .ok (.getfield 96, 3) := by decide +kernel
theorem dX7_momentum_34 : decode cX7_momentum 34 = .ok (.getfield 246, 3) := by decide +kernel
theorem dX7_momentum_37 : decode cX7_momentum 37 = .ok (.iconst 1, 1) := by decide +kernel
theorem dX7_momentum_38 : decode cX7_momentum 38 = .ok (.isub, 1) := by decide +kernel
theorem dX7_momentum_39 : decode cX7_momentum 39 = .ok (.invokevirtual 203, 3) := by decide +kernel
theorem dX7_momentum_42 : decode cX7_momentum 42 = .ok (.ireturn, 1) := by decide +kernel
theorem dX7_momentum_43 : decode cX7_momentum 43 = .ok (.aload_n 0, 1) := by decide +kernel
theorem dX7_momentum_44 : decode cX7_momentum 44 = .ok (.getfield 12, 3) := by decide +kernel
theorem dX7_momentum_47 : decode cX7_momentum 47 = .ok (.getfield 249, 3) := by decide +kernel
theorem dX7_momentum_50 : decode cX7_momentum 50 = .ok (.getfield 258, 3) := by decide +kernel
theorem dX7_momentum_53 : decode cX7_momentum 53 = .ok (.iload_n 2, 1) := by decide +kernel
theorem dX7_momentum_54 : decode cX7_momentum 54 = .ok (.iconst 2, 1) := by decide +kernel
theorem dX7_momentum_55 : decode cX7_momentum 55 = .ok (.imul, 1) := by decide +kernel
theorem dX7_momentum_56 : decode cX7_momentum 56 = .ok (.iload_n 1, 1) := by decide +kernel
theorem dX7_momentum_57 : decode cX7_momentum 57 = .ok (.iadd, 1) := by decide +kernel
theorem dX7_momentum_58 : decode cX7_momentum 58 = .ok (.iaload, 1) := by decide +kernel
theorem dX7_momentum_59 : decode cX7_momentum 59 = .ok (.ireturn, 1) := by decide +kernel
def f_X7_momentum : MX := mth 3 (sQ (sM (f_X7_needRange) (aI (aI (aI (aN) (eLi 1)) (eI (0))) (eI (1)))) (sQ (sM (f_X7_needRange) (aI (aI (aI (aN) (eLi 2)) (eI (0))) (eI (5)))) (sQ (sIf (cB c_eq (eLi 2) (eI (5))) (sR (eM (gd 1 f_X1_momentumIn) (aI (aI (aI (aI (aA (aN) (eGa (eGa (eLa 0) 7 0) 6 0)) (eLi 1)) (eI (-1))) (eI (0))) (eOp o_isub (eGi (eGa (eGa (eLa 0) 7 0) 6 0) 1 1) (eI (1)))))) sN) (sR (eAi 0 (eGa (eGa (eGa (eLa 0) 7 0) 6 3) 0 1) (eOp o_iadd (eOp o_imul (eLi 2) (eI (2))) (eLi 1)))))))
theorem Y_X7_momentum : Yk yX7_momentum cX7_momentum 3 (some .int) 2 := ⟨w1030, w1, by decide +kernel, by decide +kernel, by decide +kernel⟩
set_option maxRecDepth 20000 in
theorem k_X7_momentum (l : Launch) (g : GE) : MetX l g yX7_momentum cX7_momentum 3 (some .int) 3 ({ frames := 7, cells := 2, slots := 12, locals := 104 } : Room) f_X7_momentum := by
  unfold f_X7_momentum
  exact MetX.of (own := RX7) 100 0 rfl (by decide +kernel) (by decide) (fun p e s m args below meth c Fin ad0 hr hn => ⟨_, _, Sv_seq (Sv_call (Av_i (Av_i (Av_i (Av_nil) (Ev_iload_n dX7_momentum_0 rfl)) (Ev_iconst dX7_momentum_1 (by decide))) (Ev_iconst dX7_momentum_2 (by decide))) (Rn_S Y_X7_needRange (k_X7_needRange _ _) w446 w447 dX7_momentum_3 (Nat.le_of_ble_eq_true rfl) (Nat.le_of_ble_eq_true rfl) (Nat.le_of_ble_eq_true rfl) (Nat.ne_of_beq_eq_false rfl))) (Sv_seq (Sv_call (Av_i (Av_i (Av_i (Av_nil) (Ev_iload_n dX7_momentum_6 rfl)) (Ev_iconst dX7_momentum_7 (by decide))) (Ev_iconst dX7_momentum_8 (by decide))) (Rn_S Y_X7_needRange (k_X7_needRange _ _) w446 w447 dX7_momentum_9 (Nat.le_of_ble_eq_true rfl) (Nat.le_of_ble_eq_true rfl) (Nat.le_of_ble_eq_true rfl) (Nat.ne_of_beq_eq_false rfl))) (Sv_seq (Sv_if (Cv_icmp_ne_n (Ev_iload_n dX7_momentum_12 rfl) (Ev_iconst dX7_momentum_13 (by decide)) (t := 43) dX7_momentum_14 (by decide)) (Sv_ret (Ev_call (Av_i (Av_i (Av_i (Av_i (Av_a (Av_nil) (Ev_getA Fx6 (Ev_getA Fx7 (Ev_aload_n dX7_momentum_17 rfl) (k := 0) (by decide) w384 dX7_momentum_18) (k := 0) (by decide) w124 dX7_momentum_21)) (Ev_iload_n dX7_momentum_24 rfl)) (Ev_iconst dX7_momentum_25 (by decide))) (Ev_iconst dX7_momentum_26 (by decide))) (Ev_isub (Ev_getI Fx1 (Ev_getA Fx6 (Ev_getA Fx7 (Ev_aload_n dX7_momentum_27 rfl) (k := 0) (by decide) w384 dX7_momentum_28) (k := 0) (by decide) w124 dX7_momentum_31) (k := 1) (by decide) w49 dX7_momentum_34) (Ev_iconst dX7_momentum_37 (by decide)) dX7_momentum_38)) (Rn_V (ci := 1) Fx1.1 rfl Y_X1_momentumIn (k_X1_momentumIn _ _) w948 w949 w950 dX7_momentum_39 (Nat.le_of_ble_eq_true rfl) (Nat.le_of_ble_eq_true rfl) (Nat.le_of_ble_eq_true rfl) (Nat.ne_of_beq_eq_false rfl))) hr dX7_momentum_42) Sv_nop) (Sv_ret (Ev_iaload (Ev_getA Fx0 (Ev_getA Fx6 (Ev_getA Fx7 (Ev_aload_n dX7_momentum_43 rfl) (k := 0) (by decide) w384 dX7_momentum_44) (k := 3) (by decide) w133 dX7_momentum_47) (k := 1) (by decide) w116 dX7_momentum_50) (Ev_iadd (Ev_imul (Ev_iload_n dX7_momentum_53 rfl) (Ev_iconst dX7_momentum_54 (by decide)) dX7_momentum_55) (Ev_iload_n dX7_momentum_56 rfl) dX7_momentum_57) dX7_momentum_58) hr dX7_momentum_59))), Nat.le_of_ble_eq_true rfl, Nat.le_of_ble_eq_true rfl⟩)
theorem dX7_count_0 : decode cX7_count 0 = .ok (.iload_n 1, 1) := by decide +kernel
theorem dX7_count_1 : decode cX7_count 1 = .ok (.iconst 0, 1) := by decide +kernel
theorem dX7_count_2 : decode cX7_count 2 = .ok (.bipush 11, 2) := by decide +kernel
theorem dX7_count_4 : decode cX7_count 4 = .ok (.invokestatic 78, 3) := by decide +kernel
theorem dX7_count_7 : decode cX7_count 7 = .ok (.iload_n 1, 1) := by decide +kernel
theorem dX7_count_8 : decode cX7_count 8 = .ok (.tableswitch 136 0 8 #[52, 63, 74, 82, 93, 101, 112, 123, 128], 52) := by decide +kernel
theorem dX7_count_60 : decode cX7_count 60 = .ok (.aload_n 0, 1) := by decide +kernel
theorem dX7_count_61 : decode cX7_count 61 = .ok (.getfield 12, 3) := by decide +kernel
theorem dX7_count_64 : decode cX7_count 64 = .ok (.getfield 96, 3) := by decide +kernel
theorem dX7_count_67 : decode cX7_count 67 = .ok (.getfield 206, 3) := by decide +kernel
theorem dX7_count_70 : decode cX7_count 70 = .ok (.ireturn, 1) := by decide +kernel
theorem dX7_count_71 : decode cX7_count 71 = .ok (.aload_n 0, 1) := by decide +kernel
theorem dX7_count_72 : decode cX7_count 72 = .ok (.getfield 12, 3) := by decide +kernel
theorem dX7_count_75 : decode cX7_count 75 = .ok (.getfield 96, 3) := by decide +kernel
theorem dX7_count_78 : decode cX7_count 78 = .ok (.getfield 246, 3) := by decide +kernel
theorem dX7_count_81 : decode cX7_count 81 = .ok (.ireturn, 1) := by decide +kernel
theorem dX7_count_82 : decode cX7_count 82 = .ok (.aload_n 0, 1) := by decide +kernel
theorem dX7_count_83 : decode cX7_count 83 = .ok (.getfield 12, 3) := by decide +kernel
theorem dX7_count_86 : decode cX7_count 86 = .ok (.getfield 190, 3) := by decide +kernel
theorem dX7_count_89 : decode cX7_count 89 = .ok (.ireturn, 1) := by decide +kernel
theorem dX7_count_90 : decode cX7_count 90 = .ok (.aload_n 0, 1) := by decide +kernel
theorem dX7_count_91 : decode cX7_count 91 = .ok (.getfield 12, 3) := by decide +kernel
theorem dX7_count_94 : decode cX7_count 94 = .ok (.getfield 151, 3) := by decide +kernel
theorem dX7_count_97 : decode cX7_count 97 = .ok (.getfield 155, 3) := by decide +kernel
theorem dX7_count_100 : decode cX7_count 100 = .ok (.ireturn, 1) := by decide +kernel
theorem dX7_count_101 : decode cX7_count 101 = .ok (.aload_n 0, 1) := by decide +kernel
theorem dX7_count_102 : decode cX7_count 102 = .ok (.getfield 12, 3) := by decide +kernel
theorem dX7_count_105 : decode cX7_count 105 = .ok (.getfield 182, 3) := by decide +kernel
theorem dX7_count_108 : decode cX7_count 108 = .ok (.ireturn, 1) := by decide +kernel
theorem dX7_count_109 : decode cX7_count 109 = .ok (.aload_n 0, 1) := by decide +kernel
theorem dX7_count_110 : decode cX7_count 110 = .ok (.getfield 12, 3) := by decide +kernel
theorem dX7_count_113 : decode cX7_count 113 = .ok (.getfield 96, 3) := by decide +kernel
theorem dX7_count_116 : decode cX7_count 116 = .ok (.invokevirtual 261, 3) := by decide +kernel
theorem dX7_count_119 : decode cX7_count 119 = .ok (.ireturn, 1) := by decide +kernel
theorem dX7_count_120 : decode cX7_count 120 = .ok (.aload_n 0, 1) := by decide +kernel
theorem dX7_count_121 : decode cX7_count 121 = .ok (.getfield 12, 3) := by decide +kernel
theorem dX7_count_124 : decode cX7_count 124 = .ok (.getfield 234, 3) := by decide +kernel
theorem dX7_count_127 : decode cX7_count 127 = .ok (.getfield 264, 3) := by decide +kernel
theorem dX7_count_130 : decode cX7_count 130 = .ok (.ireturn, 1) := by decide +kernel
theorem dX7_count_131 : decode cX7_count 131 = .ok (.aload_n 0, 1) := by decide +kernel
theorem dX7_count_132 : decode cX7_count 132 = .ok (.getfield 265, 3) := by decide +kernel
theorem dX7_count_135 : decode cX7_count 135 = .ok (.ireturn, 1) := by decide +kernel
theorem dX7_count_136 : decode cX7_count 136 = .ok (.aload_n 0, 1) := by decide +kernel
theorem dX7_count_137 : decode cX7_count 137 = .ok (.getfield 29, 3) := by decide +kernel
theorem dX7_count_140 : decode cX7_count 140 = .ok (.getfield 75, 3) := by decide +kernel
theorem dX7_count_143 : decode cX7_count 143 = .ok (.ireturn, 1) := by decide +kernel
theorem dX7_count_144 : decode cX7_count 144 = .ok (.aload_n 0, 1) := by decide +kernel
theorem dX7_count_145 : decode cX7_count 145 = .ok (.getfield 12, 3) := by decide +kernel
theorem dX7_count_148 : decode cX7_count 148 = .ok (.getfield 85, 3) := by decide +kernel
theorem dX7_count_151 : decode cX7_count 151 = .ok (.iload_n 1, 1) := by decide +kernel
theorem dX7_count_152 : decode cX7_count 152 = .ok (.bipush 9, 2) := by decide +kernel
theorem dX7_count_154 : decode cX7_count 154 = .ok (.isub, 1) := by decide +kernel
theorem dX7_count_155 : decode cX7_count 155 = .ok (.iaload, 1) := by decide +kernel
theorem dX7_count_156 : decode cX7_count 156 = .ok (.ireturn, 1) := by decide +kernel
def f_X7_count : MX := mth 2 (sQ (sM (f_X7_needRange) (aI (aI (aI (aN) (eLi 1)) (eI (0))) (eI (11)))) (sSc (eLi 1) 0 [sR (eGi (eGa (eGa (eLa 0) 7 0) 6 0) 1 0), sR (eGi (eGa (eGa (eLa 0) 7 0) 6 0) 1 1), sR (eGi (eGa (eLa 0) 7 0) 6 7), sR (eGi (eGa (eGa (eLa 0) 7 0) 6 1) 2 0), sR (eGi (eGa (eLa 0) 7 0) 6 6), sR (eM (gd 1 f_X1_solidNumber) (aA (aN) (eGa (eGa (eLa 0) 7 0) 6 0))), sR (eGi (eGa (eGa (eLa 0) 7 0) 6 2) 5 0), sR (eGi (eLa 0) 7 6), sR (eGi (eGa (eLa 0) 7 3) 3 1)] (sR (eAi 0 (eGa (eGa (eLa 0) 7 0) 6 4) (eOp o_isub (eLi 1) (eI (9)))))))
theorem Y_X7_count : Yk yX7_count cX7_count 2 (some .int) 1 := ⟨w1037, w1, by decide +kernel, by decide +kernel, by decide +kernel⟩
set_option maxRecDepth 20000 in
theorem k_X7_count (l : Launch) (g : GE) : MetX l g yX7_count cX7_count 2 (some .int) 2 ({ frames := 7, cells := 1, slots := 6, locals := 104 } : Room) f_X7_count := by
  unfold f_X7_count
  exact MetX.of (own := RX7) 100 0 rfl (by decide +kernel) (by decide) (fun p e s m args below meth c Fin ad0 hr hn => ⟨_, _, Sv_seq (Sv_call (Av_i (Av_i (Av_i (Av_nil) (Ev_iload_n dX7_count_0 rfl)) (Ev_iconst dX7_count_1 (by decide))) (Ev_bipush dX7_count_2 (by decide))) (Rn_S Y_X7_needRange (k_X7_needRange _ _) w446 w447 dX7_count_4 (Nat.le_of_ble_eq_true rfl) (Nat.le_of_ble_eq_true rfl) (Nat.le_of_ble_eq_true rfl) (Nat.ne_of_beq_eq_false rfl))) (Sv_tsw (k2 := 0) (n2 := 0) (td := 144) (Ev_iload_n dX7_count_7 rfl) dX7_count_8 rfl (fun n a h => match n, a, h with
      | 0, _, h => by cases h; exact ⟨_, 60, rfl, by decide, Sv.weaken (Sv_ret (Ev_getI Fx1 (Ev_getA Fx6 (Ev_getA Fx7 (Ev_aload_n dX7_count_60 rfl) (k := 0) (by decide) w384 dX7_count_61) (k := 0) (by decide) w124 dX7_count_64) (k := 0) (by decide) w45 dX7_count_67) hr dX7_count_70) (by decide) (by decide)⟩
      | 1, _, h => by cases h; exact ⟨_, 71, rfl, by decide, Sv.weaken (Sv_ret (Ev_getI Fx1 (Ev_getA Fx6 (Ev_getA Fx7 (Ev_aload_n dX7_count_71 rfl) (k := 0) (by decide) w384 dX7_count_72) (k := 0) (by decide) w124 dX7_count_75) (k := 1) (by decide) w49 dX7_count_78) hr dX7_count_81) (by decide) (by decide)⟩
      | 2, _, h => by cases h; exact ⟨_, 82, rfl, by decide, Sv.weaken (Sv_ret (Ev_getI Fx6 (Ev_getA Fx7 (Ev_aload_n dX7_count_82 rfl) (k := 0) (by decide) w384 dX7_count_83) (k := 7) (by decide) w144 dX7_count_86) hr dX7_count_89) (by decide) (by decide)⟩
      | 3, _, h => by cases h; exact ⟨_, 90, rfl, by decide, Sv.weaken (Sv_ret (Ev_getI Fx2 (Ev_getA Fx6 (Ev_getA Fx7 (Ev_aload_n dX7_count_90 rfl) (k := 0) (by decide) w384 dX7_count_91) (k := 1) (by decide) w127 dX7_count_94) (k := 0) (by decide) w78 dX7_count_97) hr dX7_count_100) (by decide) (by decide)⟩
      | 4, _, h => by cases h; exact ⟨_, 101, rfl, by decide, Sv.weaken (Sv_ret (Ev_getI Fx6 (Ev_getA Fx7 (Ev_aload_n dX7_count_101 rfl) (k := 0) (by decide) w384 dX7_count_102) (k := 6) (by decide) w141 dX7_count_105) hr dX7_count_108) (by decide) (by decide)⟩
      | 5, _, h => by cases h; exact ⟨_, 109, rfl, by decide, Sv.weaken (Sv_ret (Ev_call (Av_a (Av_nil) (Ev_getA Fx6 (Ev_getA Fx7 (Ev_aload_n dX7_count_109 rfl) (k := 0) (by decide) w384 dX7_count_110) (k := 0) (by decide) w124 dX7_count_113)) (Rn_V (ci := 1) Fx1.1 rfl Y_X1_solidNumber (k_X1_solidNumber _ _) w1038 w1039 w1040 dX7_count_116 (Nat.le_of_ble_eq_true rfl) (Nat.le_of_ble_eq_true rfl) (Nat.le_of_ble_eq_true rfl) (Nat.ne_of_beq_eq_false rfl))) hr dX7_count_119) (by decide) (by decide)⟩
      | 6, _, h => by cases h; exact ⟨_, 120, rfl, by decide, Sv.weaken (Sv_ret (Ev_getI Fx5 (Ev_getA Fx6 (Ev_getA Fx7 (Ev_aload_n dX7_count_120 rfl) (k := 0) (by decide) w384 dX7_count_121) (k := 2) (by decide) w130 dX7_count_124) (k := 0) (by decide) w94 dX7_count_127) hr dX7_count_130) (by decide) (by decide)⟩
      | 7, _, h => by cases h; exact ⟨_, 131, rfl, by decide, Sv.weaken (Sv_ret (Ev_getI Fx7 (Ev_aload_n dX7_count_131 rfl) (k := 6) (by decide) w390 dX7_count_132) hr dX7_count_135) (by decide) (by decide)⟩
      | 8, _, h => by cases h; exact ⟨_, 136, rfl, by decide, Sv.weaken (Sv_ret (Ev_getI Fx3 (Ev_getA Fx7 (Ev_aload_n dX7_count_136 rfl) (k := 3) (by decide) w387 dX7_count_137) (k := 1) (by decide) w194 dX7_count_140) hr dX7_count_143) (by decide) (by decide)⟩
      | n + 9, _, h => by simp at h) (by decide) (Sv.weaken (Sv_ret (Ev_iaload (Ev_getA Fx6 (Ev_getA Fx7 (Ev_aload_n dX7_count_144 rfl) (k := 0) (by decide) w384 dX7_count_145) (k := 4) (by decide) w135 dX7_count_148) (Ev_isub (Ev_iload_n dX7_count_151 rfl) (Ev_bipush dX7_count_152 (by decide)) dX7_count_154) dX7_count_155) hr dX7_count_156) (by decide) (by decide))), Nat.le_of_ble_eq_true rfl, Nat.le_of_ble_eq_true rfl⟩)
theorem dX7_takenLater_0 : decode cX7_takenLater 0 = .ok (.aload_n 0, 1) := by decide +kernel
theorem dX7_takenLater_1 : decode cX7_takenLater 1 = .ok (.getfield 16, 3) := by decide +kernel
theorem dX7_takenLater_4 : decode cX7_takenLater 4 = .ok (.getfield 219, 3) := by decide +kernel
theorem dX7_takenLater_7 : decode cX7_takenLater 7 = .ok (.iload_n 1, 1) := by decide +kernel
theorem dX7_takenLater_8 : decode cX7_takenLater 8 = .ok (.iconst 2, 1) := by decide +kernel
theorem dX7_takenLater_9 : decode cX7_takenLater 9 = .ok (.imul, 1) := by decide +kernel
theorem dX7_takenLater_10 : decode cX7_takenLater 10 = .ok (.iload_n 2, 1) := by decide +kernel
theorem dX7_takenLater_11 : decode cX7_takenLater 11 = .ok (.iadd, 1) := by decide +kernel
theorem dX7_takenLater_12 : decode cX7_takenLater 12 = .ok (.iaload, 1) := by decide +kernel
theorem dX7_takenLater_13 : decode cX7_takenLater 13 = .ok (.istore 4, 2) := by decide +kernel
theorem dX7_takenLater_15 : decode cX7_takenLater 15 = .ok (.iconst 0, 1) := by decide +kernel
theorem dX7_takenLater_16 : decode cX7_takenLater 16 = .ok (.istore 5, 2) := by decide +kernel
theorem dX7_takenLater_18 : decode cX7_takenLater 18 = .ok (.iload 5, 2) := by decide +kernel
theorem dX7_takenLater_20 : decode cX7_takenLater 20 = .ok (.iload_n 3, 1) := by decide +kernel
theorem dX7_takenLater_21 : decode cX7_takenLater 21 = .ok (.if_icmp .ge 20, 3) := by decide +kernel
theorem dX7_takenLater_24 : decode cX7_takenLater 24 = .ok (.aload_n 0, 1) := by decide +kernel
theorem dX7_takenLater_25 : decode cX7_takenLater 25 = .ok (.getfield 22, 3) := by decide +kernel
theorem dX7_takenLater_28 : decode cX7_takenLater 28 = .ok (.aload_n 0, 1) := by decide +kernel
theorem dX7_takenLater_29 : decode cX7_takenLater 29 = .ok (.getfield 16, 3) := by decide +kernel
theorem dX7_takenLater_32 : decode cX7_takenLater 32 = .ok (.invokevirtual 186, 3) := by decide +kernel
theorem dX7_takenLater_35 : decode cX7_takenLater 35 = .ok (.iinc 5 1, 3) := by decide +kernel
theorem dX7_takenLater_38 : decode cX7_takenLater 38 = .ok (.goto (-20), 3) := by decide +kernel
theorem dX7_takenLater_41 : decode cX7_takenLater 41 = .ok (.aload_n 0, 1) := by decide +kernel
theorem dX7_takenLater_42 : decode cX7_takenLater 42 = .ok (.getfield 16, 3) := by decide +kernel
theorem dX7_takenLater_45 : decode cX7_takenLater 45 = .ok (.getfield 219, 3) := by decide +kernel
theorem dX7_takenLater_48 : decode cX7_takenLater 48 = .ok (.iload_n 1, 1) := by decide +kernel
theorem dX7_takenLater_49 : decode cX7_takenLater 49 = .ok (.iconst 2, 1) := by decide +kernel
theorem dX7_takenLater_50 : decode cX7_takenLater 50 = .ok (.imul, 1) := by decide +kernel
theorem dX7_takenLater_51 : decode cX7_takenLater 51 = .ok (.iload_n 2, 1) := by decide +kernel
theorem dX7_takenLater_52 : decode cX7_takenLater 52 = .ok (.iadd, 1) := by decide +kernel
theorem dX7_takenLater_53 : decode cX7_takenLater 53 = .ok (.iaload, 1) := by decide +kernel
theorem dX7_takenLater_54 : decode cX7_takenLater 54 = .ok (.iload 4, 2) := by decide +kernel
theorem dX7_takenLater_56 : decode cX7_takenLater 56 = .ok (.isub, 1) := by decide +kernel
theorem dX7_takenLater_57 : decode cX7_takenLater 57 = .ok (.ireturn, 1) := by decide +kernel
def f_X7_takenLater : MX := mth 6 (sQ (sTi 4 (eAi 0 (eGa (eGa (eLa 0) 7 1) 6 8) (eOp o_iadd (eOp o_imul (eLi 1) (eI (2))) (eLi 2)))) (sQ (sQ (sTi 5 (eI (0))) (sLp (cB c_lt (eLi 5) (eLi 3)) (sQ (sM (gd 4 f_X4_tick) (aA (aA (aN) (eGa (eLa 0) 7 2)) (eGa (eLa 0) 7 1))) (sInc 5 (1))) NF)) (sR (eOp o_isub (eAi 0 (eGa (eGa (eLa 0) 7 1) 6 8) (eOp o_iadd (eOp o_imul (eLi 1) (eI (2))) (eLi 2))) (eLi 4)))))
theorem Y_X7_takenLater : Yk yX7_takenLater cX7_takenLater 6 (some .int) 3 := ⟨w1052, w1, by decide +kernel, by decide +kernel, by decide +kernel⟩
set_option maxRecDepth 20000 in
theorem k_X7_takenLater (l : Launch) (g : GE) : MetX l g yX7_takenLater cX7_takenLater 6 (some .int) 4 ({ frames := 5, cells := 0, slots := 0, locals := 130 } : Room) f_X7_takenLater := by
  unfold f_X7_takenLater
  exact MetX.of (own := RX7) 100 0 rfl (by decide +kernel) (by decide) (fun p e s m args below meth c Fin ad0 hr hn => ⟨_, _, Sv_seq (Sv_istore (Ev_iaload (Ev_getA Fx6 (Ev_getA Fx7 (Ev_aload_n dX7_takenLater_0 rfl) (k := 1) (by decide) w385 dX7_takenLater_1) (k := 8) (by decide) w147 dX7_takenLater_4) (Ev_iadd (Ev_imul (Ev_iload_n dX7_takenLater_7 rfl) (Ev_iconst dX7_takenLater_8 (by decide)) dX7_takenLater_9) (Ev_iload_n dX7_takenLater_10 rfl) dX7_takenLater_11) dX7_takenLater_12) dX7_takenLater_13 (Nat.le_of_ble_eq_true rfl) (Nat.ne_of_beq_eq_false rfl)) (Sv_seq (Sv_seq (Sv_istore (Ev_iconst dX7_takenLater_15 (by decide)) dX7_takenLater_16 (Nat.le_of_ble_eq_true rfl) (Nat.ne_of_beq_eq_false rfl)) (Sv_loop0 NF (Cv_icmp_ge_n (Ev_iload dX7_takenLater_18) (Ev_iload_n dX7_takenLater_20 rfl) (t := 41) dX7_takenLater_21 (by decide)) (Sv_goto (pE := 18) (Sv_seq (Sv_call (Av_a (Av_a (Av_nil) (Ev_getA Fx7 (Ev_aload_n dX7_takenLater_24 rfl) (k := 2) (by decide) w386 dX7_takenLater_25)) (Ev_getA Fx7 (Ev_aload_n dX7_takenLater_28 rfl) (k := 1) (by decide) w385 dX7_takenLater_29)) (Rn_V (ci := 4) Fx4.1 rfl Y_X4_tick (k_X4_tick _ _) w812 w813 w814 dX7_takenLater_32 (Nat.le_of_ble_eq_true rfl) (Nat.le_of_ble_eq_true rfl) (Nat.le_of_ble_eq_true rfl) (Nat.ne_of_beq_eq_false rfl))) (Sv_iinc dX7_takenLater_35 (by decide) (Nat.le_of_ble_eq_true rfl) (Nat.ne_of_beq_eq_false rfl))) dX7_takenLater_38 (by decide)))) (Sv_ret (Ev_isub (Ev_iaload (Ev_getA Fx6 (Ev_getA Fx7 (Ev_aload_n dX7_takenLater_41 rfl) (k := 1) (by decide) w385 dX7_takenLater_42) (k := 8) (by decide) w147 dX7_takenLater_45) (Ev_iadd (Ev_imul (Ev_iload_n dX7_takenLater_48 rfl) (Ev_iconst dX7_takenLater_49 (by decide)) dX7_takenLater_50) (Ev_iload_n dX7_takenLater_51 rfl) dX7_takenLater_52) dX7_takenLater_53) (Ev_iload dX7_takenLater_54) dX7_takenLater_56) hr dX7_takenLater_57)), Nat.le_of_ble_eq_true rfl, Nat.le_of_ble_eq_true rfl⟩)
theorem dX7_ahead_0 : decode cX7_ahead 0 = .ok (.iload_n 1, 1) := by decide +kernel
theorem dX7_ahead_1 : decode cX7_ahead 1 = .ok (.invokestatic 89, 3) := by decide +kernel
theorem dX7_ahead_4 : decode cX7_ahead 4 = .ok (.iload_n 2, 1) := by decide +kernel
theorem dX7_ahead_5 : decode cX7_ahead 5 = .ok (.iconst 0, 1) := by decide +kernel
theorem dX7_ahead_6 : decode cX7_ahead 6 = .ok (.iconst 1, 1) := by decide +kernel
theorem dX7_ahead_7 : decode cX7_ahead 7 = .ok (.invokestatic 78, 3) := by decide +kernel
theorem dX7_ahead_10 : decode cX7_ahead 10 = .ok (.iload_n 3, 1) := by decide +kernel
theorem dX7_ahead_11 : decode cX7_ahead 11 = .ok (.iconst 1, 1) := by decide +kernel
theorem dX7_ahead_12 : decode cX7_ahead 12 = .ok (.bipush 40, 2) := by decide +kernel
theorem dX7_ahead_14 : decode cX7_ahead 14 = .ok (.invokestatic 78, 3) := by decide +kernel
theorem dX7_ahead_17 : decode cX7_ahead 17 = .ok (.aload_n 0, 1) := by decide +kernel
theorem dX7_ahead_18 : decode cX7_ahead 18 = .ok (.getfield 16, 3) := by decide +kernel
theorem dX7_ahead_21 : decode cX7_ahead 21 = .ok (.aload_n 0, 1) := by decide +kernel
theorem dX7_ahead_22 : decode cX7_ahead 22 = .ok (.getfield 12, 3) := by decide +kernel
theorem dX7_ahead_25 : decode cX7_ahead 25 = .ok (.invokevirtual 268, 3) := by decide +kernel
theorem dX7_ahead_28 : decode cX7_ahead 28 = .ok (.aload_n 0, 1) := by decide +kernel
theorem dX7_ahead_29 : decode cX7_ahead 29 = .ok (.iload_n 1, 1) := by decide +kernel
theorem dX7_ahead_30 : decode cX7_ahead 30 = .ok (.iload_n 2, 1) := by decide +kernel
theorem dX7_ahead_31 : decode cX7_ahead 31 = .ok (.iload_n 3, 1) := by decide +kernel
theorem dX7_ahead_32 : decode cX7_ahead 32 = .ok (.invokevirtual 271, 3) := by decide +kernel
theorem dX7_ahead_35 : decode cX7_ahead 35 = .ok (.ireturn, 1) := by decide +kernel
def f_X7_ahead : MX := mth 4 (sQ (sM (f_X7_needBody) (aI (aN) (eLi 1))) (sQ (sM (f_X7_needRange) (aI (aI (aI (aN) (eLi 2)) (eI (0))) (eI (1)))) (sQ (sM (f_X7_needRange) (aI (aI (aI (aN) (eLi 3)) (eI (1))) (eI (40)))) (sQ (sM (gd 6 f_X6_copyFrom) (aA (aA (aN) (eGa (eLa 0) 7 1)) (eGa (eLa 0) 7 0))) (sR (eM (gd 7 f_X7_takenLater) (aI (aI (aI (aA (aN) (eLa 0)) (eLi 1)) (eLi 2)) (eLi 3))))))))
theorem Y_X7_ahead : Yk yX7_ahead cX7_ahead 4 (some .int) 3 := ⟨w1048, w1, by decide +kernel, by decide +kernel, by decide +kernel⟩
set_option maxRecDepth 20000 in
theorem k_X7_ahead (l : Launch) (g : GE) : MetX l g yX7_ahead cX7_ahead 4 (some .int) 4 ({ frames := 8, cells := 3, slots := 18, locals := 155 } : Room) f_X7_ahead := by
  unfold f_X7_ahead
  exact MetX.of (own := RX7) 100 0 rfl (by decide +kernel) (by decide) (fun p e s m args below meth c Fin ad0 hr hn => ⟨_, _, Sv_seq (Sv_call (Av_i (Av_nil) (Ev_iload_n dX7_ahead_0 rfl)) (Rn_S Y_X7_needBody (k_X7_needBody _ _) w560 w561 dX7_ahead_1 (Nat.le_of_ble_eq_true rfl) (Nat.le_of_ble_eq_true rfl) (Nat.le_of_ble_eq_true rfl) (Nat.ne_of_beq_eq_false rfl))) (Sv_seq (Sv_call (Av_i (Av_i (Av_i (Av_nil) (Ev_iload_n dX7_ahead_4 rfl)) (Ev_iconst dX7_ahead_5 (by decide))) (Ev_iconst dX7_ahead_6 (by decide))) (Rn_S Y_X7_needRange (k_X7_needRange _ _) w446 w447 dX7_ahead_7 (Nat.le_of_ble_eq_true rfl) (Nat.le_of_ble_eq_true rfl) (Nat.le_of_ble_eq_true rfl) (Nat.ne_of_beq_eq_false rfl))) (Sv_seq (Sv_call (Av_i (Av_i (Av_i (Av_nil) (Ev_iload_n dX7_ahead_10 rfl)) (Ev_iconst dX7_ahead_11 (by decide))) (Ev_bipush dX7_ahead_12 (by decide))) (Rn_S Y_X7_needRange (k_X7_needRange _ _) w446 w447 dX7_ahead_14 (Nat.le_of_ble_eq_true rfl) (Nat.le_of_ble_eq_true rfl) (Nat.le_of_ble_eq_true rfl) (Nat.ne_of_beq_eq_false rfl))) (Sv_seq (Sv_call (Av_a (Av_a (Av_nil) (Ev_getA Fx7 (Ev_aload_n dX7_ahead_17 rfl) (k := 1) (by decide) w385 dX7_ahead_18)) (Ev_getA Fx7 (Ev_aload_n dX7_ahead_21 rfl) (k := 0) (by decide) w384 dX7_ahead_22)) (Rn_V (ci := 6) Fx6.1 rfl Y_X6_copyFrom (k_X6_copyFrom _ _) w520 w521 w522 dX7_ahead_25 (Nat.le_of_ble_eq_true rfl) (Nat.le_of_ble_eq_true rfl) (Nat.le_of_ble_eq_true rfl) (Nat.ne_of_beq_eq_false rfl))) (Sv_ret (Ev_call (Av_i (Av_i (Av_i (Av_a (Av_nil) (Ev_aload_n dX7_ahead_28 rfl)) (Ev_iload_n dX7_ahead_29 rfl)) (Ev_iload_n dX7_ahead_30 rfl)) (Ev_iload_n dX7_ahead_31 rfl)) (Rn_V (ci := 7) Fx7.1 rfl Y_X7_takenLater (k_X7_takenLater _ _) w1049 w1051 wp23 dX7_ahead_32 (Nat.le_of_ble_eq_true rfl) (Nat.le_of_ble_eq_true rfl) (Nat.le_of_ble_eq_true rfl) (Nat.ne_of_beq_eq_false rfl))) hr dX7_ahead_35)))), Nat.le_of_ble_eq_true rfl, Nat.le_of_ble_eq_true rfl⟩)
theorem dX7_layTrail_0 : decode cX7_layTrail 0 = .ok (.aload_n 0, 1) := by decide +kernel
theorem dX7_layTrail_1 : decode cX7_layTrail 1 = .ok (.getfield 16, 3) := by decide +kernel
theorem dX7_layTrail_4 : decode cX7_layTrail 4 = .ok (.aload_n 0, 1) := by decide +kernel
theorem dX7_layTrail_5 : decode cX7_layTrail 5 = .ok (.getfield 12, 3) := by decide +kernel
theorem dX7_layTrail_8 : decode cX7_layTrail 8 = .ok (.invokevirtual 268, 3) := by decide +kernel
theorem dX7_layTrail_11 : decode cX7_layTrail 11 = .ok (.iconst 0, 1) := by decide +kernel
theorem dX7_layTrail_12 : decode cX7_layTrail 12 = .ok (.istore_n 2, 1) := by decide +kernel
theorem dX7_layTrail_13 : decode cX7_layTrail 13 = .ok (.iload_n 2, 1) := by decide +kernel
theorem dX7_layTrail_14 : decode cX7_layTrail 14 = .ok (.iload_n 1, 1) := by decide +kernel
theorem dX7_layTrail_15 : decode cX7_layTrail 15 = .ok (.if_icmp .gt 87, 3) := by decide +kernel
theorem dX7_layTrail_18 : decode cX7_layTrail 18 = .ok (.iload_n 2, 1) := by decide +kernel
theorem dX7_layTrail_19 : decode cX7_layTrail 19 = .ok (.ifCond .le 14, 3) := by decide +kernel
theorem dX7_layTrail_22 : decode cX7_layTrail 22 = .ok (.aload_n 0, 1) := by decide +kernel
theorem dX7_layTrail_23 : decode cX7_layTrail 23 = .ok (.getfield 22, 3) := by decide +kernel
theorem dX7_layTrail_26 : decode cX7_layTrail 26 = .ok (.aload_n 0, 1) := by decide +kernel
theorem dX7_layTrail_27 : decode cX7_layTrail 27 = .ok (.getfield 16, 3) := by decide +kernel
theorem dX7_layTrail_30 : decode cX7_layTrail 30 = .ok (.invokevirtual 186, 3) := by decide +kernel
theorem dX7_layTrail_33 : decode cX7_layTrail 33 = .ok (.aload_n 0, 1) := by decide +kernel
theorem dX7_layTrail_34 : decode cX7_layTrail 34 = .ok (.getfield 16, 3) := by decide +kernel
theorem dX7_layTrail_37 : decode cX7_layTrail 37 = .ok (.getfield 96, 3) := by decide +kernel
theorem dX7_layTrail_40 : decode cX7_layTrail 40 = .ok (.getfield 288, 3) := by decide +kernel
theorem dX7_layTrail_43 : decode cX7_layTrail 43 = .ok (.astore_n 3, 1) := by decide +kernel
theorem dX7_layTrail_44 : decode cX7_layTrail 44 = .ok (.iconst 0, 1) := by decide +kernel
theorem dX7_layTrail_45 : decode cX7_layTrail 45 = .ok (.istore 4, 2) := by decide +kernel
theorem dX7_layTrail_47 : decode cX7_layTrail 47 = .ok (.iload 4, 2) := by decide +kernel
theorem dX7_layTrail_49 : decode cX7_layTrail 49 = .ok (.bipush 48, 2) := by decide +kernel
theorem dX7_layTrail_51 : decode cX7_layTrail 51 = .ok (.if_icmp .ge 45, 3) := by decide +kernel
theorem dX7_layTrail_54 : decode cX7_layTrail 54 = .ok (.aload_n 0, 1) := by decide +kernel
theorem dX7_layTrail_55 : decode cX7_layTrail 55 = .ok (.getfield 44, 3) := by decide +kernel
theorem dX7_layTrail_58 : decode cX7_layTrail 58 = .ok (.iload_n 2, 1) := by decide +kernel
theorem dX7_layTrail_59 : decode cX7_layTrail 59 = .ok (.bipush 48, 2) := by decide +kernel
theorem dX7_layTrail_61 : decode cX7_layTrail 61 = .ok (.imul, 1) := by decide +kernel
theorem dX7_layTrail_62 : decode cX7_layTrail 62 = .ok (.iload 4, 2) := by decide +kernel
theorem dX7_layTrail_64 : decode cX7_layTrail 64 = .ok (.iadd, 1) := by decide +kernel
theorem dX7_layTrail_65 : decode cX7_layTrail 65 = .ok (.aload_n 3, 1) := by decide +kernel
theorem dX7_layTrail_66 : decode cX7_layTrail 66 = .ok (.iconst 2, 1) := by decide +kernel
theorem dX7_layTrail_67 : decode cX7_layTrail 67 = .ok (.iload 4, 2) := by decide +kernel
theorem dX7_layTrail_69 : decode cX7_layTrail 69 = .ok (.imul, 1) := by decide +kernel
theorem dX7_layTrail_70 : decode cX7_layTrail 70 = .ok (.iaload, 1) := by decide +kernel
theorem dX7_layTrail_71 : decode cX7_layTrail 71 = .ok (.i2l, 1) := by decide +kernel
theorem dX7_layTrail_72 : decode cX7_layTrail 72 = .ok (.bipush 32, 2) := by decide +kernel
theorem dX7_layTrail_74 : decode cX7_layTrail 74 = .ok (.lshl, 1) := by decide +kernel
theorem dX7_layTrail_75 : decode cX7_layTrail 75 = .ok (.aload_n 3, 1) := by decide +kernel
theorem dX7_layTrail_76 : decode cX7_layTrail 76 = .ok (.iconst 2, 1) := by decide +kernel
theorem dX7_layTrail_77 : decode cX7_layTrail 77 = .ok (.iload 4, 2) := by decide +kernel
theorem dX7_layTrail_79 : decode cX7_layTrail 79 = .ok (.imul, 1) := by decide +kernel
theorem dX7_layTrail_80 : decode cX7_layTrail 80 = .ok (.iconst 1, 1) := by decide +kernel
theorem dX7_layTrail_81 : decode cX7_layTrail 81 = .ok (.iadd, 1) := by decide +kernel
theorem dX7_layTrail_82 : decode cX7_layTrail 82 = .ok (.iaload, 1) := by decide +kernel
theorem dX7_layTrail_83 : decode cX7_layTrail 83 = .ok (.i2l, 1) := by decide +kernel
theorem dX7_layTrail_84 : decode cX7_layTrail 84 = .ok (.ldc2_w 289, 3) := by decide +kernel
theorem dX7_layTrail_87 : decode cX7_layTrail 87 = .ok (.land, 1) := by decide +kernel
theorem dX7_layTrail_88 : decode cX7_layTrail 88 = .ok (.lor, 1) := by decide +kernel
theorem dX7_layTrail_89 : decode cX7_layTrail 89 = .ok (.lastore, 1) := by decide +kernel
theorem dX7_layTrail_90 : decode cX7_layTrail 90 = .ok (.iinc 4 1, 3) := by decide +kernel
theorem dX7_layTrail_93 : decode cX7_layTrail 93 = .ok (.goto (-46), 3) := by decide +kernel
theorem dX7_layTrail_96 : decode cX7_layTrail 96 = .ok (.iinc 2 1, 3) := by decide +kernel
theorem dX7_layTrail_99 : decode cX7_layTrail 99 = .ok (.goto (-86), 3) := by decide +kernel
theorem dX7_layTrail_102 : decode cX7_layTrail 102 = .ok (.return_, 1) := by decide +kernel
def f_X7_layTrail : MX := mth 5 (sQ (sQ (sM (gd 6 f_X6_copyFrom) (aA (aA (aN) (eGa (eLa 0) 7 1)) (eGa (eLa 0) 7 0))) (sQ (sTi 2 (eI (0))) (sLp (cB c_le (eLi 2) (eLi 1)) (sQ (sQ (sIf (cZ z_gt (eLi 2)) (sM (gd 4 f_X4_tick) (aA (aA (aN) (eGa (eLa 0) 7 2)) (eGa (eLa 0) 7 1))) sN) (sQ (sTa 3 (eGa (eGa (eGa (eLa 0) 7 1) 6 0) 1 3)) (sQ (sTi 4 (eI (0))) (sLp (cB c_lt (eLi 4) (eI (48))) (sQ (sAl (eGa (eLa 0) 7 9) (eOp o_iadd (eOp o_imul (eLi 2) (eI (48))) (eLi 4)) (eLO o_lor (eLS o_lshl (eIL Int32.toInt64 (eAi 0 (eLa 3) (eOp o_imul (eI (2)) (eLi 4)))) (eI (32))) (eLO o_land (eIL Int32.toInt64 (eAi 0 (eLa 3) (eOp o_iadd (eOp o_imul (eI (2)) (eLi 4)) (eI (1))))) (eJ (4294967295))))) (sInc 4 (1))) NF)))) (sInc 2 (1))) NF))) (sRv))
theorem Y_X7_layTrail : Yk yX7_layTrail cX7_layTrail 5 none 1 := ⟨w1063, w1, by decide +kernel, by decide +kernel, by decide +kernel⟩
set_option maxRecDepth 20000 in
theorem k_X7_layTrail (l : Launch) (g : GE) : MetX l g yX7_layTrail cX7_layTrail 5 none 2 ({ frames := 5, cells := 0, slots := 0, locals := 130 } : Room) f_X7_layTrail := by
  unfold f_X7_layTrail
  exact MetX.of (own := RX7) 100 0 rfl (by decide +kernel) (by decide) (fun p e s m args below meth c Fin ad0 hr hn => ⟨_, _, Sv_seq (Sv_seq (Sv_call (Av_a (Av_a (Av_nil) (Ev_getA Fx7 (Ev_aload_n dX7_layTrail_0 rfl) (k := 1) (by decide) w385 dX7_layTrail_1)) (Ev_getA Fx7 (Ev_aload_n dX7_layTrail_4 rfl) (k := 0) (by decide) w384 dX7_layTrail_5)) (Rn_V (ci := 6) Fx6.1 rfl Y_X6_copyFrom (k_X6_copyFrom _ _) w520 w521 w522 dX7_layTrail_8 (Nat.le_of_ble_eq_true rfl) (Nat.le_of_ble_eq_true rfl) (Nat.le_of_ble_eq_true rfl) (Nat.ne_of_beq_eq_false rfl))) (Sv_seq (Sv_istore_n (Ev_iconst dX7_layTrail_11 (by decide)) dX7_layTrail_12 rfl (Nat.le_of_ble_eq_true rfl) (Nat.ne_of_beq_eq_false rfl)) (Sv_loop0 NF (Cv_icmp_gt_n (Ev_iload_n dX7_layTrail_13 rfl) (Ev_iload_n dX7_layTrail_14 rfl) (t := 102) dX7_layTrail_15 (by decide)) (Sv_goto (pE := 13) (Sv_seq (Sv_seq (Sv_if (Cv_if_le_n (Ev_iload_n dX7_layTrail_18 rfl) (t := 33) dX7_layTrail_19 (by decide)) (Sv_call (Av_a (Av_a (Av_nil) (Ev_getA Fx7 (Ev_aload_n dX7_layTrail_22 rfl) (k := 2) (by decide) w386 dX7_layTrail_23)) (Ev_getA Fx7 (Ev_aload_n dX7_layTrail_26 rfl) (k := 1) (by decide) w385 dX7_layTrail_27)) (Rn_V (ci := 4) Fx4.1 rfl Y_X4_tick (k_X4_tick _ _) w812 w813 w814 dX7_layTrail_30 (Nat.le_of_ble_eq_true rfl) (Nat.le_of_ble_eq_true rfl) (Nat.le_of_ble_eq_true rfl) (Nat.ne_of_beq_eq_false rfl))) Sv_nop) (Sv_seq (Sv_astore_n (Ev_getA Fx1 (Ev_getA Fx6 (Ev_getA Fx7 (Ev_aload_n dX7_layTrail_33 rfl) (k := 1) (by decide) w385 dX7_layTrail_34) (k := 0) (by decide) w124 dX7_layTrail_37) (k := 3) (by decide) w54 dX7_layTrail_40) dX7_layTrail_43 rfl (Nat.le_of_ble_eq_true rfl) (Nat.ne_of_beq_eq_false rfl)) (Sv_seq (Sv_istore (Ev_iconst dX7_layTrail_44 (by decide)) dX7_layTrail_45 (Nat.le_of_ble_eq_true rfl) (Nat.ne_of_beq_eq_false rfl)) (Sv_loop0 NF (Cv_icmp_ge_n (Ev_iload dX7_layTrail_47) (Ev_bipush dX7_layTrail_49 (by decide)) (t := 96) dX7_layTrail_51 (by decide)) (Sv_goto (pE := 47) (Sv_seq (Sv_lastore (Ev_getA Fx7 (Ev_aload_n dX7_layTrail_54 rfl) (k := 9) (by decide) w393 dX7_layTrail_55) (Ev_iadd (Ev_imul (Ev_iload_n dX7_layTrail_58 rfl) (Ev_bipush dX7_layTrail_59 (by decide)) dX7_layTrail_61) (Ev_iload dX7_layTrail_62) dX7_layTrail_64) (Ev_lor (Ev_lshl (Ev_i2l (Ev_iaload (Ev_aload_n dX7_layTrail_65 rfl) (Ev_imul (Ev_iconst dX7_layTrail_66 (by decide)) (Ev_iload dX7_layTrail_67) dX7_layTrail_69) dX7_layTrail_70) dX7_layTrail_71) (Ev_bipush dX7_layTrail_72 (by decide)) dX7_layTrail_74) (Ev_land (Ev_i2l (Ev_iaload (Ev_aload_n dX7_layTrail_75 rfl) (Ev_iadd (Ev_imul (Ev_iconst dX7_layTrail_76 (by decide)) (Ev_iload dX7_layTrail_77) dX7_layTrail_79) (Ev_iconst dX7_layTrail_80 (by decide)) dX7_layTrail_81) dX7_layTrail_82) dX7_layTrail_83) (Ev_ldc2 w1064 dX7_layTrail_84) dX7_layTrail_87) dX7_layTrail_88) dX7_layTrail_89) (Sv_iinc dX7_layTrail_90 (by decide) (Nat.le_of_ble_eq_true rfl) (Nat.ne_of_beq_eq_false rfl))) dX7_layTrail_93 (by decide)))))) (Sv_iinc dX7_layTrail_96 (by decide) (Nat.le_of_ble_eq_true rfl) (Nat.ne_of_beq_eq_false rfl))) dX7_layTrail_99 (by decide))))) (Sv_retv hr dX7_layTrail_102), Nat.le_of_ble_eq_true rfl, Nat.le_of_ble_eq_true rfl⟩)
theorem dX7_isTrailSame_0 : decode cX7_isTrailSame 0 = .ok (.iconst 0, 1) := by decide +kernel
theorem dX7_isTrailSame_1 : decode cX7_isTrailSame 1 = .ok (.istore_n 3, 1) := by decide +kernel
theorem dX7_isTrailSame_2 : decode cX7_isTrailSame 2 = .ok (.iload_n 3, 1) := by decide +kernel
theorem dX7_isTrailSame_3 : decode cX7_isTrailSame 3 = .ok (.bipush 48, 2) := by decide +kernel
theorem dX7_isTrailSame_5 : decode cX7_isTrailSame 5 = .ok (.if_icmp .ge 37, 3) := by decide +kernel
theorem dX7_isTrailSame_8 : decode cX7_isTrailSame 8 = .ok (.aload_n 0, 1) := by decide +kernel
theorem dX7_isTrailSame_9 : decode cX7_isTrailSame 9 = .ok (.getfield 44, 3) := by decide +kernel
theorem dX7_isTrailSame_12 : decode cX7_isTrailSame 12 = .ok (.iload_n 1, 1) := by decide +kernel
theorem dX7_isTrailSame_13 : decode cX7_isTrailSame 13 = .ok (.bipush 48, 2) := by decide +kernel
theorem dX7_isTrailSame_15 : decode cX7_isTrailSame 15 = .ok (.imul, 1) := by decide +kernel
theorem dX7_isTrailSame_16 : decode cX7_isTrailSame 16 = .ok (.iload_n 3, 1) := by decide +kernel
theorem dX7_isTrailSame_17 : decode cX7_isTrailSame 17 = .ok (.iadd, 1) := by decide +kernel
theorem dX7_isTrailSame_18 : decode cX7_isTrailSame 18 = .ok (.laload, 1) := by decide +kernel
theorem dX7_isTrailSame_19 : decode cX7_isTrailSame 19 = .ok (.aload_n 0, 1) := by decide +kernel
theorem dX7_isTrailSame_20 : decode cX7_isTrailSame 20 = .ok (.getfield 44, 3) := by decide +kernel
theorem dX7_isTrailSame_23 : decode cX7_isTrailSame 23 = .ok (.iload_n 2, 1) := by decide +kernel
theorem dX7_isTrailSame_24 : decode cX7_isTrailSame 24 = .ok (.bipush 48, 2) := by decide +kernel
theorem dX7_isTrailSame_26 : decode cX7_isTrailSame 26 = .ok (.imul, 1) := by decide +kernel
theorem dX7_isTrailSame_27 : decode cX7_isTrailSame 27 = .ok (.iload_n 3, 1) := by decide +kernel
theorem dX7_isTrailSame_28 : decode cX7_isTrailSame 28 = .ok (.iadd, 1) := by decide +kernel
theorem dX7_isTrailSame_29 : decode cX7_isTrailSame 29 = .ok (.laload, 1) := by decide +kernel
theorem dX7_isTrailSame_30 : decode cX7_isTrailSame 30 = .ok (.lcmp, 1) := by decide +kernel
theorem dX7_isTrailSame_31 : decode cX7_isTrailSame 31 = .ok (.ifCond .eq 5, 3) := by decide +kernel
theorem dX7_isTrailSame_34 : decode cX7_isTrailSame 34 = .ok (.iconst 0, 1) := by decide +kernel
theorem dX7_isTrailSame_35 : decode cX7_isTrailSame 35 = .ok (.ireturn, 1) := by decide +kernel
theorem dX7_isTrailSame_36 : decode cX7_isTrailSame 36 = .ok (.iinc 3 1, 3) := by decide +kernel
theorem dX7_isTrailSame_39 : decode cX7_isTrailSame 39 = .ok (.goto (-37), 3) := by decide +kernel
theorem dX7_isTrailSame_42 : decode cX7_isTrailSame 42 = .ok (.iconst 1, 1) := by decide +kernel
theorem dX7_isTrailSame_43 : decode cX7_isTrailSame 43 = .ok (.ireturn, 1) := by decide +kernel
def f_X7_isTrailSame : MX := mth 4 (sQ (sQ (sTi 3 (eI (0))) (sLp (cB c_lt (eLi 3) (eI (48))) (sQ (sIf (cZ z_ne (eLC (eAl (eGa (eLa 0) 7 9) (eOp o_iadd (eOp o_imul (eLi 1) (eI (48))) (eLi 3))) (eAl (eGa (eLa 0) 7 9) (eOp o_iadd (eOp o_imul (eLi 2) (eI (48))) (eLi 3))))) (sRz (eI (0))) sN) (sInc 3 (1))) NF)) (sRz (eI (1))))
theorem Y_X7_isTrailSame : Yk yX7_isTrailSame cX7_isTrailSame 4 (some .boolean) 2 := ⟨w1080, w1, by decide +kernel, by decide +kernel, by decide +kernel⟩
set_option maxRecDepth 20000 in
theorem k_X7_isTrailSame (l : Launch) (g : GE) : MetX l g yX7_isTrailSame cX7_isTrailSame 4 (some .boolean) 3 ({ frames := 0, cells := 0, slots := 0, locals := 0 } : Room) f_X7_isTrailSame := by
  unfold f_X7_isTrailSame
  exact MetX.of (own := RX7) 100 0 rfl (by decide +kernel) (by decide) (fun p e s m args below meth c Fin ad0 hr hn => ⟨_, _, Sv_seq (Sv_seq (Sv_istore_n (Ev_iconst dX7_isTrailSame_0 (by decide)) dX7_isTrailSame_1 rfl (Nat.le_of_ble_eq_true rfl) (Nat.ne_of_beq_eq_false rfl)) (Sv_loop0 NF (Cv_icmp_ge_n (Ev_iload_n dX7_isTrailSame_2 rfl) (Ev_bipush dX7_isTrailSame_3 (by decide)) (t := 42) dX7_isTrailSame_5 (by decide)) (Sv_goto (pE := 2) (Sv_seq (Sv_if (Cv_if_eq_n (Ev_lcmp (Ev_laload (Ev_getA Fx7 (Ev_aload_n dX7_isTrailSame_8 rfl) (k := 9) (by decide) w393 dX7_isTrailSame_9) (Ev_iadd (Ev_imul (Ev_iload_n dX7_isTrailSame_12 rfl) (Ev_bipush dX7_isTrailSame_13 (by decide)) dX7_isTrailSame_15) (Ev_iload_n dX7_isTrailSame_16 rfl) dX7_isTrailSame_17) dX7_isTrailSame_18) (Ev_laload (Ev_getA Fx7 (Ev_aload_n dX7_isTrailSame_19 rfl) (k := 9) (by decide) w393 dX7_isTrailSame_20) (Ev_iadd (Ev_imul (Ev_iload_n dX7_isTrailSame_23 rfl) (Ev_bipush dX7_isTrailSame_24 (by decide)) dX7_isTrailSame_26) (Ev_iload_n dX7_isTrailSame_27 rfl) dX7_isTrailSame_28) dX7_isTrailSame_29) dX7_isTrailSame_30) (t := 36) dX7_isTrailSame_31 (by decide)) (Sv_retz (Ev_iconst dX7_isTrailSame_34 (by decide)) hr dX7_isTrailSame_35) Sv_nop) (Sv_iinc dX7_isTrailSame_36 (by decide) (Nat.le_of_ble_eq_true rfl) (Nat.ne_of_beq_eq_false rfl))) dX7_isTrailSame_39 (by decide)))) (Sv_retz (Ev_iconst dX7_isTrailSame_42 (by decide)) hr dX7_isTrailSame_43), Nat.le_of_ble_eq_true rfl, Nat.le_of_ble_eq_true rfl⟩)
theorem dX7_periodAfter_0 : decode cX7_periodAfter 0 = .ok (.iconst 2, 1) := by decide +kernel
theorem dX7_periodAfter_1 : decode cX7_periodAfter 1 = .ok (.istore_n 3, 1) := by decide +kernel
theorem dX7_periodAfter_2 : decode cX7_periodAfter 2 = .ok (.iload_n 1, 1) := by decide +kernel
theorem dX7_periodAfter_3 : decode cX7_periodAfter 3 = .ok (.iload_n 3, 1) := by decide +kernel
theorem dX7_periodAfter_4 : decode cX7_periodAfter 4 = .ok (.iadd, 1) := by decide +kernel
theorem dX7_periodAfter_5 : decode cX7_periodAfter 5 = .ok (.iload_n 2, 1) := by decide +kernel
theorem dX7_periodAfter_6 : decode cX7_periodAfter 6 = .ok (.if_icmp .gt 36, 3) := by decide +kernel
theorem dX7_periodAfter_9 : decode cX7_periodAfter 9 = .ok (.aload_n 0, 1) := by decide +kernel
theorem dX7_periodAfter_10 : decode cX7_periodAfter 10 = .ok (.getfield 12, 3) := by decide +kernel
theorem dX7_periodAfter_13 : decode cX7_periodAfter 13 = .ok (.getfield 151, 3) := by decide +kernel
theorem dX7_periodAfter_16 : decode cX7_periodAfter 16 = .ok (.iload_n 3, 1) := by decide +kernel
theorem dX7_periodAfter_17 : decode cX7_periodAfter 17 = .ok (.invokevirtual 291, 3) := by decide +kernel
theorem dX7_periodAfter_20 : decode cX7_periodAfter 20 = .ok (.ifCond .eq 16, 3) := by decide +kernel
theorem dX7_periodAfter_23 : decode cX7_periodAfter 23 = .ok (.aload_n 0, 1) := by decide +kernel
theorem dX7_periodAfter_24 : decode cX7_periodAfter 24 = .ok (.iload_n 1, 1) := by decide +kernel
theorem dX7_periodAfter_25 : decode cX7_periodAfter 25 = .ok (.iload_n 1, 1) := by decide +kernel
theorem dX7_periodAfter_26 : decode cX7_periodAfter 26 = .ok (.iload_n 3, 1) := by decide +kernel
theorem dX7_periodAfter_27 : decode cX7_periodAfter 27 = .ok (.iadd, 1) := by decide +kernel
theorem dX7_periodAfter_28 : decode cX7_periodAfter 28 = .ok (.invokevirtual 294, 3) := by decide +kernel
theorem dX7_periodAfter_31 : decode cX7_periodAfter 31 = .ok (.ifCond .eq 5, 3) := by decide +kernel
theorem dX7_periodAfter_34 : decode cX7_periodAfter 34 = .ok (.iload_n 3, 1) := by decide +kernel
theorem dX7_periodAfter_35 : decode cX7_periodAfter 35 = .ok (.ireturn, 1) := by decide +kernel
theorem dX7_periodAfter_36 : decode cX7_periodAfter 36 = .ok (.iinc 3 2, 3) := by decide +kernel
theorem dX7_periodAfter_39 : decode cX7_periodAfter 39 = .ok (.goto (-37), 3) := by decide +kernel
theorem dX7_periodAfter_42 : decode cX7_periodAfter 42 = .ok (.iconst (-1), 1) := by decide +kernel
theorem dX7_periodAfter_43 : decode cX7_periodAfter 43 = .ok (.ireturn, 1) := by decide +kernel
def f_X7_periodAfter : MX := mth 4 (sQ (sQ (sTi 3 (eI (2))) (sLp (cB c_le (eOp o_iadd (eLi 1) (eLi 3)) (eLi 2)) (sQ (sIf (cAnd (cZ z_ne (eM (gd 2 f_X2_repeatAfter) (aI (aA (aN) (eGa (eGa (eLa 0) 7 0) 6 1)) (eLi 3)))) (cZ z_ne (eM (gd 7 f_X7_isTrailSame) (aI (aI (aA (aN) (eLa 0)) (eLi 1)) (eOp o_iadd (eLi 1) (eLi 3)))))) (sR (eLi 3)) sN) (sInc 3 (2))) NF)) (sR (eI (-1))))
theorem Y_X7_periodAfter : Yk yX7_periodAfter cX7_periodAfter 4 (some .int) 2 := ⟨w1072, w1, by decide +kernel, by decide +kernel, by decide +kernel⟩
set_option maxRecDepth 20000 in
theorem k_X7_periodAfter (l : Launch) (g : GE) : MetX l g yX7_periodAfter cX7_periodAfter 4 (some .int) 3 ({ frames := 1, cells := 0, slots := 0, locals := 23 } : Room) f_X7_periodAfter := by
  unfold f_X7_periodAfter
  exact MetX.of (own := RX7) 100 0 rfl (by decide +kernel) (by decide) (fun p e s m args below meth c Fin ad0 hr hn => ⟨_, _, Sv_seq (Sv_seq (Sv_istore_n (Ev_iconst dX7_periodAfter_0 (by decide)) dX7_periodAfter_1 rfl (Nat.le_of_ble_eq_true rfl) (Nat.ne_of_beq_eq_false rfl)) (Sv_loop0 NF (Cv_icmp_gt_n (Ev_iadd (Ev_iload_n dX7_periodAfter_2 rfl) (Ev_iload_n dX7_periodAfter_3 rfl) dX7_periodAfter_4) (Ev_iload_n dX7_periodAfter_5 rfl) (t := 42) dX7_periodAfter_6 (by decide)) (Sv_goto (pE := 2) (Sv_seq (Sv_if (Cv_and (Cv_if_eq_n (Ev_call (Av_i (Av_a (Av_nil) (Ev_getA Fx6 (Ev_getA Fx7 (Ev_aload_n dX7_periodAfter_9 rfl) (k := 0) (by decide) w384 dX7_periodAfter_10) (k := 1) (by decide) w127 dX7_periodAfter_13)) (Ev_iload_n dX7_periodAfter_16 rfl)) (Rn_V (ci := 2) Fx2.1 rfl Y_X2_repeatAfter (k_X2_repeatAfter _ _) w1073 w1074 w1075 dX7_periodAfter_17 (Nat.le_of_ble_eq_true rfl) (Nat.le_of_ble_eq_true rfl) (Nat.le_of_ble_eq_true rfl) (Nat.ne_of_beq_eq_false rfl))) (t := 36) dX7_periodAfter_20 (by decide)) (Cv_if_eq_n (Ev_call (Av_i (Av_i (Av_a (Av_nil) (Ev_aload_n dX7_periodAfter_23 rfl)) (Ev_iload_n dX7_periodAfter_24 rfl)) (Ev_iadd (Ev_iload_n dX7_periodAfter_25 rfl) (Ev_iload_n dX7_periodAfter_26 rfl) dX7_periodAfter_27)) (Rn_V (ci := 7) Fx7.1 rfl Y_X7_isTrailSame (k_X7_isTrailSame _ _) w1077 w1079 wp26 dX7_periodAfter_28 (Nat.le_of_ble_eq_true rfl) (Nat.le_of_ble_eq_true rfl) (Nat.le_of_ble_eq_true rfl) (Nat.ne_of_beq_eq_false rfl))) (t := 36) dX7_periodAfter_31 (by decide))) (Sv_ret (Ev_iload_n dX7_periodAfter_34 rfl) hr dX7_periodAfter_35) Sv_nop) (Sv_iinc dX7_periodAfter_36 (by decide) (Nat.le_of_ble_eq_true rfl) (Nat.ne_of_beq_eq_false rfl))) dX7_periodAfter_39 (by decide)))) (Sv_ret (Ev_iconst dX7_periodAfter_42 (by decide)) hr dX7_periodAfter_43), Nat.le_of_ble_eq_true rfl, Nat.le_of_ble_eq_true rfl⟩)
theorem dX7_cycle_0 : decode cX7_cycle 0 = .ok (.iload_n 1, 1) := by decide +kernel
theorem dX7_cycle_1 : decode cX7_cycle 1 = .ok (.iconst 2, 1) := by decide +kernel
theorem dX7_cycle_2 : decode cX7_cycle 2 = .ok (.bipush 60, 2) := by decide +kernel
theorem dX7_cycle_4 : decode cX7_cycle 4 = .ok (.invokestatic 78, 3) := by decide +kernel
theorem dX7_cycle_7 : decode cX7_cycle 7 = .ok (.iload_n 2, 1) := by decide +kernel
theorem dX7_cycle_8 : decode cX7_cycle 8 = .ok (.iconst 0, 1) := by decide +kernel
theorem dX7_cycle_9 : decode cX7_cycle 9 = .ok (.iconst 1, 1) := by decide +kernel
theorem dX7_cycle_10 : decode cX7_cycle 10 = .ok (.invokestatic 78, 3) := by decide +kernel
theorem dX7_cycle_13 : decode cX7_cycle 13 = .ok (.aload_n 0, 1) := by decide +kernel
theorem dX7_cycle_14 : decode cX7_cycle 14 = .ok (.iload_n 1, 1) := by decide +kernel
theorem dX7_cycle_15 : decode cX7_cycle 15 = .ok (.invokevirtual 274, 3) := by decide +kernel
theorem dX7_cycle_18 : decode cX7_cycle 18 = .ok (.iconst 0, 1) := by decide +kernel
theorem dX7_cycle_19 : decode cX7_cycle 19 = .ok (.istore_n 3, 1) := by decide +kernel
theorem dX7_cycle_20 : decode cX7_cycle 20 = .ok (.iload_n 3, 1) := by decide +kernel
theorem dX7_cycle_21 : decode cX7_cycle 21 = .ok (.iconst 2, 1) := by decide +kernel
theorem dX7_cycle_22 : decode cX7_cycle 22 = .ok (.iadd, 1) := by decide +kernel
theorem dX7_cycle_23 : decode cX7_cycle 23 = .ok (.iload_n 1, 1) := by decide +kernel
theorem dX7_cycle_24 : decode cX7_cycle 24 = .ok (.if_icmp .gt 60, 3) := by decide +kernel
theorem dX7_cycle_27 : decode cX7_cycle 27 = .ok (.aload_n 0, 1) := by decide +kernel
theorem dX7_cycle_28 : decode cX7_cycle 28 = .ok (.getfield 12, 3) := by decide +kernel
theorem dX7_cycle_31 : decode cX7_cycle 31 = .ok (.getfield 151, 3) := by decide +kernel
theorem dX7_cycle_34 : decode cX7_cycle 34 = .ok (.aload_n 0, 1) := by decide +kernel
theorem dX7_cycle_35 : decode cX7_cycle 35 = .ok (.getfield 12, 3) := by decide +kernel
theorem dX7_cycle_38 : decode cX7_cycle 38 = .ok (.getfield 190, 3) := by decide +kernel
theorem dX7_cycle_41 : decode cX7_cycle 41 = .ok (.iload_n 3, 1) := by decide +kernel
theorem dX7_cycle_42 : decode cX7_cycle 42 = .ok (.iadd, 1) := by decide +kernel
theorem dX7_cycle_43 : decode cX7_cycle 43 = .ok (.invokevirtual 277, 3) := by decide +kernel
theorem dX7_cycle_46 : decode cX7_cycle 46 = .ok (.ifCond .eq 12, 3) := by decide +kernel
theorem dX7_cycle_49 : decode cX7_cycle 49 = .ok (.aload_n 0, 1) := by decide +kernel
theorem dX7_cycle_50 : decode cX7_cycle 50 = .ok (.iload_n 3, 1) := by decide +kernel
theorem dX7_cycle_51 : decode cX7_cycle 51 = .ok (.iload_n 1, 1) := by decide +kernel
theorem dX7_cycle_52 : decode cX7_cycle 52 = .ok (.invokevirtual 281, 3) := by decide +kernel
theorem dX7_cycle_55 : decode cX7_cycle 55 = .ok (.goto 4, 3) := by decide +kernel
theorem dX7_cycle_58 : decode cX7_cycle 58 = .ok (.iconst (-1), 1) := by decide +kernel
theorem dX7_cycle_59 : decode cX7_cycle 59 = .ok (.istore 4, 2) := by decide +kernel
theorem dX7_cycle_61 : decode cX7_cycle 61 = .ok (.iload 4, 2) := by decide +kernel
theorem dX7_cycle_63 : decode cX7_cycle 63 = .ok (.iconst (-1), 1) := by decide +kernel
theorem dX7_cycle_64 : decode cX7_cycle 64 = .ok (.if_icmp .eq 14, 3) := by decide +kernel
theorem dX7_cycle_67 : decode cX7_cycle 67 = .ok (.iload_n 2, 1) := by decide +kernel
theorem dX7_cycle_68 : decode cX7_cycle 68 = .ok (.ifCond .ne 7, 3) := by decide +kernel
theorem dX7_cycle_71 : decode cX7_cycle 71 = .ok (.iload_n 3, 1) := by decide +kernel
theorem dX7_cycle_72 : decode cX7_cycle 72 = .ok (.goto 5, 3) := by decide +kernel
theorem dX7_cycle_75 : decode cX7_cycle 75 = .ok (.iload 4, 2) := by decide +kernel
theorem dX7_cycle_77 : decode cX7_cycle 77 = .ok (.ireturn, 1) := by decide +kernel
theorem dX7_cycle_78 : decode cX7_cycle 78 = .ok (.iinc 3 1, 3) := by decide +kernel
theorem dX7_cycle_81 : decode cX7_cycle 81 = .ok (.goto (-61), 3) := by decide +kernel
theorem dX7_cycle_84 : decode cX7_cycle 84 = .ok (.iconst (-1), 1) := by decide +kernel
theorem dX7_cycle_85 : decode cX7_cycle 85 = .ok (.ireturn, 1) := by decide +kernel
def f_X7_cycle : MX := mth 5 (sQ (sM (f_X7_needRange) (aI (aI (aI (aN) (eLi 1)) (eI (2))) (eI (60)))) (sQ (sM (f_X7_needRange) (aI (aI (aI (aN) (eLi 2)) (eI (0))) (eI (1)))) (sQ (sM (gd 7 f_X7_layTrail) (aI (aA (aN) (eLa 0)) (eLi 1))) (sQ (sQ (sTi 3 (eI (0))) (sLp (cB c_le (eOp o_iadd (eLi 3) (eI (2))) (eLi 1)) (sQ (sQ (sTi 4 (eIf (cZ z_ne (eM (gd 2 f_X2_haveStarted) (aI (aA (aN) (eGa (eGa (eLa 0) 7 0) 6 1)) (eOp o_iadd (eGi (eGa (eLa 0) 7 0) 6 7) (eLi 3))))) (eM (gd 7 f_X7_periodAfter) (aI (aI (aA (aN) (eLa 0)) (eLi 3)) (eLi 1))) (eI (-1)))) (sIf (cB c_ne (eLi 4) (eI (-1))) (sR (eIf (cZ z_eq (eLi 2)) (eLi 3) (eLi 4))) sN)) (sInc 3 (1))) NF)) (sR (eI (-1)))))))
theorem Y_X7_cycle : Yk yX7_cycle cX7_cycle 5 (some .int) 2 := ⟨w1059, w1, by decide +kernel, by decide +kernel, by decide +kernel⟩
set_option maxRecDepth 20000 in
theorem k_X7_cycle (l : Launch) (g : GE) : MetX l g yX7_cycle cX7_cycle 5 (some .int) 3 ({ frames := 7, cells := 2, slots := 12, locals := 154 } : Room) f_X7_cycle := by
  unfold f_X7_cycle
  exact MetX.of (own := RX7) 100 0 rfl (by decide +kernel) (by decide) (fun p e s m args below meth c Fin ad0 hr hn => ⟨_, _, Sv_seq (Sv_call (Av_i (Av_i (Av_i (Av_nil) (Ev_iload_n dX7_cycle_0 rfl)) (Ev_iconst dX7_cycle_1 (by decide))) (Ev_bipush dX7_cycle_2 (by decide))) (Rn_S Y_X7_needRange (k_X7_needRange _ _) w446 w447 dX7_cycle_4 (Nat.le_of_ble_eq_true rfl) (Nat.le_of_ble_eq_true rfl) (Nat.le_of_ble_eq_true rfl) (Nat.ne_of_beq_eq_false rfl))) (Sv_seq (Sv_call (Av_i (Av_i (Av_i (Av_nil) (Ev_iload_n dX7_cycle_7 rfl)) (Ev_iconst dX7_cycle_8 (by decide))) (Ev_iconst dX7_cycle_9 (by decide))) (Rn_S Y_X7_needRange (k_X7_needRange _ _) w446 w447 dX7_cycle_10 (Nat.le_of_ble_eq_true rfl) (Nat.le_of_ble_eq_true rfl) (Nat.le_of_ble_eq_true rfl) (Nat.ne_of_beq_eq_false rfl))) (Sv_seq (Sv_call (Av_i (Av_a (Av_nil) (Ev_aload_n dX7_cycle_13 rfl)) (Ev_iload_n dX7_cycle_14 rfl)) (Rn_V (ci := 7) Fx7.1 rfl Y_X7_layTrail (k_X7_layTrail _ _) w1060 w1062 wp24 dX7_cycle_15 (Nat.le_of_ble_eq_true rfl) (Nat.le_of_ble_eq_true rfl) (Nat.le_of_ble_eq_true rfl) (Nat.ne_of_beq_eq_false rfl))) (Sv_seq (Sv_seq (Sv_istore_n (Ev_iconst dX7_cycle_18 (by decide)) dX7_cycle_19 rfl (Nat.le_of_ble_eq_true rfl) (Nat.ne_of_beq_eq_false rfl)) (Sv_loop0 NF (Cv_icmp_gt_n (Ev_iadd (Ev_iload_n dX7_cycle_20 rfl) (Ev_iconst dX7_cycle_21 (by decide)) dX7_cycle_22) (Ev_iload_n dX7_cycle_23 rfl) (t := 84) dX7_cycle_24 (by decide)) (Sv_goto (pE := 20) (Sv_seq (Sv_seq (Sv_istore (Ev_if (pT := 59) (Cv_if_eq_n (Ev_call (Av_i (Av_a (Av_nil) (Ev_getA Fx6 (Ev_getA Fx7 (Ev_aload_n dX7_cycle_27 rfl) (k := 0) (by decide) w384 dX7_cycle_28) (k := 1) (by decide) w127 dX7_cycle_31)) (Ev_iadd (Ev_getI Fx6 (Ev_getA Fx7 (Ev_aload_n dX7_cycle_34 rfl) (k := 0) (by decide) w384 dX7_cycle_35) (k := 7) (by decide) w144 dX7_cycle_38) (Ev_iload_n dX7_cycle_41 rfl) dX7_cycle_42)) (Rn_V (ci := 2) Fx2.1 rfl Y_X2_haveStarted (k_X2_haveStarted _ _) w1065 w1066 w1067 dX7_cycle_43 (Nat.le_of_ble_eq_true rfl) (Nat.le_of_ble_eq_true rfl) (Nat.le_of_ble_eq_true rfl) (Nat.ne_of_beq_eq_false rfl))) (t := 58) dX7_cycle_46 (by decide)) (Ev_call (Av_i (Av_i (Av_a (Av_nil) (Ev_aload_n dX7_cycle_49 rfl)) (Ev_iload_n dX7_cycle_50 rfl)) (Ev_iload_n dX7_cycle_51 rfl)) (Rn_V (ci := 7) Fx7.1 rfl Y_X7_periodAfter (k_X7_periodAfter _ _) w1069 w1071 wp25 dX7_cycle_52 (Nat.le_of_ble_eq_true rfl) (Nat.le_of_ble_eq_true rfl) (Nat.le_of_ble_eq_true rfl) (Nat.ne_of_beq_eq_false rfl))) dX7_cycle_55 (by decide) (Ev_iconst dX7_cycle_58 (by decide))) dX7_cycle_59 (Nat.le_of_ble_eq_true rfl) (Nat.ne_of_beq_eq_false rfl)) (Sv_if (Cv_icmp_eq_n (Ev_iload dX7_cycle_61) (Ev_iconst dX7_cycle_63 (by decide)) (t := 78) dX7_cycle_64 (by decide)) (Sv_ret (Ev_if (pT := 77) (Cv_if_ne_n (Ev_iload_n dX7_cycle_67 rfl) (t := 75) dX7_cycle_68 (by decide)) (Ev_iload_n dX7_cycle_71 rfl) dX7_cycle_72 (by decide) (Ev_iload dX7_cycle_75)) hr dX7_cycle_77) Sv_nop)) (Sv_iinc dX7_cycle_78 (by decide) (Nat.le_of_ble_eq_true rfl) (Nat.ne_of_beq_eq_false rfl))) dX7_cycle_81 (by decide)))) (Sv_ret (Ev_iconst dX7_cycle_84 (by decide)) hr dX7_cycle_85)))), Nat.le_of_ble_eq_true rfl, Nat.le_of_ble_eq_true rfl⟩)
theorem dX7_settles_0 : decode cX7_settles 0 = .ok (.iload_n 1, 1) := by decide +kernel
theorem dX7_settles_1 : decode cX7_settles 1 = .ok (.invokestatic 89, 3) := by decide +kernel
theorem dX7_settles_4 : decode cX7_settles 4 = .ok (.iload_n 2, 1) := by decide +kernel
theorem dX7_settles_5 : decode cX7_settles 5 = .ok (.iconst 1, 1) := by decide +kernel
theorem dX7_settles_6 : decode cX7_settles 6 = .ok (.bipush 32, 2) := by decide +kernel
theorem dX7_settles_8 : decode cX7_settles 8 = .ok (.invokestatic 78, 3) := by decide +kernel
theorem dX7_settles_11 : decode cX7_settles 11 = .ok (.iload_n 3, 1) := by decide +kernel
theorem dX7_settles_12 : decode cX7_settles 12 = .ok (.iconst 0, 1) := by decide +kernel
theorem dX7_settles_13 : decode cX7_settles 13 = .ok (.sipush 1000, 3) := by decide +kernel
theorem dX7_settles_16 : decode cX7_settles 16 = .ok (.invokestatic 78, 3) := by decide +kernel
theorem dX7_settles_19 : decode cX7_settles 19 = .ok (.iload 4, 2) := by decide +kernel
theorem dX7_settles_21 : decode cX7_settles 21 = .ok (.iconst 0, 1) := by decide +kernel
theorem dX7_settles_22 : decode cX7_settles 22 = .ok (.bipush 40, 2) := by decide +kernel
theorem dX7_settles_24 : decode cX7_settles 24 = .ok (.invokestatic 78, 3) := by decide +kernel
theorem dX7_settles_27 : decode cX7_settles 27 = .ok (.aload_n 0, 1) := by decide +kernel
theorem dX7_settles_28 : decode cX7_settles 28 = .ok (.getfield 16, 3) := by decide +kernel
theorem dX7_settles_31 : decode cX7_settles 31 = .ok (.aload_n 0, 1) := by decide +kernel
theorem dX7_settles_32 : decode cX7_settles 32 = .ok (.getfield 12, 3) := by decide +kernel
theorem dX7_settles_35 : decode cX7_settles 35 = .ok (.invokevirtual 268, 3) := by decide +kernel
theorem dX7_settles_38 : decode cX7_settles 38 = .ok (.iconst 0, 1) := by decide +kernel
theorem dX7_settles_39 : decode cX7_settles 39 = .ok (.istore 5, 2) := by decide +kernel
theorem dX7_settles_41 : decode cX7_settles 41 = .ok (.iload 5, 2) := by decide +kernel
theorem dX7_settles_43 : decode cX7_settles 43 = .ok (.iload 4, 2) := by decide +kernel
theorem dX7_settles_45 : decode cX7_settles 45 = .ok (.if_icmp .gt 39, 3) := by decide +kernel
theorem dX7_settles_48 : decode cX7_settles 48 = .ok (.aload_n 0, 1) := by decide +kernel
theorem dX7_settles_49 : decode cX7_settles 49 = .ok (.getfield 16, 3) := by decide +kernel
theorem dX7_settles_52 : decode cX7_settles 52 = .ok (.getfield 234, 3) := by decide +kernel
theorem dX7_settles_55 : decode cX7_settles 55 = .ok (.iload_n 1, 1) := by decide +kernel
theorem dX7_settles_56 : decode cX7_settles 56 = .ok (.iload_n 2, 1) := by decide +kernel
theorem dX7_settles_57 : decode cX7_settles 57 = .ok (.iload_n 3, 1) := by decide +kernel
theorem dX7_settles_58 : decode cX7_settles 58 = .ok (.invokevirtual 243, 3) := by decide +kernel
theorem dX7_settles_61 : decode cX7_settles 61 = .ok (.ifCond .eq 6, 3) := by decide +kernel
theorem dX7_settles_64 : decode cX7_settles 64 = .ok (.iload 5, 2) := by decide +kernel
theorem dX7_settles_66 : decode cX7_settles 66 = .ok (.ireturn, 1) := by decide +kernel
theorem dX7_settles_67 : decode cX7_settles 67 = .ok (.aload_n 0, 1) := by decide +kernel
theorem dX7_settles_68 : decode cX7_settles 68 = .ok (.getfield 22, 3) := by decide +kernel
theorem dX7_settles_71 : decode cX7_settles 71 = .ok (.aload_n 0, 1) := by decide +kernel
theorem dX7_settles_72 : decode cX7_settles 72 = .ok (.getfield 16, 3) := by decide +kernel
theorem dX7_settles_75 : decode cX7_settles 75 = .ok (.invokevirtual 186, 3) := by decide +kernel
theorem dX7_settles_78 : decode cX7_settles 78 = .ok (.iinc 5 1, 3) := by decide +kernel
theorem dX7_settles_81 : decode cX7_settles 81 = .ok (.goto (-40), 3) := by decide +kernel
theorem dX7_settles_84 : decode cX7_settles 84 = .ok (.iconst (-1), 1) := by decide +kernel
theorem dX7_settles_85 : decode cX7_settles 85 = .ok (.ireturn, 1) := by decide +kernel
def f_X7_settles : MX := mth 6 (sQ (sM (f_X7_needBody) (aI (aN) (eLi 1))) (sQ (sM (f_X7_needRange) (aI (aI (aI (aN) (eLi 2)) (eI (1))) (eI (32)))) (sQ (sM (f_X7_needRange) (aI (aI (aI (aN) (eLi 3)) (eI (0))) (eI (1000)))) (sQ (sM (f_X7_needRange) (aI (aI (aI (aN) (eLi 4)) (eI (0))) (eI (40)))) (sQ (sM (gd 6 f_X6_copyFrom) (aA (aA (aN) (eGa (eLa 0) 7 1)) (eGa (eLa 0) 7 0))) (sQ (sQ (sTi 5 (eI (0))) (sLp (cB c_le (eLi 5) (eLi 4)) (sQ (sQ (sIf (cZ z_ne (eM (gd 5 f_X5_isSteady) (aI (aI (aI (aA (aN) (eGa (eGa (eLa 0) 7 1) 6 2)) (eLi 1)) (eLi 2)) (eLi 3)))) (sR (eLi 5)) sN) (sM (gd 4 f_X4_tick) (aA (aA (aN) (eGa (eLa 0) 7 2)) (eGa (eLa 0) 7 1)))) (sInc 5 (1))) NF)) (sR (eI (-1)))))))))
theorem Y_X7_settles : Yk yX7_settles cX7_settles 6 (some .int) 4 := ⟨w1087, w1, by decide +kernel, by decide +kernel, by decide +kernel⟩
set_option maxRecDepth 20000 in
theorem k_X7_settles (l : Launch) (g : GE) : MetX l g yX7_settles cX7_settles 6 (some .int) 5 ({ frames := 8, cells := 4, slots := 24, locals := 130 } : Room) f_X7_settles := by
  unfold f_X7_settles
  exact MetX.of (own := RX7) 100 0 rfl (by decide +kernel) (by decide) (fun p e s m args below meth c Fin ad0 hr hn => ⟨_, _, Sv_seq (Sv_call (Av_i (Av_nil) (Ev_iload_n dX7_settles_0 rfl)) (Rn_S Y_X7_needBody (k_X7_needBody _ _) w560 w561 dX7_settles_1 (Nat.le_of_ble_eq_true rfl) (Nat.le_of_ble_eq_true rfl) (Nat.le_of_ble_eq_true rfl) (Nat.ne_of_beq_eq_false rfl))) (Sv_seq (Sv_call (Av_i (Av_i (Av_i (Av_nil) (Ev_iload_n dX7_settles_4 rfl)) (Ev_iconst dX7_settles_5 (by decide))) (Ev_bipush dX7_settles_6 (by decide))) (Rn_S Y_X7_needRange (k_X7_needRange _ _) w446 w447 dX7_settles_8 (Nat.le_of_ble_eq_true rfl) (Nat.le_of_ble_eq_true rfl) (Nat.le_of_ble_eq_true rfl) (Nat.ne_of_beq_eq_false rfl))) (Sv_seq (Sv_call (Av_i (Av_i (Av_i (Av_nil) (Ev_iload_n dX7_settles_11 rfl)) (Ev_iconst dX7_settles_12 (by decide))) (Ev_sipush dX7_settles_13 (by decide))) (Rn_S Y_X7_needRange (k_X7_needRange _ _) w446 w447 dX7_settles_16 (Nat.le_of_ble_eq_true rfl) (Nat.le_of_ble_eq_true rfl) (Nat.le_of_ble_eq_true rfl) (Nat.ne_of_beq_eq_false rfl))) (Sv_seq (Sv_call (Av_i (Av_i (Av_i (Av_nil) (Ev_iload dX7_settles_19)) (Ev_iconst dX7_settles_21 (by decide))) (Ev_bipush dX7_settles_22 (by decide))) (Rn_S Y_X7_needRange (k_X7_needRange _ _) w446 w447 dX7_settles_24 (Nat.le_of_ble_eq_true rfl) (Nat.le_of_ble_eq_true rfl) (Nat.le_of_ble_eq_true rfl) (Nat.ne_of_beq_eq_false rfl))) (Sv_seq (Sv_call (Av_a (Av_a (Av_nil) (Ev_getA Fx7 (Ev_aload_n dX7_settles_27 rfl) (k := 1) (by decide) w385 dX7_settles_28)) (Ev_getA Fx7 (Ev_aload_n dX7_settles_31 rfl) (k := 0) (by decide) w384 dX7_settles_32)) (Rn_V (ci := 6) Fx6.1 rfl Y_X6_copyFrom (k_X6_copyFrom _ _) w520 w521 w522 dX7_settles_35 (Nat.le_of_ble_eq_true rfl) (Nat.le_of_ble_eq_true rfl) (Nat.le_of_ble_eq_true rfl) (Nat.ne_of_beq_eq_false rfl))) (Sv_seq (Sv_seq (Sv_istore (Ev_iconst dX7_settles_38 (by decide)) dX7_settles_39 (Nat.le_of_ble_eq_true rfl) (Nat.ne_of_beq_eq_false rfl)) (Sv_loop0 NF (Cv_icmp_gt_n (Ev_iload dX7_settles_41) (Ev_iload dX7_settles_43) (t := 84) dX7_settles_45 (by decide)) (Sv_goto (pE := 41) (Sv_seq (Sv_seq (Sv_if (Cv_if_eq_n (Ev_call (Av_i (Av_i (Av_i (Av_a (Av_nil) (Ev_getA Fx6 (Ev_getA Fx7 (Ev_aload_n dX7_settles_48 rfl) (k := 1) (by decide) w385 dX7_settles_49) (k := 2) (by decide) w130 dX7_settles_52)) (Ev_iload_n dX7_settles_55 rfl)) (Ev_iload_n dX7_settles_56 rfl)) (Ev_iload_n dX7_settles_57 rfl)) (Rn_V (ci := 5) Fx5.1 rfl Y_X5_isSteady (k_X5_isSteady _ _) w1009 w1010 w1011 dX7_settles_58 (Nat.le_of_ble_eq_true rfl) (Nat.le_of_ble_eq_true rfl) (Nat.le_of_ble_eq_true rfl) (Nat.ne_of_beq_eq_false rfl))) (t := 67) dX7_settles_61 (by decide)) (Sv_ret (Ev_iload dX7_settles_64) hr dX7_settles_66) Sv_nop) (Sv_call (Av_a (Av_a (Av_nil) (Ev_getA Fx7 (Ev_aload_n dX7_settles_67 rfl) (k := 2) (by decide) w386 dX7_settles_68)) (Ev_getA Fx7 (Ev_aload_n dX7_settles_71 rfl) (k := 1) (by decide) w385 dX7_settles_72)) (Rn_V (ci := 4) Fx4.1 rfl Y_X4_tick (k_X4_tick _ _) w812 w813 w814 dX7_settles_75 (Nat.le_of_ble_eq_true rfl) (Nat.le_of_ble_eq_true rfl) (Nat.le_of_ble_eq_true rfl) (Nat.ne_of_beq_eq_false rfl)))) (Sv_iinc dX7_settles_78 (by decide) (Nat.le_of_ble_eq_true rfl) (Nat.ne_of_beq_eq_false rfl))) dX7_settles_81 (by decide)))) (Sv_ret (Ev_iconst dX7_settles_84 (by decide)) hr dX7_settles_85)))))), Nat.le_of_ble_eq_true rfl, Nat.le_of_ble_eq_true rfl⟩)
theorem dX7_bestShift_0 : decode cX7_bestShift 0 = .ok (.iload_n 1, 1) := by decide +kernel
theorem dX7_bestShift_1 : decode cX7_bestShift 1 = .ok (.invokestatic 89, 3) := by decide +kernel
theorem dX7_bestShift_4 : decode cX7_bestShift 4 = .ok (.iload_n 2, 1) := by decide +kernel
theorem dX7_bestShift_5 : decode cX7_bestShift 5 = .ok (.iconst 1, 1) := by decide +kernel
theorem dX7_bestShift_6 : decode cX7_bestShift 6 = .ok (.bipush 40, 2) := by decide +kernel
theorem dX7_bestShift_8 : decode cX7_bestShift 8 = .ok (.invokestatic 78, 3) := by decide +kernel
theorem dX7_bestShift_11 : decode cX7_bestShift 11 = .ok (.aload_n 0, 1) := by decide +kernel
theorem dX7_bestShift_12 : decode cX7_bestShift 12 = .ok (.getfield 12, 3) := by decide +kernel
theorem dX7_bestShift_15 : decode cX7_bestShift 15 = .ok (.getfield 96, 3) := by decide +kernel
theorem dX7_bestShift_18 : decode cX7_bestShift 18 = .ok (.iload_n 1, 1) := by decide +kernel
theorem dX7_bestShift_19 : decode cX7_bestShift 19 = .ok (.invokevirtual 117, 3) := by decide +kernel
theorem dX7_bestShift_22 : decode cX7_bestShift 22 = .ok (.ifCond .le 7, 3) := by decide +kernel
theorem dX7_bestShift_25 : decode cX7_bestShift 25 = .ok (.iconst 1, 1) := by decide +kernel
theorem dX7_bestShift_26 : decode cX7_bestShift 26 = .ok (.goto 4, 3) := by decide +kernel
theorem dX7_bestShift_29 : decode cX7_bestShift 29 = .ok (.iconst 0, 1) := by decide +kernel
theorem dX7_bestShift_30 : decode cX7_bestShift 30 = .ok (.invokestatic 109, 3) := by decide +kernel
theorem dX7_bestShift_33 : decode cX7_bestShift 33 = .ok (.iconst 0, 1) := by decide +kernel
theorem dX7_bestShift_34 : decode cX7_bestShift 34 = .ok (.istore_n 3, 1) := by decide +kernel
theorem dX7_bestShift_35 : decode cX7_bestShift 35 = .ok (.ldc_w 284, 3) := by decide +kernel
theorem dX7_bestShift_38 : decode cX7_bestShift 38 = .ok (.istore 4, 2) := by decide +kernel
theorem dX7_bestShift_40 : decode cX7_bestShift 40 = .ok (.getstatic 285, 3) := by decide +kernel
theorem dX7_bestShift_43 : decode cX7_bestShift 43 = .ok (.astore 5, 2) := by decide +kernel
theorem dX7_bestShift_45 : decode cX7_bestShift 45 = .ok (.aload 5, 2) := by decide +kernel
theorem dX7_bestShift_47 : decode cX7_bestShift 47 = .ok (.arraylength, 1) := by decide +kernel
theorem dX7_bestShift_48 : decode cX7_bestShift 48 = .ok (.istore 6, 2) := by decide +kernel
theorem dX7_bestShift_50 : decode cX7_bestShift 50 = .ok (.iconst 0, 1) := by decide +kernel
theorem dX7_bestShift_51 : decode cX7_bestShift 51 = .ok (.istore 7, 2) := by decide +kernel
theorem dX7_bestShift_53 : decode cX7_bestShift 53 = .ok (.iload 7, 2) := by decide +kernel
theorem dX7_bestShift_55 : decode cX7_bestShift 55 = .ok (.iload 6, 2) := by decide +kernel
theorem dX7_bestShift_57 : decode cX7_bestShift 57 = .ok (.if_icmp .ge 81, 3) := by decide +kernel
theorem dX7_bestShift_60 : decode cX7_bestShift 60 = .ok (.aload 5, 2) := by decide +kernel
theorem dX7_bestShift_62 : decode cX7_bestShift 62 = .ok (.iload 7, 2) := by decide +kernel
theorem dX7_bestShift_64 : decode cX7_bestShift 64 = .ok (.iaload, 1) := by decide +kernel
theorem dX7_bestShift_65 : decode cX7_bestShift 65 = .ok (.istore 8, 2) := by decide +kernel
theorem dX7_bestShift_67 : decode cX7_bestShift 67 = .ok (.aload_n 0, 1) := by decide +kernel
theorem dX7_bestShift_68 : decode cX7_bestShift 68 = .ok (.getfield 12, 3) := by decide +kernel
theorem dX7_bestShift_71 : decode cX7_bestShift 71 = .ok (.getfield 96, 3) := by decide +kernel
theorem dX7_bestShift_74 : decode cX7_bestShift 74 = .ok (.iload_n 1, 1) := by decide +kernel
theorem dX7_bestShift_75 : decode cX7_bestShift 75 = .ok (.iconst 0, 1) := by decide +kernel
theorem dX7_bestShift_76 : decode cX7_bestShift 76 = .ok (.iload 8, 2) := by decide +kernel
theorem dX7_bestShift_78 : decode cX7_bestShift 78 = .ok (.invokevirtual 134, 3) := by decide +kernel
theorem dX7_bestShift_81 : decode cX7_bestShift 81 = .ok (.ifCond .eq 51, 3) := by decide +kernel
theorem dX7_bestShift_84 : decode cX7_bestShift 84 = .ok (.aload_n 0, 1) := by decide +kernel
theorem dX7_bestShift_85 : decode cX7_bestShift 85 = .ok (.getfield 16, 3) := by decide +kernel
theorem dX7_bestShift_88 : decode cX7_bestShift 88 = .ok (.aload_n 0, 1) := by decide +kernel
theorem dX7_bestShift_89 : decode cX7_bestShift 89 = .ok (.getfield 12, 3) := by decide +kernel
theorem dX7_bestShift_92 : decode cX7_bestShift 92 = .ok (.invokevirtual 268, 3) := by decide +kernel
theorem dX7_bestShift_95 : decode cX7_bestShift 95 = .ok (.aload_n 0, 1) := by decide +kernel
theorem dX7_bestShift_96 : decode cX7_bestShift 96 = .ok (.getfield 16, 3) := by decide +kernel
theorem dX7_bestShift_99 : decode cX7_bestShift 99 = .ok (.getfield 96, 3) := by decide +kernel
theorem dX7_bestShift_102 : decode cX7_bestShift 102 = .ok (.iload_n 1, 1) := by decide +kernel
theorem dX7_bestShift_103 : decode cX7_bestShift 103 = .ok (.iconst 0, 1) := by decide +kernel
theorem dX7_bestShift_104 : decode cX7_bestShift 104 = .ok (.iload 8, 2) := by decide +kernel
theorem dX7_bestShift_106 : decode cX7_bestShift 106 = .ok (.invokevirtual 138, 3) := by decide +kernel
theorem dX7_bestShift_109 : decode cX7_bestShift 109 = .ok (.aload_n 0, 1) := by decide +kernel
theorem dX7_bestShift_110 : decode cX7_bestShift 110 = .ok (.iload_n 1, 1) := by decide +kernel
theorem dX7_bestShift_111 : decode cX7_bestShift 111 = .ok (.iconst 1, 1) := by decide +kernel
theorem dX7_bestShift_112 : decode cX7_bestShift 112 = .ok (.iload_n 2, 1) := by decide +kernel
theorem dX7_bestShift_113 : decode cX7_bestShift 113 = .ok (.invokevirtual 271, 3) := by decide +kernel
theorem dX7_bestShift_116 : decode cX7_bestShift 116 = .ok (.istore 9, 2) := by decide +kernel
theorem dX7_bestShift_118 : decode cX7_bestShift 118 = .ok (.iload 9, 2) := by decide +kernel
theorem dX7_bestShift_120 : decode cX7_bestShift 120 = .ok (.iload 4, 2) := by decide +kernel
theorem dX7_bestShift_122 : decode cX7_bestShift 122 = .ok (.if_icmp .le 10, 3) := by decide +kernel
theorem dX7_bestShift_125 : decode cX7_bestShift 125 = .ok (.iload 9, 2) := by decide +kernel
theorem dX7_bestShift_127 : decode cX7_bestShift 127 = .ok (.istore 4, 2) := by decide +kernel
theorem dX7_bestShift_129 : decode cX7_bestShift 129 = .ok (.iload 8, 2) := by decide +kernel
theorem dX7_bestShift_131 : decode cX7_bestShift 131 = .ok (.istore_n 3, 1) := by decide +kernel
theorem dX7_bestShift_132 : decode cX7_bestShift 132 = .ok (.iinc 7 1, 3) := by decide +kernel
theorem dX7_bestShift_135 : decode cX7_bestShift 135 = .ok (.goto (-82), 3) := by decide +kernel
theorem dX7_bestShift_138 : decode cX7_bestShift 138 = .ok (.iload_n 3, 1) := by decide +kernel
theorem dX7_bestShift_139 : decode cX7_bestShift 139 = .ok (.ireturn, 1) := by decide +kernel
def f_X7_bestShift : MX := mth 10 (sQ (sM (f_X7_needBody) (aI (aN) (eLi 1))) (sQ (sM (f_X7_needRange) (aI (aI (aI (aN) (eLi 2)) (eI (1))) (eI (40)))) (sQ (sM (f_X7_needState) (aI (aN) (eC (cZ z_gt (eM (gd 1 f_X1_sizeOf) (aI (aA (aN) (eGa (eGa (eLa 0) 7 0) 6 0)) (eLi 1))))))) (sQ (sTi 3 (eI (0))) (sQ (sTi 4 (eI (-1000000))) (sQ (sQ (sQ (sTa 5 (eZ 7)) (sQ (sTi 6 (eAn (eLa 5))) (sTi 7 (eI (0))))) (sLp (cB c_lt (eLi 7) (eLi 6)) (sQ (sTi 8 (eAi 0 (eLa 5) (eLi 7))) (sQ (sIf (cZ z_ne (eM (gd 1 f_X1_canMoveBody) (aI (aI (aI (aA (aN) (eGa (eGa (eLa 0) 7 0) 6 0)) (eLi 1)) (eI (0))) (eLi 8)))) (sQ (sM (gd 6 f_X6_copyFrom) (aA (aA (aN) (eGa (eLa 0) 7 1)) (eGa (eLa 0) 7 0))) (sQ (sM (gd 1 f_X1_moveBody) (aI (aI (aI (aA (aN) (eGa (eGa (eLa 0) 7 1) 6 0)) (eLi 1)) (eI (0))) (eLi 8))) (sQ (sTi 9 (eM (gd 7 f_X7_takenLater) (aI (aI (aI (aA (aN) (eLa 0)) (eLi 1)) (eI (1))) (eLi 2)))) (sIf (cB c_gt (eLi 9) (eLi 4)) (sQ (sTi 4 (eLi 9)) (sTi 3 (eLi 8))) sN)))) sN) (sInc 7 (1)))) NF)) (sR (eLi 3))))))))
theorem Y_X7_bestShift : Yk yX7_bestShift cX7_bestShift 10 (some .int) 2 := ⟨w1094, w1, by decide +kernel, by decide +kernel, by decide +kernel⟩
set_option maxRecDepth 20000 in
theorem k_X7_bestShift (l : Launch) (g : GE) : MetX l g yX7_bestShift cX7_bestShift 10 (some .int) 3 ({ frames := 8, cells := 3, slots := 18, locals := 155 } : Room) f_X7_bestShift := by
  unfold f_X7_bestShift
  exact MetX.of (own := RX7) 100 0 rfl (by decide +kernel) (by decide) (fun p e s m args below meth c Fin ad0 hr hn => ⟨_, _, Sv_seq (Sv_call (Av_i (Av_nil) (Ev_iload_n dX7_bestShift_0 rfl)) (Rn_S Y_X7_needBody (k_X7_needBody _ _) w560 w561 dX7_bestShift_1 (Nat.le_of_ble_eq_true rfl) (Nat.le_of_ble_eq_true rfl) (Nat.le_of_ble_eq_true rfl) (Nat.ne_of_beq_eq_false rfl))) (Sv_seq (Sv_call (Av_i (Av_i (Av_i (Av_nil) (Ev_iload_n dX7_bestShift_4 rfl)) (Ev_iconst dX7_bestShift_5 (by decide))) (Ev_bipush dX7_bestShift_6 (by decide))) (Rn_S Y_X7_needRange (k_X7_needRange _ _) w446 w447 dX7_bestShift_8 (Nat.le_of_ble_eq_true rfl) (Nat.le_of_ble_eq_true rfl) (Nat.le_of_ble_eq_true rfl) (Nat.ne_of_beq_eq_false rfl))) (Sv_seq (Sv_call (Av_i (Av_nil) (Ev_if (pT := 30) (Cv_if_le_n (Ev_call (Av_i (Av_a (Av_nil) (Ev_getA Fx6 (Ev_getA Fx7 (Ev_aload_n dX7_bestShift_11 rfl) (k := 0) (by decide) w384 dX7_bestShift_12) (k := 0) (by decide) w124 dX7_bestShift_15)) (Ev_iload_n dX7_bestShift_18 rfl)) (Rn_V (ci := 1) Fx1.1 rfl Y_X1_sizeOf (k_X1_sizeOf _ _) w626 w627 w628 dX7_bestShift_19 (Nat.le_of_ble_eq_true rfl) (Nat.le_of_ble_eq_true rfl) (Nat.le_of_ble_eq_true rfl) (Nat.ne_of_beq_eq_false rfl))) (t := 29) dX7_bestShift_22 (by decide)) (Ev_iconst dX7_bestShift_25 (by decide)) dX7_bestShift_26 (by decide) (Ev_iconst dX7_bestShift_29 (by decide)))) (Rn_S Y_X7_needState (k_X7_needState _ _) w594 w595 dX7_bestShift_30 (Nat.le_of_ble_eq_true rfl) (Nat.le_of_ble_eq_true rfl) (Nat.le_of_ble_eq_true rfl) (Nat.ne_of_beq_eq_false rfl))) (Sv_seq (Sv_istore_n (Ev_iconst dX7_bestShift_33 (by decide)) dX7_bestShift_34 rfl (Nat.le_of_ble_eq_true rfl) (Nat.ne_of_beq_eq_false rfl)) (Sv_seq (Sv_istore (Ev_ldcw w1095 dX7_bestShift_35) dX7_bestShift_38 (Nat.le_of_ble_eq_true rfl) (Nat.ne_of_beq_eq_false rfl)) (Sv_seq (Sv_seq (Sv_seq (Sv_astore (Ev_gets (q := ("SHIFTS_TRIED", 7)) (by decide) w1096 dX7_bestShift_40) dX7_bestShift_43 (Nat.le_of_ble_eq_true rfl) (Nat.ne_of_beq_eq_false rfl)) (Sv_seq (Sv_istore (Ev_alen (Ev_aload dX7_bestShift_45) dX7_bestShift_47) dX7_bestShift_48 (Nat.le_of_ble_eq_true rfl) (Nat.ne_of_beq_eq_false rfl)) (Sv_istore (Ev_iconst dX7_bestShift_50 (by decide)) dX7_bestShift_51 (Nat.le_of_ble_eq_true rfl) (Nat.ne_of_beq_eq_false rfl)))) (Sv_loop0 NF (Cv_icmp_ge_n (Ev_iload dX7_bestShift_53) (Ev_iload dX7_bestShift_55) (t := 138) dX7_bestShift_57 (by decide)) (Sv_goto (pE := 53) (Sv_seq (Sv_istore (Ev_iaload (Ev_aload dX7_bestShift_60) (Ev_iload dX7_bestShift_62) dX7_bestShift_64) dX7_bestShift_65 (Nat.le_of_ble_eq_true rfl) (Nat.ne_of_beq_eq_false rfl)) (Sv_seq (Sv_if (Cv_if_eq_n (Ev_call (Av_i (Av_i (Av_i (Av_a (Av_nil) (Ev_getA Fx6 (Ev_getA Fx7 (Ev_aload_n dX7_bestShift_67 rfl) (k := 0) (by decide) w384 dX7_bestShift_68) (k := 0) (by decide) w124 dX7_bestShift_71)) (Ev_iload_n dX7_bestShift_74 rfl)) (Ev_iconst dX7_bestShift_75 (by decide))) (Ev_iload dX7_bestShift_76)) (Rn_V (ci := 1) Fx1.1 rfl Y_X1_canMoveBody (k_X1_canMoveBody _ _) w664 w665 w666 dX7_bestShift_78 (Nat.le_of_ble_eq_true rfl) (Nat.le_of_ble_eq_true rfl) (Nat.le_of_ble_eq_true rfl) (Nat.ne_of_beq_eq_false rfl))) (t := 132) dX7_bestShift_81 (by decide)) (Sv_seq (Sv_call (Av_a (Av_a (Av_nil) (Ev_getA Fx7 (Ev_aload_n dX7_bestShift_84 rfl) (k := 1) (by decide) w385 dX7_bestShift_85)) (Ev_getA Fx7 (Ev_aload_n dX7_bestShift_88 rfl) (k := 0) (by decide) w384 dX7_bestShift_89)) (Rn_V (ci := 6) Fx6.1 rfl Y_X6_copyFrom (k_X6_copyFrom _ _) w520 w521 w522 dX7_bestShift_92 (Nat.le_of_ble_eq_true rfl) (Nat.le_of_ble_eq_true rfl) (Nat.le_of_ble_eq_true rfl) (Nat.ne_of_beq_eq_false rfl))) (Sv_seq (Sv_call (Av_i (Av_i (Av_i (Av_a (Av_nil) (Ev_getA Fx6 (Ev_getA Fx7 (Ev_aload_n dX7_bestShift_95 rfl) (k := 1) (by decide) w385 dX7_bestShift_96) (k := 0) (by decide) w124 dX7_bestShift_99)) (Ev_iload_n dX7_bestShift_102 rfl)) (Ev_iconst dX7_bestShift_103 (by decide))) (Ev_iload dX7_bestShift_104)) (Rn_V (ci := 1) Fx1.1 rfl Y_X1_moveBody (k_X1_moveBody _ _) w692 w693 w694 dX7_bestShift_106 (Nat.le_of_ble_eq_true rfl) (Nat.le_of_ble_eq_true rfl) (Nat.le_of_ble_eq_true rfl) (Nat.ne_of_beq_eq_false rfl))) (Sv_seq (Sv_istore (Ev_call (Av_i (Av_i (Av_i (Av_a (Av_nil) (Ev_aload_n dX7_bestShift_109 rfl)) (Ev_iload_n dX7_bestShift_110 rfl)) (Ev_iconst dX7_bestShift_111 (by decide))) (Ev_iload_n dX7_bestShift_112 rfl)) (Rn_V (ci := 7) Fx7.1 rfl Y_X7_takenLater (k_X7_takenLater _ _) w1049 w1051 wp23 dX7_bestShift_113 (Nat.le_of_ble_eq_true rfl) (Nat.le_of_ble_eq_true rfl) (Nat.le_of_ble_eq_true rfl) (Nat.ne_of_beq_eq_false rfl))) dX7_bestShift_116 (Nat.le_of_ble_eq_true rfl) (Nat.ne_of_beq_eq_false rfl)) (Sv_if (Cv_icmp_le_n (Ev_iload dX7_bestShift_118) (Ev_iload dX7_bestShift_120) (t := 132) dX7_bestShift_122 (by decide)) (Sv_seq (Sv_istore (Ev_iload dX7_bestShift_125) dX7_bestShift_127 (Nat.le_of_ble_eq_true rfl) (Nat.ne_of_beq_eq_false rfl)) (Sv_istore_n (Ev_iload dX7_bestShift_129) dX7_bestShift_131 rfl (Nat.le_of_ble_eq_true rfl) (Nat.ne_of_beq_eq_false rfl))) Sv_nop)))) Sv_nop) (Sv_iinc dX7_bestShift_132 (by decide) (Nat.le_of_ble_eq_true rfl) (Nat.ne_of_beq_eq_false rfl)))) dX7_bestShift_135 (by decide)))) (Sv_ret (Ev_iload_n dX7_bestShift_138 rfl) hr dX7_bestShift_139)))))), Nat.le_of_ble_eq_true rfl, Nat.le_of_ble_eq_true rfl⟩)
theorem dX7_bestStart_0 : decode cX7_bestStart 0 = .ok (.iload_n 1, 1) := by decide +kernel
theorem dX7_bestStart_1 : decode cX7_bestStart 1 = .ok (.aload_n 0, 1) := by decide +kernel
theorem dX7_bestStart_2 : decode cX7_bestStart 2 = .ok (.getfield 12, 3) := by decide +kernel
theorem dX7_bestStart_5 : decode cX7_bestStart 5 = .ok (.getfield 151, 3) := by decide +kernel
theorem dX7_bestStart_8 : decode cX7_bestStart 8 = .ok (.getfield 155, 3) := by decide +kernel
theorem dX7_bestStart_11 : decode cX7_bestStart 11 = .ok (.invokestatic 160, 3) := by decide +kernel
theorem dX7_bestStart_14 : decode cX7_bestStart 14 = .ok (.iload_n 2, 1) := by decide +kernel
theorem dX7_bestStart_15 : decode cX7_bestStart 15 = .ok (.invokestatic 89, 3) := by decide +kernel
theorem dX7_bestStart_18 : decode cX7_bestStart 18 = .ok (.iload_n 3, 1) := by decide +kernel
theorem dX7_bestStart_19 : decode cX7_bestStart 19 = .ok (.iconst 1, 1) := by decide +kernel
theorem dX7_bestStart_20 : decode cX7_bestStart 20 = .ok (.bipush 40, 2) := by decide +kernel
theorem dX7_bestStart_22 : decode cX7_bestStart 22 = .ok (.invokestatic 78, 3) := by decide +kernel
theorem dX7_bestStart_25 : decode cX7_bestStart 25 = .ok (.aload_n 0, 1) := by decide +kernel
theorem dX7_bestStart_26 : decode cX7_bestStart 26 = .ok (.getfield 12, 3) := by decide +kernel
theorem dX7_bestStart_29 : decode cX7_bestStart 29 = .ok (.getfield 151, 3) := by decide +kernel
theorem dX7_bestStart_32 : decode cX7_bestStart 32 = .ok (.getfield 216, 3) := by decide +kernel
theorem dX7_bestStart_35 : decode cX7_bestStart 35 = .ok (.iload_n 1, 1) := by decide +kernel
theorem dX7_bestStart_36 : decode cX7_bestStart 36 = .ok (.bipush 8, 2) := by decide +kernel
theorem dX7_bestStart_38 : decode cX7_bestStart 38 = .ok (.imul, 1) := by decide +kernel
theorem dX7_bestStart_39 : decode cX7_bestStart 39 = .ok (.iconst 5, 1) := by decide +kernel
theorem dX7_bestStart_40 : decode cX7_bestStart 40 = .ok (.iadd, 1) := by decide +kernel
theorem dX7_bestStart_41 : decode cX7_bestStart 41 = .ok (.iaload, 1) := by decide +kernel
theorem dX7_bestStart_42 : decode cX7_bestStart 42 = .ok (.istore 4, 2) := by decide +kernel
theorem dX7_bestStart_44 : decode cX7_bestStart 44 = .ok (.iconst 0, 1) := by decide +kernel
theorem dX7_bestStart_45 : decode cX7_bestStart 45 = .ok (.istore 5, 2) := by decide +kernel
theorem dX7_bestStart_47 : decode cX7_bestStart 47 = .ok (.ldc_w 284, 3) := by decide +kernel
theorem dX7_bestStart_50 : decode cX7_bestStart 50 = .ok (.istore 6, 2) := by decide +kernel
theorem dX7_bestStart_52 : decode cX7_bestStart 52 = .ok (.iconst 0, 1) := by decide +kernel
theorem dX7_bestStart_53 : decode cX7_bestStart 53 = .ok (.istore 7, 2) := by decide +kernel
theorem dX7_bestStart_55 : decode cX7_bestStart 55 = .ok (.iload 7, 2) := by decide +kernel
theorem dX7_bestStart_57 : decode cX7_bestStart 57 = .ok (.iload 4, 2) := by decide +kernel
theorem dX7_bestStart_59 : decode cX7_bestStart 59 = .ok (.if_icmp .ge 66, 3) := by decide +kernel
theorem dX7_bestStart_62 : decode cX7_bestStart 62 = .ok (.aload_n 0, 1) := by decide +kernel
theorem dX7_bestStart_63 : decode cX7_bestStart 63 = .ok (.getfield 16, 3) := by decide +kernel
theorem dX7_bestStart_66 : decode cX7_bestStart 66 = .ok (.aload_n 0, 1) := by decide +kernel
theorem dX7_bestStart_67 : decode cX7_bestStart 67 = .ok (.getfield 12, 3) := by decide +kernel
theorem dX7_bestStart_70 : decode cX7_bestStart 70 = .ok (.invokevirtual 268, 3) := by decide +kernel
theorem dX7_bestStart_73 : decode cX7_bestStart 73 = .ok (.aload_n 0, 1) := by decide +kernel
theorem dX7_bestStart_74 : decode cX7_bestStart 74 = .ok (.getfield 16, 3) := by decide +kernel
theorem dX7_bestStart_77 : decode cX7_bestStart 77 = .ok (.getfield 151, 3) := by decide +kernel
theorem dX7_bestStart_80 : decode cX7_bestStart 80 = .ok (.getfield 216, 3) := by decide +kernel
theorem dX7_bestStart_83 : decode cX7_bestStart 83 = .ok (.iload_n 1, 1) := by decide +kernel
theorem dX7_bestStart_84 : decode cX7_bestStart 84 = .ok (.bipush 8, 2) := by decide +kernel
theorem dX7_bestStart_86 : decode cX7_bestStart 86 = .ok (.imul, 1) := by decide +kernel
theorem dX7_bestStart_87 : decode cX7_bestStart 87 = .ok (.iconst 4, 1) := by decide +kernel
theorem dX7_bestStart_88 : decode cX7_bestStart 88 = .ok (.iadd, 1) := by decide +kernel
theorem dX7_bestStart_89 : decode cX7_bestStart 89 = .ok (.dup2, 1) := by decide +kernel
theorem dX7_bestStart_90 : decode cX7_bestStart 90 = .ok (.iaload, 1) := by decide +kernel
theorem dX7_bestStart_91 : decode cX7_bestStart 91 = .ok (.iload 7, 2) := by decide +kernel
theorem dX7_bestStart_93 : decode cX7_bestStart 93 = .ok (.iadd, 1) := by decide +kernel
theorem dX7_bestStart_94 : decode cX7_bestStart 94 = .ok (.iastore, 1) := by decide +kernel
theorem dX7_bestStart_95 : decode cX7_bestStart 95 = .ok (.aload_n 0, 1) := by decide +kernel
theorem dX7_bestStart_96 : decode cX7_bestStart 96 = .ok (.iload_n 2, 1) := by decide +kernel
theorem dX7_bestStart_97 : decode cX7_bestStart 97 = .ok (.iconst 1, 1) := by decide +kernel
theorem dX7_bestStart_98 : decode cX7_bestStart 98 = .ok (.iload_n 3, 1) := by decide +kernel
theorem dX7_bestStart_99 : decode cX7_bestStart 99 = .ok (.invokevirtual 271, 3) := by decide +kernel
theorem dX7_bestStart_102 : decode cX7_bestStart 102 = .ok (.istore 8, 2) := by decide +kernel
theorem dX7_bestStart_104 : decode cX7_bestStart 104 = .ok (.iload 8, 2) := by decide +kernel
theorem dX7_bestStart_106 : decode cX7_bestStart 106 = .ok (.iload 6, 2) := by decide +kernel
theorem dX7_bestStart_108 : decode cX7_bestStart 108 = .ok (.if_icmp .le 11, 3) := by decide +kernel
theorem dX7_bestStart_111 : decode cX7_bestStart 111 = .ok (.iload 8, 2) := by decide +kernel
theorem dX7_bestStart_113 : decode cX7_bestStart 113 = .ok (.istore 6, 2) := by decide +kernel
theorem dX7_bestStart_115 : decode cX7_bestStart 115 = .ok (.iload 7, 2) := by decide +kernel
theorem dX7_bestStart_117 : decode cX7_bestStart 117 = .ok (.istore 5, 2) := by decide +kernel
theorem dX7_bestStart_119 : decode cX7_bestStart 119 = .ok (.iinc 7 1, 3) := by decide +kernel
theorem dX7_bestStart_122 : decode cX7_bestStart 122 = .ok (.goto (-67), 3) := by decide +kernel
theorem dX7_bestStart_125 : decode cX7_bestStart 125 = .ok (.iload 5, 2) := by decide +kernel
theorem dX7_bestStart_127 : decode cX7_bestStart 127 = .ok (.ireturn, 1) := by decide +kernel
def f_X7_bestStart : MX := mth 9 (sQ (sM (f_X7_needIndex) (aI (aI (aN) (eLi 1)) (eGi (eGa (eGa (eLa 0) 7 0) 6 1) 2 0))) (sQ (sM (f_X7_needBody) (aI (aN) (eLi 2))) (sQ (sM (f_X7_needRange) (aI (aI (aI (aN) (eLi 3)) (eI (1))) (eI (40)))) (sQ (sTi 4 (eAi 0 (eGa (eGa (eGa (eLa 0) 7 0) 6 1) 2 1) (eOp o_iadd (eOp o_imul (eLi 1) (eI (8))) (eI (5))))) (sQ (sTi 5 (eI (0))) (sQ (sTi 6 (eI (-1000000))) (sQ (sQ (sTi 7 (eI (0))) (sLp (cB c_lt (eLi 7) (eLi 4)) (sQ (sQ (sM (gd 6 f_X6_copyFrom) (aA (aA (aN) (eGa (eLa 0) 7 1)) (eGa (eLa 0) 7 0))) (sQ (sAo (eGa (eGa (eGa (eLa 0) 7 1) 6 1) 2 1) (eOp o_iadd (eOp o_imul (eLi 1) (eI (8))) (eI (4))) o_iadd (eLi 7)) (sQ (sTi 8 (eM (gd 7 f_X7_takenLater) (aI (aI (aI (aA (aN) (eLa 0)) (eLi 2)) (eI (1))) (eLi 3)))) (sIf (cB c_gt (eLi 8) (eLi 6)) (sQ (sTi 6 (eLi 8)) (sTi 5 (eLi 7))) sN)))) (sInc 7 (1))) NF)) (sR (eLi 5)))))))))
theorem Y_X7_bestStart : Yk yX7_bestStart cX7_bestStart 9 (some .int) 3 := ⟨w1104, w1, by decide +kernel, by decide +kernel, by decide +kernel⟩
set_option maxRecDepth 20000 in
theorem k_X7_bestStart (l : Launch) (g : GE) : MetX l g yX7_bestStart cX7_bestStart 9 (some .int) 4 ({ frames := 8, cells := 3, slots := 18, locals := 155 } : Room) f_X7_bestStart := by
  unfold f_X7_bestStart
  exact MetX.of (own := RX7) 100 0 rfl (by decide +kernel) (by decide) (fun p e s m args below meth c Fin ad0 hr hn => ⟨_, _, Sv_seq (Sv_call (Av_i (Av_i (Av_nil) (Ev_iload_n dX7_bestStart_0 rfl)) (Ev_getI Fx2 (Ev_getA Fx6 (Ev_getA Fx7 (Ev_aload_n dX7_bestStart_1 rfl) (k := 0) (by decide) w384 dX7_bestStart_2) (k := 1) (by decide) w127 dX7_bestStart_5) (k := 0) (by decide) w78 dX7_bestStart_8)) (Rn_S Y_X7_needIndex (k_X7_needIndex _ _) w563 w564 dX7_bestStart_11 (Nat.le_of_ble_eq_true rfl) (Nat.le_of_ble_eq_true rfl) (Nat.le_of_ble_eq_true rfl) (Nat.ne_of_beq_eq_false rfl))) (Sv_seq (Sv_call (Av_i (Av_nil) (Ev_iload_n dX7_bestStart_14 rfl)) (Rn_S Y_X7_needBody (k_X7_needBody _ _) w560 w561 dX7_bestStart_15 (Nat.le_of_ble_eq_true rfl) (Nat.le_of_ble_eq_true rfl) (Nat.le_of_ble_eq_true rfl) (Nat.ne_of_beq_eq_false rfl))) (Sv_seq (Sv_call (Av_i (Av_i (Av_i (Av_nil) (Ev_iload_n dX7_bestStart_18 rfl)) (Ev_iconst dX7_bestStart_19 (by decide))) (Ev_bipush dX7_bestStart_20 (by decide))) (Rn_S Y_X7_needRange (k_X7_needRange _ _) w446 w447 dX7_bestStart_22 (Nat.le_of_ble_eq_true rfl) (Nat.le_of_ble_eq_true rfl) (Nat.le_of_ble_eq_true rfl) (Nat.ne_of_beq_eq_false rfl))) (Sv_seq (Sv_istore (Ev_iaload (Ev_getA Fx2 (Ev_getA Fx6 (Ev_getA Fx7 (Ev_aload_n dX7_bestStart_25 rfl) (k := 0) (by decide) w384 dX7_bestStart_26) (k := 1) (by decide) w127 dX7_bestStart_29) (k := 1) (by decide) w81 dX7_bestStart_32) (Ev_iadd (Ev_imul (Ev_iload_n dX7_bestStart_35 rfl) (Ev_bipush dX7_bestStart_36 (by decide)) dX7_bestStart_38) (Ev_iconst dX7_bestStart_39 (by decide)) dX7_bestStart_40) dX7_bestStart_41) dX7_bestStart_42 (Nat.le_of_ble_eq_true rfl) (Nat.ne_of_beq_eq_false rfl)) (Sv_seq (Sv_istore (Ev_iconst dX7_bestStart_44 (by decide)) dX7_bestStart_45 (Nat.le_of_ble_eq_true rfl) (Nat.ne_of_beq_eq_false rfl)) (Sv_seq (Sv_istore (Ev_ldcw w1095 dX7_bestStart_47) dX7_bestStart_50 (Nat.le_of_ble_eq_true rfl) (Nat.ne_of_beq_eq_false rfl)) (Sv_seq (Sv_seq (Sv_istore (Ev_iconst dX7_bestStart_52 (by decide)) dX7_bestStart_53 (Nat.le_of_ble_eq_true rfl) (Nat.ne_of_beq_eq_false rfl)) (Sv_loop0 NF (Cv_icmp_ge_n (Ev_iload dX7_bestStart_55) (Ev_iload dX7_bestStart_57) (t := 125) dX7_bestStart_59 (by decide)) (Sv_goto (pE := 55) (Sv_seq (Sv_seq (Sv_call (Av_a (Av_a (Av_nil) (Ev_getA Fx7 (Ev_aload_n dX7_bestStart_62 rfl) (k := 1) (by decide) w385 dX7_bestStart_63)) (Ev_getA Fx7 (Ev_aload_n dX7_bestStart_66 rfl) (k := 0) (by decide) w384 dX7_bestStart_67)) (Rn_V (ci := 6) Fx6.1 rfl Y_X6_copyFrom (k_X6_copyFrom _ _) w520 w521 w522 dX7_bestStart_70 (Nat.le_of_ble_eq_true rfl) (Nat.le_of_ble_eq_true rfl) (Nat.le_of_ble_eq_true rfl) (Nat.ne_of_beq_eq_false rfl))) (Sv_seq (Sv_aop_iadd (Ev_getA Fx2 (Ev_getA Fx6 (Ev_getA Fx7 (Ev_aload_n dX7_bestStart_73 rfl) (k := 1) (by decide) w385 dX7_bestStart_74) (k := 1) (by decide) w127 dX7_bestStart_77) (k := 1) (by decide) w81 dX7_bestStart_80) (Ev_iadd (Ev_imul (Ev_iload_n dX7_bestStart_83 rfl) (Ev_bipush dX7_bestStart_84 (by decide)) dX7_bestStart_86) (Ev_iconst dX7_bestStart_87 (by decide)) dX7_bestStart_88) dX7_bestStart_89 dX7_bestStart_90 (Ev_iload dX7_bestStart_91) dX7_bestStart_93 dX7_bestStart_94) (Sv_seq (Sv_istore (Ev_call (Av_i (Av_i (Av_i (Av_a (Av_nil) (Ev_aload_n dX7_bestStart_95 rfl)) (Ev_iload_n dX7_bestStart_96 rfl)) (Ev_iconst dX7_bestStart_97 (by decide))) (Ev_iload_n dX7_bestStart_98 rfl)) (Rn_V (ci := 7) Fx7.1 rfl Y_X7_takenLater (k_X7_takenLater _ _) w1049 w1051 wp23 dX7_bestStart_99 (Nat.le_of_ble_eq_true rfl) (Nat.le_of_ble_eq_true rfl) (Nat.le_of_ble_eq_true rfl) (Nat.ne_of_beq_eq_false rfl))) dX7_bestStart_102 (Nat.le_of_ble_eq_true rfl) (Nat.ne_of_beq_eq_false rfl)) (Sv_if (Cv_icmp_le_n (Ev_iload dX7_bestStart_104) (Ev_iload dX7_bestStart_106) (t := 119) dX7_bestStart_108 (by decide)) (Sv_seq (Sv_istore (Ev_iload dX7_bestStart_111) dX7_bestStart_113 (Nat.le_of_ble_eq_true rfl) (Nat.ne_of_beq_eq_false rfl)) (Sv_istore (Ev_iload dX7_bestStart_115) dX7_bestStart_117 (Nat.le_of_ble_eq_true rfl) (Nat.ne_of_beq_eq_false rfl))) Sv_nop)))) (Sv_iinc dX7_bestStart_119 (by decide) (Nat.le_of_ble_eq_true rfl) (Nat.ne_of_beq_eq_false rfl))) dX7_bestStart_122 (by decide)))) (Sv_ret (Ev_iload dX7_bestStart_125) hr dX7_bestStart_127))))))), Nat.le_of_ble_eq_true rfl, Nat.le_of_ble_eq_true rfl⟩)
theorem dX7_undo_0 : decode cX7_undo 0 = .ok (.aload_n 0, 1) := by decide +kernel
theorem dX7_undo_1 : decode cX7_undo 1 = .ok (.getfield 265, 3) := by decide +kernel
theorem dX7_undo_4 : decode cX7_undo 4 = .ok (.ifCond .le 7, 3) := by decide +kernel
theorem dX7_undo_7 : decode cX7_undo 7 = .ok (.iconst 1, 1) := by decide +kernel
theorem dX7_undo_8 : decode cX7_undo 8 = .ok (.goto 4, 3) := by decide +kernel
theorem dX7_undo_11 : decode cX7_undo 11 = .ok (.iconst 0, 1) := by decide +kernel
theorem dX7_undo_12 : decode cX7_undo 12 = .ok (.invokestatic 109, 3) := by decide +kernel
theorem dX7_undo_15 : decode cX7_undo 15 = .ok (.aload_n 0, 1) := by decide +kernel
theorem dX7_undo_16 : decode cX7_undo 16 = .ok (.dup, 1) := by decide +kernel
theorem dX7_undo_17 : decode cX7_undo 17 = .ok (.getfield 265, 3) := by decide +kernel
theorem dX7_undo_20 : decode cX7_undo 20 = .ok (.iconst 1, 1) := by decide +kernel
theorem dX7_undo_21 : decode cX7_undo 21 = .ok (.isub, 1) := by decide +kernel
theorem dX7_undo_22 : decode cX7_undo 22 = .ok (.putfield 265, 3) := by decide +kernel
theorem dX7_undo_25 : decode cX7_undo 25 = .ok (.aload_n 0, 1) := by decide +kernel
theorem dX7_undo_26 : decode cX7_undo 26 = .ok (.getfield 12, 3) := by decide +kernel
theorem dX7_undo_29 : decode cX7_undo 29 = .ok (.aload_n 0, 1) := by decide +kernel
theorem dX7_undo_30 : decode cX7_undo 30 = .ok (.getfield 33, 3) := by decide +kernel
theorem dX7_undo_33 : decode cX7_undo 33 = .ok (.aload_n 0, 1) := by decide +kernel
theorem dX7_undo_34 : decode cX7_undo 34 = .ok (.getfield 297, 3) := by decide +kernel
theorem dX7_undo_37 : decode cX7_undo 37 = .ok (.aload_n 0, 1) := by decide +kernel
theorem dX7_undo_38 : decode cX7_undo 38 = .ok (.getfield 265, 3) := by decide +kernel
theorem dX7_undo_41 : decode cX7_undo 41 = .ok (.iadd, 1) := by decide +kernel
theorem dX7_undo_42 : decode cX7_undo 42 = .ok (.iconst 4, 1) := by decide +kernel
theorem dX7_undo_43 : decode cX7_undo 43 = .ok (.irem, 1) := by decide +kernel
theorem dX7_undo_44 : decode cX7_undo 44 = .ok (.aaload, 1) := by decide +kernel
theorem dX7_undo_45 : decode cX7_undo 45 = .ok (.invokevirtual 268, 3) := by decide +kernel
theorem dX7_undo_48 : decode cX7_undo 48 = .ok (.aload_n 0, 1) := by decide +kernel
theorem dX7_undo_49 : decode cX7_undo 49 = .ok (.getfield 265, 3) := by decide +kernel
theorem dX7_undo_52 : decode cX7_undo 52 = .ok (.ireturn, 1) := by decide +kernel
def f_X7_undo : MX := mth 1 (sQ (sM (f_X7_needState) (aI (aN) (eC (cZ z_gt (eGi (eLa 0) 7 6))))) (sQ (sPo (eLa 0) 7 6 o_isub (eI (1))) (sQ (sM (gd 6 f_X6_copyFrom) (aA (aA (aN) (eGa (eLa 0) 7 0)) (eAa (eGa (eLa 0) 7 4) (eQ o_irem (eOp o_iadd (eGi (eLa 0) 7 5) (eGi (eLa 0) 7 6)) (eI (4)))))) (sR (eGi (eLa 0) 7 6)))))
theorem Y_X7_undo : Yk yX7_undo cX7_undo 1 (some .int) 0 := ⟨w1111, w1, by decide +kernel, by decide +kernel, by decide +kernel⟩
set_option maxRecDepth 20000 in
theorem k_X7_undo (l : Launch) (g : GE) : MetX l g yX7_undo cX7_undo 1 (some .int) 1 ({ frames := 7, cells := 1, slots := 6, locals := 102 } : Room) f_X7_undo := by
  unfold f_X7_undo
  exact MetX.of (own := RX7) 100 0 rfl (by decide +kernel) (by decide) (fun p e s m args below meth c Fin ad0 hr hn => ⟨_, _, Sv_seq (Sv_call (Av_i (Av_nil) (Ev_if (pT := 12) (Cv_if_le_n (Ev_getI Fx7 (Ev_aload_n dX7_undo_0 rfl) (k := 6) (by decide) w390 dX7_undo_1) (t := 11) dX7_undo_4 (by decide)) (Ev_iconst dX7_undo_7 (by decide)) dX7_undo_8 (by decide) (Ev_iconst dX7_undo_11 (by decide)))) (Rn_S Y_X7_needState (k_X7_needState _ _) w594 w595 dX7_undo_12 (Nat.le_of_ble_eq_true rfl) (Nat.le_of_ble_eq_true rfl) (Nat.le_of_ble_eq_true rfl) (Nat.ne_of_beq_eq_false rfl))) (Sv_seq (Sv_fop_isub (idx2 := 0) Fx7 (Ev_aload_n dX7_undo_15 rfl) dX7_undo_16 dX7_undo_17 (Ev_iconst dX7_undo_20 (by decide)) dX7_undo_21 (k := 6) (by decide) rfl rfl w390 dX7_undo_22) (Sv_seq (Sv_call (Av_a (Av_a (Av_nil) (Ev_getA Fx7 (Ev_aload_n dX7_undo_25 rfl) (k := 0) (by decide) w384 dX7_undo_26)) (Ev_aaload (Ev_getA Fx7 (Ev_aload_n dX7_undo_29 rfl) (k := 4) (by decide) w388 dX7_undo_30) (Ev_irem (Ev_iadd (Ev_getI Fx7 (Ev_aload_n dX7_undo_33 rfl) (k := 5) (by decide) w389 dX7_undo_34) (Ev_getI Fx7 (Ev_aload_n dX7_undo_37 rfl) (k := 6) (by decide) w390 dX7_undo_38) dX7_undo_41) (Ev_iconst dX7_undo_42 (by decide)) dX7_undo_43) dX7_undo_44)) (Rn_V (ci := 6) Fx6.1 rfl Y_X6_copyFrom (k_X6_copyFrom _ _) w520 w521 w522 dX7_undo_45 (Nat.le_of_ble_eq_true rfl) (Nat.le_of_ble_eq_true rfl) (Nat.le_of_ble_eq_true rfl) (Nat.ne_of_beq_eq_false rfl))) (Sv_ret (Ev_getI Fx7 (Ev_aload_n dX7_undo_48 rfl) (k := 6) (by decide) w390 dX7_undo_49) hr dX7_undo_52))), Nat.le_of_ble_eq_true rfl, Nat.le_of_ble_eq_true rfl⟩)
theorem dX7_save_0 : decode cX7_save 0 = .ok (.iload_n 1, 1) := by decide +kernel
theorem dX7_save_1 : decode cX7_save 1 = .ok (.iconst 2, 1) := by decide +kernel
theorem dX7_save_2 : decode cX7_save 2 = .ok (.invokestatic 160, 3) := by decide +kernel
theorem dX7_save_5 : decode cX7_save 5 = .ok (.aload_n 0, 1) := by decide +kernel
theorem dX7_save_6 : decode cX7_save 6 = .ok (.getfield 37, 3) := by decide +kernel
theorem dX7_save_9 : decode cX7_save 9 = .ok (.iload_n 1, 1) := by decide +kernel
theorem dX7_save_10 : decode cX7_save 10 = .ok (.aaload, 1) := by decide +kernel
theorem dX7_save_11 : decode cX7_save 11 = .ok (.aload_n 0, 1) := by decide +kernel
theorem dX7_save_12 : decode cX7_save 12 = .ok (.getfield 12, 3) := by decide +kernel
theorem dX7_save_15 : decode cX7_save 15 = .ok (.invokevirtual 268, 3) := by decide +kernel
theorem dX7_save_18 : decode cX7_save 18 = .ok (.aload_n 0, 1) := by decide +kernel
theorem dX7_save_19 : decode cX7_save 19 = .ok (.getfield 40, 3) := by decide +kernel
theorem dX7_save_22 : decode cX7_save 22 = .ok (.iload_n 1, 1) := by decide +kernel
theorem dX7_save_23 : decode cX7_save 23 = .ok (.iconst 1, 1) := by decide +kernel
theorem dX7_save_24 : decode cX7_save 24 = .ok (.bastore, 1) := by decide +kernel
theorem dX7_save_25 : decode cX7_save 25 = .ok (.aload_n 0, 1) := by decide +kernel
theorem dX7_save_26 : decode cX7_save 26 = .ok (.getfield 12, 3) := by decide +kernel
theorem dX7_save_29 : decode cX7_save 29 = .ok (.getfield 190, 3) := by decide +kernel
theorem dX7_save_32 : decode cX7_save 32 = .ok (.ireturn, 1) := by decide +kernel
def f_X7_save : MX := mth 2 (sQ (sM (f_X7_needIndex) (aI (aI (aN) (eLi 1)) (eI (2)))) (sQ (sM (gd 6 f_X6_copyFrom) (aA (aA (aN) (eAa (eGa (eLa 0) 7 7) (eLi 1))) (eGa (eLa 0) 7 0))) (sQ (sAi 2 (eGa (eLa 0) 7 8) (eLi 1) (eI (1))) (sR (eGi (eGa (eLa 0) 7 0) 6 7)))))
theorem Y_X7_save : Yk yX7_save cX7_save 2 (some .int) 1 := ⟨w1118, w1, by decide +kernel, by decide +kernel, by decide +kernel⟩
set_option maxRecDepth 20000 in
theorem k_X7_save (l : Launch) (g : GE) : MetX l g yX7_save cX7_save 2 (some .int) 2 ({ frames := 7, cells := 1, slots := 6, locals := 103 } : Room) f_X7_save := by
  unfold f_X7_save
  exact MetX.of (own := RX7) 100 0 rfl (by decide +kernel) (by decide) (fun p e s m args below meth c Fin ad0 hr hn => ⟨_, _, Sv_seq (Sv_call (Av_i (Av_i (Av_nil) (Ev_iload_n dX7_save_0 rfl)) (Ev_iconst dX7_save_1 (by decide))) (Rn_S Y_X7_needIndex (k_X7_needIndex _ _) w563 w564 dX7_save_2 (Nat.le_of_ble_eq_true rfl) (Nat.le_of_ble_eq_true rfl) (Nat.le_of_ble_eq_true rfl) (Nat.ne_of_beq_eq_false rfl))) (Sv_seq (Sv_call (Av_a (Av_a (Av_nil) (Ev_aaload (Ev_getA Fx7 (Ev_aload_n dX7_save_5 rfl) (k := 7) (by decide) w391 dX7_save_6) (Ev_iload_n dX7_save_9 rfl) dX7_save_10)) (Ev_getA Fx7 (Ev_aload_n dX7_save_11 rfl) (k := 0) (by decide) w384 dX7_save_12)) (Rn_V (ci := 6) Fx6.1 rfl Y_X6_copyFrom (k_X6_copyFrom _ _) w520 w521 w522 dX7_save_15 (Nat.le_of_ble_eq_true rfl) (Nat.le_of_ble_eq_true rfl) (Nat.le_of_ble_eq_true rfl) (Nat.ne_of_beq_eq_false rfl))) (Sv_seq (Sv_bastore (Ev_getA Fx7 (Ev_aload_n dX7_save_18 rfl) (k := 8) (by decide) w392 dX7_save_19) (Ev_iload_n dX7_save_22 rfl) (Ev_iconst dX7_save_23 (by decide)) dX7_save_24) (Sv_ret (Ev_getI Fx6 (Ev_getA Fx7 (Ev_aload_n dX7_save_25 rfl) (k := 0) (by decide) w384 dX7_save_26) (k := 7) (by decide) w144 dX7_save_29) hr dX7_save_32))), Nat.le_of_ble_eq_true rfl, Nat.le_of_ble_eq_true rfl⟩)
theorem dX7_restore_0 : decode cX7_restore 0 = .ok (.iload_n 1, 1) := by decide +kernel
theorem dX7_restore_1 : decode cX7_restore 1 = .ok (.iconst 2, 1) := by decide +kernel
theorem dX7_restore_2 : decode cX7_restore 2 = .ok (.invokestatic 160, 3) := by decide +kernel
theorem dX7_restore_5 : decode cX7_restore 5 = .ok (.aload_n 0, 1) := by decide +kernel
theorem dX7_restore_6 : decode cX7_restore 6 = .ok (.getfield 40, 3) := by decide +kernel
theorem dX7_restore_9 : decode cX7_restore 9 = .ok (.iload_n 1, 1) := by decide +kernel
theorem dX7_restore_10 : decode cX7_restore 10 = .ok (.baload, 1) := by decide +kernel
theorem dX7_restore_11 : decode cX7_restore 11 = .ok (.invokestatic 109, 3) := by decide +kernel
theorem dX7_restore_14 : decode cX7_restore 14 = .ok (.aload_n 0, 1) := by decide +kernel
theorem dX7_restore_15 : decode cX7_restore 15 = .ok (.invokevirtual 82, 3) := by decide +kernel
theorem dX7_restore_18 : decode cX7_restore 18 = .ok (.aload_n 0, 1) := by decide +kernel
theorem dX7_restore_19 : decode cX7_restore 19 = .ok (.getfield 12, 3) := by decide +kernel
theorem dX7_restore_22 : decode cX7_restore 22 = .ok (.aload_n 0, 1) := by decide +kernel
theorem dX7_restore_23 : decode cX7_restore 23 = .ok (.getfield 37, 3) := by decide +kernel
theorem dX7_restore_26 : decode cX7_restore 26 = .ok (.iload_n 1, 1) := by decide +kernel
theorem dX7_restore_27 : decode cX7_restore 27 = .ok (.aaload, 1) := by decide +kernel
theorem dX7_restore_28 : decode cX7_restore 28 = .ok (.invokevirtual 268, 3) := by decide +kernel
theorem dX7_restore_31 : decode cX7_restore 31 = .ok (.aload_n 0, 1) := by decide +kernel
theorem dX7_restore_32 : decode cX7_restore 32 = .ok (.getfield 12, 3) := by decide +kernel
theorem dX7_restore_35 : decode cX7_restore 35 = .ok (.getfield 190, 3) := by decide +kernel
theorem dX7_restore_38 : decode cX7_restore 38 = .ok (.ireturn, 1) := by decide +kernel
def f_X7_restore : MX := mth 2 (sQ (sM (f_X7_needIndex) (aI (aI (aN) (eLi 1)) (eI (2)))) (sQ (sM (f_X7_needState) (aI (aN) (eAi 2 (eGa (eLa 0) 7 8) (eLi 1)))) (sQ (sM (gd 7 f_X7_recordChange) (aA (aN) (eLa 0))) (sQ (sM (gd 6 f_X6_copyFrom) (aA (aA (aN) (eGa (eLa 0) 7 0)) (eAa (eGa (eLa 0) 7 7) (eLi 1)))) (sR (eGi (eGa (eLa 0) 7 0) 6 7))))))
theorem Y_X7_restore : Yk yX7_restore cX7_restore 2 (some .int) 1 := ⟨w1125, w1, by decide +kernel, by decide +kernel, by decide +kernel⟩
set_option maxRecDepth 20000 in
theorem k_X7_restore (l : Launch) (g : GE) : MetX l g yX7_restore cX7_restore 2 (some .int) 2 ({ frames := 7, cells := 2, slots := 12, locals := 103 } : Room) f_X7_restore := by
  unfold f_X7_restore
  exact MetX.of (own := RX7) 100 0 rfl (by decide +kernel) (by decide) (fun p e s m args below meth c Fin ad0 hr hn => ⟨_, _, Sv_seq (Sv_call (Av_i (Av_i (Av_nil) (Ev_iload_n dX7_restore_0 rfl)) (Ev_iconst dX7_restore_1 (by decide))) (Rn_S Y_X7_needIndex (k_X7_needIndex _ _) w563 w564 dX7_restore_2 (Nat.le_of_ble_eq_true rfl) (Nat.le_of_ble_eq_true rfl) (Nat.le_of_ble_eq_true rfl) (Nat.ne_of_beq_eq_false rfl))) (Sv_seq (Sv_call (Av_i (Av_nil) (Ev_baload (Ev_getA Fx7 (Ev_aload_n dX7_restore_5 rfl) (k := 8) (by decide) w392 dX7_restore_6) (Ev_iload_n dX7_restore_9 rfl) dX7_restore_10)) (Rn_S Y_X7_needState (k_X7_needState _ _) w594 w595 dX7_restore_11 (Nat.le_of_ble_eq_true rfl) (Nat.le_of_ble_eq_true rfl) (Nat.le_of_ble_eq_true rfl) (Nat.ne_of_beq_eq_false rfl))) (Sv_seq (Sv_call (Av_a (Av_nil) (Ev_aload_n dX7_restore_14 rfl)) (Rn_V (ci := 7) Fx7.1 rfl Y_X7_recordChange (k_X7_recordChange _ _) w516 w518 wp10 dX7_restore_15 (Nat.le_of_ble_eq_true rfl) (Nat.le_of_ble_eq_true rfl) (Nat.le_of_ble_eq_true rfl) (Nat.ne_of_beq_eq_false rfl))) (Sv_seq (Sv_call (Av_a (Av_a (Av_nil) (Ev_getA Fx7 (Ev_aload_n dX7_restore_18 rfl) (k := 0) (by decide) w384 dX7_restore_19)) (Ev_aaload (Ev_getA Fx7 (Ev_aload_n dX7_restore_22 rfl) (k := 7) (by decide) w391 dX7_restore_23) (Ev_iload_n dX7_restore_26 rfl) dX7_restore_27)) (Rn_V (ci := 6) Fx6.1 rfl Y_X6_copyFrom (k_X6_copyFrom _ _) w520 w521 w522 dX7_restore_28 (Nat.le_of_ble_eq_true rfl) (Nat.le_of_ble_eq_true rfl) (Nat.le_of_ble_eq_true rfl) (Nat.ne_of_beq_eq_false rfl))) (Sv_ret (Ev_getI Fx6 (Ev_getA Fx7 (Ev_aload_n dX7_restore_31 rfl) (k := 0) (by decide) w384 dX7_restore_32) (k := 7) (by decide) w144 dX7_restore_35) hr dX7_restore_38)))), Nat.le_of_ble_eq_true rfl, Nat.le_of_ble_eq_true rfl⟩)
