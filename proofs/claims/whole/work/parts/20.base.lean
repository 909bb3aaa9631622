theorem dX0_init_0 : decode cX0_init 0 = .ok (.aload_n 0, 1) := by decide +kernel
theorem dX0_init_1 : decode cX0_init 1 = .ok (.invokespecial 3, 3) := by decide +kernel
theorem dX0_init_4 : decode cX0_init 4 = .ok (.aload_n 0, 1) := by decide +kernel
theorem dX0_init_5 : decode cX0_init 5 = .ok (.iconst 4, 1) := by decide +kernel
theorem dX0_init_6 : decode cX0_init 6 = .ok (.newarray .int, 2) := by decide +kernel
theorem dX0_init_8 : decode cX0_init 8 = .ok (.putfield 9, 3) := by decide +kernel
theorem dX0_init_11 : decode cX0_init 11 = .ok (.aload_n 0, 1) := by decide +kernel
theorem dX0_init_12 : decode cX0_init 12 = .ok (.bipush 10, 2) := by decide +kernel
theorem dX0_init_14 : decode cX0_init 14 = .ok (.newarray .int, 2) := by decide +kernel
theorem dX0_init_16 : decode cX0_init 16 = .ok (.putfield 15, 3) := by decide +kernel
theorem dX0_init_19 : decode cX0_init 19 = .ok (.return_, 1) := by decide +kernel
def f_X0_init : MX := mth 1 (sQ (sO) (sQ (sPa (eLa 0) 0 0 (eNi 0 4)) (sQ (sPa (eLa 0) 0 1 (eNi 0 10)) (sQ (sN) (sRv)))))
theorem Y_X0_init : Yk yX0_init cX0_init 1 none 0 := ⟨w108, w6, by decide +kernel, by decide +kernel, by decide +kernel⟩
set_option maxRecDepth 20000 in
theorem k_X0_init (l : Launch) (g : GE) : MetX l g yX0_init cX0_init 1 none 1 ({ frames := 1, cells := 2, slots := 14, locals := 12 } : Room) f_X0_init := by
  unfold f_X0_init
  exact MetX.of (own := RX0) 100 0 rfl (by decide +kernel) (by decide) (fun p e s m args below meth c Fin ad0 hr hn => ⟨_, _, Sv_seq (Sv_oinit w109 w30 wOc dX0_init_0 dX0_init_1 (Nat.le_of_ble_eq_true rfl) (Nat.le_of_ble_eq_true rfl)) (Sv_seq (Sv_putA Fx0 (Ev_aload_n dX0_init_4 rfl) (Ev_newa_int (N := 4) (v := 4) (Ev_iconst dX0_init_5 (by decide)) (by decide) (by decide +kernel) (by decide) w68 dX0_init_6) (k := 0) (by decide) rfl rfl hn rfl w110 dX0_init_8) (Sv_seq (Sv_putA Fx0 (Ev_aload_n dX0_init_11 rfl) (Ev_newa_int (N := 10) (v := 10) (Ev_bipush dX0_init_12 (by decide)) (by decide) (by decide +kernel) (by decide) w68 dX0_init_14) (k := 1) (by decide) rfl rfl hn rfl w114 dX0_init_16) (Sv_seq (Sv_nop) (Sv_retv hr dX0_init_19)))), Nat.le_of_ble_eq_true rfl, Nat.le_of_ble_eq_true rfl⟩)
theorem dJ7_fill_53178_0 : decode cJ7_fill_53178 0 = .ok (.iconst 0, 1) := by decide +kernel
theorem dJ7_fill_53178_1 : decode cJ7_fill_53178 1 = .ok (.istore_n 2, 1) := by decide +kernel
theorem dJ7_fill_53178_2 : decode cJ7_fill_53178 2 = .ok (.aload_n 0, 1) := by decide +kernel
theorem dJ7_fill_53178_3 : decode cJ7_fill_53178 3 = .ok (.arraylength, 1) := by decide +kernel
theorem dJ7_fill_53178_4 : decode cJ7_fill_53178 4 = .ok (.istore_n 3, 1) := by decide +kernel
theorem dJ7_fill_53178_5 : decode cJ7_fill_53178 5 = .ok (.iload_n 2, 1) := by decide +kernel
theorem dJ7_fill_53178_6 : decode cJ7_fill_53178 6 = .ok (.iload_n 3, 1) := by decide +kernel
theorem dJ7_fill_53178_7 : decode cJ7_fill_53178 7 = .ok (.if_icmp .ge 13, 3) := by decide +kernel
theorem dJ7_fill_53178_10 : decode cJ7_fill_53178 10 = .ok (.aload_n 0, 1) := by decide +kernel
theorem dJ7_fill_53178_11 : decode cJ7_fill_53178 11 = .ok (.iload_n 2, 1) := by decide +kernel
theorem dJ7_fill_53178_12 : decode cJ7_fill_53178 12 = .ok (.iload_n 1, 1) := by decide +kernel
theorem dJ7_fill_53178_13 : decode cJ7_fill_53178 13 = .ok (.iastore, 1) := by decide +kernel
theorem dJ7_fill_53178_14 : decode cJ7_fill_53178 14 = .ok (.iinc 2 1, 3) := by decide +kernel
theorem dJ7_fill_53178_17 : decode cJ7_fill_53178 17 = .ok (.goto (-12), 3) := by decide +kernel
theorem dJ7_fill_53178_20 : decode cJ7_fill_53178 20 = .ok (.return_, 1) := by decide +kernel
def f_J7_fill_53178 : MX := mth 4 (sQ (sQ (sTi 2 (eI (0))) (sQ (sTi 3 (eAn (eLa 0))) (sLp (cB c_lt (eLi 2) (eLi 3)) (sQ (sAi 0 (eLa 0) (eLi 2) (eLi 1)) (sInc 2 (1))) NF))) (sRv))
theorem Y_J7_fill_53178 : Yk yJ7_fill_53178 cJ7_fill_53178 4 none 2 := ⟨w258, w9, by decide +kernel, by decide +kernel, by decide +kernel⟩
set_option maxRecDepth 20000 in
theorem k_J7_fill_53178 (l : Launch) (g : GE) : MetX l g yJ7_fill_53178 cJ7_fill_53178 4 none 2 ({ frames := 0, cells := 0, slots := 0, locals := 0 } : Room) f_J7_fill_53178 := by
  unfold f_J7_fill_53178
  exact MetX.of (own := RJ7) 100 0 rfl (by decide +kernel) (by decide) (fun p e s m args below meth c Fin ad0 hr hn => ⟨_, _, Sv_seq (Sv_seq (Sv_istore_n (Ev_iconst dJ7_fill_53178_0 (by decide)) dJ7_fill_53178_1 rfl (Nat.le_of_ble_eq_true rfl) (Nat.ne_of_beq_eq_false rfl)) (Sv_seq (Sv_istore_n (Ev_alen (Ev_aload_n dJ7_fill_53178_2 rfl) dJ7_fill_53178_3) dJ7_fill_53178_4 rfl (Nat.le_of_ble_eq_true rfl) (Nat.ne_of_beq_eq_false rfl)) (Sv_loop0 NF (Cv_icmp_ge_n (Ev_iload_n dJ7_fill_53178_5 rfl) (Ev_iload_n dJ7_fill_53178_6 rfl) (t := 20) dJ7_fill_53178_7 (by decide)) (Sv_goto (pE := 5) (Sv_seq (Sv_iastore (Ev_aload_n dJ7_fill_53178_10 rfl) (Ev_iload_n dJ7_fill_53178_11 rfl) (Ev_iload_n dJ7_fill_53178_12 rfl) dJ7_fill_53178_13) (Sv_iinc dJ7_fill_53178_14 (by decide) (Nat.le_of_ble_eq_true rfl) (Nat.ne_of_beq_eq_false rfl))) dJ7_fill_53178_17 (by decide))))) (Sv_retv hr dJ7_fill_53178_20), Nat.le_of_ble_eq_true rfl, Nat.le_of_ble_eq_true rfl⟩)
theorem dX0_close_0 : decode cX0_close 0 = .ok (.aload_n 0, 1) := by decide +kernel
theorem dX0_close_1 : decode cX0_close 1 = .ok (.getfield 9, 3) := by decide +kernel
theorem dX0_close_4 : decode cX0_close 4 = .ok (.iconst 0, 1) := by decide +kernel
theorem dX0_close_5 : decode cX0_close 5 = .ok (.invokestatic 18, 3) := by decide +kernel
theorem dX0_close_8 : decode cX0_close 8 = .ok (.aload_n 0, 1) := by decide +kernel
theorem dX0_close_9 : decode cX0_close 9 = .ok (.getfield 15, 3) := by decide +kernel
theorem dX0_close_12 : decode cX0_close 12 = .ok (.iconst 0, 1) := by decide +kernel
theorem dX0_close_13 : decode cX0_close 13 = .ok (.invokestatic 18, 3) := by decide +kernel
theorem dX0_close_16 : decode cX0_close 16 = .ok (.return_, 1) := by decide +kernel
def f_X0_close : MX := mth 1 (sQ (sQ (sM (f_J7_fill_53178) (aI (aA (aN) (eGa (eLa 0) 0 0)) (eI (0)))) (sM (f_J7_fill_53178) (aI (aA (aN) (eGa (eLa 0) 0 1)) (eI (0))))) (sRv))
theorem Y_X0_close : Yk yX0_close cX0_close 1 none 0 := ⟨w266, w6, by decide +kernel, by decide +kernel, by decide +kernel⟩
set_option maxRecDepth 20000 in
theorem k_X0_close (l : Launch) (g : GE) : MetX l g yX0_close cX0_close 1 none 1 ({ frames := 1, cells := 0, slots := 0, locals := 23 } : Room) f_X0_close := by
  unfold f_X0_close
  exact MetX.of (own := RX0) 100 0 rfl (by decide +kernel) (by decide) (fun p e s m args below meth c Fin ad0 hr hn => ⟨_, _, Sv_seq (Sv_seq (Sv_call (Av_i (Av_a (Av_nil) (Ev_getA Fx0 (Ev_aload_n dX0_close_0 rfl) (k := 0) (by decide) w110 dX0_close_1)) (Ev_iconst dX0_close_4 (by decide))) (Rn_S Y_J7_fill_53178 (k_J7_fill_53178 _ _) w267 w257 dX0_close_5 (Nat.le_of_ble_eq_true rfl) (Nat.le_of_ble_eq_true rfl) (Nat.le_of_ble_eq_true rfl) (Nat.ne_of_beq_eq_false rfl))) (Sv_call (Av_i (Av_a (Av_nil) (Ev_getA Fx0 (Ev_aload_n dX0_close_8 rfl) (k := 1) (by decide) w114 dX0_close_9)) (Ev_iconst dX0_close_12 (by decide))) (Rn_S Y_J7_fill_53178 (k_J7_fill_53178 _ _) w267 w257 dX0_close_13 (Nat.le_of_ble_eq_true rfl) (Nat.le_of_ble_eq_true rfl) (Nat.le_of_ble_eq_true rfl) (Nat.ne_of_beq_eq_false rfl)))) (Sv_retv hr dX0_close_16), Nat.le_of_ble_eq_true rfl, Nat.le_of_ble_eq_true rfl⟩)
theorem dX0_copyFrom_0 : decode cX0_copyFrom 0 = .ok (.aload_n 1, 1) := by decide +kernel
theorem dX0_copyFrom_1 : decode cX0_copyFrom 1 = .ok (.getfield 9, 3) := by decide +kernel
theorem dX0_copyFrom_4 : decode cX0_copyFrom 4 = .ok (.iconst 0, 1) := by decide +kernel
theorem dX0_copyFrom_5 : decode cX0_copyFrom 5 = .ok (.aload_n 0, 1) := by decide +kernel
theorem dX0_copyFrom_6 : decode cX0_copyFrom 6 = .ok (.getfield 9, 3) := by decide +kernel
theorem dX0_copyFrom_9 : decode cX0_copyFrom 9 = .ok (.iconst 0, 1) := by decide +kernel
theorem dX0_copyFrom_10 : decode cX0_copyFrom 10 = .ok (.aload_n 0, 1) := by decide +kernel
theorem dX0_copyFrom_11 : decode cX0_copyFrom 11 = .ok (.getfield 9, 3) := by decide +kernel
theorem dX0_copyFrom_14 : decode cX0_copyFrom 14 = .ok (.arraylength, 1) := by decide +kernel
theorem dX0_copyFrom_15 : decode cX0_copyFrom 15 = .ok (.invokestatic 24, 3) := by decide +kernel
theorem dX0_copyFrom_18 : decode cX0_copyFrom 18 = .ok (.aload_n 1, 1) := by decide +kernel
theorem dX0_copyFrom_19 : decode cX0_copyFrom 19 = .ok (.getfield 15, 3) := by decide +kernel
theorem dX0_copyFrom_22 : decode cX0_copyFrom 22 = .ok (.iconst 0, 1) := by decide +kernel
theorem dX0_copyFrom_23 : decode cX0_copyFrom 23 = .ok (.aload_n 0, 1) := by decide +kernel
theorem dX0_copyFrom_24 : decode cX0_copyFrom 24 = .ok (.getfield 15, 3) := by decide +kernel
theorem dX0_copyFrom_27 : decode cX0_copyFrom 27 = .ok (.iconst 0, 1) := by decide +kernel
theorem dX0_copyFrom_28 : decode cX0_copyFrom 28 = .ok (.aload_n 0, 1) := by decide +kernel
theorem dX0_copyFrom_29 : decode cX0_copyFrom 29 = .ok (.getfield 15, 3) := by decide +kernel
theorem dX0_copyFrom_32 : decode cX0_copyFrom 32 = .ok (.arraylength, 1) := by decide +kernel
theorem dX0_copyFrom_33 : decode cX0_copyFrom 33 = .ok (.invokestatic 24, 3) := by decide +kernel
theorem dX0_copyFrom_36 : decode cX0_copyFrom 36 = .ok (.return_, 1) := by decide +kernel
def f_X0_copyFrom : MX := mth 2 (sQ (sQ (sM cpy (aI (aI (aA (aI (aA (aN) (eGa (eLa 1) 0 0)) (eI (0))) (eGa (eLa 0) 0 0)) (eI (0))) (eAn (eGa (eLa 0) 0 0)))) (sM cpy (aI (aI (aA (aI (aA (aN) (eGa (eLa 1) 0 1)) (eI (0))) (eGa (eLa 0) 0 1)) (eI (0))) (eAn (eGa (eLa 0) 0 1))))) (sRv))
theorem Y_X0_copyFrom : Yk yX0_copyFrom cX0_copyFrom 2 none 1 := ⟨w542, w6, by decide +kernel, by decide +kernel, by decide +kernel⟩
set_option maxRecDepth 20000 in
theorem k_X0_copyFrom (l : Launch) (g : GE) : MetX l g yX0_copyFrom cX0_copyFrom 2 none 2 ({ frames := 1, cells := 0, slots := 0, locals := 40 } : Room) f_X0_copyFrom := by
  unfold f_X0_copyFrom
  exact MetX.of (own := RX0) 100 0 rfl (by decide +kernel) (by decide) (fun p e s m args below meth c Fin ad0 hr hn => ⟨_, _, Sv_seq (Sv_seq (Sv_copy (Av_i (Av_i (Av_a (Av_i (Av_a (Av_nil) (Ev_getA Fx0 (Ev_aload_n dX0_copyFrom_0 rfl) (k := 0) (by decide) w110 dX0_copyFrom_1)) (Ev_iconst dX0_copyFrom_4 (by decide))) (Ev_getA Fx0 (Ev_aload_n dX0_copyFrom_5 rfl) (k := 0) (by decide) w110 dX0_copyFrom_6)) (Ev_iconst dX0_copyFrom_9 (by decide))) (Ev_alen (Ev_getA Fx0 (Ev_aload_n dX0_copyFrom_10 rfl) (k := 0) (by decide) w110 dX0_copyFrom_11) dX0_copyFrom_14)) w543 w383 w382 w15 dX0_copyFrom_15 (Nat.le_of_ble_eq_true rfl) (Nat.le_of_ble_eq_true rfl)) (Sv_copy (Av_i (Av_i (Av_a (Av_i (Av_a (Av_nil) (Ev_getA Fx0 (Ev_aload_n dX0_copyFrom_18 rfl) (k := 1) (by decide) w114 dX0_copyFrom_19)) (Ev_iconst dX0_copyFrom_22 (by decide))) (Ev_getA Fx0 (Ev_aload_n dX0_copyFrom_23 rfl) (k := 1) (by decide) w114 dX0_copyFrom_24)) (Ev_iconst dX0_copyFrom_27 (by decide))) (Ev_alen (Ev_getA Fx0 (Ev_aload_n dX0_copyFrom_28 rfl) (k := 1) (by decide) w114 dX0_copyFrom_29) dX0_copyFrom_32)) w543 w383 w382 w15 dX0_copyFrom_33 (Nat.le_of_ble_eq_true rfl) (Nat.le_of_ble_eq_true rfl))) (Sv_retv hr dX0_copyFrom_36), Nat.le_of_ble_eq_true rfl, Nat.le_of_ble_eq_true rfl⟩)
theorem dX0_credit_0 : decode cX0_credit 0 = .ok (.aload_n 0, 1) := by decide +kernel
theorem dX0_credit_1 : decode cX0_credit 1 = .ok (.getfield 15, 3) := by decide +kernel
theorem dX0_credit_4 : decode cX0_credit 4 = .ok (.iload_n 1, 1) := by decide +kernel
theorem dX0_credit_5 : decode cX0_credit 5 = .ok (.iconst 2, 1) := by decide +kernel
theorem dX0_credit_6 : decode cX0_credit 6 = .ok (.imul, 1) := by decide +kernel
theorem dX0_credit_7 : decode cX0_credit 7 = .ok (.dup2, 1) := by decide +kernel
theorem dX0_credit_8 : decode cX0_credit 8 = .ok (.iaload, 1) := by decide +kernel
theorem dX0_credit_9 : decode cX0_credit 9 = .ok (.getstatic 30, 3) := by decide +kernel
theorem dX0_credit_12 : decode cX0_credit 12 = .ok (.iload_n 2, 1) := by decide +kernel
theorem dX0_credit_13 : decode cX0_credit 13 = .ok (.iaload, 1) := by decide +kernel
theorem dX0_credit_14 : decode cX0_credit 14 = .ok (.iload_n 3, 1) := by decide +kernel
theorem dX0_credit_15 : decode cX0_credit 15 = .ok (.imul, 1) := by decide +kernel
theorem dX0_credit_16 : decode cX0_credit 16 = .ok (.iadd, 1) := by decide +kernel
theorem dX0_credit_17 : decode cX0_credit 17 = .ok (.iastore, 1) := by decide +kernel
theorem dX0_credit_18 : decode cX0_credit 18 = .ok (.aload_n 0, 1) := by decide +kernel
theorem dX0_credit_19 : decode cX0_credit 19 = .ok (.getfield 15, 3) := by decide +kernel
theorem dX0_credit_22 : decode cX0_credit 22 = .ok (.iload_n 1, 1) := by decide +kernel
theorem dX0_credit_23 : decode cX0_credit 23 = .ok (.iconst 2, 1) := by decide +kernel
theorem dX0_credit_24 : decode cX0_credit 24 = .ok (.imul, 1) := by decide +kernel
theorem dX0_credit_25 : decode cX0_credit 25 = .ok (.iconst 1, 1) := by decide +kernel
theorem dX0_credit_26 : decode cX0_credit 26 = .ok (.iadd, 1) := by decide +kernel
theorem dX0_credit_27 : decode cX0_credit 27 = .ok (.dup2, 1) := by decide +kernel
theorem dX0_credit_28 : decode cX0_credit 28 = .ok (.iaload, 1) := by decide +kernel
theorem dX0_credit_29 : decode cX0_credit 29 = .ok (.getstatic 33, 3) := by decide +kernel
theorem dX0_credit_32 : decode cX0_credit 32 = .ok (.iload_n 2, 1) := by decide +kernel
theorem dX0_credit_33 : decode cX0_credit 33 = .ok (.iaload, 1) := by decide +kernel
theorem dX0_credit_34 : decode cX0_credit 34 = .ok (.iload_n 3, 1) := by decide +kernel
theorem dX0_credit_35 : decode cX0_credit 35 = .ok (.imul, 1) := by decide +kernel
theorem dX0_credit_36 : decode cX0_credit 36 = .ok (.iadd, 1) := by decide +kernel
theorem dX0_credit_37 : decode cX0_credit 37 = .ok (.iastore, 1) := by decide +kernel
theorem dX0_credit_38 : decode cX0_credit 38 = .ok (.return_, 1) := by decide +kernel
def f_X0_credit : MX := mth 4 (sQ (sQ (sAo (eGa (eLa 0) 0 1) (eOp o_imul (eLi 1) (eI (2))) o_iadd (eOp o_imul (eAi 0 (eZ 0) (eLi 2)) (eLi 3))) (sAo (eGa (eLa 0) 0 1) (eOp o_iadd (eOp o_imul (eLi 1) (eI (2))) (eI (1))) o_iadd (eOp o_imul (eAi 0 (eZ 1) (eLi 2)) (eLi 3)))) (sRv))
theorem Y_X0_credit : Yk yX0_credit cX0_credit 4 none 3 := ⟨w712, w6, by decide +kernel, by decide +kernel, by decide +kernel⟩
set_option maxRecDepth 20000 in
theorem k_X0_credit (l : Launch) (g : GE) : MetX l g yX0_credit cX0_credit 4 none 4 ({ frames := 0, cells := 0, slots := 0, locals := 0 } : Room) f_X0_credit := by
  unfold f_X0_credit
  exact MetX.of (own := RX0) 100 0 rfl (by decide +kernel) (by decide) (fun p e s m args below meth c Fin ad0 hr hn => ⟨_, _, Sv_seq (Sv_seq (Sv_aop_iadd (Ev_getA Fx0 (Ev_aload_n dX0_credit_0 rfl) (k := 1) (by decide) w114 dX0_credit_1) (Ev_imul (Ev_iload_n dX0_credit_4 rfl) (Ev_iconst dX0_credit_5 (by decide)) dX0_credit_6) dX0_credit_7 dX0_credit_8 (Ev_imul (Ev_iaload (Ev_getsN (q := ("ALONG", 0)) (by decide) w713 dX0_credit_9) (Ev_iload_n dX0_credit_12 rfl) dX0_credit_13) (Ev_iload_n dX0_credit_14 rfl) dX0_credit_15) dX0_credit_16 dX0_credit_17) (Sv_aop_iadd (Ev_getA Fx0 (Ev_aload_n dX0_credit_18 rfl) (k := 1) (by decide) w114 dX0_credit_19) (Ev_iadd (Ev_imul (Ev_iload_n dX0_credit_22 rfl) (Ev_iconst dX0_credit_23 (by decide)) dX0_credit_24) (Ev_iconst dX0_credit_25 (by decide)) dX0_credit_26) dX0_credit_27 dX0_credit_28 (Ev_imul (Ev_iaload (Ev_getsN (q := ("ACROSS", 1)) (by decide) w714 dX0_credit_29) (Ev_iload_n dX0_credit_32 rfl) dX0_credit_33) (Ev_iload_n dX0_credit_34 rfl) dX0_credit_35) dX0_credit_36 dX0_credit_37)) (Sv_retv hr dX0_credit_38), Nat.le_of_ble_eq_true rfl, Nat.le_of_ble_eq_true rfl⟩)
theorem dX2_init_0 : decode cX2_init 0 = .ok (.aload_n 0, 1) := by decide +kernel
theorem dX2_init_1 : decode cX2_init 1 = .ok (.invokespecial 3, 3) := by decide +kernel
theorem dX2_init_4 : decode cX2_init 4 = .ok (.aload_n 0, 1) := by decide +kernel
theorem dX2_init_5 : decode cX2_init 5 = .ok (.bipush 48, 2) := by decide +kernel
theorem dX2_init_7 : decode cX2_init 7 = .ok (.newarray .int, 2) := by decide +kernel
theorem dX2_init_9 : decode cX2_init 9 = .ok (.putfield 11, 3) := by decide +kernel
theorem dX2_init_12 : decode cX2_init 12 = .ok (.return_, 1) := by decide +kernel
def f_X2_init : MX := mth 1 (sQ (sO) (sQ (sPa (eLa 0) 2 1 (eNi 0 48)) (sQ (sN) (sRv))))
theorem Y_X2_init : Yk yX2_init cX2_init 1 none 0 := ⟨w73, w4, by decide +kernel, by decide +kernel, by decide +kernel⟩
set_option maxRecDepth 20000 in
theorem k_X2_init (l : Launch) (g : GE) : MetX l g yX2_init cX2_init 1 none 1 ({ frames := 1, cells := 1, slots := 48, locals := 12 } : Room) f_X2_init := by
  unfold f_X2_init
  exact MetX.of (own := RX2) 100 0 rfl (by decide +kernel) (by decide) (fun p e s m args below meth c Fin ad0 hr hn => ⟨_, _, Sv_seq (Sv_oinit w74 w30 wOc dX2_init_0 dX2_init_1 (Nat.le_of_ble_eq_true rfl) (Nat.le_of_ble_eq_true rfl)) (Sv_seq (Sv_putA Fx2 (Ev_aload_n dX2_init_4 rfl) (Ev_newa_int (N := 48) (v := 48) (Ev_bipush dX2_init_5 (by decide)) (by decide) (by decide +kernel) (by decide) w68 dX2_init_7) (k := 1) (by decide) rfl rfl hn rfl w79 dX2_init_9) (Sv_seq (Sv_nop) (Sv_retv hr dX2_init_12))), Nat.le_of_ble_eq_true rfl, Nat.le_of_ble_eq_true rfl⟩)
theorem dX2_copyFrom_0 : decode cX2_copyFrom 0 = .ok (.aload_n 0, 1) := by decide +kernel
theorem dX2_copyFrom_1 : decode cX2_copyFrom 1 = .ok (.aload_n 1, 1) := by decide +kernel
theorem dX2_copyFrom_2 : decode cX2_copyFrom 2 = .ok (.getfield 15, 3) := by decide +kernel
theorem dX2_copyFrom_5 : decode cX2_copyFrom 5 = .ok (.putfield 15, 3) := by decide +kernel
theorem dX2_copyFrom_8 : decode cX2_copyFrom 8 = .ok (.aload_n 1, 1) := by decide +kernel
theorem dX2_copyFrom_9 : decode cX2_copyFrom 9 = .ok (.getfield 11, 3) := by decide +kernel
theorem dX2_copyFrom_12 : decode cX2_copyFrom 12 = .ok (.iconst 0, 1) := by decide +kernel
theorem dX2_copyFrom_13 : decode cX2_copyFrom 13 = .ok (.aload_n 0, 1) := by decide +kernel
theorem dX2_copyFrom_14 : decode cX2_copyFrom 14 = .ok (.getfield 11, 3) := by decide +kernel
theorem dX2_copyFrom_17 : decode cX2_copyFrom 17 = .ok (.iconst 0, 1) := by decide +kernel
theorem dX2_copyFrom_18 : decode cX2_copyFrom 18 = .ok (.aload_n 0, 1) := by decide +kernel
theorem dX2_copyFrom_19 : decode cX2_copyFrom 19 = .ok (.getfield 11, 3) := by decide +kernel
theorem dX2_copyFrom_22 : decode cX2_copyFrom 22 = .ok (.arraylength, 1) := by decide +kernel
theorem dX2_copyFrom_23 : decode cX2_copyFrom 23 = .ok (.invokestatic 19, 3) := by decide +kernel
theorem dX2_copyFrom_26 : decode cX2_copyFrom 26 = .ok (.return_, 1) := by decide +kernel
def f_X2_copyFrom : MX := mth 2 (sQ (sQ (sPi (eLa 0) 2 0 (eGi (eLa 1) 2 0)) (sM cpy (aI (aI (aA (aI (aA (aN) (eGa (eLa 1) 2 1)) (eI (0))) (eGa (eLa 0) 2 1)) (eI (0))) (eAn (eGa (eLa 0) 2 1))))) (sRv))
theorem Y_X2_copyFrom : Yk yX2_copyFrom cX2_copyFrom 2 none 1 := ⟨w532, w4, by decide +kernel, by decide +kernel, by decide +kernel⟩
set_option maxRecDepth 20000 in
theorem k_X2_copyFrom (l : Launch) (g : GE) : MetX l g yX2_copyFrom cX2_copyFrom 2 none 2 ({ frames := 1, cells := 0, slots := 0, locals := 40 } : Room) f_X2_copyFrom := by
  unfold f_X2_copyFrom
  exact MetX.of (own := RX2) 100 0 rfl (by decide +kernel) (by decide) (fun p e s m args below meth c Fin ad0 hr hn => ⟨_, _, Sv_seq (Sv_seq (Sv_putI Fx2 (Ev_aload_n dX2_copyFrom_0 rfl) (Ev_getI Fx2 (Ev_aload_n dX2_copyFrom_1 rfl) (k := 0) (by decide) w75 dX2_copyFrom_2) (k := 0) (by decide) rfl rfl w75 dX2_copyFrom_5) (Sv_copy (Av_i (Av_i (Av_a (Av_i (Av_a (Av_nil) (Ev_getA Fx2 (Ev_aload_n dX2_copyFrom_8 rfl) (k := 1) (by decide) w79 dX2_copyFrom_9)) (Ev_iconst dX2_copyFrom_12 (by decide))) (Ev_getA Fx2 (Ev_aload_n dX2_copyFrom_13 rfl) (k := 1) (by decide) w79 dX2_copyFrom_14)) (Ev_iconst dX2_copyFrom_17 (by decide))) (Ev_alen (Ev_getA Fx2 (Ev_aload_n dX2_copyFrom_18 rfl) (k := 1) (by decide) w79 dX2_copyFrom_19) dX2_copyFrom_22)) w533 w383 w382 w15 dX2_copyFrom_23 (Nat.le_of_ble_eq_true rfl) (Nat.le_of_ble_eq_true rfl))) (Sv_retv hr dX2_copyFrom_26), Nat.le_of_ble_eq_true rfl, Nat.le_of_ble_eq_true rfl⟩)
theorem dX2_addPlace_0 : decode cX2_addPlace 0 = .ok (.aload_n 0, 1) := by decide +kernel
theorem dX2_addPlace_1 : decode cX2_addPlace 1 = .ok (.getfield 15, 3) := by decide +kernel
theorem dX2_addPlace_4 : decode cX2_addPlace 4 = .ok (.bipush 8, 2) := by decide +kernel
theorem dX2_addPlace_6 : decode cX2_addPlace 6 = .ok (.imul, 1) := by decide +kernel
theorem dX2_addPlace_7 : decode cX2_addPlace 7 = .ok (.istore 5, 2) := by decide +kernel
theorem dX2_addPlace_9 : decode cX2_addPlace 9 = .ok (.aload_n 0, 1) := by decide +kernel
theorem dX2_addPlace_10 : decode cX2_addPlace 10 = .ok (.getfield 11, 3) := by decide +kernel
theorem dX2_addPlace_13 : decode cX2_addPlace 13 = .ok (.iload 5, 2) := by decide +kernel
theorem dX2_addPlace_15 : decode cX2_addPlace 15 = .ok (.iconst 0, 1) := by decide +kernel
theorem dX2_addPlace_16 : decode cX2_addPlace 16 = .ok (.iadd, 1) := by decide +kernel
theorem dX2_addPlace_17 : decode cX2_addPlace 17 = .ok (.iload_n 1, 1) := by decide +kernel
theorem dX2_addPlace_18 : decode cX2_addPlace 18 = .ok (.iastore, 1) := by decide +kernel
theorem dX2_addPlace_19 : decode cX2_addPlace 19 = .ok (.aload_n 0, 1) := by decide +kernel
theorem dX2_addPlace_20 : decode cX2_addPlace 20 = .ok (.getfield 11, 3) := by decide +kernel
theorem dX2_addPlace_23 : decode cX2_addPlace 23 = .ok (.iload 5, 2) := by decide +kernel
theorem dX2_addPlace_25 : decode cX2_addPlace 25 = .ok (.iconst 1, 1) := by decide +kernel
theorem dX2_addPlace_26 : decode cX2_addPlace 26 = .ok (.iadd, 1) := by decide +kernel
theorem dX2_addPlace_27 : decode cX2_addPlace 27 = .ok (.iload_n 2, 1) := by decide +kernel
theorem dX2_addPlace_28 : decode cX2_addPlace 28 = .ok (.iastore, 1) := by decide +kernel
theorem dX2_addPlace_29 : decode cX2_addPlace 29 = .ok (.aload_n 0, 1) := by decide +kernel
theorem dX2_addPlace_30 : decode cX2_addPlace 30 = .ok (.getfield 11, 3) := by decide +kernel
theorem dX2_addPlace_33 : decode cX2_addPlace 33 = .ok (.iload 5, 2) := by decide +kernel
theorem dX2_addPlace_35 : decode cX2_addPlace 35 = .ok (.iconst 2, 1) := by decide +kernel
theorem dX2_addPlace_36 : decode cX2_addPlace 36 = .ok (.iadd, 1) := by decide +kernel
theorem dX2_addPlace_37 : decode cX2_addPlace 37 = .ok (.iload_n 3, 1) := by decide +kernel
theorem dX2_addPlace_38 : decode cX2_addPlace 38 = .ok (.iastore, 1) := by decide +kernel
theorem dX2_addPlace_39 : decode cX2_addPlace 39 = .ok (.aload_n 0, 1) := by decide +kernel
theorem dX2_addPlace_40 : decode cX2_addPlace 40 = .ok (.getfield 11, 3) := by decide +kernel
theorem dX2_addPlace_43 : decode cX2_addPlace 43 = .ok (.iload 5, 2) := by decide +kernel
theorem dX2_addPlace_45 : decode cX2_addPlace 45 = .ok (.iconst 3, 1) := by decide +kernel
theorem dX2_addPlace_46 : decode cX2_addPlace 46 = .ok (.iadd, 1) := by decide +kernel
theorem dX2_addPlace_47 : decode cX2_addPlace 47 = .ok (.iload 4, 2) := by decide +kernel
theorem dX2_addPlace_49 : decode cX2_addPlace 49 = .ok (.iastore, 1) := by decide +kernel
theorem dX2_addPlace_50 : decode cX2_addPlace 50 = .ok (.aload_n 0, 1) := by decide +kernel
theorem dX2_addPlace_51 : decode cX2_addPlace 51 = .ok (.getfield 11, 3) := by decide +kernel
theorem dX2_addPlace_54 : decode cX2_addPlace 54 = .ok (.iload 5, 2) := by decide +kernel
theorem dX2_addPlace_56 : decode cX2_addPlace 56 = .ok (.bipush 7, 2) := by decide +kernel
theorem dX2_addPlace_58 : decode cX2_addPlace 58 = .ok (.iadd, 1) := by decide +kernel
theorem dX2_addPlace_59 : decode cX2_addPlace 59 = .ok (.iconst 0, 1) := by decide +kernel
theorem dX2_addPlace_60 : decode cX2_addPlace 60 = .ok (.iastore, 1) := by decide +kernel
theorem dX2_addPlace_61 : decode cX2_addPlace 61 = .ok (.aload_n 0, 1) := by decide +kernel
theorem dX2_addPlace_62 : decode cX2_addPlace 62 = .ok (.dup, 1) := by decide +kernel
theorem dX2_addPlace_63 : decode cX2_addPlace 63 = .ok (.getfield 15, 3) := by decide +kernel
theorem dX2_addPlace_66 : decode cX2_addPlace 66 = .ok (.iconst 1, 1) := by decide +kernel
theorem dX2_addPlace_67 : decode cX2_addPlace 67 = .ok (.iadd, 1) := by decide +kernel
theorem dX2_addPlace_68 : decode cX2_addPlace 68 = .ok (.putfield 15, 3) := by decide +kernel
theorem dX2_addPlace_71 : decode cX2_addPlace 71 = .ok (.aload_n 0, 1) := by decide +kernel
theorem dX2_addPlace_72 : decode cX2_addPlace 72 = .ok (.getfield 15, 3) := by decide +kernel
theorem dX2_addPlace_75 : decode cX2_addPlace 75 = .ok (.iconst 1, 1) := by decide +kernel
theorem dX2_addPlace_76 : decode cX2_addPlace 76 = .ok (.isub, 1) := by decide +kernel
theorem dX2_addPlace_77 : decode cX2_addPlace 77 = .ok (.ireturn, 1) := by decide +kernel
def f_X2_addPlace : MX := mth 6 (sQ (sTi 5 (eOp o_imul (eGi (eLa 0) 2 0) (eI (8)))) (sQ (sAi 0 (eGa (eLa 0) 2 1) (eOp o_iadd (eLi 5) (eI (0))) (eLi 1)) (sQ (sAi 0 (eGa (eLa 0) 2 1) (eOp o_iadd (eLi 5) (eI (1))) (eLi 2)) (sQ (sAi 0 (eGa (eLa 0) 2 1) (eOp o_iadd (eLi 5) (eI (2))) (eLi 3)) (sQ (sAi 0 (eGa (eLa 0) 2 1) (eOp o_iadd (eLi 5) (eI (3))) (eLi 4)) (sQ (sAi 0 (eGa (eLa 0) 2 1) (eOp o_iadd (eLi 5) (eI (7))) (eI (0))) (sQ (sPo (eLa 0) 2 0 o_iadd (eI (1))) (sR (eOp o_isub (eGi (eLa 0) 2 0) (eI (1)))))))))))
theorem Y_X2_addPlace : Yk yX2_addPlace cX2_addPlace 6 (some .int) 4 := ⟨w747, w4, by decide +kernel, by decide +kernel, by decide +kernel⟩
set_option maxRecDepth 20000 in
theorem k_X2_addPlace (l : Launch) (g : GE) : MetX l g yX2_addPlace cX2_addPlace 6 (some .int) 5 ({ frames := 0, cells := 0, slots := 0, locals := 0 } : Room) f_X2_addPlace := by
  unfold f_X2_addPlace
  exact MetX.of (own := RX2) 100 0 rfl (by decide +kernel) (by decide) (fun p e s m args below meth c Fin ad0 hr hn => ⟨_, _, Sv_seq (Sv_istore (Ev_imul (Ev_getI Fx2 (Ev_aload_n dX2_addPlace_0 rfl) (k := 0) (by decide) w75 dX2_addPlace_1) (Ev_bipush dX2_addPlace_4 (by decide)) dX2_addPlace_6) dX2_addPlace_7 (Nat.le_of_ble_eq_true rfl) (Nat.ne_of_beq_eq_false rfl)) (Sv_seq (Sv_iastore (Ev_getA Fx2 (Ev_aload_n dX2_addPlace_9 rfl) (k := 1) (by decide) w79 dX2_addPlace_10) (Ev_iadd (Ev_iload dX2_addPlace_13) (Ev_iconst dX2_addPlace_15 (by decide)) dX2_addPlace_16) (Ev_iload_n dX2_addPlace_17 rfl) dX2_addPlace_18) (Sv_seq (Sv_iastore (Ev_getA Fx2 (Ev_aload_n dX2_addPlace_19 rfl) (k := 1) (by decide) w79 dX2_addPlace_20) (Ev_iadd (Ev_iload dX2_addPlace_23) (Ev_iconst dX2_addPlace_25 (by decide)) dX2_addPlace_26) (Ev_iload_n dX2_addPlace_27 rfl) dX2_addPlace_28) (Sv_seq (Sv_iastore (Ev_getA Fx2 (Ev_aload_n dX2_addPlace_29 rfl) (k := 1) (by decide) w79 dX2_addPlace_30) (Ev_iadd (Ev_iload dX2_addPlace_33) (Ev_iconst dX2_addPlace_35 (by decide)) dX2_addPlace_36) (Ev_iload_n dX2_addPlace_37 rfl) dX2_addPlace_38) (Sv_seq (Sv_iastore (Ev_getA Fx2 (Ev_aload_n dX2_addPlace_39 rfl) (k := 1) (by decide) w79 dX2_addPlace_40) (Ev_iadd (Ev_iload dX2_addPlace_43) (Ev_iconst dX2_addPlace_45 (by decide)) dX2_addPlace_46) (Ev_iload dX2_addPlace_47) dX2_addPlace_49) (Sv_seq (Sv_iastore (Ev_getA Fx2 (Ev_aload_n dX2_addPlace_50 rfl) (k := 1) (by decide) w79 dX2_addPlace_51) (Ev_iadd (Ev_iload dX2_addPlace_54) (Ev_bipush dX2_addPlace_56 (by decide)) dX2_addPlace_58) (Ev_iconst dX2_addPlace_59 (by decide)) dX2_addPlace_60) (Sv_seq (Sv_fop_iadd (idx2 := 0) Fx2 (Ev_aload_n dX2_addPlace_61 rfl) dX2_addPlace_62 dX2_addPlace_63 (Ev_iconst dX2_addPlace_66 (by decide)) dX2_addPlace_67 (k := 0) (by decide) rfl rfl w75 dX2_addPlace_68) (Sv_ret (Ev_isub (Ev_getI Fx2 (Ev_aload_n dX2_addPlace_71 rfl) (k := 0) (by decide) w75 dX2_addPlace_72) (Ev_iconst dX2_addPlace_75 (by decide)) dX2_addPlace_76) hr dX2_addPlace_77))))))), Nat.le_of_ble_eq_true rfl, Nat.le_of_ble_eq_true rfl⟩)
theorem dX2_setTimes_0 : decode cX2_setTimes 0 = .ok (.aload_n 0, 1) := by decide +kernel
theorem dX2_setTimes_1 : decode cX2_setTimes 1 = .ok (.getfield 11, 3) := by decide +kernel
theorem dX2_setTimes_4 : decode cX2_setTimes 4 = .ok (.iload_n 1, 1) := by decide +kernel
theorem dX2_setTimes_5 : decode cX2_setTimes 5 = .ok (.bipush 8, 2) := by decide +kernel
theorem dX2_setTimes_7 : decode cX2_setTimes 7 = .ok (.imul, 1) := by decide +kernel
theorem dX2_setTimes_8 : decode cX2_setTimes 8 = .ok (.iconst 4, 1) := by decide +kernel
theorem dX2_setTimes_9 : decode cX2_setTimes 9 = .ok (.iadd, 1) := by decide +kernel
theorem dX2_setTimes_10 : decode cX2_setTimes 10 = .ok (.iload_n 2, 1) := by decide +kernel
theorem dX2_setTimes_11 : decode cX2_setTimes 11 = .ok (.iastore, 1) := by decide +kernel
theorem dX2_setTimes_12 : decode cX2_setTimes 12 = .ok (.aload_n 0, 1) := by decide +kernel
theorem dX2_setTimes_13 : decode cX2_setTimes 13 = .ok (.getfield 11, 3) := by decide +kernel
theorem dX2_setTimes_16 : decode cX2_setTimes 16 = .ok (.iload_n 1, 1) := by decide +kernel
theorem dX2_setTimes_17 : decode cX2_setTimes 17 = .ok (.bipush 8, 2) := by decide +kernel
theorem dX2_setTimes_19 : decode cX2_setTimes 19 = .ok (.imul, 1) := by decide +kernel
theorem dX2_setTimes_20 : decode cX2_setTimes 20 = .ok (.iconst 5, 1) := by decide +kernel
theorem dX2_setTimes_21 : decode cX2_setTimes 21 = .ok (.iadd, 1) := by decide +kernel
theorem dX2_setTimes_22 : decode cX2_setTimes 22 = .ok (.iload_n 3, 1) := by decide +kernel
theorem dX2_setTimes_23 : decode cX2_setTimes 23 = .ok (.iastore, 1) := by decide +kernel
theorem dX2_setTimes_24 : decode cX2_setTimes 24 = .ok (.aload_n 0, 1) := by decide +kernel
theorem dX2_setTimes_25 : decode cX2_setTimes 25 = .ok (.getfield 11, 3) := by decide +kernel
theorem dX2_setTimes_28 : decode cX2_setTimes 28 = .ok (.iload_n 1, 1) := by decide +kernel
theorem dX2_setTimes_29 : decode cX2_setTimes 29 = .ok (.bipush 8, 2) := by decide +kernel
theorem dX2_setTimes_31 : decode cX2_setTimes 31 = .ok (.imul, 1) := by decide +kernel
theorem dX2_setTimes_32 : decode cX2_setTimes 32 = .ok (.bipush 6, 2) := by decide +kernel
theorem dX2_setTimes_34 : decode cX2_setTimes 34 = .ok (.iadd, 1) := by decide +kernel
theorem dX2_setTimes_35 : decode cX2_setTimes 35 = .ok (.iload 4, 2) := by decide +kernel
theorem dX2_setTimes_37 : decode cX2_setTimes 37 = .ok (.iastore, 1) := by decide +kernel
theorem dX2_setTimes_38 : decode cX2_setTimes 38 = .ok (.return_, 1) := by decide +kernel
def f_X2_setTimes : MX := mth 5 (sQ (sQ (sAi 0 (eGa (eLa 0) 2 1) (eOp o_iadd (eOp o_imul (eLi 1) (eI (8))) (eI (4))) (eLi 2)) (sQ (sAi 0 (eGa (eLa 0) 2 1) (eOp o_iadd (eOp o_imul (eLi 1) (eI (8))) (eI (5))) (eLi 3)) (sAi 0 (eGa (eLa 0) 2 1) (eOp o_iadd (eOp o_imul (eLi 1) (eI (8))) (eI (6))) (eLi 4)))) (sRv))
theorem Y_X2_setTimes : Yk yX2_setTimes cX2_setTimes 5 none 4 := ⟨w751, w4, by decide +kernel, by decide +kernel, by decide +kernel⟩
set_option maxRecDepth 20000 in
theorem k_X2_setTimes (l : Launch) (g : GE) : MetX l g yX2_setTimes cX2_setTimes 5 none 5 ({ frames := 0, cells := 0, slots := 0, locals := 0 } : Room) f_X2_setTimes := by
  unfold f_X2_setTimes
  exact MetX.of (own := RX2) 100 0 rfl (by decide +kernel) (by decide) (fun p e s m args below meth c Fin ad0 hr hn => ⟨_, _, Sv_seq (Sv_seq (Sv_iastore (Ev_getA Fx2 (Ev_aload_n dX2_setTimes_0 rfl) (k := 1) (by decide) w79 dX2_setTimes_1) (Ev_iadd (Ev_imul (Ev_iload_n dX2_setTimes_4 rfl) (Ev_bipush dX2_setTimes_5 (by decide)) dX2_setTimes_7) (Ev_iconst dX2_setTimes_8 (by decide)) dX2_setTimes_9) (Ev_iload_n dX2_setTimes_10 rfl) dX2_setTimes_11) (Sv_seq (Sv_iastore (Ev_getA Fx2 (Ev_aload_n dX2_setTimes_12 rfl) (k := 1) (by decide) w79 dX2_setTimes_13) (Ev_iadd (Ev_imul (Ev_iload_n dX2_setTimes_16 rfl) (Ev_bipush dX2_setTimes_17 (by decide)) dX2_setTimes_19) (Ev_iconst dX2_setTimes_20 (by decide)) dX2_setTimes_21) (Ev_iload_n dX2_setTimes_22 rfl) dX2_setTimes_23) (Sv_iastore (Ev_getA Fx2 (Ev_aload_n dX2_setTimes_24 rfl) (k := 1) (by decide) w79 dX2_setTimes_25) (Ev_iadd (Ev_imul (Ev_iload_n dX2_setTimes_28 rfl) (Ev_bipush dX2_setTimes_29 (by decide)) dX2_setTimes_31) (Ev_bipush dX2_setTimes_32 (by decide)) dX2_setTimes_34) (Ev_iload dX2_setTimes_35) dX2_setTimes_37))) (Sv_retv hr dX2_setTimes_38), Nat.le_of_ble_eq_true rfl, Nat.le_of_ble_eq_true rfl⟩)
theorem dX2_remove_0 : decode cX2_remove 0 = .ok (.iload_n 1, 1) := by decide +kernel
theorem dX2_remove_1 : decode cX2_remove 1 = .ok (.bipush 8, 2) := by decide +kernel
theorem dX2_remove_3 : decode cX2_remove 3 = .ok (.imul, 1) := by decide +kernel
theorem dX2_remove_4 : decode cX2_remove 4 = .ok (.istore_n 2, 1) := by decide +kernel
theorem dX2_remove_5 : decode cX2_remove 5 = .ok (.iload_n 2, 1) := by decide +kernel
theorem dX2_remove_6 : decode cX2_remove 6 = .ok (.aload_n 0, 1) := by decide +kernel
theorem dX2_remove_7 : decode cX2_remove 7 = .ok (.getfield 15, 3) := by decide +kernel
theorem dX2_remove_10 : decode cX2_remove 10 = .ok (.iconst 1, 1) := by decide +kernel
theorem dX2_remove_11 : decode cX2_remove 11 = .ok (.isub, 1) := by decide +kernel
theorem dX2_remove_12 : decode cX2_remove 12 = .ok (.bipush 8, 2) := by decide +kernel
theorem dX2_remove_14 : decode cX2_remove 14 = .ok (.imul, 1) := by decide +kernel
theorem dX2_remove_15 : decode cX2_remove 15 = .ok (.if_icmp .ge 24, 3) := by decide +kernel
theorem dX2_remove_18 : decode cX2_remove 18 = .ok (.aload_n 0, 1) := by decide +kernel
theorem dX2_remove_19 : decode cX2_remove 19 = .ok (.getfield 11, 3) := by decide +kernel
theorem dX2_remove_22 : decode cX2_remove 22 = .ok (.iload_n 2, 1) := by decide +kernel
theorem dX2_remove_23 : decode cX2_remove 23 = .ok (.aload_n 0, 1) := by decide +kernel
theorem dX2_remove_24 : decode cX2_remove 24 = .ok (.getfield 11, 3) := by decide +kernel
theorem dX2_remove_27 : decode cX2_remove 27 = .ok (.iload_n 2, 1) := by decide +kernel
theorem dX2_remove_28 : decode cX2_remove 28 = .ok (.bipush 8, 2) := by decide +kernel
theorem dX2_remove_30 : decode cX2_remove 30 = .ok (.iadd, 1) := by decide +kernel
theorem dX2_remove_31 : decode cX2_remove 31 = .ok (.iaload, 1) := by decide +kernel
theorem dX2_remove_32 : decode cX2_remove 32 = .ok (.iastore, 1) := by decide +kernel
theorem dX2_remove_33 : decode cX2_remove 33 = .ok (.iinc 2 1, 3) := by decide +kernel
theorem dX2_remove_36 : decode cX2_remove 36 = .ok (.goto (-31), 3) := by decide +kernel
theorem dX2_remove_39 : decode cX2_remove 39 = .ok (.aload_n 0, 1) := by decide +kernel
theorem dX2_remove_40 : decode cX2_remove 40 = .ok (.dup, 1) := by decide +kernel
theorem dX2_remove_41 : decode cX2_remove 41 = .ok (.getfield 15, 3) := by decide +kernel
theorem dX2_remove_44 : decode cX2_remove 44 = .ok (.iconst 1, 1) := by decide +kernel
theorem dX2_remove_45 : decode cX2_remove 45 = .ok (.isub, 1) := by decide +kernel
theorem dX2_remove_46 : decode cX2_remove 46 = .ok (.putfield 15, 3) := by decide +kernel
theorem dX2_remove_49 : decode cX2_remove 49 = .ok (.return_, 1) := by decide +kernel
def f_X2_remove : MX := mth 3 (sQ (sQ (sQ (sTi 2 (eOp o_imul (eLi 1) (eI (8)))) (sLp (cB c_lt (eLi 2) (eOp o_imul (eOp o_isub (eGi (eLa 0) 2 0) (eI (1))) (eI (8)))) (sQ (sAi 0 (eGa (eLa 0) 2 1) (eLi 2) (eAi 0 (eGa (eLa 0) 2 1) (eOp o_iadd (eLi 2) (eI (8))))) (sInc 2 (1))) NF)) (sPo (eLa 0) 2 0 o_isub (eI (1)))) (sRv))
theorem Y_X2_remove : Yk yX2_remove cX2_remove 3 none 1 := ⟨w776, w4, by decide +kernel, by decide +kernel, by decide +kernel⟩
set_option maxRecDepth 20000 in
theorem k_X2_remove (l : Launch) (g : GE) : MetX l g yX2_remove cX2_remove 3 none 2 ({ frames := 0, cells := 0, slots := 0, locals := 0 } : Room) f_X2_remove := by
  unfold f_X2_remove
  exact MetX.of (own := RX2) 100 0 rfl (by decide +kernel) (by decide) (fun p e s m args below meth c Fin ad0 hr hn => ⟨_, _, Sv_seq (Sv_seq (Sv_seq (Sv_istore_n (Ev_imul (Ev_iload_n dX2_remove_0 rfl) (Ev_bipush dX2_remove_1 (by decide)) dX2_remove_3) dX2_remove_4 rfl (Nat.le_of_ble_eq_true rfl) (Nat.ne_of_beq_eq_false rfl)) (Sv_loop0 NF (Cv_icmp_ge_n (Ev_iload_n dX2_remove_5 rfl) (Ev_imul (Ev_isub (Ev_getI Fx2 (Ev_aload_n dX2_remove_6 rfl) (k := 0) (by decide) w75 dX2_remove_7) (Ev_iconst dX2_remove_10 (by decide)) dX2_remove_11) (Ev_bipush dX2_remove_12 (by decide)) dX2_remove_14) (t := 39) dX2_remove_15 (by decide)) (Sv_goto (pE := 5) (Sv_seq (Sv_iastore (Ev_getA Fx2 (Ev_aload_n dX2_remove_18 rfl) (k := 1) (by decide) w79 dX2_remove_19) (Ev_iload_n dX2_remove_22 rfl) (Ev_iaload (Ev_getA Fx2 (Ev_aload_n dX2_remove_23 rfl) (k := 1) (by decide) w79 dX2_remove_24) (Ev_iadd (Ev_iload_n dX2_remove_27 rfl) (Ev_bipush dX2_remove_28 (by decide)) dX2_remove_30) dX2_remove_31) dX2_remove_32) (Sv_iinc dX2_remove_33 (by decide) (Nat.le_of_ble_eq_true rfl) (Nat.ne_of_beq_eq_false rfl))) dX2_remove_36 (by decide)))) (Sv_fop_isub (idx2 := 0) Fx2 (Ev_aload_n dX2_remove_39 rfl) dX2_remove_40 dX2_remove_41 (Ev_iconst dX2_remove_44 (by decide)) dX2_remove_45 (k := 0) (by decide) rfl rfl w75 dX2_remove_46)) (Sv_retv hr dX2_remove_49), Nat.le_of_ble_eq_true rfl, Nat.le_of_ble_eq_true rfl⟩)
theorem dX2_isBlowing_0 : decode cX2_isBlowing 0 = .ok (.iload_n 2, 1) := by decide +kernel
theorem dX2_isBlowing_1 : decode cX2_isBlowing 1 = .ok (.aload_n 0, 1) := by decide +kernel
theorem dX2_isBlowing_2 : decode cX2_isBlowing 2 = .ok (.getfield 11, 3) := by decide +kernel
theorem dX2_isBlowing_5 : decode cX2_isBlowing 5 = .ok (.iload_n 1, 1) := by decide +kernel
theorem dX2_isBlowing_6 : decode cX2_isBlowing 6 = .ok (.bipush 8, 2) := by decide +kernel
theorem dX2_isBlowing_8 : decode cX2_isBlowing 8 = .ok (.imul, 1) := by decide +kernel
theorem dX2_isBlowing_9 : decode cX2_isBlowing 9 = .ok (.iconst 4, 1) := by decide +kernel
theorem dX2_isBlowing_10 : decode cX2_isBlowing 10 = .ok (.iadd, 1) := by decide +kernel
theorem dX2_isBlowing_11 : decode cX2_isBlowing 11 = .ok (.iaload, 1) := by decide +kernel
theorem dX2_isBlowing_12 : decode cX2_isBlowing 12 = .ok (.isub, 1) := by decide +kernel
theorem dX2_isBlowing_13 : decode cX2_isBlowing 13 = .ok (.istore_n 3, 1) := by decide +kernel
theorem dX2_isBlowing_14 : decode cX2_isBlowing 14 = .ok (.aload_n 0, 1) := by decide +kernel
theorem dX2_isBlowing_15 : decode cX2_isBlowing 15 = .ok (.getfield 11, 3) := by decide +kernel
theorem dX2_isBlowing_18 : decode cX2_isBlowing 18 = .ok (.iload_n 1, 1) := by decide +kernel
theorem dX2_isBlowing_19 : decode cX2_isBlowing 19 = .ok (.bipush 8, 2) := by decide +kernel
theorem dX2_isBlowing_21 : decode cX2_isBlowing 21 = .ok (.imul, 1) := by decide +kernel
theorem dX2_isBlowing_22 : decode cX2_isBlowing 22 = .ok (.iconst 5, 1) := by decide +kernel
theorem dX2_isBlowing_23 : decode cX2_isBlowing 23 = .ok (.iadd, 1) := by decide +kernel
theorem dX2_isBlowing_24 : decode cX2_isBlowing 24 = .ok (.iaload, 1) := by decide +kernel
theorem dX2_isBlowing_25 : decode cX2_isBlowing 25 = .ok (.istore 4, 2) := by decide +kernel
theorem dX2_isBlowing_27 : decode cX2_isBlowing 27 = .ok (.iload_n 3, 1) := by decide +kernel
theorem dX2_isBlowing_28 : decode cX2_isBlowing 28 = .ok (.ifCond .lt 31, 3) := by decide +kernel
theorem dX2_isBlowing_31 : decode cX2_isBlowing 31 = .ok (.iload 4, 2) := by decide +kernel
theorem dX2_isBlowing_33 : decode cX2_isBlowing 33 = .ok (.ifCond .le 26, 3) := by decide +kernel
theorem dX2_isBlowing_36 : decode cX2_isBlowing 36 = .ok (.iload_n 3, 1) := by decide +kernel
theorem dX2_isBlowing_37 : decode cX2_isBlowing 37 = .ok (.iload 4, 2) := by decide +kernel
theorem dX2_isBlowing_39 : decode cX2_isBlowing 39 = .ok (.irem, 1) := by decide +kernel
theorem dX2_isBlowing_40 : decode cX2_isBlowing 40 = .ok (.aload_n 0, 1) := by decide +kernel
theorem dX2_isBlowing_41 : decode cX2_isBlowing 41 = .ok (.getfield 11, 3) := by decide +kernel
theorem dX2_isBlowing_44 : decode cX2_isBlowing 44 = .ok (.iload_n 1, 1) := by decide +kernel
theorem dX2_isBlowing_45 : decode cX2_isBlowing 45 = .ok (.bipush 8, 2) := by decide +kernel
theorem dX2_isBlowing_47 : decode cX2_isBlowing 47 = .ok (.imul, 1) := by decide +kernel
theorem dX2_isBlowing_48 : decode cX2_isBlowing 48 = .ok (.bipush 6, 2) := by decide +kernel
theorem dX2_isBlowing_50 : decode cX2_isBlowing 50 = .ok (.iadd, 1) := by decide +kernel
theorem dX2_isBlowing_51 : decode cX2_isBlowing 51 = .ok (.iaload, 1) := by decide +kernel
theorem dX2_isBlowing_52 : decode cX2_isBlowing 52 = .ok (.if_icmp .ge 7, 3) := by decide +kernel
theorem dX2_isBlowing_55 : decode cX2_isBlowing 55 = .ok (.iconst 1, 1) := by decide +kernel
theorem dX2_isBlowing_56 : decode cX2_isBlowing 56 = .ok (.goto 4, 3) := by decide +kernel
theorem dX2_isBlowing_59 : decode cX2_isBlowing 59 = .ok (.iconst 0, 1) := by decide +kernel
theorem dX2_isBlowing_60 : decode cX2_isBlowing 60 = .ok (.ireturn, 1) := by decide +kernel
def f_X2_isBlowing : MX := mth 5 (sQ (sTi 3 (eOp o_isub (eLi 2) (eAi 0 (eGa (eLa 0) 2 1) (eOp o_iadd (eOp o_imul (eLi 1) (eI (8))) (eI (4)))))) (sQ (sTi 4 (eAi 0 (eGa (eLa 0) 2 1) (eOp o_iadd (eOp o_imul (eLi 1) (eI (8))) (eI (5))))) (sRz (eC (cAnd (cAnd (cZ z_ge (eLi 3)) (cZ z_gt (eLi 4))) (cB c_lt (eQ o_irem (eLi 3) (eLi 4)) (eAi 0 (eGa (eLa 0) 2 1) (eOp o_iadd (eOp o_imul (eLi 1) (eI (8))) (eI (6))))))))))
theorem Y_X2_isBlowing : Yk yX2_isBlowing cX2_isBlowing 5 (some .boolean) 2 := ⟨w822, w4, by decide +kernel, by decide +kernel, by decide +kernel⟩
set_option maxRecDepth 20000 in
theorem k_X2_isBlowing (l : Launch) (g : GE) : MetX l g yX2_isBlowing cX2_isBlowing 5 (some .boolean) 3 ({ frames := 0, cells := 0, slots := 0, locals := 0 } : Room) f_X2_isBlowing := by
  unfold f_X2_isBlowing
  exact MetX.of (own := RX2) 100 0 rfl (by decide +kernel) (by decide) (fun p e s m args below meth c Fin ad0 hr hn => ⟨_, _, Sv_seq (Sv_istore_n (Ev_isub (Ev_iload_n dX2_isBlowing_0 rfl) (Ev_iaload (Ev_getA Fx2 (Ev_aload_n dX2_isBlowing_1 rfl) (k := 1) (by decide) w79 dX2_isBlowing_2) (Ev_iadd (Ev_imul (Ev_iload_n dX2_isBlowing_5 rfl) (Ev_bipush dX2_isBlowing_6 (by decide)) dX2_isBlowing_8) (Ev_iconst dX2_isBlowing_9 (by decide)) dX2_isBlowing_10) dX2_isBlowing_11) dX2_isBlowing_12) dX2_isBlowing_13 rfl (Nat.le_of_ble_eq_true rfl) (Nat.ne_of_beq_eq_false rfl)) (Sv_seq (Sv_istore (Ev_iaload (Ev_getA Fx2 (Ev_aload_n dX2_isBlowing_14 rfl) (k := 1) (by decide) w79 dX2_isBlowing_15) (Ev_iadd (Ev_imul (Ev_iload_n dX2_isBlowing_18 rfl) (Ev_bipush dX2_isBlowing_19 (by decide)) dX2_isBlowing_21) (Ev_iconst dX2_isBlowing_22 (by decide)) dX2_isBlowing_23) dX2_isBlowing_24) dX2_isBlowing_25 (Nat.le_of_ble_eq_true rfl) (Nat.ne_of_beq_eq_false rfl)) (Sv_retz (Ev_if (pT := 60) (Cv_and (Cv_and (Cv_if_lt_n (Ev_iload_n dX2_isBlowing_27 rfl) (t := 59) dX2_isBlowing_28 (by decide)) (Cv_if_le_n (Ev_iload dX2_isBlowing_31) (t := 59) dX2_isBlowing_33 (by decide))) (Cv_icmp_ge_n (Ev_irem (Ev_iload_n dX2_isBlowing_36 rfl) (Ev_iload dX2_isBlowing_37) dX2_isBlowing_39) (Ev_iaload (Ev_getA Fx2 (Ev_aload_n dX2_isBlowing_40 rfl) (k := 1) (by decide) w79 dX2_isBlowing_41) (Ev_iadd (Ev_imul (Ev_iload_n dX2_isBlowing_44 rfl) (Ev_bipush dX2_isBlowing_45 (by decide)) dX2_isBlowing_47) (Ev_bipush dX2_isBlowing_48 (by decide)) dX2_isBlowing_50) dX2_isBlowing_51) (t := 59) dX2_isBlowing_52 (by decide))) (Ev_iconst dX2_isBlowing_55 (by decide)) dX2_isBlowing_56 (by decide) (Ev_iconst dX2_isBlowing_59 (by decide))) hr dX2_isBlowing_60)), Nat.le_of_ble_eq_true rfl, Nat.le_of_ble_eq_true rfl⟩)
theorem dX2_haveStarted_0 : decode cX2_haveStarted 0 = .ok (.iconst 0, 1) := by decide +kernel
theorem dX2_haveStarted_1 : decode cX2_haveStarted 1 = .ok (.istore_n 2, 1) := by decide +kernel
theorem dX2_haveStarted_2 : decode cX2_haveStarted 2 = .ok (.iload_n 2, 1) := by decide +kernel
theorem dX2_haveStarted_3 : decode cX2_haveStarted 3 = .ok (.aload_n 0, 1) := by decide +kernel
theorem dX2_haveStarted_4 : decode cX2_haveStarted 4 = .ok (.getfield 15, 3) := by decide +kernel
theorem dX2_haveStarted_7 : decode cX2_haveStarted 7 = .ok (.if_icmp .ge 26, 3) := by decide +kernel
theorem dX2_haveStarted_10 : decode cX2_haveStarted 10 = .ok (.aload_n 0, 1) := by decide +kernel
theorem dX2_haveStarted_11 : decode cX2_haveStarted 11 = .ok (.getfield 11, 3) := by decide +kernel
theorem dX2_haveStarted_14 : decode cX2_haveStarted 14 = .ok (.iload_n 2, 1) := by decide +kernel
theorem dX2_haveStarted_15 : decode cX2_haveStarted 15 = .ok (.bipush 8, 2) := by decide +kernel
theorem dX2_haveStarted_17 : decode cX2_haveStarted 17 = .ok (.imul, 1) := by decide +kernel
theorem dX2_haveStarted_18 : decode cX2_haveStarted 18 = .ok (.iconst 4, 1) := by decide +kernel
theorem dX2_haveStarted_19 : decode cX2_haveStarted 19 = .ok (.iadd, 1) := by decide +kernel
theorem dX2_haveStarted_20 : decode cX2_haveStarted 20 = .ok (.iaload, 1) := by decide +kernel
theorem dX2_haveStarted_21 : decode cX2_haveStarted 21 = .ok (.iload_n 1, 1) := by decide +kernel
theorem dX2_haveStarted_22 : decode cX2_haveStarted 22 = .ok (.if_icmp .le 5, 3) := by decide +kernel
theorem dX2_haveStarted_25 : decode cX2_haveStarted 25 = .ok (.iconst 0, 1) := by decide +kernel
theorem dX2_haveStarted_26 : decode cX2_haveStarted 26 = .ok (.ireturn, 1) := by decide +kernel
theorem dX2_haveStarted_27 : decode cX2_haveStarted 27 = .ok (.iinc 2 1, 3) := by decide +kernel
theorem dX2_haveStarted_30 : decode cX2_haveStarted 30 = .ok (.goto (-28), 3) := by decide +kernel
theorem dX2_haveStarted_33 : decode cX2_haveStarted 33 = .ok (.iconst 1, 1) := by decide +kernel
theorem dX2_haveStarted_34 : decode cX2_haveStarted 34 = .ok (.ireturn, 1) := by decide +kernel
def f_X2_haveStarted : MX := mth 3 (sQ (sQ (sTi 2 (eI (0))) (sLp (cB c_lt (eLi 2) (eGi (eLa 0) 2 0)) (sQ (sIf (cB c_gt (eAi 0 (eGa (eLa 0) 2 1) (eOp o_iadd (eOp o_imul (eLi 2) (eI (8))) (eI (4)))) (eLi 1)) (sRz (eI (0))) sN) (sInc 2 (1))) NF)) (sRz (eI (1))))
theorem Y_X2_haveStarted : Yk yX2_haveStarted cX2_haveStarted 3 (some .boolean) 1 := ⟨w1068, w4, by decide +kernel, by decide +kernel, by decide +kernel⟩
set_option maxRecDepth 20000 in
theorem k_X2_haveStarted (l : Launch) (g : GE) : MetX l g yX2_haveStarted cX2_haveStarted 3 (some .boolean) 2 ({ frames := 0, cells := 0, slots := 0, locals := 0 } : Room) f_X2_haveStarted := by
  unfold f_X2_haveStarted
  exact MetX.of (own := RX2) 100 0 rfl (by decide +kernel) (by decide) (fun p e s m args below meth c Fin ad0 hr hn => ⟨_, _, Sv_seq (Sv_seq (Sv_istore_n (Ev_iconst dX2_haveStarted_0 (by decide)) dX2_haveStarted_1 rfl (Nat.le_of_ble_eq_true rfl) (Nat.ne_of_beq_eq_false rfl)) (Sv_loop0 NF (Cv_icmp_ge_n (Ev_iload_n dX2_haveStarted_2 rfl) (Ev_getI Fx2 (Ev_aload_n dX2_haveStarted_3 rfl) (k := 0) (by decide) w75 dX2_haveStarted_4) (t := 33) dX2_haveStarted_7 (by decide)) (Sv_goto (pE := 2) (Sv_seq (Sv_if (Cv_icmp_le_n (Ev_iaload (Ev_getA Fx2 (Ev_aload_n dX2_haveStarted_10 rfl) (k := 1) (by decide) w79 dX2_haveStarted_11) (Ev_iadd (Ev_imul (Ev_iload_n dX2_haveStarted_14 rfl) (Ev_bipush dX2_haveStarted_15 (by decide)) dX2_haveStarted_17) (Ev_iconst dX2_haveStarted_18 (by decide)) dX2_haveStarted_19) dX2_haveStarted_20) (Ev_iload_n dX2_haveStarted_21 rfl) (t := 27) dX2_haveStarted_22 (by decide)) (Sv_retz (Ev_iconst dX2_haveStarted_25 (by decide)) hr dX2_haveStarted_26) Sv_nop) (Sv_iinc dX2_haveStarted_27 (by decide) (Nat.le_of_ble_eq_true rfl) (Nat.ne_of_beq_eq_false rfl))) dX2_haveStarted_30 (by decide)))) (Sv_retz (Ev_iconst dX2_haveStarted_33 (by decide)) hr dX2_haveStarted_34), Nat.le_of_ble_eq_true rfl, Nat.le_of_ble_eq_true rfl⟩)
theorem dX2_repeatAfter_0 : decode cX2_repeatAfter 0 = .ok (.iconst 0, 1) := by decide +kernel
theorem dX2_repeatAfter_1 : decode cX2_repeatAfter 1 = .ok (.istore_n 2, 1) := by decide +kernel
theorem dX2_repeatAfter_2 : decode cX2_repeatAfter 2 = .ok (.iload_n 2, 1) := by decide +kernel
theorem dX2_repeatAfter_3 : decode cX2_repeatAfter 3 = .ok (.aload_n 0, 1) := by decide +kernel
theorem dX2_repeatAfter_4 : decode cX2_repeatAfter 4 = .ok (.getfield 15, 3) := by decide +kernel
theorem dX2_repeatAfter_7 : decode cX2_repeatAfter 7 = .ok (.if_icmp .ge 33, 3) := by decide +kernel
theorem dX2_repeatAfter_10 : decode cX2_repeatAfter 10 = .ok (.aload_n 0, 1) := by decide +kernel
theorem dX2_repeatAfter_11 : decode cX2_repeatAfter 11 = .ok (.getfield 11, 3) := by decide +kernel
theorem dX2_repeatAfter_14 : decode cX2_repeatAfter 14 = .ok (.iload_n 2, 1) := by decide +kernel
theorem dX2_repeatAfter_15 : decode cX2_repeatAfter 15 = .ok (.bipush 8, 2) := by decide +kernel
theorem dX2_repeatAfter_17 : decode cX2_repeatAfter 17 = .ok (.imul, 1) := by decide +kernel
theorem dX2_repeatAfter_18 : decode cX2_repeatAfter 18 = .ok (.iconst 5, 1) := by decide +kernel
theorem dX2_repeatAfter_19 : decode cX2_repeatAfter 19 = .ok (.iadd, 1) := by decide +kernel
theorem dX2_repeatAfter_20 : decode cX2_repeatAfter 20 = .ok (.iaload, 1) := by decide +kernel
theorem dX2_repeatAfter_21 : decode cX2_repeatAfter 21 = .ok (.istore_n 3, 1) := by decide +kernel
theorem dX2_repeatAfter_22 : decode cX2_repeatAfter 22 = .ok (.iload_n 3, 1) := by decide +kernel
theorem dX2_repeatAfter_23 : decode cX2_repeatAfter 23 = .ok (.ifCond .le 11, 3) := by decide +kernel
theorem dX2_repeatAfter_26 : decode cX2_repeatAfter 26 = .ok (.iload_n 1, 1) := by decide +kernel
theorem dX2_repeatAfter_27 : decode cX2_repeatAfter 27 = .ok (.iload_n 3, 1) := by decide +kernel
theorem dX2_repeatAfter_28 : decode cX2_repeatAfter 28 = .ok (.irem, 1) := by decide +kernel
theorem dX2_repeatAfter_29 : decode cX2_repeatAfter 29 = .ok (.ifCond .eq 5, 3) := by decide +kernel
theorem dX2_repeatAfter_32 : decode cX2_repeatAfter 32 = .ok (.iconst 0, 1) := by decide +kernel
theorem dX2_repeatAfter_33 : decode cX2_repeatAfter 33 = .ok (.ireturn, 1) := by decide +kernel
theorem dX2_repeatAfter_34 : decode cX2_repeatAfter 34 = .ok (.iinc 2 1, 3) := by decide +kernel
theorem dX2_repeatAfter_37 : decode cX2_repeatAfter 37 = .ok (.goto (-35), 3) := by decide +kernel
theorem dX2_repeatAfter_40 : decode cX2_repeatAfter 40 = .ok (.iconst 1, 1) := by decide +kernel
theorem dX2_repeatAfter_41 : decode cX2_repeatAfter 41 = .ok (.ireturn, 1) := by decide +kernel
def f_X2_repeatAfter : MX := mth 4 (sQ (sQ (sTi 2 (eI (0))) (sLp (cB c_lt (eLi 2) (eGi (eLa 0) 2 0)) (sQ (sQ (sTi 3 (eAi 0 (eGa (eLa 0) 2 1) (eOp o_iadd (eOp o_imul (eLi 2) (eI (8))) (eI (5))))) (sIf (cAnd (cZ z_gt (eLi 3)) (cZ z_ne (eQ o_irem (eLi 1) (eLi 3)))) (sRz (eI (0))) sN)) (sInc 2 (1))) NF)) (sRz (eI (1))))
theorem Y_X2_repeatAfter : Yk yX2_repeatAfter cX2_repeatAfter 4 (some .boolean) 1 := ⟨w1076, w4, by decide +kernel, by decide +kernel, by decide +kernel⟩
set_option maxRecDepth 20000 in
theorem k_X2_repeatAfter (l : Launch) (g : GE) : MetX l g yX2_repeatAfter cX2_repeatAfter 4 (some .boolean) 2 ({ frames := 0, cells := 0, slots := 0, locals := 0 } : Room) f_X2_repeatAfter := by
  unfold f_X2_repeatAfter
  exact MetX.of (own := RX2) 100 0 rfl (by decide +kernel) (by decide) (fun p e s m args below meth c Fin ad0 hr hn => ⟨_, _, Sv_seq (Sv_seq (Sv_istore_n (Ev_iconst dX2_repeatAfter_0 (by decide)) dX2_repeatAfter_1 rfl (Nat.le_of_ble_eq_true rfl) (Nat.ne_of_beq_eq_false rfl)) (Sv_loop0 NF (Cv_icmp_ge_n (Ev_iload_n dX2_repeatAfter_2 rfl) (Ev_getI Fx2 (Ev_aload_n dX2_repeatAfter_3 rfl) (k := 0) (by decide) w75 dX2_repeatAfter_4) (t := 40) dX2_repeatAfter_7 (by decide)) (Sv_goto (pE := 2) (Sv_seq (Sv_seq (Sv_istore_n (Ev_iaload (Ev_getA Fx2 (Ev_aload_n dX2_repeatAfter_10 rfl) (k := 1) (by decide) w79 dX2_repeatAfter_11) (Ev_iadd (Ev_imul (Ev_iload_n dX2_repeatAfter_14 rfl) (Ev_bipush dX2_repeatAfter_15 (by decide)) dX2_repeatAfter_17) (Ev_iconst dX2_repeatAfter_18 (by decide)) dX2_repeatAfter_19) dX2_repeatAfter_20) dX2_repeatAfter_21 rfl (Nat.le_of_ble_eq_true rfl) (Nat.ne_of_beq_eq_false rfl)) (Sv_if (Cv_and (Cv_if_le_n (Ev_iload_n dX2_repeatAfter_22 rfl) (t := 34) dX2_repeatAfter_23 (by decide)) (Cv_if_eq_n (Ev_irem (Ev_iload_n dX2_repeatAfter_26 rfl) (Ev_iload_n dX2_repeatAfter_27 rfl) dX2_repeatAfter_28) (t := 34) dX2_repeatAfter_29 (by decide))) (Sv_retz (Ev_iconst dX2_repeatAfter_32 (by decide)) hr dX2_repeatAfter_33) Sv_nop)) (Sv_iinc dX2_repeatAfter_34 (by decide) (Nat.le_of_ble_eq_true rfl) (Nat.ne_of_beq_eq_false rfl))) dX2_repeatAfter_37 (by decide)))) (Sv_retz (Ev_iconst dX2_repeatAfter_40 (by decide)) hr dX2_repeatAfter_41), Nat.le_of_ble_eq_true rfl, Nat.le_of_ble_eq_true rfl⟩)
theorem dX5_init_0 : decode cX5_init 0 = .ok (.aload_n 0, 1) := by decide +kernel
theorem dX5_init_1 : decode cX5_init 1 = .ok (.invokespecial 3, 3) := by decide +kernel
theorem dX5_init_4 : decode cX5_init 4 = .ok (.aload_n 0, 1) := by decide +kernel
theorem dX5_init_5 : decode cX5_init 5 = .ok (.sipush 768, 3) := by decide +kernel
theorem dX5_init_8 : decode cX5_init 8 = .ok (.newarray .int, 2) := by decide +kernel
theorem dX5_init_10 : decode cX5_init 10 = .ok (.putfield 11, 3) := by decide +kernel
theorem dX5_init_13 : decode cX5_init 13 = .ok (.return_, 1) := by decide +kernel
def f_X5_init : MX := mth 1 (sQ (sO) (sQ (sPa (eLa 0) 5 2 (eNi 0 768)) (sQ (sN) (sRv))))
theorem Y_X5_init : Yk yX5_init cX5_init 1 none 0 := ⟨w91, w5, by decide +kernel, by decide +kernel, by decide +kernel⟩
set_option maxRecDepth 20000 in
theorem k_X5_init (l : Launch) (g : GE) : MetX l g yX5_init cX5_init 1 none 1 ({ frames := 1, cells := 1, slots := 768, locals := 12 } : Room) f_X5_init := by
  unfold f_X5_init
  exact MetX.of (own := RX5) 100 0 rfl (by decide +kernel) (by decide) (fun p e s m args below meth c Fin ad0 hr hn => ⟨_, _, Sv_seq (Sv_oinit w92 w30 wOc dX5_init_0 dX5_init_1 (Nat.le_of_ble_eq_true rfl) (Nat.le_of_ble_eq_true rfl)) (Sv_seq (Sv_putA Fx5 (Ev_aload_n dX5_init_4 rfl) (Ev_newa_int (N := 768) (v := 768) (Ev_sipush dX5_init_5 (by decide)) (by decide) (by decide +kernel) (by decide) w68 dX5_init_8) (k := 2) (by decide) rfl rfl hn rfl w96 dX5_init_10) (Sv_seq (Sv_nop) (Sv_retv hr dX5_init_13))), Nat.le_of_ble_eq_true rfl, Nat.le_of_ble_eq_true rfl⟩)
theorem dX5_forget_0 : decode cX5_forget 0 = .ok (.aload_n 0, 1) := by decide +kernel
theorem dX5_forget_1 : decode cX5_forget 1 = .ok (.iconst 0, 1) := by decide +kernel
theorem dX5_forget_2 : decode cX5_forget 2 = .ok (.putfield 15, 3) := by decide +kernel
theorem dX5_forget_5 : decode cX5_forget 5 = .ok (.return_, 1) := by decide +kernel
def f_X5_forget : MX := mth 1 (sQ (sPi (eLa 0) 5 0 (eI (0))) (sRv))
theorem Y_X5_forget : Yk yX5_forget cX5_forget 1 none 0 := ⟨w262, w5, by decide +kernel, by decide +kernel, by decide +kernel⟩
set_option maxRecDepth 20000 in
theorem k_X5_forget (l : Launch) (g : GE) : MetX l g yX5_forget cX5_forget 1 none 1 ({ frames := 0, cells := 0, slots := 0, locals := 0 } : Room) f_X5_forget := by
  unfold f_X5_forget
  exact MetX.of (own := RX5) 100 0 rfl (by decide +kernel) (by decide) (fun p e s m args below meth c Fin ad0 hr hn => ⟨_, _, Sv_seq (Sv_putI Fx5 (Ev_aload_n dX5_forget_0 rfl) (Ev_iconst dX5_forget_1 (by decide)) (k := 0) (by decide) rfl rfl w93 dX5_forget_2) (Sv_retv hr dX5_forget_5), Nat.le_of_ble_eq_true rfl, Nat.le_of_ble_eq_true rfl⟩)
theorem dX5_copyFrom_0 : decode cX5_copyFrom 0 = .ok (.aload_n 0, 1) := by decide +kernel
theorem dX5_copyFrom_1 : decode cX5_copyFrom 1 = .ok (.aload_n 1, 1) := by decide +kernel
theorem dX5_copyFrom_2 : decode cX5_copyFrom 2 = .ok (.getfield 15, 3) := by decide +kernel
theorem dX5_copyFrom_5 : decode cX5_copyFrom 5 = .ok (.putfield 15, 3) := by decide +kernel
theorem dX5_copyFrom_8 : decode cX5_copyFrom 8 = .ok (.aload_n 0, 1) := by decide +kernel
theorem dX5_copyFrom_9 : decode cX5_copyFrom 9 = .ok (.aload_n 1, 1) := by decide +kernel
theorem dX5_copyFrom_10 : decode cX5_copyFrom 10 = .ok (.getfield 19, 3) := by decide +kernel
theorem dX5_copyFrom_13 : decode cX5_copyFrom 13 = .ok (.putfield 19, 3) := by decide +kernel
theorem dX5_copyFrom_16 : decode cX5_copyFrom 16 = .ok (.aload_n 1, 1) := by decide +kernel
theorem dX5_copyFrom_17 : decode cX5_copyFrom 17 = .ok (.getfield 11, 3) := by decide +kernel
theorem dX5_copyFrom_20 : decode cX5_copyFrom 20 = .ok (.iconst 0, 1) := by decide +kernel
theorem dX5_copyFrom_21 : decode cX5_copyFrom 21 = .ok (.aload_n 0, 1) := by decide +kernel
theorem dX5_copyFrom_22 : decode cX5_copyFrom 22 = .ok (.getfield 11, 3) := by decide +kernel
theorem dX5_copyFrom_25 : decode cX5_copyFrom 25 = .ok (.iconst 0, 1) := by decide +kernel
theorem dX5_copyFrom_26 : decode cX5_copyFrom 26 = .ok (.aload_n 0, 1) := by decide +kernel
theorem dX5_copyFrom_27 : decode cX5_copyFrom 27 = .ok (.getfield 11, 3) := by decide +kernel
theorem dX5_copyFrom_30 : decode cX5_copyFrom 30 = .ok (.arraylength, 1) := by decide +kernel
theorem dX5_copyFrom_31 : decode cX5_copyFrom 31 = .ok (.invokestatic 22, 3) := by decide +kernel
theorem dX5_copyFrom_34 : decode cX5_copyFrom 34 = .ok (.return_, 1) := by decide +kernel
def f_X5_copyFrom : MX := mth 2 (sQ (sQ (sPi (eLa 0) 5 0 (eGi (eLa 1) 5 0)) (sQ (sPi (eLa 0) 5 1 (eGi (eLa 1) 5 1)) (sM cpy (aI (aI (aA (aI (aA (aN) (eGa (eLa 1) 5 2)) (eI (0))) (eGa (eLa 0) 5 2)) (eI (0))) (eAn (eGa (eLa 0) 5 2)))))) (sRv))
theorem Y_X5_copyFrom : Yk yX5_copyFrom cX5_copyFrom 2 none 1 := ⟨w537, w5, by decide +kernel, by decide +kernel, by decide +kernel⟩
set_option maxRecDepth 20000 in
theorem k_X5_copyFrom (l : Launch) (g : GE) : MetX l g yX5_copyFrom cX5_copyFrom 2 none 2 ({ frames := 1, cells := 0, slots := 0, locals := 40 } : Room) f_X5_copyFrom := by
  unfold f_X5_copyFrom
  exact MetX.of (own := RX5) 100 0 rfl (by decide +kernel) (by decide) (fun p e s m args below meth c Fin ad0 hr hn => ⟨_, _, Sv_seq (Sv_seq (Sv_putI Fx5 (Ev_aload_n dX5_copyFrom_0 rfl) (Ev_getI Fx5 (Ev_aload_n dX5_copyFrom_1 rfl) (k := 0) (by decide) w93 dX5_copyFrom_2) (k := 0) (by decide) rfl rfl w93 dX5_copyFrom_5) (Sv_seq (Sv_putI Fx5 (Ev_aload_n dX5_copyFrom_8 rfl) (Ev_getI Fx5 (Ev_aload_n dX5_copyFrom_9 rfl) (k := 1) (by decide) w95 dX5_copyFrom_10) (k := 1) (by decide) rfl rfl w95 dX5_copyFrom_13) (Sv_copy (Av_i (Av_i (Av_a (Av_i (Av_a (Av_nil) (Ev_getA Fx5 (Ev_aload_n dX5_copyFrom_16 rfl) (k := 2) (by decide) w96 dX5_copyFrom_17)) (Ev_iconst dX5_copyFrom_20 (by decide))) (Ev_getA Fx5 (Ev_aload_n dX5_copyFrom_21 rfl) (k := 2) (by decide) w96 dX5_copyFrom_22)) (Ev_iconst dX5_copyFrom_25 (by decide))) (Ev_alen (Ev_getA Fx5 (Ev_aload_n dX5_copyFrom_26 rfl) (k := 2) (by decide) w96 dX5_copyFrom_27) dX5_copyFrom_30)) w538 w383 w382 w15 dX5_copyFrom_31 (Nat.le_of_ble_eq_true rfl) (Nat.le_of_ble_eq_true rfl)))) (Sv_retv hr dX5_copyFrom_34), Nat.le_of_ble_eq_true rfl, Nat.le_of_ble_eq_true rfl⟩)
theorem dX5_add_0 : decode cX5_add 0 = .ok (.aload_n 0, 1) := by decide +kernel
theorem dX5_add_1 : decode cX5_add 1 = .ok (.aload_n 0, 1) := by decide +kernel
theorem dX5_add_2 : decode cX5_add 2 = .ok (.getfield 19, 3) := by decide +kernel
theorem dX5_add_5 : decode cX5_add 5 = .ok (.iconst 1, 1) := by decide +kernel
theorem dX5_add_6 : decode cX5_add 6 = .ok (.iadd, 1) := by decide +kernel
theorem dX5_add_7 : decode cX5_add 7 = .ok (.bipush 64, 2) := by decide +kernel
theorem dX5_add_9 : decode cX5_add 9 = .ok (.irem, 1) := by decide +kernel
theorem dX5_add_10 : decode cX5_add 10 = .ok (.putfield 19, 3) := by decide +kernel
theorem dX5_add_13 : decode cX5_add 13 = .ok (.aload_n 1, 1) := by decide +kernel
theorem dX5_add_14 : decode cX5_add 14 = .ok (.iconst 0, 1) := by decide +kernel
theorem dX5_add_15 : decode cX5_add 15 = .ok (.aload_n 0, 1) := by decide +kernel
theorem dX5_add_16 : decode cX5_add 16 = .ok (.getfield 11, 3) := by decide +kernel
theorem dX5_add_19 : decode cX5_add 19 = .ok (.aload_n 0, 1) := by decide +kernel
theorem dX5_add_20 : decode cX5_add 20 = .ok (.getfield 19, 3) := by decide +kernel
theorem dX5_add_23 : decode cX5_add 23 = .ok (.bipush 12, 2) := by decide +kernel
theorem dX5_add_25 : decode cX5_add 25 = .ok (.imul, 1) := by decide +kernel
theorem dX5_add_26 : decode cX5_add 26 = .ok (.bipush 12, 2) := by decide +kernel
theorem dX5_add_28 : decode cX5_add 28 = .ok (.invokestatic 22, 3) := by decide +kernel
theorem dX5_add_31 : decode cX5_add 31 = .ok (.aload_n 0, 1) := by decide +kernel
theorem dX5_add_32 : decode cX5_add 32 = .ok (.getfield 15, 3) := by decide +kernel
theorem dX5_add_35 : decode cX5_add 35 = .ok (.bipush 64, 2) := by decide +kernel
theorem dX5_add_37 : decode cX5_add 37 = .ok (.if_icmp .ge 13, 3) := by decide +kernel
theorem dX5_add_40 : decode cX5_add 40 = .ok (.aload_n 0, 1) := by decide +kernel
theorem dX5_add_41 : decode cX5_add 41 = .ok (.dup, 1) := by decide +kernel
theorem dX5_add_42 : decode cX5_add 42 = .ok (.getfield 15, 3) := by decide +kernel
theorem dX5_add_45 : decode cX5_add 45 = .ok (.iconst 1, 1) := by decide +kernel
theorem dX5_add_46 : decode cX5_add 46 = .ok (.iadd, 1) := by decide +kernel
theorem dX5_add_47 : decode cX5_add 47 = .ok (.putfield 15, 3) := by decide +kernel
theorem dX5_add_50 : decode cX5_add 50 = .ok (.return_, 1) := by decide +kernel
def f_X5_add : MX := mth 2 (sQ (sQ (sPi (eLa 0) 5 1 (eQ o_irem (eOp o_iadd (eGi (eLa 0) 5 1) (eI (1))) (eI (64)))) (sQ (sM cpy (aI (aI (aA (aI (aA (aN) (eLa 1)) (eI (0))) (eGa (eLa 0) 5 2)) (eOp o_imul (eGi (eLa 0) 5 1) (eI (12)))) (eI (12)))) (sIf (cB c_lt (eGi (eLa 0) 5 0) (eI (64))) (sPo (eLa 0) 5 0 o_iadd (eI (1))) sN))) (sRv))
theorem Y_X5_add : Yk yX5_add cX5_add 2 none 1 := ⟨w900, w5, by decide +kernel, by decide +kernel, by decide +kernel⟩
set_option maxRecDepth 20000 in
theorem k_X5_add (l : Launch) (g : GE) : MetX l g yX5_add cX5_add 2 none 2 ({ frames := 1, cells := 0, slots := 0, locals := 40 } : Room) f_X5_add := by
  unfold f_X5_add
  exact MetX.of (own := RX5) 100 0 rfl (by decide +kernel) (by decide) (fun p e s m args below meth c Fin ad0 hr hn => ⟨_, _, Sv_seq (Sv_seq (Sv_putI Fx5 (Ev_aload_n dX5_add_0 rfl) (Ev_irem (Ev_iadd (Ev_getI Fx5 (Ev_aload_n dX5_add_1 rfl) (k := 1) (by decide) w95 dX5_add_2) (Ev_iconst dX5_add_5 (by decide)) dX5_add_6) (Ev_bipush dX5_add_7 (by decide)) dX5_add_9) (k := 1) (by decide) rfl rfl w95 dX5_add_10) (Sv_seq (Sv_copy (Av_i (Av_i (Av_a (Av_i (Av_a (Av_nil) (Ev_aload_n dX5_add_13 rfl)) (Ev_iconst dX5_add_14 (by decide))) (Ev_getA Fx5 (Ev_aload_n dX5_add_15 rfl) (k := 2) (by decide) w96 dX5_add_16)) (Ev_imul (Ev_getI Fx5 (Ev_aload_n dX5_add_19 rfl) (k := 1) (by decide) w95 dX5_add_20) (Ev_bipush dX5_add_23 (by decide)) dX5_add_25)) (Ev_bipush dX5_add_26 (by decide))) w538 w383 w382 w15 dX5_add_28 (Nat.le_of_ble_eq_true rfl) (Nat.le_of_ble_eq_true rfl)) (Sv_if (Cv_icmp_ge_n (Ev_getI Fx5 (Ev_aload_n dX5_add_31 rfl) (k := 0) (by decide) w93 dX5_add_32) (Ev_bipush dX5_add_35 (by decide)) (t := 50) dX5_add_37 (by decide)) (Sv_fop_iadd (idx2 := 0) Fx5 (Ev_aload_n dX5_add_40 rfl) dX5_add_41 dX5_add_42 (Ev_iconst dX5_add_45 (by decide)) dX5_add_46 (k := 0) (by decide) rfl rfl w93 dX5_add_47) Sv_nop))) (Sv_retv hr dX5_add_50), Nat.le_of_ble_eq_true rfl, Nat.le_of_ble_eq_true rfl⟩)
theorem dX5_removeLatest_0 : decode cX5_removeLatest 0 = .ok (.aload_n 0, 1) := by decide +kernel
theorem dX5_removeLatest_1 : decode cX5_removeLatest 1 = .ok (.getfield 15, 3) := by decide +kernel
theorem dX5_removeLatest_4 : decode cX5_removeLatest 4 = .ok (.ifCond .le 29, 3) := by decide +kernel
theorem dX5_removeLatest_7 : decode cX5_removeLatest 7 = .ok (.aload_n 0, 1) := by decide +kernel
theorem dX5_removeLatest_8 : decode cX5_removeLatest 8 = .ok (.aload_n 0, 1) := by decide +kernel
theorem dX5_removeLatest_9 : decode cX5_removeLatest 9 = .ok (.getfield 19, 3) := by decide +kernel
theorem dX5_removeLatest_12 : decode cX5_removeLatest 12 = .ok (.bipush 64, 2) := by decide +kernel
theorem dX5_removeLatest_14 : decode cX5_removeLatest 14 = .ok (.iadd, 1) := by decide +kernel
theorem dX5_removeLatest_15 : decode cX5_removeLatest 15 = .ok (.iconst 1, 1) := by decide +kernel
theorem dX5_removeLatest_16 : decode cX5_removeLatest 16 = .ok (.isub, 1) := by decide +kernel
theorem dX5_removeLatest_17 : decode cX5_removeLatest 17 = .ok (.bipush 64, 2) := by decide +kernel
theorem dX5_removeLatest_19 : decode cX5_removeLatest 19 = .ok (.irem, 1) := by decide +kernel
theorem dX5_removeLatest_20 : decode cX5_removeLatest 20 = .ok (.putfield 19, 3) := by decide +kernel
theorem dX5_removeLatest_23 : decode cX5_removeLatest 23 = .ok (.aload_n 0, 1) := by decide +kernel
theorem dX5_removeLatest_24 : decode cX5_removeLatest 24 = .ok (.dup, 1) := by decide +kernel
theorem dX5_removeLatest_25 : decode cX5_removeLatest 25 = .ok (.getfield 15, 3) := by decide +kernel
theorem dX5_removeLatest_28 : decode cX5_removeLatest 28 = .ok (.iconst 1, 1) := by decide +kernel
theorem dX5_removeLatest_29 : decode cX5_removeLatest 29 = .ok (.isub, 1) := by decide +kernel
theorem dX5_removeLatest_30 : decode cX5_removeLatest 30 = .ok (.putfield 15, 3) := by decide +kernel
theorem dX5_removeLatest_33 : decode cX5_removeLatest 33 = .ok (.return_, 1) := by decide +kernel
def f_X5_removeLatest : MX := mth 1 (sQ (sIf (cZ z_gt (eGi (eLa 0) 5 0)) (sQ (sPi (eLa 0) 5 1 (eQ o_irem (eOp o_isub (eOp o_iadd (eGi (eLa 0) 5 1) (eI (64))) (eI (1))) (eI (64)))) (sPo (eLa 0) 5 0 o_isub (eI (1)))) sN) (sRv))
theorem Y_X5_removeLatest : Yk yX5_removeLatest cX5_removeLatest 1 none 0 := ⟨w922, w5, by decide +kernel, by decide +kernel, by decide +kernel⟩
set_option maxRecDepth 20000 in
theorem k_X5_removeLatest (l : Launch) (g : GE) : MetX l g yX5_removeLatest cX5_removeLatest 1 none 1 ({ frames := 0, cells := 0, slots := 0, locals := 0 } : Room) f_X5_removeLatest := by
  unfold f_X5_removeLatest
  exact MetX.of (own := RX5) 100 0 rfl (by decide +kernel) (by decide) (fun p e s m args below meth c Fin ad0 hr hn => ⟨_, _, Sv_seq (Sv_if (Cv_if_le_n (Ev_getI Fx5 (Ev_aload_n dX5_removeLatest_0 rfl) (k := 0) (by decide) w93 dX5_removeLatest_1) (t := 33) dX5_removeLatest_4 (by decide)) (Sv_seq (Sv_putI Fx5 (Ev_aload_n dX5_removeLatest_7 rfl) (Ev_irem (Ev_isub (Ev_iadd (Ev_getI Fx5 (Ev_aload_n dX5_removeLatest_8 rfl) (k := 1) (by decide) w95 dX5_removeLatest_9) (Ev_bipush dX5_removeLatest_12 (by decide)) dX5_removeLatest_14) (Ev_iconst dX5_removeLatest_15 (by decide)) dX5_removeLatest_16) (Ev_bipush dX5_removeLatest_17 (by decide)) dX5_removeLatest_19) (k := 1) (by decide) rfl rfl w95 dX5_removeLatest_20) (Sv_fop_isub (idx2 := 0) Fx5 (Ev_aload_n dX5_removeLatest_23 rfl) dX5_removeLatest_24 dX5_removeLatest_25 (Ev_iconst dX5_removeLatest_28 (by decide)) dX5_removeLatest_29 (k := 0) (by decide) rfl rfl w93 dX5_removeLatest_30)) Sv_nop) (Sv_retv hr dX5_removeLatest_33), Nat.le_of_ble_eq_true rfl, Nat.le_of_ble_eq_true rfl⟩)
theorem dX5_sumOf_0 : decode cX5_sumOf 0 = .ok (.iconst 0, 1) := by decide +kernel
theorem dX5_sumOf_1 : decode cX5_sumOf 1 = .ok (.istore 5, 2) := by decide +kernel
theorem dX5_sumOf_3 : decode cX5_sumOf 3 = .ok (.iload_n 3, 1) := by decide +kernel
theorem dX5_sumOf_4 : decode cX5_sumOf 4 = .ok (.istore 6, 2) := by decide +kernel
theorem dX5_sumOf_6 : decode cX5_sumOf 6 = .ok (.iload 6, 2) := by decide +kernel
theorem dX5_sumOf_8 : decode cX5_sumOf 8 = .ok (.iload_n 3, 1) := by decide +kernel
theorem dX5_sumOf_9 : decode cX5_sumOf 9 = .ok (.iload 4, 2) := by decide +kernel
theorem dX5_sumOf_11 : decode cX5_sumOf 11 = .ok (.iadd, 1) := by decide +kernel
theorem dX5_sumOf_12 : decode cX5_sumOf 12 = .ok (.if_icmp .ge 54, 3) := by decide +kernel
theorem dX5_sumOf_15 : decode cX5_sumOf 15 = .ok (.iload 6, 2) := by decide +kernel
theorem dX5_sumOf_17 : decode cX5_sumOf 17 = .ok (.aload_n 0, 1) := by decide +kernel
theorem dX5_sumOf_18 : decode cX5_sumOf 18 = .ok (.getfield 15, 3) := by decide +kernel
theorem dX5_sumOf_21 : decode cX5_sumOf 21 = .ok (.if_icmp .ge 45, 3) := by decide +kernel
theorem dX5_sumOf_24 : decode cX5_sumOf 24 = .ok (.aload_n 0, 1) := by decide +kernel
theorem dX5_sumOf_25 : decode cX5_sumOf 25 = .ok (.getfield 19, 3) := by decide +kernel
theorem dX5_sumOf_28 : decode cX5_sumOf 28 = .ok (.bipush 64, 2) := by decide +kernel
theorem dX5_sumOf_30 : decode cX5_sumOf 30 = .ok (.iadd, 1) := by decide +kernel
theorem dX5_sumOf_31 : decode cX5_sumOf 31 = .ok (.iload 6, 2) := by decide +kernel
theorem dX5_sumOf_33 : decode cX5_sumOf 33 = .ok (.isub, 1) := by decide +kernel
theorem dX5_sumOf_34 : decode cX5_sumOf 34 = .ok (.bipush 64, 2) := by decide +kernel
theorem dX5_sumOf_36 : decode cX5_sumOf 36 = .ok (.irem, 1) := by decide +kernel
theorem dX5_sumOf_37 : decode cX5_sumOf 37 = .ok (.istore 7, 2) := by decide +kernel
theorem dX5_sumOf_39 : decode cX5_sumOf 39 = .ok (.iload 5, 2) := by decide +kernel
theorem dX5_sumOf_41 : decode cX5_sumOf 41 = .ok (.aload_n 0, 1) := by decide +kernel
theorem dX5_sumOf_42 : decode cX5_sumOf 42 = .ok (.getfield 11, 3) := by decide +kernel
theorem dX5_sumOf_45 : decode cX5_sumOf 45 = .ok (.iload 7, 2) := by decide +kernel
theorem dX5_sumOf_47 : decode cX5_sumOf 47 = .ok (.bipush 12, 2) := by decide +kernel
theorem dX5_sumOf_49 : decode cX5_sumOf 49 = .ok (.imul, 1) := by decide +kernel
theorem dX5_sumOf_50 : decode cX5_sumOf 50 = .ok (.iload_n 1, 1) := by decide +kernel
theorem dX5_sumOf_51 : decode cX5_sumOf 51 = .ok (.iconst 2, 1) := by decide +kernel
theorem dX5_sumOf_52 : decode cX5_sumOf 52 = .ok (.imul, 1) := by decide +kernel
theorem dX5_sumOf_53 : decode cX5_sumOf 53 = .ok (.iadd, 1) := by decide +kernel
theorem dX5_sumOf_54 : decode cX5_sumOf 54 = .ok (.iload_n 2, 1) := by decide +kernel
theorem dX5_sumOf_55 : decode cX5_sumOf 55 = .ok (.iadd, 1) := by decide +kernel
theorem dX5_sumOf_56 : decode cX5_sumOf 56 = .ok (.iaload, 1) := by decide +kernel
theorem dX5_sumOf_57 : decode cX5_sumOf 57 = .ok (.iadd, 1) := by decide +kernel
theorem dX5_sumOf_58 : decode cX5_sumOf 58 = .ok (.istore 5, 2) := by decide +kernel
theorem dX5_sumOf_60 : decode cX5_sumOf 60 = .ok (.iinc 6 1, 3) := by decide +kernel
theorem dX5_sumOf_63 : decode cX5_sumOf 63 = .ok (.goto (-57), 3) := by decide +kernel
theorem dX5_sumOf_66 : decode cX5_sumOf 66 = .ok (.iload 5, 2) := by decide +kernel
theorem dX5_sumOf_68 : decode cX5_sumOf 68 = .ok (.ireturn, 1) := by decide +kernel
def f_X5_sumOf : MX := mth 8 (sQ (sTi 5 (eI (0))) (sQ (sQ (sTi 6 (eLi 3)) (sLp (cAnd (cB c_lt (eLi 6) (eOp o_iadd (eLi 3) (eLi 4))) (cB c_lt (eLi 6) (eGi (eLa 0) 5 0))) (sQ (sQ (sTi 7 (eQ o_irem (eOp o_isub (eOp o_iadd (eGi (eLa 0) 5 1) (eI (64))) (eLi 6)) (eI (64)))) (sTi 5 (eOp o_iadd (eLi 5) (eAi 0 (eGa (eLa 0) 5 2) (eOp o_iadd (eOp o_iadd (eOp o_imul (eLi 7) (eI (12))) (eOp o_imul (eLi 1) (eI (2)))) (eLi 2)))))) (sInc 6 (1))) NF)) (sR (eLi 5))))
theorem Y_X5_sumOf : Yk yX5_sumOf cX5_sumOf 8 (some .int) 4 := ⟨w1001, w5, by decide +kernel, by decide +kernel, by decide +kernel⟩
set_option maxRecDepth 20000 in
theorem k_X5_sumOf (l : Launch) (g : GE) : MetX l g yX5_sumOf cX5_sumOf 8 (some .int) 5 ({ frames := 0, cells := 0, slots := 0, locals := 0 } : Room) f_X5_sumOf := by
  unfold f_X5_sumOf
  exact MetX.of (own := RX5) 100 0 rfl (by decide +kernel) (by decide) (fun p e s m args below meth c Fin ad0 hr hn => ⟨_, _, Sv_seq (Sv_istore (Ev_iconst dX5_sumOf_0 (by decide)) dX5_sumOf_1 (Nat.le_of_ble_eq_true rfl) (Nat.ne_of_beq_eq_false rfl)) (Sv_seq (Sv_seq (Sv_istore (Ev_iload_n dX5_sumOf_3 rfl) dX5_sumOf_4 (Nat.le_of_ble_eq_true rfl) (Nat.ne_of_beq_eq_false rfl)) (Sv_loop0 NF (Cv_and (Cv_icmp_ge_n (Ev_iload dX5_sumOf_6) (Ev_iadd (Ev_iload_n dX5_sumOf_8 rfl) (Ev_iload dX5_sumOf_9) dX5_sumOf_11) (t := 66) dX5_sumOf_12 (by decide)) (Cv_icmp_ge_n (Ev_iload dX5_sumOf_15) (Ev_getI Fx5 (Ev_aload_n dX5_sumOf_17 rfl) (k := 0) (by decide) w93 dX5_sumOf_18) (t := 66) dX5_sumOf_21 (by decide))) (Sv_goto (pE := 6) (Sv_seq (Sv_seq (Sv_istore (Ev_irem (Ev_isub (Ev_iadd (Ev_getI Fx5 (Ev_aload_n dX5_sumOf_24 rfl) (k := 1) (by decide) w95 dX5_sumOf_25) (Ev_bipush dX5_sumOf_28 (by decide)) dX5_sumOf_30) (Ev_iload dX5_sumOf_31) dX5_sumOf_33) (Ev_bipush dX5_sumOf_34 (by decide)) dX5_sumOf_36) dX5_sumOf_37 (Nat.le_of_ble_eq_true rfl) (Nat.ne_of_beq_eq_false rfl)) (Sv_istore (Ev_iadd (Ev_iload dX5_sumOf_39) (Ev_iaload (Ev_getA Fx5 (Ev_aload_n dX5_sumOf_41 rfl) (k := 2) (by decide) w96 dX5_sumOf_42) (Ev_iadd (Ev_iadd (Ev_imul (Ev_iload dX5_sumOf_45) (Ev_bipush dX5_sumOf_47 (by decide)) dX5_sumOf_49) (Ev_imul (Ev_iload_n dX5_sumOf_50 rfl) (Ev_iconst dX5_sumOf_51 (by decide)) dX5_sumOf_52) dX5_sumOf_53) (Ev_iload_n dX5_sumOf_54 rfl) dX5_sumOf_55) dX5_sumOf_56) dX5_sumOf_57) dX5_sumOf_58 (Nat.le_of_ble_eq_true rfl) (Nat.ne_of_beq_eq_false rfl))) (Sv_iinc dX5_sumOf_60 (by decide) (Nat.le_of_ble_eq_true rfl) (Nat.ne_of_beq_eq_false rfl))) dX5_sumOf_63 (by decide)))) (Sv_ret (Ev_iload dX5_sumOf_66) hr dX5_sumOf_68)), Nat.le_of_ble_eq_true rfl, Nat.le_of_ble_eq_true rfl⟩)
theorem dX5_isSteady_0 : decode cX5_isSteady 0 = .ok (.aload_n 0, 1) := by decide +kernel
theorem dX5_isSteady_1 : decode cX5_isSteady 1 = .ok (.getfield 15, 3) := by decide +kernel
theorem dX5_isSteady_4 : decode cX5_isSteady 4 = .ok (.iconst 2, 1) := by decide +kernel
theorem dX5_isSteady_5 : decode cX5_isSteady 5 = .ok (.iload_n 2, 1) := by decide +kernel
theorem dX5_isSteady_6 : decode cX5_isSteady 6 = .ok (.imul, 1) := by decide +kernel
theorem dX5_isSteady_7 : decode cX5_isSteady 7 = .ok (.if_icmp .ge 5, 3) := by decide +kernel
theorem dX5_isSteady_10 : decode cX5_isSteady 10 = .ok (.iconst 0, 1) := by decide +kernel
theorem dX5_isSteady_11 : decode cX5_isSteady 11 = .ok (.ireturn, 1) := by decide +kernel
theorem dX5_isSteady_12 : decode cX5_isSteady 12 = .ok (.iconst 0, 1) := by decide +kernel
theorem dX5_isSteady_13 : decode cX5_isSteady 13 = .ok (.istore 4, 2) := by decide +kernel
theorem dX5_isSteady_15 : decode cX5_isSteady 15 = .ok (.iload 4, 2) := by decide +kernel
theorem dX5_isSteady_17 : decode cX5_isSteady 17 = .ok (.iconst 2, 1) := by decide +kernel
theorem dX5_isSteady_18 : decode cX5_isSteady 18 = .ok (.if_icmp .ge 41, 3) := by decide +kernel
theorem dX5_isSteady_21 : decode cX5_isSteady 21 = .ok (.aload_n 0, 1) := by decide +kernel
theorem dX5_isSteady_22 : decode cX5_isSteady 22 = .ok (.iload_n 1, 1) := by decide +kernel
theorem dX5_isSteady_23 : decode cX5_isSteady 23 = .ok (.iload 4, 2) := by decide +kernel
theorem dX5_isSteady_25 : decode cX5_isSteady 25 = .ok (.iconst 0, 1) := by decide +kernel
theorem dX5_isSteady_26 : decode cX5_isSteady 26 = .ok (.iload_n 2, 1) := by decide +kernel
theorem dX5_isSteady_27 : decode cX5_isSteady 27 = .ok (.invokevirtual 28, 3) := by decide +kernel
theorem dX5_isSteady_30 : decode cX5_isSteady 30 = .ok (.aload_n 0, 1) := by decide +kernel
theorem dX5_isSteady_31 : decode cX5_isSteady 31 = .ok (.iload_n 1, 1) := by decide +kernel
theorem dX5_isSteady_32 : decode cX5_isSteady 32 = .ok (.iload 4, 2) := by decide +kernel
theorem dX5_isSteady_34 : decode cX5_isSteady 34 = .ok (.iload_n 2, 1) := by decide +kernel
theorem dX5_isSteady_35 : decode cX5_isSteady 35 = .ok (.iload_n 2, 1) := by decide +kernel
theorem dX5_isSteady_36 : decode cX5_isSteady 36 = .ok (.invokevirtual 28, 3) := by decide +kernel
theorem dX5_isSteady_39 : decode cX5_isSteady 39 = .ok (.isub, 1) := by decide +kernel
theorem dX5_isSteady_40 : decode cX5_isSteady 40 = .ok (.istore 5, 2) := by decide +kernel
theorem dX5_isSteady_42 : decode cX5_isSteady 42 = .ok (.iload 5, 2) := by decide +kernel
theorem dX5_isSteady_44 : decode cX5_isSteady 44 = .ok (.invokestatic 32, 3) := by decide +kernel
theorem dX5_isSteady_47 : decode cX5_isSteady 47 = .ok (.iload_n 3, 1) := by decide +kernel
theorem dX5_isSteady_48 : decode cX5_isSteady 48 = .ok (.if_icmp .le 5, 3) := by decide +kernel
theorem dX5_isSteady_51 : decode cX5_isSteady 51 = .ok (.iconst 0, 1) := by decide +kernel
theorem dX5_isSteady_52 : decode cX5_isSteady 52 = .ok (.ireturn, 1) := by decide +kernel
theorem dX5_isSteady_53 : decode cX5_isSteady 53 = .ok (.iinc 4 1, 3) := by decide +kernel
theorem dX5_isSteady_56 : decode cX5_isSteady 56 = .ok (.goto (-41), 3) := by decide +kernel
theorem dX5_isSteady_59 : decode cX5_isSteady 59 = .ok (.iconst 1, 1) := by decide +kernel
theorem dX5_isSteady_60 : decode cX5_isSteady 60 = .ok (.ireturn, 1) := by decide +kernel
def f_X5_isSteady : MX := mth 6 (sQ (sIf (cB c_lt (eGi (eLa 0) 5 0) (eOp o_imul (eI (2)) (eLi 2))) (sRz (eI (0))) sN) (sQ (sQ (sTi 4 (eI (0))) (sLp (cB c_lt (eLi 4) (eI (2))) (sQ (sQ (sTi 5 (eOp o_isub (eM (gd 5 f_X5_sumOf) (aI (aI (aI (aI (aA (aN) (eLa 0)) (eLi 1)) (eLi 4)) (eI (0))) (eLi 2))) (eM (gd 5 f_X5_sumOf) (aI (aI (aI (aI (aA (aN) (eLa 0)) (eLi 1)) (eLi 4)) (eLi 2)) (eLi 2))))) (sIf (cB c_gt (eU o_abs (eLi 5)) (eLi 3)) (sRz (eI (0))) sN)) (sInc 4 (1))) NF)) (sRz (eI (1)))))
theorem Y_X5_isSteady : Yk yX5_isSteady cX5_isSteady 6 (some .boolean) 3 := ⟨w1012, w5, by decide +kernel, by decide +kernel, by decide +kernel⟩
set_option maxRecDepth 20000 in
theorem k_X5_isSteady (l : Launch) (g : GE) : MetX l g yX5_isSteady cX5_isSteady 6 (some .boolean) 4 ({ frames := 1, cells := 0, slots := 0, locals := 27 } : Room) f_X5_isSteady := by
  unfold f_X5_isSteady
  exact MetX.of (own := RX5) 100 0 rfl (by decide +kernel) (by decide) (fun p e s m args below meth c Fin ad0 hr hn => ⟨_, _, Sv_seq (Sv_if (Cv_icmp_ge_n (Ev_getI Fx5 (Ev_aload_n dX5_isSteady_0 rfl) (k := 0) (by decide) w93 dX5_isSteady_1) (Ev_imul (Ev_iconst dX5_isSteady_4 (by decide)) (Ev_iload_n dX5_isSteady_5 rfl) dX5_isSteady_6) (t := 12) dX5_isSteady_7 (by decide)) (Sv_retz (Ev_iconst dX5_isSteady_10 (by decide)) hr dX5_isSteady_11) Sv_nop) (Sv_seq (Sv_seq (Sv_istore (Ev_iconst dX5_isSteady_12 (by decide)) dX5_isSteady_13 (Nat.le_of_ble_eq_true rfl) (Nat.ne_of_beq_eq_false rfl)) (Sv_loop0 NF (Cv_icmp_ge_n (Ev_iload dX5_isSteady_15) (Ev_iconst dX5_isSteady_17 (by decide)) (t := 59) dX5_isSteady_18 (by decide)) (Sv_goto (pE := 15) (Sv_seq (Sv_seq (Sv_istore (Ev_isub (Ev_call (Av_i (Av_i (Av_i (Av_i (Av_a (Av_nil) (Ev_aload_n dX5_isSteady_21 rfl)) (Ev_iload_n dX5_isSteady_22 rfl)) (Ev_iload dX5_isSteady_23)) (Ev_iconst dX5_isSteady_25 (by decide))) (Ev_iload_n dX5_isSteady_26 rfl)) (Rn_V (ci := 5) Fx5.1 rfl Y_X5_sumOf (k_X5_sumOf _ _) w1013 w999 w1000 dX5_isSteady_27 (Nat.le_of_ble_eq_true rfl) (Nat.le_of_ble_eq_true rfl) (Nat.le_of_ble_eq_true rfl) (Nat.ne_of_beq_eq_false rfl))) (Ev_call (Av_i (Av_i (Av_i (Av_i (Av_a (Av_nil) (Ev_aload_n dX5_isSteady_30 rfl)) (Ev_iload_n dX5_isSteady_31 rfl)) (Ev_iload dX5_isSteady_32)) (Ev_iload_n dX5_isSteady_34 rfl)) (Ev_iload_n dX5_isSteady_35 rfl)) (Rn_V (ci := 5) Fx5.1 rfl Y_X5_sumOf (k_X5_sumOf _ _) w1013 w999 w1000 dX5_isSteady_36 (Nat.le_of_ble_eq_true rfl) (Nat.le_of_ble_eq_true rfl) (Nat.le_of_ble_eq_true rfl) (Nat.ne_of_beq_eq_false rfl))) dX5_isSteady_39) dX5_isSteady_40 (Nat.le_of_ble_eq_true rfl) (Nat.ne_of_beq_eq_false rfl)) (Sv_if (Cv_icmp_le_n (Ev_abs (Ev_iload dX5_isSteady_42) w1014 w1015 w23 wAbs dX5_isSteady_44 (Nat.le_of_ble_eq_true rfl) (Nat.le_of_ble_eq_true rfl)) (Ev_iload_n dX5_isSteady_47 rfl) (t := 53) dX5_isSteady_48 (by decide)) (Sv_retz (Ev_iconst dX5_isSteady_51 (by decide)) hr dX5_isSteady_52) Sv_nop)) (Sv_iinc dX5_isSteady_53 (by decide) (Nat.le_of_ble_eq_true rfl) (Nat.ne_of_beq_eq_false rfl))) dX5_isSteady_56 (by decide)))) (Sv_retz (Ev_iconst dX5_isSteady_59 (by decide)) hr dX5_isSteady_60)), Nat.le_of_ble_eq_true rfl, Nat.le_of_ble_eq_true rfl⟩)
