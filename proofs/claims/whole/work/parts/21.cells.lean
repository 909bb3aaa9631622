theorem dX1_init_0 : decode cX1_init 0 = .ok (.aload_n 0, 1) := by decide +kernel
theorem dX1_init_1 : decode cX1_init 1 = .ok (.invokespecial 3, 3) := by decide +kernel
theorem dX1_init_4 : decode cX1_init 4 = .ok (.aload_n 0, 1) := by decide +kernel
theorem dX1_init_5 : decode cX1_init 5 = .ok (.bipush 96, 2) := by decide +kernel
theorem dX1_init_7 : decode cX1_init 7 = .ok (.newarray .int, 2) := by decide +kernel
theorem dX1_init_9 : decode cX1_init 9 = .ok (.putfield 9, 3) := by decide +kernel
theorem dX1_init_12 : decode cX1_init 12 = .ok (.aload_n 0, 1) := by decide +kernel
theorem dX1_init_13 : decode cX1_init 13 = .ok (.bipush 96, 2) := by decide +kernel
theorem dX1_init_15 : decode cX1_init 15 = .ok (.newarray .int, 2) := by decide +kernel
theorem dX1_init_17 : decode cX1_init 17 = .ok (.putfield 15, 3) := by decide +kernel
theorem dX1_init_20 : decode cX1_init 20 = .ok (.return_, 1) := by decide +kernel
def f_X1_init : MX := mth 1 (sQ (sO) (sQ (sPa (eLa 0) 1 3 (eNi 0 96)) (sQ (sPa (eLa 0) 1 4 (eNi 0 96)) (sQ (sN) (sRv)))))
theorem Y_X1_init : Yk yX1_init cX1_init 1 none 0 := ⟨w42, w3, by decide +kernel, by decide +kernel, by decide +kernel⟩
set_option maxRecDepth 20000 in
theorem k_X1_init (l : Launch) (g : GE) : MetX l g yX1_init cX1_init 1 none 1 ({ frames := 1, cells := 2, slots := 192, locals := 12 } : Room) f_X1_init := by
  unfold f_X1_init
  exact MetX.of (own := RX1) 100 0 rfl (by decide +kernel) (by decide) (fun p e s m args below meth c Fin ad0 hr hn => ⟨_, _, Sv_seq (Sv_oinit w43 w30 wOc dX1_init_0 dX1_init_1 (Nat.le_of_ble_eq_true rfl) (Nat.le_of_ble_eq_true rfl)) (Sv_seq (Sv_putA Fx1 (Ev_aload_n dX1_init_4 rfl) (Ev_newa_int (N := 96) (v := 96) (Ev_bipush dX1_init_5 (by decide)) (by decide) (by decide +kernel) (by decide) w68 dX1_init_7) (k := 3) (by decide) rfl rfl hn rfl w51 dX1_init_9) (Sv_seq (Sv_putA Fx1 (Ev_aload_n dX1_init_12 rfl) (Ev_newa_int (N := 96) (v := 96) (Ev_bipush dX1_init_13 (by decide)) (by decide) (by decide +kernel) (by decide) w68 dX1_init_15) (k := 4) (by decide) rfl rfl hn rfl w55 dX1_init_17) (Sv_seq (Sv_nop) (Sv_retv hr dX1_init_20)))), Nat.le_of_ble_eq_true rfl, Nat.le_of_ble_eq_true rfl⟩)
theorem dX7_columnsBetween_0 : decode cX7_columnsBetween 0 = .ok (.iconst (-1), 1) := by decide +kernel
theorem dX7_columnsBetween_1 : decode cX7_columnsBetween 1 = .ok (.bipush 31, 2) := by decide +kernel
theorem dX7_columnsBetween_3 : decode cX7_columnsBetween 3 = .ok (.iload_n 1, 1) := by decide +kernel
theorem dX7_columnsBetween_4 : decode cX7_columnsBetween 4 = .ok (.isub, 1) := by decide +kernel
theorem dX7_columnsBetween_5 : decode cX7_columnsBetween 5 = .ok (.iushr, 1) := by decide +kernel
theorem dX7_columnsBetween_6 : decode cX7_columnsBetween 6 = .ok (.iconst (-1), 1) := by decide +kernel
theorem dX7_columnsBetween_7 : decode cX7_columnsBetween 7 = .ok (.iload_n 0, 1) := by decide +kernel
theorem dX7_columnsBetween_8 : decode cX7_columnsBetween 8 = .ok (.ishl, 1) := by decide +kernel
theorem dX7_columnsBetween_9 : decode cX7_columnsBetween 9 = .ok (.iand, 1) := by decide +kernel
theorem dX7_columnsBetween_10 : decode cX7_columnsBetween 10 = .ok (.ireturn, 1) := by decide +kernel
def f_X7_columnsBetween : MX := mth 2 (sR (eOp o_iand (eOp o_iushr (eI (-1)) (eOp o_isub (eI (31)) (eLi 1))) (eOp o_ishl (eI (-1)) (eLi 0))))
theorem Y_X7_columnsBetween : Yk yX7_columnsBetween cX7_columnsBetween 2 (some .int) 2 := ⟨w255, w1, by decide +kernel, by decide +kernel, by decide +kernel⟩
set_option maxRecDepth 20000 in
theorem k_X7_columnsBetween (l : Launch) (g : GE) : MetX l g yX7_columnsBetween cX7_columnsBetween 2 (some .int) 2 ({ frames := 0, cells := 0, slots := 0, locals := 0 } : Room) f_X7_columnsBetween := by
  unfold f_X7_columnsBetween
  exact MetX.of (own := RX7) 100 0 rfl (by decide +kernel) (by decide) (fun p e s m args below meth c Fin ad0 hr hn => ⟨_, _, Sv_ret (Ev_iand (Ev_iushr (Ev_iconst dX7_columnsBetween_0 (by decide)) (Ev_isub (Ev_bipush dX7_columnsBetween_1 (by decide)) (Ev_iload_n dX7_columnsBetween_3 rfl) dX7_columnsBetween_4) dX7_columnsBetween_5) (Ev_ishl (Ev_iconst dX7_columnsBetween_6 (by decide)) (Ev_iload_n dX7_columnsBetween_7 rfl) dX7_columnsBetween_8) dX7_columnsBetween_9) hr dX7_columnsBetween_10, Nat.le_of_ble_eq_true rfl, Nat.le_of_ble_eq_true rfl⟩)
theorem nt_X7_columnsBetween : ∀ vs hp hp' E, f_X7_columnsBetween vs hp ≠ some (hp', .inr E) := nt_ret (nxE_Op (nxE_Op (nxE_I) (nxE_Op (nxE_I) (nxE_Li))) (nxE_Op (nxE_I) (nxE_Li)))
theorem dX1_makeFree_0 : decode cX1_makeFree 0 = .ok (.aload_n 0, 1) := by decide +kernel
theorem dX1_makeFree_1 : decode cX1_makeFree 1 = .ok (.iload_n 1, 1) := by decide +kernel
theorem dX1_makeFree_2 : decode cX1_makeFree 2 = .ok (.putfield 18, 3) := by decide +kernel
theorem dX1_makeFree_5 : decode cX1_makeFree 5 = .ok (.aload_n 0, 1) := by decide +kernel
theorem dX1_makeFree_6 : decode cX1_makeFree 6 = .ok (.iload_n 2, 1) := by decide +kernel
theorem dX1_makeFree_7 : decode cX1_makeFree 7 = .ok (.putfield 22, 3) := by decide +kernel
theorem dX1_makeFree_10 : decode cX1_makeFree 10 = .ok (.aload_n 0, 1) := by decide +kernel
theorem dX1_makeFree_11 : decode cX1_makeFree 11 = .ok (.iconst 0, 1) := by decide +kernel
theorem dX1_makeFree_12 : decode cX1_makeFree 12 = .ok (.iload_n 1, 1) := by decide +kernel
theorem dX1_makeFree_13 : decode cX1_makeFree 13 = .ok (.iconst 1, 1) := by decide +kernel
theorem dX1_makeFree_14 : decode cX1_makeFree 14 = .ok (.isub, 1) := by decide +kernel
theorem dX1_makeFree_15 : decode cX1_makeFree 15 = .ok (.invokestatic 25, 3) := by decide +kernel
theorem dX1_makeFree_18 : decode cX1_makeFree 18 = .ok (.putfield 29, 3) := by decide +kernel
theorem dX1_makeFree_21 : decode cX1_makeFree 21 = .ok (.aload_n 0, 1) := by decide +kernel
theorem dX1_makeFree_22 : decode cX1_makeFree 22 = .ok (.getfield 9, 3) := by decide +kernel
theorem dX1_makeFree_25 : decode cX1_makeFree 25 = .ok (.iconst 0, 1) := by decide +kernel
theorem dX1_makeFree_26 : decode cX1_makeFree 26 = .ok (.invokestatic 32, 3) := by decide +kernel
theorem dX1_makeFree_29 : decode cX1_makeFree 29 = .ok (.aload_n 0, 1) := by decide +kernel
theorem dX1_makeFree_30 : decode cX1_makeFree 30 = .ok (.getfield 15, 3) := by decide +kernel
theorem dX1_makeFree_33 : decode cX1_makeFree 33 = .ok (.iconst 0, 1) := by decide +kernel
theorem dX1_makeFree_34 : decode cX1_makeFree 34 = .ok (.invokestatic 32, 3) := by decide +kernel
theorem dX1_makeFree_37 : decode cX1_makeFree 37 = .ok (.return_, 1) := by decide +kernel
def f_X1_makeFree : MX := mth 3 (sQ (sQ (sPi (eLa 0) 1 0 (eLi 1)) (sQ (sPi (eLa 0) 1 1 (eLi 2)) (sQ (sPi (eLa 0) 1 2 (eM (f_X7_columnsBetween) (aI (aI (aN) (eI (0))) (eOp o_isub (eLi 1) (eI (1)))))) (sQ (sM (f_J7_fill_53178) (aI (aA (aN) (eGa (eLa 0) 1 3)) (eI (0)))) (sM (f_J7_fill_53178) (aI (aA (aN) (eGa (eLa 0) 1 4)) (eI (0)))))))) (sRv))
theorem Y_X1_makeFree : Yk yX1_makeFree cX1_makeFree 3 none 2 := ⟨w252, w3, by decide +kernel, by decide +kernel, by decide +kernel⟩
set_option maxRecDepth 20000 in
theorem k_X1_makeFree (l : Launch) (g : GE) : MetX l g yX1_makeFree cX1_makeFree 3 none 3 ({ frames := 1, cells := 0, slots := 0, locals := 23 } : Room) f_X1_makeFree := by
  unfold f_X1_makeFree
  exact MetX.of (own := RX1) 100 0 rfl (by decide +kernel) (by decide) (fun p e s m args below meth c Fin ad0 hr hn => ⟨_, _, Sv_seq (Sv_seq (Sv_putI Fx1 (Ev_aload_n dX1_makeFree_0 rfl) (Ev_iload_n dX1_makeFree_1 rfl) (k := 0) (by decide) rfl rfl w44 dX1_makeFree_2) (Sv_seq (Sv_putI Fx1 (Ev_aload_n dX1_makeFree_5 rfl) (Ev_iload_n dX1_makeFree_6 rfl) (k := 1) (by decide) rfl rfl w46 dX1_makeFree_7) (Sv_seq (Sv_putI Fx1 (Ev_aload_n dX1_makeFree_10 rfl) (Ev_call (Av_i (Av_i (Av_nil) (Ev_iconst dX1_makeFree_11 (by decide))) (Ev_isub (Ev_iload_n dX1_makeFree_12 rfl) (Ev_iconst dX1_makeFree_13 (by decide)) dX1_makeFree_14)) (Rn_SN Y_X7_columnsBetween (k_X7_columnsBetween _ _) nt_X7_columnsBetween w253 w254 dX1_makeFree_15 (Nat.le_of_ble_eq_true rfl) (Nat.le_of_ble_eq_true rfl) (Nat.le_of_ble_eq_true rfl) (Nat.ne_of_beq_eq_false rfl))) (k := 2) (by decide) rfl rfl w50 dX1_makeFree_18) (Sv_seq (Sv_call (Av_i (Av_a (Av_nil) (Ev_getA Fx1 (Ev_aload_n dX1_makeFree_21 rfl) (k := 3) (by decide) w51 dX1_makeFree_22)) (Ev_iconst dX1_makeFree_25 (by decide))) (Rn_S Y_J7_fill_53178 (k_J7_fill_53178 _ _) w256 w257 dX1_makeFree_26 (Nat.le_of_ble_eq_true rfl) (Nat.le_of_ble_eq_true rfl) (Nat.le_of_ble_eq_true rfl) (Nat.ne_of_beq_eq_false rfl))) (Sv_call (Av_i (Av_a (Av_nil) (Ev_getA Fx1 (Ev_aload_n dX1_makeFree_29 rfl) (k := 4) (by decide) w55 dX1_makeFree_30)) (Ev_iconst dX1_makeFree_33 (by decide))) (Rn_S Y_J7_fill_53178 (k_J7_fill_53178 _ _) w256 w257 dX1_makeFree_34 (Nat.le_of_ble_eq_true rfl) (Nat.le_of_ble_eq_true rfl) (Nat.le_of_ble_eq_true rfl) (Nat.ne_of_beq_eq_false rfl))))))) (Sv_retv hr dX1_makeFree_37), Nat.le_of_ble_eq_true rfl, Nat.le_of_ble_eq_true rfl⟩)
theorem dX1_copyFrom_0 : decode cX1_copyFrom 0 = .ok (.aload_n 0, 1) := by decide +kernel
theorem dX1_copyFrom_1 : decode cX1_copyFrom 1 = .ok (.aload_n 1, 1) := by decide +kernel
theorem dX1_copyFrom_2 : decode cX1_copyFrom 2 = .ok (.getfield 18, 3) := by decide +kernel
theorem dX1_copyFrom_5 : decode cX1_copyFrom 5 = .ok (.putfield 18, 3) := by decide +kernel
theorem dX1_copyFrom_8 : decode cX1_copyFrom 8 = .ok (.aload_n 0, 1) := by decide +kernel
theorem dX1_copyFrom_9 : decode cX1_copyFrom 9 = .ok (.aload_n 1, 1) := by decide +kernel
theorem dX1_copyFrom_10 : decode cX1_copyFrom 10 = .ok (.getfield 22, 3) := by decide +kernel
theorem dX1_copyFrom_13 : decode cX1_copyFrom 13 = .ok (.putfield 22, 3) := by decide +kernel
theorem dX1_copyFrom_16 : decode cX1_copyFrom 16 = .ok (.aload_n 0, 1) := by decide +kernel
theorem dX1_copyFrom_17 : decode cX1_copyFrom 17 = .ok (.aload_n 1, 1) := by decide +kernel
theorem dX1_copyFrom_18 : decode cX1_copyFrom 18 = .ok (.getfield 29, 3) := by decide +kernel
theorem dX1_copyFrom_21 : decode cX1_copyFrom 21 = .ok (.putfield 29, 3) := by decide +kernel
theorem dX1_copyFrom_24 : decode cX1_copyFrom 24 = .ok (.aload_n 1, 1) := by decide +kernel
theorem dX1_copyFrom_25 : decode cX1_copyFrom 25 = .ok (.getfield 9, 3) := by decide +kernel
theorem dX1_copyFrom_28 : decode cX1_copyFrom 28 = .ok (.iconst 0, 1) := by decide +kernel
theorem dX1_copyFrom_29 : decode cX1_copyFrom 29 = .ok (.aload_n 0, 1) := by decide +kernel
theorem dX1_copyFrom_30 : decode cX1_copyFrom 30 = .ok (.getfield 9, 3) := by decide +kernel
theorem dX1_copyFrom_33 : decode cX1_copyFrom 33 = .ok (.iconst 0, 1) := by decide +kernel
theorem dX1_copyFrom_34 : decode cX1_copyFrom 34 = .ok (.aload_n 0, 1) := by decide +kernel
theorem dX1_copyFrom_35 : decode cX1_copyFrom 35 = .ok (.getfield 9, 3) := by decide +kernel
theorem dX1_copyFrom_38 : decode cX1_copyFrom 38 = .ok (.arraylength, 1) := by decide +kernel
theorem dX1_copyFrom_39 : decode cX1_copyFrom 39 = .ok (.invokestatic 38, 3) := by decide +kernel
theorem dX1_copyFrom_42 : decode cX1_copyFrom 42 = .ok (.aload_n 1, 1) := by decide +kernel
theorem dX1_copyFrom_43 : decode cX1_copyFrom 43 = .ok (.getfield 15, 3) := by decide +kernel
theorem dX1_copyFrom_46 : decode cX1_copyFrom 46 = .ok (.iconst 0, 1) := by decide +kernel
theorem dX1_copyFrom_47 : decode cX1_copyFrom 47 = .ok (.aload_n 0, 1) := by decide +kernel
theorem dX1_copyFrom_48 : decode cX1_copyFrom 48 = .ok (.getfield 15, 3) := by decide +kernel
theorem dX1_copyFrom_51 : decode cX1_copyFrom 51 = .ok (.iconst 0, 1) := by decide +kernel
theorem dX1_copyFrom_52 : decode cX1_copyFrom 52 = .ok (.aload_n 0, 1) := by decide +kernel
theorem dX1_copyFrom_53 : decode cX1_copyFrom 53 = .ok (.getfield 15, 3) := by decide +kernel
theorem dX1_copyFrom_56 : decode cX1_copyFrom 56 = .ok (.arraylength, 1) := by decide +kernel
theorem dX1_copyFrom_57 : decode cX1_copyFrom 57 = .ok (.invokestatic 38, 3) := by decide +kernel
theorem dX1_copyFrom_60 : decode cX1_copyFrom 60 = .ok (.return_, 1) := by decide +kernel
def f_X1_copyFrom : MX := mth 2 (sQ (sQ (sPi (eLa 0) 1 0 (eGi (eLa 1) 1 0)) (sQ (sPi (eLa 0) 1 1 (eGi (eLa 1) 1 1)) (sQ (sPi (eLa 0) 1 2 (eGi (eLa 1) 1 2)) (sQ (sM cpy (aI (aI (aA (aI (aA (aN) (eGa (eLa 1) 1 3)) (eI (0))) (eGa (eLa 0) 1 3)) (eI (0))) (eAn (eGa (eLa 0) 1 3)))) (sM cpy (aI (aI (aA (aI (aA (aN) (eGa (eLa 1) 1 4)) (eI (0))) (eGa (eLa 0) 1 4)) (eI (0))) (eAn (eGa (eLa 0) 1 4)))))))) (sRv))
theorem Y_X1_copyFrom : Yk yX1_copyFrom cX1_copyFrom 2 none 1 := ⟨w527, w3, by decide +kernel, by decide +kernel, by decide +kernel⟩
set_option maxRecDepth 20000 in
theorem k_X1_copyFrom (l : Launch) (g : GE) : MetX l g yX1_copyFrom cX1_copyFrom 2 none 2 ({ frames := 1, cells := 0, slots := 0, locals := 40 } : Room) f_X1_copyFrom := by
  unfold f_X1_copyFrom
  exact MetX.of (own := RX1) 100 0 rfl (by decide +kernel) (by decide) (fun p e s m args below meth c Fin ad0 hr hn => ⟨_, _, Sv_seq (Sv_seq (Sv_putI Fx1 (Ev_aload_n dX1_copyFrom_0 rfl) (Ev_getI Fx1 (Ev_aload_n dX1_copyFrom_1 rfl) (k := 0) (by decide) w44 dX1_copyFrom_2) (k := 0) (by decide) rfl rfl w44 dX1_copyFrom_5) (Sv_seq (Sv_putI Fx1 (Ev_aload_n dX1_copyFrom_8 rfl) (Ev_getI Fx1 (Ev_aload_n dX1_copyFrom_9 rfl) (k := 1) (by decide) w46 dX1_copyFrom_10) (k := 1) (by decide) rfl rfl w46 dX1_copyFrom_13) (Sv_seq (Sv_putI Fx1 (Ev_aload_n dX1_copyFrom_16 rfl) (Ev_getI Fx1 (Ev_aload_n dX1_copyFrom_17 rfl) (k := 2) (by decide) w50 dX1_copyFrom_18) (k := 2) (by decide) rfl rfl w50 dX1_copyFrom_21) (Sv_seq (Sv_copy (Av_i (Av_i (Av_a (Av_i (Av_a (Av_nil) (Ev_getA Fx1 (Ev_aload_n dX1_copyFrom_24 rfl) (k := 3) (by decide) w51 dX1_copyFrom_25)) (Ev_iconst dX1_copyFrom_28 (by decide))) (Ev_getA Fx1 (Ev_aload_n dX1_copyFrom_29 rfl) (k := 3) (by decide) w51 dX1_copyFrom_30)) (Ev_iconst dX1_copyFrom_33 (by decide))) (Ev_alen (Ev_getA Fx1 (Ev_aload_n dX1_copyFrom_34 rfl) (k := 3) (by decide) w51 dX1_copyFrom_35) dX1_copyFrom_38)) w528 w383 w382 w15 dX1_copyFrom_39 (Nat.le_of_ble_eq_true rfl) (Nat.le_of_ble_eq_true rfl)) (Sv_copy (Av_i (Av_i (Av_a (Av_i (Av_a (Av_nil) (Ev_getA Fx1 (Ev_aload_n dX1_copyFrom_42 rfl) (k := 4) (by decide) w55 dX1_copyFrom_43)) (Ev_iconst dX1_copyFrom_46 (by decide))) (Ev_getA Fx1 (Ev_aload_n dX1_copyFrom_47 rfl) (k := 4) (by decide) w55 dX1_copyFrom_48)) (Ev_iconst dX1_copyFrom_51 (by decide))) (Ev_alen (Ev_getA Fx1 (Ev_aload_n dX1_copyFrom_52 rfl) (k := 4) (by decide) w55 dX1_copyFrom_53) dX1_copyFrom_56)) w528 w383 w382 w15 dX1_copyFrom_57 (Nat.le_of_ble_eq_true rfl) (Nat.le_of_ble_eq_true rfl)))))) (Sv_retv hr dX1_copyFrom_60), Nat.le_of_ble_eq_true rfl, Nat.le_of_ble_eq_true rfl⟩)
theorem dX1_solidColumns_0 : decode cX1_solidColumns 0 = .ok (.iconst 0, 1) := by decide +kernel
theorem dX1_solidColumns_1 : decode cX1_solidColumns 1 = .ok (.istore_n 2, 1) := by decide +kernel
theorem dX1_solidColumns_2 : decode cX1_solidColumns 2 = .ok (.iconst 0, 1) := by decide +kernel
theorem dX1_solidColumns_3 : decode cX1_solidColumns 3 = .ok (.istore_n 3, 1) := by decide +kernel
theorem dX1_solidColumns_4 : decode cX1_solidColumns 4 = .ok (.iload_n 3, 1) := by decide +kernel
theorem dX1_solidColumns_5 : decode cX1_solidColumns 5 = .ok (.bipush 6, 2) := by decide +kernel
theorem dX1_solidColumns_7 : decode cX1_solidColumns 7 = .ok (.if_icmp .ge 23, 3) := by decide +kernel
theorem dX1_solidColumns_10 : decode cX1_solidColumns 10 = .ok (.iload_n 2, 1) := by decide +kernel
theorem dX1_solidColumns_11 : decode cX1_solidColumns 11 = .ok (.aload_n 0, 1) := by decide +kernel
theorem dX1_solidColumns_12 : decode cX1_solidColumns 12 = .ok (.getfield 15, 3) := by decide +kernel
theorem dX1_solidColumns_15 : decode cX1_solidColumns 15 = .ok (.iload_n 1, 1) := by decide +kernel
theorem dX1_solidColumns_16 : decode cX1_solidColumns 16 = .ok (.bipush 6, 2) := by decide +kernel
theorem dX1_solidColumns_18 : decode cX1_solidColumns 18 = .ok (.imul, 1) := by decide +kernel
theorem dX1_solidColumns_19 : decode cX1_solidColumns 19 = .ok (.iload_n 3, 1) := by decide +kernel
theorem dX1_solidColumns_20 : decode cX1_solidColumns 20 = .ok (.iadd, 1) := by decide +kernel
theorem dX1_solidColumns_21 : decode cX1_solidColumns 21 = .ok (.iaload, 1) := by decide +kernel
theorem dX1_solidColumns_22 : decode cX1_solidColumns 22 = .ok (.ior, 1) := by decide +kernel
theorem dX1_solidColumns_23 : decode cX1_solidColumns 23 = .ok (.istore_n 2, 1) := by decide +kernel
theorem dX1_solidColumns_24 : decode cX1_solidColumns 24 = .ok (.iinc 3 1, 3) := by decide +kernel
theorem dX1_solidColumns_27 : decode cX1_solidColumns 27 = .ok (.goto (-23), 3) := by decide +kernel
theorem dX1_solidColumns_30 : decode cX1_solidColumns 30 = .ok (.iload_n 2, 1) := by decide +kernel
theorem dX1_solidColumns_31 : decode cX1_solidColumns 31 = .ok (.ireturn, 1) := by decide +kernel
def f_X1_solidColumns : MX := mth 4 (sQ (sTi 2 (eI (0))) (sQ (sQ (sTi 3 (eI (0))) (sLp (cB c_lt (eLi 3) (eI (6))) (sQ (sTi 2 (eOp o_ior (eLi 2) (eAi 0 (eGa (eLa 0) 1 4) (eOp o_iadd (eOp o_imul (eLi 1) (eI (6))) (eLi 3))))) (sInc 3 (1))) NF)) (sR (eLi 2))))
theorem Y_X1_solidColumns : Yk yX1_solidColumns cX1_solidColumns 4 (some .int) 1 := ⟨w620, w3, by decide +kernel, by decide +kernel, by decide +kernel⟩
set_option maxRecDepth 20000 in
theorem k_X1_solidColumns (l : Launch) (g : GE) : MetX l g yX1_solidColumns cX1_solidColumns 4 (some .int) 2 ({ frames := 0, cells := 0, slots := 0, locals := 0 } : Room) f_X1_solidColumns := by
  unfold f_X1_solidColumns
  exact MetX.of (own := RX1) 100 0 rfl (by decide +kernel) (by decide) (fun p e s m args below meth c Fin ad0 hr hn => ⟨_, _, Sv_seq (Sv_istore_n (Ev_iconst dX1_solidColumns_0 (by decide)) dX1_solidColumns_1 rfl (Nat.le_of_ble_eq_true rfl) (Nat.ne_of_beq_eq_false rfl)) (Sv_seq (Sv_seq (Sv_istore_n (Ev_iconst dX1_solidColumns_2 (by decide)) dX1_solidColumns_3 rfl (Nat.le_of_ble_eq_true rfl) (Nat.ne_of_beq_eq_false rfl)) (Sv_loop0 NF (Cv_icmp_ge_n (Ev_iload_n dX1_solidColumns_4 rfl) (Ev_bipush dX1_solidColumns_5 (by decide)) (t := 30) dX1_solidColumns_7 (by decide)) (Sv_goto (pE := 4) (Sv_seq (Sv_istore_n (Ev_ior (Ev_iload_n dX1_solidColumns_10 rfl) (Ev_iaload (Ev_getA Fx1 (Ev_aload_n dX1_solidColumns_11 rfl) (k := 4) (by decide) w55 dX1_solidColumns_12) (Ev_iadd (Ev_imul (Ev_iload_n dX1_solidColumns_15 rfl) (Ev_bipush dX1_solidColumns_16 (by decide)) dX1_solidColumns_18) (Ev_iload_n dX1_solidColumns_19 rfl) dX1_solidColumns_20) dX1_solidColumns_21) dX1_solidColumns_22) dX1_solidColumns_23 rfl (Nat.le_of_ble_eq_true rfl) (Nat.ne_of_beq_eq_false rfl)) (Sv_iinc dX1_solidColumns_24 (by decide) (Nat.le_of_ble_eq_true rfl) (Nat.ne_of_beq_eq_false rfl))) dX1_solidColumns_27 (by decide)))) (Sv_ret (Ev_iload_n dX1_solidColumns_30 rfl) hr dX1_solidColumns_31)), Nat.le_of_ble_eq_true rfl, Nat.le_of_ble_eq_true rfl⟩)
theorem dX1_occupiedColumns_0 : decode cX1_occupiedColumns 0 = .ok (.iconst 0, 1) := by decide +kernel
theorem dX1_occupiedColumns_1 : decode cX1_occupiedColumns 1 = .ok (.istore_n 2, 1) := by decide +kernel
theorem dX1_occupiedColumns_2 : decode cX1_occupiedColumns 2 = .ok (.iconst 0, 1) := by decide +kernel
theorem dX1_occupiedColumns_3 : decode cX1_occupiedColumns 3 = .ok (.istore_n 3, 1) := by decide +kernel
theorem dX1_occupiedColumns_4 : decode cX1_occupiedColumns 4 = .ok (.iload_n 3, 1) := by decide +kernel
theorem dX1_occupiedColumns_5 : decode cX1_occupiedColumns 5 = .ok (.bipush 6, 2) := by decide +kernel
theorem dX1_occupiedColumns_7 : decode cX1_occupiedColumns 7 = .ok (.if_icmp .ge 23, 3) := by decide +kernel
theorem dX1_occupiedColumns_10 : decode cX1_occupiedColumns 10 = .ok (.iload_n 2, 1) := by decide +kernel
theorem dX1_occupiedColumns_11 : decode cX1_occupiedColumns 11 = .ok (.aload_n 0, 1) := by decide +kernel
theorem dX1_occupiedColumns_12 : decode cX1_occupiedColumns 12 = .ok (.getfield 9, 3) := by decide +kernel
theorem dX1_occupiedColumns_15 : decode cX1_occupiedColumns 15 = .ok (.iload_n 1, 1) := by decide +kernel
theorem dX1_occupiedColumns_16 : decode cX1_occupiedColumns 16 = .ok (.bipush 6, 2) := by decide +kernel
theorem dX1_occupiedColumns_18 : decode cX1_occupiedColumns 18 = .ok (.imul, 1) := by decide +kernel
theorem dX1_occupiedColumns_19 : decode cX1_occupiedColumns 19 = .ok (.iload_n 3, 1) := by decide +kernel
theorem dX1_occupiedColumns_20 : decode cX1_occupiedColumns 20 = .ok (.iadd, 1) := by decide +kernel
theorem dX1_occupiedColumns_21 : decode cX1_occupiedColumns 21 = .ok (.iaload, 1) := by decide +kernel
theorem dX1_occupiedColumns_22 : decode cX1_occupiedColumns 22 = .ok (.ior, 1) := by decide +kernel
theorem dX1_occupiedColumns_23 : decode cX1_occupiedColumns 23 = .ok (.istore_n 2, 1) := by decide +kernel
theorem dX1_occupiedColumns_24 : decode cX1_occupiedColumns 24 = .ok (.iinc 3 1, 3) := by decide +kernel
theorem dX1_occupiedColumns_27 : decode cX1_occupiedColumns 27 = .ok (.goto (-23), 3) := by decide +kernel
theorem dX1_occupiedColumns_30 : decode cX1_occupiedColumns 30 = .ok (.iload_n 2, 1) := by decide +kernel
theorem dX1_occupiedColumns_31 : decode cX1_occupiedColumns 31 = .ok (.ireturn, 1) := by decide +kernel
def f_X1_occupiedColumns : MX := mth 4 (sQ (sTi 2 (eI (0))) (sQ (sQ (sTi 3 (eI (0))) (sLp (cB c_lt (eLi 3) (eI (6))) (sQ (sTi 2 (eOp o_ior (eLi 2) (eAi 0 (eGa (eLa 0) 1 3) (eOp o_iadd (eOp o_imul (eLi 1) (eI (6))) (eLi 3))))) (sInc 3 (1))) NF)) (sR (eLi 2))))
theorem Y_X1_occupiedColumns : Yk yX1_occupiedColumns cX1_occupiedColumns 4 (some .int) 1 := ⟨w624, w3, by decide +kernel, by decide +kernel, by decide +kernel⟩
set_option maxRecDepth 20000 in
theorem k_X1_occupiedColumns (l : Launch) (g : GE) : MetX l g yX1_occupiedColumns cX1_occupiedColumns 4 (some .int) 2 ({ frames := 0, cells := 0, slots := 0, locals := 0 } : Room) f_X1_occupiedColumns := by
  unfold f_X1_occupiedColumns
  exact MetX.of (own := RX1) 100 0 rfl (by decide +kernel) (by decide) (fun p e s m args below meth c Fin ad0 hr hn => ⟨_, _, Sv_seq (Sv_istore_n (Ev_iconst dX1_occupiedColumns_0 (by decide)) dX1_occupiedColumns_1 rfl (Nat.le_of_ble_eq_true rfl) (Nat.ne_of_beq_eq_false rfl)) (Sv_seq (Sv_seq (Sv_istore_n (Ev_iconst dX1_occupiedColumns_2 (by decide)) dX1_occupiedColumns_3 rfl (Nat.le_of_ble_eq_true rfl) (Nat.ne_of_beq_eq_false rfl)) (Sv_loop0 NF (Cv_icmp_ge_n (Ev_iload_n dX1_occupiedColumns_4 rfl) (Ev_bipush dX1_occupiedColumns_5 (by decide)) (t := 30) dX1_occupiedColumns_7 (by decide)) (Sv_goto (pE := 4) (Sv_seq (Sv_istore_n (Ev_ior (Ev_iload_n dX1_occupiedColumns_10 rfl) (Ev_iaload (Ev_getA Fx1 (Ev_aload_n dX1_occupiedColumns_11 rfl) (k := 3) (by decide) w51 dX1_occupiedColumns_12) (Ev_iadd (Ev_imul (Ev_iload_n dX1_occupiedColumns_15 rfl) (Ev_bipush dX1_occupiedColumns_16 (by decide)) dX1_occupiedColumns_18) (Ev_iload_n dX1_occupiedColumns_19 rfl) dX1_occupiedColumns_20) dX1_occupiedColumns_21) dX1_occupiedColumns_22) dX1_occupiedColumns_23 rfl (Nat.le_of_ble_eq_true rfl) (Nat.ne_of_beq_eq_false rfl)) (Sv_iinc dX1_occupiedColumns_24 (by decide) (Nat.le_of_ble_eq_true rfl) (Nat.ne_of_beq_eq_false rfl))) dX1_occupiedColumns_27 (by decide)))) (Sv_ret (Ev_iload_n dX1_occupiedColumns_30 rfl) hr dX1_occupiedColumns_31)), Nat.le_of_ble_eq_true rfl, Nat.le_of_ble_eq_true rfl⟩)
theorem dX1_columnsWithState_0 : decode cX1_columnsWithState 0 = .ok (.aload_n 0, 1) := by decide +kernel
theorem dX1_columnsWithState_1 : decode cX1_columnsWithState 1 = .ok (.getfield 29, 3) := by decide +kernel
theorem dX1_columnsWithState_4 : decode cX1_columnsWithState 4 = .ok (.istore_n 3, 1) := by decide +kernel
theorem dX1_columnsWithState_5 : decode cX1_columnsWithState 5 = .ok (.iconst 0, 1) := by decide +kernel
theorem dX1_columnsWithState_6 : decode cX1_columnsWithState 6 = .ok (.istore 4, 2) := by decide +kernel
theorem dX1_columnsWithState_8 : decode cX1_columnsWithState 8 = .ok (.iload 4, 2) := by decide +kernel
theorem dX1_columnsWithState_10 : decode cX1_columnsWithState 10 = .ok (.bipush 6, 2) := by decide +kernel
theorem dX1_columnsWithState_12 : decode cX1_columnsWithState 12 = .ok (.if_icmp .ge 44, 3) := by decide +kernel
theorem dX1_columnsWithState_15 : decode cX1_columnsWithState 15 = .ok (.aload_n 0, 1) := by decide +kernel
theorem dX1_columnsWithState_16 : decode cX1_columnsWithState 16 = .ok (.getfield 9, 3) := by decide +kernel
theorem dX1_columnsWithState_19 : decode cX1_columnsWithState 19 = .ok (.iload_n 1, 1) := by decide +kernel
theorem dX1_columnsWithState_20 : decode cX1_columnsWithState 20 = .ok (.bipush 6, 2) := by decide +kernel
theorem dX1_columnsWithState_22 : decode cX1_columnsWithState 22 = .ok (.imul, 1) := by decide +kernel
theorem dX1_columnsWithState_23 : decode cX1_columnsWithState 23 = .ok (.iload 4, 2) := by decide +kernel
theorem dX1_columnsWithState_25 : decode cX1_columnsWithState 25 = .ok (.iadd, 1) := by decide +kernel
theorem dX1_columnsWithState_26 : decode cX1_columnsWithState 26 = .ok (.iaload, 1) := by decide +kernel
theorem dX1_columnsWithState_27 : decode cX1_columnsWithState 27 = .ok (.istore 5, 2) := by decide +kernel
theorem dX1_columnsWithState_29 : decode cX1_columnsWithState 29 = .ok (.iload_n 3, 1) := by decide +kernel
theorem dX1_columnsWithState_30 : decode cX1_columnsWithState 30 = .ok (.iload_n 2, 1) := by decide +kernel
theorem dX1_columnsWithState_31 : decode cX1_columnsWithState 31 = .ok (.iload 4, 2) := by decide +kernel
theorem dX1_columnsWithState_33 : decode cX1_columnsWithState 33 = .ok (.ishr, 1) := by decide +kernel
theorem dX1_columnsWithState_34 : decode cX1_columnsWithState 34 = .ok (.iconst 1, 1) := by decide +kernel
theorem dX1_columnsWithState_35 : decode cX1_columnsWithState 35 = .ok (.iand, 1) := by decide +kernel
theorem dX1_columnsWithState_36 : decode cX1_columnsWithState 36 = .ok (.ifCond .eq 8, 3) := by decide +kernel
theorem dX1_columnsWithState_39 : decode cX1_columnsWithState 39 = .ok (.iload 5, 2) := by decide +kernel
theorem dX1_columnsWithState_41 : decode cX1_columnsWithState 41 = .ok (.goto 7, 3) := by decide +kernel
theorem dX1_columnsWithState_44 : decode cX1_columnsWithState 44 = .ok (.iload 5, 2) := by decide +kernel
theorem dX1_columnsWithState_46 : decode cX1_columnsWithState 46 = .ok (.iconst (-1), 1) := by decide +kernel
theorem dX1_columnsWithState_47 : decode cX1_columnsWithState 47 = .ok (.ixor, 1) := by decide +kernel
theorem dX1_columnsWithState_48 : decode cX1_columnsWithState 48 = .ok (.iand, 1) := by decide +kernel
theorem dX1_columnsWithState_49 : decode cX1_columnsWithState 49 = .ok (.istore_n 3, 1) := by decide +kernel
theorem dX1_columnsWithState_50 : decode cX1_columnsWithState 50 = .ok (.iinc 4 1, 3) := by decide +kernel
theorem dX1_columnsWithState_53 : decode cX1_columnsWithState 53 = .ok (.goto (-45), 3) := by decide +kernel
theorem dX1_columnsWithState_56 : decode cX1_columnsWithState 56 = .ok (.iload_n 3, 1) := by decide +kernel
theorem dX1_columnsWithState_57 : decode cX1_columnsWithState 57 = .ok (.ireturn, 1) := by decide +kernel
def f_X1_columnsWithState : MX := mth 6 (sQ (sTi 3 (eGi (eLa 0) 1 2)) (sQ (sQ (sTi 4 (eI (0))) (sLp (cB c_lt (eLi 4) (eI (6))) (sQ (sQ (sTi 5 (eAi 0 (eGa (eLa 0) 1 3) (eOp o_iadd (eOp o_imul (eLi 1) (eI (6))) (eLi 4)))) (sTi 3 (eOp o_iand (eLi 3) (eIf (cZ z_ne (eOp o_iand (eOp o_ishr (eLi 2) (eLi 4)) (eI (1)))) (eLi 5) (eOp o_ixor (eLi 5) (eI (-1))))))) (sInc 4 (1))) NF)) (sR (eLi 3))))
theorem Y_X1_columnsWithState : Yk yX1_columnsWithState cX1_columnsWithState 6 (some .int) 2 := ⟨w847, w3, by decide +kernel, by decide +kernel, by decide +kernel⟩
set_option maxRecDepth 20000 in
theorem k_X1_columnsWithState (l : Launch) (g : GE) : MetX l g yX1_columnsWithState cX1_columnsWithState 6 (some .int) 3 ({ frames := 0, cells := 0, slots := 0, locals := 0 } : Room) f_X1_columnsWithState := by
  unfold f_X1_columnsWithState
  exact MetX.of (own := RX1) 100 0 rfl (by decide +kernel) (by decide) (fun p e s m args below meth c Fin ad0 hr hn => ⟨_, _, Sv_seq (Sv_istore_n (Ev_getI Fx1 (Ev_aload_n dX1_columnsWithState_0 rfl) (k := 2) (by decide) w50 dX1_columnsWithState_1) dX1_columnsWithState_4 rfl (Nat.le_of_ble_eq_true rfl) (Nat.ne_of_beq_eq_false rfl)) (Sv_seq (Sv_seq (Sv_istore (Ev_iconst dX1_columnsWithState_5 (by decide)) dX1_columnsWithState_6 (Nat.le_of_ble_eq_true rfl) (Nat.ne_of_beq_eq_false rfl)) (Sv_loop0 NF (Cv_icmp_ge_n (Ev_iload dX1_columnsWithState_8) (Ev_bipush dX1_columnsWithState_10 (by decide)) (t := 56) dX1_columnsWithState_12 (by decide)) (Sv_goto (pE := 8) (Sv_seq (Sv_seq (Sv_istore (Ev_iaload (Ev_getA Fx1 (Ev_aload_n dX1_columnsWithState_15 rfl) (k := 3) (by decide) w51 dX1_columnsWithState_16) (Ev_iadd (Ev_imul (Ev_iload_n dX1_columnsWithState_19 rfl) (Ev_bipush dX1_columnsWithState_20 (by decide)) dX1_columnsWithState_22) (Ev_iload dX1_columnsWithState_23) dX1_columnsWithState_25) dX1_columnsWithState_26) dX1_columnsWithState_27 (Nat.le_of_ble_eq_true rfl) (Nat.ne_of_beq_eq_false rfl)) (Sv_istore_n (Ev_iand (Ev_iload_n dX1_columnsWithState_29 rfl) (Ev_if (pT := 48) (Cv_if_eq_n (Ev_iand (Ev_ishr (Ev_iload_n dX1_columnsWithState_30 rfl) (Ev_iload dX1_columnsWithState_31) dX1_columnsWithState_33) (Ev_iconst dX1_columnsWithState_34 (by decide)) dX1_columnsWithState_35) (t := 44) dX1_columnsWithState_36 (by decide)) (Ev_iload dX1_columnsWithState_39) dX1_columnsWithState_41 (by decide) (Ev_ixor (Ev_iload dX1_columnsWithState_44) (Ev_iconst dX1_columnsWithState_46 (by decide)) dX1_columnsWithState_47)) dX1_columnsWithState_48) dX1_columnsWithState_49 rfl (Nat.le_of_ble_eq_true rfl) (Nat.ne_of_beq_eq_false rfl))) (Sv_iinc dX1_columnsWithState_50 (by decide) (Nat.le_of_ble_eq_true rfl) (Nat.ne_of_beq_eq_false rfl))) dX1_columnsWithState_53 (by decide)))) (Sv_ret (Ev_iload_n dX1_columnsWithState_56 rfl) hr dX1_columnsWithState_57)), Nat.le_of_ble_eq_true rfl, Nat.le_of_ble_eq_true rfl⟩)
theorem dX1_particlesAt_0 : decode cX1_particlesAt 0 = .ok (.iconst 0, 1) := by decide +kernel
theorem dX1_particlesAt_1 : decode cX1_particlesAt 1 = .ok (.istore_n 3, 1) := by decide +kernel
theorem dX1_particlesAt_2 : decode cX1_particlesAt 2 = .ok (.iconst 0, 1) := by decide +kernel
theorem dX1_particlesAt_3 : decode cX1_particlesAt 3 = .ok (.istore 4, 2) := by decide +kernel
theorem dX1_particlesAt_5 : decode cX1_particlesAt 5 = .ok (.iload 4, 2) := by decide +kernel
theorem dX1_particlesAt_7 : decode cX1_particlesAt 7 = .ok (.bipush 6, 2) := by decide +kernel
theorem dX1_particlesAt_9 : decode cX1_particlesAt 9 = .ok (.if_icmp .ge 31, 3) := by decide +kernel
theorem dX1_particlesAt_12 : decode cX1_particlesAt 12 = .ok (.iload_n 3, 1) := by decide +kernel
theorem dX1_particlesAt_13 : decode cX1_particlesAt 13 = .ok (.aload_n 0, 1) := by decide +kernel
theorem dX1_particlesAt_14 : decode cX1_particlesAt 14 = .ok (.getfield 9, 3) := by decide +kernel
theorem dX1_particlesAt_17 : decode cX1_particlesAt 17 = .ok (.iload_n 2, 1) := by decide +kernel
theorem dX1_particlesAt_18 : decode cX1_particlesAt 18 = .ok (.bipush 6, 2) := by decide +kernel
theorem dX1_particlesAt_20 : decode cX1_particlesAt 20 = .ok (.imul, 1) := by decide +kernel
theorem dX1_particlesAt_21 : decode cX1_particlesAt 21 = .ok (.iload 4, 2) := by decide +kernel
theorem dX1_particlesAt_23 : decode cX1_particlesAt 23 = .ok (.iadd, 1) := by decide +kernel
theorem dX1_particlesAt_24 : decode cX1_particlesAt 24 = .ok (.iaload, 1) := by decide +kernel
theorem dX1_particlesAt_25 : decode cX1_particlesAt 25 = .ok (.iload_n 1, 1) := by decide +kernel
theorem dX1_particlesAt_26 : decode cX1_particlesAt 26 = .ok (.iushr, 1) := by decide +kernel
theorem dX1_particlesAt_27 : decode cX1_particlesAt 27 = .ok (.iconst 1, 1) := by decide +kernel
theorem dX1_particlesAt_28 : decode cX1_particlesAt 28 = .ok (.iand, 1) := by decide +kernel
theorem dX1_particlesAt_29 : decode cX1_particlesAt 29 = .ok (.iload 4, 2) := by decide +kernel
theorem dX1_particlesAt_31 : decode cX1_particlesAt 31 = .ok (.ishl, 1) := by decide +kernel
theorem dX1_particlesAt_32 : decode cX1_particlesAt 32 = .ok (.ior, 1) := by decide +kernel
theorem dX1_particlesAt_33 : decode cX1_particlesAt 33 = .ok (.istore_n 3, 1) := by decide +kernel
theorem dX1_particlesAt_34 : decode cX1_particlesAt 34 = .ok (.iinc 4 1, 3) := by decide +kernel
theorem dX1_particlesAt_37 : decode cX1_particlesAt 37 = .ok (.goto (-32), 3) := by decide +kernel
theorem dX1_particlesAt_40 : decode cX1_particlesAt 40 = .ok (.iload_n 3, 1) := by decide +kernel
theorem dX1_particlesAt_41 : decode cX1_particlesAt 41 = .ok (.ireturn, 1) := by decide +kernel
def f_X1_particlesAt : MX := mth 5 (sQ (sTi 3 (eI (0))) (sQ (sQ (sTi 4 (eI (0))) (sLp (cB c_lt (eLi 4) (eI (6))) (sQ (sTi 3 (eOp o_ior (eLi 3) (eOp o_ishl (eOp o_iand (eOp o_iushr (eAi 0 (eGa (eLa 0) 1 3) (eOp o_iadd (eOp o_imul (eLi 2) (eI (6))) (eLi 4))) (eLi 1)) (eI (1))) (eLi 4)))) (sInc 4 (1))) NF)) (sR (eLi 3))))
theorem Y_X1_particlesAt : Yk yX1_particlesAt cX1_particlesAt 5 (some .int) 2 := ⟨w593, w3, by decide +kernel, by decide +kernel, by decide +kernel⟩
set_option maxRecDepth 20000 in
theorem k_X1_particlesAt (l : Launch) (g : GE) : MetX l g yX1_particlesAt cX1_particlesAt 5 (some .int) 3 ({ frames := 0, cells := 0, slots := 0, locals := 0 } : Room) f_X1_particlesAt := by
  unfold f_X1_particlesAt
  exact MetX.of (own := RX1) 100 0 rfl (by decide +kernel) (by decide) (fun p e s m args below meth c Fin ad0 hr hn => ⟨_, _, Sv_seq (Sv_istore_n (Ev_iconst dX1_particlesAt_0 (by decide)) dX1_particlesAt_1 rfl (Nat.le_of_ble_eq_true rfl) (Nat.ne_of_beq_eq_false rfl)) (Sv_seq (Sv_seq (Sv_istore (Ev_iconst dX1_particlesAt_2 (by decide)) dX1_particlesAt_3 (Nat.le_of_ble_eq_true rfl) (Nat.ne_of_beq_eq_false rfl)) (Sv_loop0 NF (Cv_icmp_ge_n (Ev_iload dX1_particlesAt_5) (Ev_bipush dX1_particlesAt_7 (by decide)) (t := 40) dX1_particlesAt_9 (by decide)) (Sv_goto (pE := 5) (Sv_seq (Sv_istore_n (Ev_ior (Ev_iload_n dX1_particlesAt_12 rfl) (Ev_ishl (Ev_iand (Ev_iushr (Ev_iaload (Ev_getA Fx1 (Ev_aload_n dX1_particlesAt_13 rfl) (k := 3) (by decide) w51 dX1_particlesAt_14) (Ev_iadd (Ev_imul (Ev_iload_n dX1_particlesAt_17 rfl) (Ev_bipush dX1_particlesAt_18 (by decide)) dX1_particlesAt_20) (Ev_iload dX1_particlesAt_21) dX1_particlesAt_23) dX1_particlesAt_24) (Ev_iload_n dX1_particlesAt_25 rfl) dX1_particlesAt_26) (Ev_iconst dX1_particlesAt_27 (by decide)) dX1_particlesAt_28) (Ev_iload dX1_particlesAt_29) dX1_particlesAt_31) dX1_particlesAt_32) dX1_particlesAt_33 rfl (Nat.le_of_ble_eq_true rfl) (Nat.ne_of_beq_eq_false rfl)) (Sv_iinc dX1_particlesAt_34 (by decide) (Nat.le_of_ble_eq_true rfl) (Nat.ne_of_beq_eq_false rfl))) dX1_particlesAt_37 (by decide)))) (Sv_ret (Ev_iload_n dX1_particlesAt_40 rfl) hr dX1_particlesAt_41)), Nat.le_of_ble_eq_true rfl, Nat.le_of_ble_eq_true rfl⟩)
theorem dX1_bodyAt_0 : decode cX1_bodyAt 0 = .ok (.iconst 0, 1) := by decide +kernel
theorem dX1_bodyAt_1 : decode cX1_bodyAt 1 = .ok (.istore_n 3, 1) := by decide +kernel
theorem dX1_bodyAt_2 : decode cX1_bodyAt 2 = .ok (.iload_n 3, 1) := by decide +kernel
theorem dX1_bodyAt_3 : decode cX1_bodyAt 3 = .ok (.bipush 6, 2) := by decide +kernel
theorem dX1_bodyAt_5 : decode cX1_bodyAt 5 = .ok (.if_icmp .ge 29, 3) := by decide +kernel
theorem dX1_bodyAt_8 : decode cX1_bodyAt 8 = .ok (.aload_n 0, 1) := by decide +kernel
theorem dX1_bodyAt_9 : decode cX1_bodyAt 9 = .ok (.getfield 15, 3) := by decide +kernel
theorem dX1_bodyAt_12 : decode cX1_bodyAt 12 = .ok (.iload_n 2, 1) := by decide +kernel
theorem dX1_bodyAt_13 : decode cX1_bodyAt 13 = .ok (.bipush 6, 2) := by decide +kernel
theorem dX1_bodyAt_15 : decode cX1_bodyAt 15 = .ok (.imul, 1) := by decide +kernel
theorem dX1_bodyAt_16 : decode cX1_bodyAt 16 = .ok (.iload_n 3, 1) := by decide +kernel
theorem dX1_bodyAt_17 : decode cX1_bodyAt 17 = .ok (.iadd, 1) := by decide +kernel
theorem dX1_bodyAt_18 : decode cX1_bodyAt 18 = .ok (.iaload, 1) := by decide +kernel
theorem dX1_bodyAt_19 : decode cX1_bodyAt 19 = .ok (.iload_n 1, 1) := by decide +kernel
theorem dX1_bodyAt_20 : decode cX1_bodyAt 20 = .ok (.iushr, 1) := by decide +kernel
theorem dX1_bodyAt_21 : decode cX1_bodyAt 21 = .ok (.iconst 1, 1) := by decide +kernel
theorem dX1_bodyAt_22 : decode cX1_bodyAt 22 = .ok (.iand, 1) := by decide +kernel
theorem dX1_bodyAt_23 : decode cX1_bodyAt 23 = .ok (.ifCond .eq 5, 3) := by decide +kernel
theorem dX1_bodyAt_26 : decode cX1_bodyAt 26 = .ok (.iload_n 3, 1) := by decide +kernel
theorem dX1_bodyAt_27 : decode cX1_bodyAt 27 = .ok (.ireturn, 1) := by decide +kernel
theorem dX1_bodyAt_28 : decode cX1_bodyAt 28 = .ok (.iinc 3 1, 3) := by decide +kernel
theorem dX1_bodyAt_31 : decode cX1_bodyAt 31 = .ok (.goto (-29), 3) := by decide +kernel
theorem dX1_bodyAt_34 : decode cX1_bodyAt 34 = .ok (.iconst (-1), 1) := by decide +kernel
theorem dX1_bodyAt_35 : decode cX1_bodyAt 35 = .ok (.ireturn, 1) := by decide +kernel
def f_X1_bodyAt : MX := mth 4 (sQ (sQ (sTi 3 (eI (0))) (sLp (cB c_lt (eLi 3) (eI (6))) (sQ (sIf (cZ z_ne (eOp o_iand (eOp o_iushr (eAi 0 (eGa (eLa 0) 1 4) (eOp o_iadd (eOp o_imul (eLi 2) (eI (6))) (eLi 3))) (eLi 1)) (eI (1)))) (sR (eLi 3)) sN) (sInc 3 (1))) NF)) (sR (eI (-1))))
theorem Y_X1_bodyAt : Yk yX1_bodyAt cX1_bodyAt 4 (some .int) 2 := ⟨w589, w3, by decide +kernel, by decide +kernel, by decide +kernel⟩
set_option maxRecDepth 20000 in
theorem k_X1_bodyAt (l : Launch) (g : GE) : MetX l g yX1_bodyAt cX1_bodyAt 4 (some .int) 3 ({ frames := 0, cells := 0, slots := 0, locals := 0 } : Room) f_X1_bodyAt := by
  unfold f_X1_bodyAt
  exact MetX.of (own := RX1) 100 0 rfl (by decide +kernel) (by decide) (fun p e s m args below meth c Fin ad0 hr hn => ⟨_, _, Sv_seq (Sv_seq (Sv_istore_n (Ev_iconst dX1_bodyAt_0 (by decide)) dX1_bodyAt_1 rfl (Nat.le_of_ble_eq_true rfl) (Nat.ne_of_beq_eq_false rfl)) (Sv_loop0 NF (Cv_icmp_ge_n (Ev_iload_n dX1_bodyAt_2 rfl) (Ev_bipush dX1_bodyAt_3 (by decide)) (t := 34) dX1_bodyAt_5 (by decide)) (Sv_goto (pE := 2) (Sv_seq (Sv_if (Cv_if_eq_n (Ev_iand (Ev_iushr (Ev_iaload (Ev_getA Fx1 (Ev_aload_n dX1_bodyAt_8 rfl) (k := 4) (by decide) w55 dX1_bodyAt_9) (Ev_iadd (Ev_imul (Ev_iload_n dX1_bodyAt_12 rfl) (Ev_bipush dX1_bodyAt_13 (by decide)) dX1_bodyAt_15) (Ev_iload_n dX1_bodyAt_16 rfl) dX1_bodyAt_17) dX1_bodyAt_18) (Ev_iload_n dX1_bodyAt_19 rfl) dX1_bodyAt_20) (Ev_iconst dX1_bodyAt_21 (by decide)) dX1_bodyAt_22) (t := 28) dX1_bodyAt_23 (by decide)) (Sv_ret (Ev_iload_n dX1_bodyAt_26 rfl) hr dX1_bodyAt_27) Sv_nop) (Sv_iinc dX1_bodyAt_28 (by decide) (Nat.le_of_ble_eq_true rfl) (Nat.ne_of_beq_eq_false rfl))) dX1_bodyAt_31 (by decide)))) (Sv_ret (Ev_iconst dX1_bodyAt_34 (by decide)) hr dX1_bodyAt_35), Nat.le_of_ble_eq_true rfl, Nat.le_of_ble_eq_true rfl⟩)
theorem dJ6_bitCount_0f7a4_0 : decode cJ6_bitCount_0f7a4 0 = .ok (.iload_n 0, 1) := by decide +kernel
theorem dJ6_bitCount_0f7a4_1 : decode cJ6_bitCount_0f7a4 1 = .ok (.iload_n 0, 1) := by decide +kernel
theorem dJ6_bitCount_0f7a4_2 : decode cJ6_bitCount_0f7a4 2 = .ok (.iconst 1, 1) := by decide +kernel
theorem dJ6_bitCount_0f7a4_3 : decode cJ6_bitCount_0f7a4 3 = .ok (.iushr, 1) := by decide +kernel
theorem dJ6_bitCount_0f7a4_4 : decode cJ6_bitCount_0f7a4 4 = .ok (.ldc_w 265, 3) := by decide +kernel
theorem dJ6_bitCount_0f7a4_7 : decode cJ6_bitCount_0f7a4 7 = .ok (.iand, 1) := by decide +kernel
theorem dJ6_bitCount_0f7a4_8 : decode cJ6_bitCount_0f7a4 8 = .ok (.isub, 1) := by decide +kernel
theorem dJ6_bitCount_0f7a4_9 : decode cJ6_bitCount_0f7a4 9 = .ok (.istore_n 0, 1) := by decide +kernel
theorem dJ6_bitCount_0f7a4_10 : decode cJ6_bitCount_0f7a4 10 = .ok (.iload_n 0, 1) := by decide +kernel
theorem dJ6_bitCount_0f7a4_11 : decode cJ6_bitCount_0f7a4 11 = .ok (.ldc_w 266, 3) := by decide +kernel
theorem dJ6_bitCount_0f7a4_14 : decode cJ6_bitCount_0f7a4 14 = .ok (.iand, 1) := by decide +kernel
theorem dJ6_bitCount_0f7a4_15 : decode cJ6_bitCount_0f7a4 15 = .ok (.iload_n 0, 1) := by decide +kernel
theorem dJ6_bitCount_0f7a4_16 : decode cJ6_bitCount_0f7a4 16 = .ok (.iconst 2, 1) := by decide +kernel
theorem dJ6_bitCount_0f7a4_17 : decode cJ6_bitCount_0f7a4 17 = .ok (.iushr, 1) := by decide +kernel
theorem dJ6_bitCount_0f7a4_18 : decode cJ6_bitCount_0f7a4 18 = .ok (.ldc_w 266, 3) := by decide +kernel
theorem dJ6_bitCount_0f7a4_21 : decode cJ6_bitCount_0f7a4 21 = .ok (.iand, 1) := by decide +kernel
theorem dJ6_bitCount_0f7a4_22 : decode cJ6_bitCount_0f7a4 22 = .ok (.iadd, 1) := by decide +kernel
theorem dJ6_bitCount_0f7a4_23 : decode cJ6_bitCount_0f7a4 23 = .ok (.istore_n 0, 1) := by decide +kernel
theorem dJ6_bitCount_0f7a4_24 : decode cJ6_bitCount_0f7a4 24 = .ok (.iload_n 0, 1) := by decide +kernel
theorem dJ6_bitCount_0f7a4_25 : decode cJ6_bitCount_0f7a4 25 = .ok (.iload_n 0, 1) := by decide +kernel
theorem dJ6_bitCount_0f7a4_26 : decode cJ6_bitCount_0f7a4 26 = .ok (.iconst 4, 1) := by decide +kernel
theorem dJ6_bitCount_0f7a4_27 : decode cJ6_bitCount_0f7a4 27 = .ok (.iushr, 1) := by decide +kernel
theorem dJ6_bitCount_0f7a4_28 : decode cJ6_bitCount_0f7a4 28 = .ok (.iadd, 1) := by decide +kernel
theorem dJ6_bitCount_0f7a4_29 : decode cJ6_bitCount_0f7a4 29 = .ok (.ldc_w 267, 3) := by decide +kernel
theorem dJ6_bitCount_0f7a4_32 : decode cJ6_bitCount_0f7a4 32 = .ok (.iand, 1) := by decide +kernel
theorem dJ6_bitCount_0f7a4_33 : decode cJ6_bitCount_0f7a4 33 = .ok (.istore_n 0, 1) := by decide +kernel
theorem dJ6_bitCount_0f7a4_34 : decode cJ6_bitCount_0f7a4 34 = .ok (.iload_n 0, 1) := by decide +kernel
theorem dJ6_bitCount_0f7a4_35 : decode cJ6_bitCount_0f7a4 35 = .ok (.iload_n 0, 1) := by decide +kernel
theorem dJ6_bitCount_0f7a4_36 : decode cJ6_bitCount_0f7a4 36 = .ok (.bipush 8, 2) := by decide +kernel
theorem dJ6_bitCount_0f7a4_38 : decode cJ6_bitCount_0f7a4 38 = .ok (.iushr, 1) := by decide +kernel
theorem dJ6_bitCount_0f7a4_39 : decode cJ6_bitCount_0f7a4 39 = .ok (.iadd, 1) := by decide +kernel
theorem dJ6_bitCount_0f7a4_40 : decode cJ6_bitCount_0f7a4 40 = .ok (.istore_n 0, 1) := by decide +kernel
theorem dJ6_bitCount_0f7a4_41 : decode cJ6_bitCount_0f7a4 41 = .ok (.iload_n 0, 1) := by decide +kernel
theorem dJ6_bitCount_0f7a4_42 : decode cJ6_bitCount_0f7a4 42 = .ok (.iload_n 0, 1) := by decide +kernel
theorem dJ6_bitCount_0f7a4_43 : decode cJ6_bitCount_0f7a4 43 = .ok (.bipush 16, 2) := by decide +kernel
theorem dJ6_bitCount_0f7a4_45 : decode cJ6_bitCount_0f7a4 45 = .ok (.iushr, 1) := by decide +kernel
theorem dJ6_bitCount_0f7a4_46 : decode cJ6_bitCount_0f7a4 46 = .ok (.iadd, 1) := by decide +kernel
theorem dJ6_bitCount_0f7a4_47 : decode cJ6_bitCount_0f7a4 47 = .ok (.istore_n 0, 1) := by decide +kernel
theorem dJ6_bitCount_0f7a4_48 : decode cJ6_bitCount_0f7a4 48 = .ok (.iload_n 0, 1) := by decide +kernel
theorem dJ6_bitCount_0f7a4_49 : decode cJ6_bitCount_0f7a4 49 = .ok (.bipush 63, 2) := by decide +kernel
theorem dJ6_bitCount_0f7a4_51 : decode cJ6_bitCount_0f7a4 51 = .ok (.iand, 1) := by decide +kernel
theorem dJ6_bitCount_0f7a4_52 : decode cJ6_bitCount_0f7a4 52 = .ok (.ireturn, 1) := by decide +kernel
def f_J6_bitCount_0f7a4 : MX := mth 1 (sQ (sTi 0 (eOp o_isub (eLi 0) (eOp o_iand (eOp o_iushr (eLi 0) (eI (1))) (eI (1431655765))))) (sQ (sTi 0 (eOp o_iadd (eOp o_iand (eLi 0) (eI (858993459))) (eOp o_iand (eOp o_iushr (eLi 0) (eI (2))) (eI (858993459))))) (sQ (sTi 0 (eOp o_iand (eOp o_iadd (eLi 0) (eOp o_iushr (eLi 0) (eI (4)))) (eI (252645135)))) (sQ (sTi 0 (eOp o_iadd (eLi 0) (eOp o_iushr (eLi 0) (eI (8))))) (sQ (sTi 0 (eOp o_iadd (eLi 0) (eOp o_iushr (eLi 0) (eI (16))))) (sR (eOp o_iand (eLi 0) (eI (63)))))))))
theorem Y_J6_bitCount_0f7a4 : Yk yJ6_bitCount_0f7a4 cJ6_bitCount_0f7a4 1 (some .int) 1 := ⟨w362, w14, by decide +kernel, by decide +kernel, by decide +kernel⟩
set_option maxRecDepth 20000 in
theorem k_J6_bitCount_0f7a4 (l : Launch) (g : GE) : MetX l g yJ6_bitCount_0f7a4 cJ6_bitCount_0f7a4 1 (some .int) 1 ({ frames := 0, cells := 0, slots := 0, locals := 0 } : Room) f_J6_bitCount_0f7a4 := by
  unfold f_J6_bitCount_0f7a4
  exact MetX.of (own := RJ6) 100 0 rfl (by decide +kernel) (by decide) (fun p e s m args below meth c Fin ad0 hr hn => ⟨_, _, Sv_seq (Sv_istore_n (Ev_isub (Ev_iload_n dJ6_bitCount_0f7a4_0 rfl) (Ev_iand (Ev_iushr (Ev_iload_n dJ6_bitCount_0f7a4_1 rfl) (Ev_iconst dJ6_bitCount_0f7a4_2 (by decide)) dJ6_bitCount_0f7a4_3) (Ev_ldcw w363 dJ6_bitCount_0f7a4_4) dJ6_bitCount_0f7a4_7) dJ6_bitCount_0f7a4_8) dJ6_bitCount_0f7a4_9 rfl (Nat.le_of_ble_eq_true rfl) (Nat.ne_of_beq_eq_false rfl)) (Sv_seq (Sv_istore_n (Ev_iadd (Ev_iand (Ev_iload_n dJ6_bitCount_0f7a4_10 rfl) (Ev_ldcw w364 dJ6_bitCount_0f7a4_11) dJ6_bitCount_0f7a4_14) (Ev_iand (Ev_iushr (Ev_iload_n dJ6_bitCount_0f7a4_15 rfl) (Ev_iconst dJ6_bitCount_0f7a4_16 (by decide)) dJ6_bitCount_0f7a4_17) (Ev_ldcw w364 dJ6_bitCount_0f7a4_18) dJ6_bitCount_0f7a4_21) dJ6_bitCount_0f7a4_22) dJ6_bitCount_0f7a4_23 rfl (Nat.le_of_ble_eq_true rfl) (Nat.ne_of_beq_eq_false rfl)) (Sv_seq (Sv_istore_n (Ev_iand (Ev_iadd (Ev_iload_n dJ6_bitCount_0f7a4_24 rfl) (Ev_iushr (Ev_iload_n dJ6_bitCount_0f7a4_25 rfl) (Ev_iconst dJ6_bitCount_0f7a4_26 (by decide)) dJ6_bitCount_0f7a4_27) dJ6_bitCount_0f7a4_28) (Ev_ldcw w365 dJ6_bitCount_0f7a4_29) dJ6_bitCount_0f7a4_32) dJ6_bitCount_0f7a4_33 rfl (Nat.le_of_ble_eq_true rfl) (Nat.ne_of_beq_eq_false rfl)) (Sv_seq (Sv_istore_n (Ev_iadd (Ev_iload_n dJ6_bitCount_0f7a4_34 rfl) (Ev_iushr (Ev_iload_n dJ6_bitCount_0f7a4_35 rfl) (Ev_bipush dJ6_bitCount_0f7a4_36 (by decide)) dJ6_bitCount_0f7a4_38) dJ6_bitCount_0f7a4_39) dJ6_bitCount_0f7a4_40 rfl (Nat.le_of_ble_eq_true rfl) (Nat.ne_of_beq_eq_false rfl)) (Sv_seq (Sv_istore_n (Ev_iadd (Ev_iload_n dJ6_bitCount_0f7a4_41 rfl) (Ev_iushr (Ev_iload_n dJ6_bitCount_0f7a4_42 rfl) (Ev_bipush dJ6_bitCount_0f7a4_43 (by decide)) dJ6_bitCount_0f7a4_45) dJ6_bitCount_0f7a4_46) dJ6_bitCount_0f7a4_47 rfl (Nat.le_of_ble_eq_true rfl) (Nat.ne_of_beq_eq_false rfl)) (Sv_ret (Ev_iand (Ev_iload_n dJ6_bitCount_0f7a4_48 rfl) (Ev_bipush dJ6_bitCount_0f7a4_49 (by decide)) dJ6_bitCount_0f7a4_51) hr dJ6_bitCount_0f7a4_52))))), Nat.le_of_ble_eq_true rfl, Nat.le_of_ble_eq_true rfl⟩)
theorem dX1_numberIn_0 : decode cX1_numberIn 0 = .ok (.iconst 0, 1) := by decide +kernel
theorem dX1_numberIn_1 : decode cX1_numberIn 1 = .ok (.istore 4, 2) := by decide +kernel
theorem dX1_numberIn_3 : decode cX1_numberIn 3 = .ok (.iload_n 2, 1) := by decide +kernel
theorem dX1_numberIn_4 : decode cX1_numberIn 4 = .ok (.bipush 6, 2) := by decide +kernel
theorem dX1_numberIn_6 : decode cX1_numberIn 6 = .ok (.imul, 1) := by decide +kernel
theorem dX1_numberIn_7 : decode cX1_numberIn 7 = .ok (.istore 5, 2) := by decide +kernel
theorem dX1_numberIn_9 : decode cX1_numberIn 9 = .ok (.iload 5, 2) := by decide +kernel
theorem dX1_numberIn_11 : decode cX1_numberIn 11 = .ok (.iload_n 3, 1) := by decide +kernel
theorem dX1_numberIn_12 : decode cX1_numberIn 12 = .ok (.iconst 1, 1) := by decide +kernel
theorem dX1_numberIn_13 : decode cX1_numberIn 13 = .ok (.iadd, 1) := by decide +kernel
theorem dX1_numberIn_14 : decode cX1_numberIn 14 = .ok (.bipush 6, 2) := by decide +kernel
theorem dX1_numberIn_16 : decode cX1_numberIn 16 = .ok (.imul, 1) := by decide +kernel
theorem dX1_numberIn_17 : decode cX1_numberIn 17 = .ok (.if_icmp .ge 26, 3) := by decide +kernel
theorem dX1_numberIn_20 : decode cX1_numberIn 20 = .ok (.iload 4, 2) := by decide +kernel
theorem dX1_numberIn_22 : decode cX1_numberIn 22 = .ok (.aload_n 0, 1) := by decide +kernel
theorem dX1_numberIn_23 : decode cX1_numberIn 23 = .ok (.getfield 9, 3) := by decide +kernel
theorem dX1_numberIn_26 : decode cX1_numberIn 26 = .ok (.iload 5, 2) := by decide +kernel
theorem dX1_numberIn_28 : decode cX1_numberIn 28 = .ok (.iaload, 1) := by decide +kernel
theorem dX1_numberIn_29 : decode cX1_numberIn 29 = .ok (.iload_n 1, 1) := by decide +kernel
theorem dX1_numberIn_30 : decode cX1_numberIn 30 = .ok (.iand, 1) := by decide +kernel
theorem dX1_numberIn_31 : decode cX1_numberIn 31 = .ok (.invokestatic 44, 3) := by decide +kernel
theorem dX1_numberIn_34 : decode cX1_numberIn 34 = .ok (.iadd, 1) := by decide +kernel
theorem dX1_numberIn_35 : decode cX1_numberIn 35 = .ok (.istore 4, 2) := by decide +kernel
theorem dX1_numberIn_37 : decode cX1_numberIn 37 = .ok (.iinc 5 1, 3) := by decide +kernel
theorem dX1_numberIn_40 : decode cX1_numberIn 40 = .ok (.goto (-31), 3) := by decide +kernel
theorem dX1_numberIn_43 : decode cX1_numberIn 43 = .ok (.iload 4, 2) := by decide +kernel
theorem dX1_numberIn_45 : decode cX1_numberIn 45 = .ok (.ireturn, 1) := by decide +kernel
def f_X1_numberIn : MX := mth 6 (sQ (sTi 4 (eI (0))) (sQ (sQ (sTi 5 (eOp o_imul (eLi 2) (eI (6)))) (sLp (cB c_lt (eLi 5) (eOp o_imul (eOp o_iadd (eLi 3) (eI (1))) (eI (6)))) (sQ (sTi 4 (eOp o_iadd (eLi 4) (eM (f_J6_bitCount_0f7a4) (aI (aN) (eOp o_iand (eAi 0 (eGa (eLa 0) 1 3) (eLi 5)) (eLi 1)))))) (sInc 5 (1))) NF)) (sR (eLi 4))))
theorem Y_X1_numberIn : Yk yX1_numberIn cX1_numberIn 6 (some .int) 3 := ⟨w940, w3, by decide +kernel, by decide +kernel, by decide +kernel⟩
set_option maxRecDepth 20000 in
theorem k_X1_numberIn (l : Launch) (g : GE) : MetX l g yX1_numberIn cX1_numberIn 6 (some .int) 4 ({ frames := 1, cells := 0, slots := 0, locals := 20 } : Room) f_X1_numberIn := by
  unfold f_X1_numberIn
  exact MetX.of (own := RX1) 100 0 rfl (by decide +kernel) (by decide) (fun p e s m args below meth c Fin ad0 hr hn => ⟨_, _, Sv_seq (Sv_istore (Ev_iconst dX1_numberIn_0 (by decide)) dX1_numberIn_1 (Nat.le_of_ble_eq_true rfl) (Nat.ne_of_beq_eq_false rfl)) (Sv_seq (Sv_seq (Sv_istore (Ev_imul (Ev_iload_n dX1_numberIn_3 rfl) (Ev_bipush dX1_numberIn_4 (by decide)) dX1_numberIn_6) dX1_numberIn_7 (Nat.le_of_ble_eq_true rfl) (Nat.ne_of_beq_eq_false rfl)) (Sv_loop0 NF (Cv_icmp_ge_n (Ev_iload dX1_numberIn_9) (Ev_imul (Ev_iadd (Ev_iload_n dX1_numberIn_11 rfl) (Ev_iconst dX1_numberIn_12 (by decide)) dX1_numberIn_13) (Ev_bipush dX1_numberIn_14 (by decide)) dX1_numberIn_16) (t := 43) dX1_numberIn_17 (by decide)) (Sv_goto (pE := 9) (Sv_seq (Sv_istore (Ev_iadd (Ev_iload dX1_numberIn_20) (Ev_call (Av_i (Av_nil) (Ev_iand (Ev_iaload (Ev_getA Fx1 (Ev_aload_n dX1_numberIn_22 rfl) (k := 3) (by decide) w51 dX1_numberIn_23) (Ev_iload dX1_numberIn_26) dX1_numberIn_28) (Ev_iload_n dX1_numberIn_29 rfl) dX1_numberIn_30)) (Rn_S Y_J6_bitCount_0f7a4 (k_J6_bitCount_0f7a4 _ _) w625 w361 dX1_numberIn_31 (Nat.le_of_ble_eq_true rfl) (Nat.le_of_ble_eq_true rfl) (Nat.le_of_ble_eq_true rfl) (Nat.ne_of_beq_eq_false rfl))) dX1_numberIn_34) dX1_numberIn_35 (Nat.le_of_ble_eq_true rfl) (Nat.ne_of_beq_eq_false rfl)) (Sv_iinc dX1_numberIn_37 (by decide) (Nat.le_of_ble_eq_true rfl) (Nat.ne_of_beq_eq_false rfl))) dX1_numberIn_40 (by decide)))) (Sv_ret (Ev_iload dX1_numberIn_43) hr dX1_numberIn_45)), Nat.le_of_ble_eq_true rfl, Nat.le_of_ble_eq_true rfl⟩)
theorem dX7_momentumOf_0 : decode cX7_momentumOf 0 = .ok (.iload_n 0, 1) := by decide +kernel
theorem dX7_momentumOf_1 : decode cX7_momentumOf 1 = .ok (.ifCond .ne 11, 3) := by decide +kernel
theorem dX7_momentumOf_4 : decode cX7_momentumOf 4 = .ok (.getstatic 319, 3) := by decide +kernel
theorem dX7_momentumOf_7 : decode cX7_momentumOf 7 = .ok (.iload_n 1, 1) := by decide +kernel
theorem dX7_momentumOf_8 : decode cX7_momentumOf 8 = .ok (.iaload, 1) := by decide +kernel
theorem dX7_momentumOf_9 : decode cX7_momentumOf 9 = .ok (.goto 8, 3) := by decide +kernel
theorem dX7_momentumOf_12 : decode cX7_momentumOf 12 = .ok (.getstatic 322, 3) := by decide +kernel
theorem dX7_momentumOf_15 : decode cX7_momentumOf 15 = .ok (.iload_n 1, 1) := by decide +kernel
theorem dX7_momentumOf_16 : decode cX7_momentumOf 16 = .ok (.iaload, 1) := by decide +kernel
theorem dX7_momentumOf_17 : decode cX7_momentumOf 17 = .ok (.ireturn, 1) := by decide +kernel
def f_X7_momentumOf : MX := mth 2 (sR (eIf (cZ z_eq (eLi 0)) (eAi 0 (eZ 0) (eLi 1)) (eAi 0 (eZ 1) (eLi 1))))
theorem Y_X7_momentumOf : Yk yX7_momentumOf cX7_momentumOf 2 (some .int) 2 := ⟨w368, w1, by decide +kernel, by decide +kernel, by decide +kernel⟩
set_option maxRecDepth 20000 in
theorem k_X7_momentumOf (l : Launch) (g : GE) : MetX l g yX7_momentumOf cX7_momentumOf 2 (some .int) 2 ({ frames := 0, cells := 0, slots := 0, locals := 0 } : Room) f_X7_momentumOf := by
  unfold f_X7_momentumOf
  exact MetX.of (own := RX7) 100 0 rfl (by decide +kernel) (by decide) (fun p e s m args below meth c Fin ad0 hr hn => ⟨_, _, Sv_ret (Ev_if (pT := 17) (Cv_if_ne_n (Ev_iload_n dX7_momentumOf_0 rfl) (t := 12) dX7_momentumOf_1 (by decide)) (Ev_iaload (Ev_gets (q := ("ALONG", 0)) (by decide) w369 dX7_momentumOf_4) (Ev_iload_n dX7_momentumOf_7 rfl) dX7_momentumOf_8) dX7_momentumOf_9 (by decide) (Ev_iaload (Ev_gets (q := ("ACROSS", 1)) (by decide) w371 dX7_momentumOf_12) (Ev_iload_n dX7_momentumOf_15 rfl) dX7_momentumOf_16)) hr dX7_momentumOf_17, Nat.le_of_ble_eq_true rfl, Nat.le_of_ble_eq_true rfl⟩)
theorem nt_X7_momentumOf : ∀ vs hp hp' E, f_X7_momentumOf vs hp ≠ some (hp', .inr E) := nt_ret (nxE_If (nxE_cZ (nxE_Li)) (nxE_Ai (nxE_Z) (nxE_Li)) (nxE_Ai (nxE_Z) (nxE_Li)))
theorem dX1_momentumIn_0 : decode cX1_momentumIn 0 = .ok (.iconst 0, 1) := by decide +kernel
theorem dX1_momentumIn_1 : decode cX1_momentumIn 1 = .ok (.istore 5, 2) := by decide +kernel
theorem dX1_momentumIn_3 : decode cX1_momentumIn 3 = .ok (.iload_n 3, 1) := by decide +kernel
theorem dX1_momentumIn_4 : decode cX1_momentumIn 4 = .ok (.istore 6, 2) := by decide +kernel
theorem dX1_momentumIn_6 : decode cX1_momentumIn 6 = .ok (.iload 6, 2) := by decide +kernel
theorem dX1_momentumIn_8 : decode cX1_momentumIn 8 = .ok (.iload 4, 2) := by decide +kernel
theorem dX1_momentumIn_10 : decode cX1_momentumIn 10 = .ok (.if_icmp .gt 55, 3) := by decide +kernel
theorem dX1_momentumIn_13 : decode cX1_momentumIn 13 = .ok (.iconst 0, 1) := by decide +kernel
theorem dX1_momentumIn_14 : decode cX1_momentumIn 14 = .ok (.istore 7, 2) := by decide +kernel
theorem dX1_momentumIn_16 : decode cX1_momentumIn 16 = .ok (.iload 7, 2) := by decide +kernel
theorem dX1_momentumIn_18 : decode cX1_momentumIn 18 = .ok (.bipush 6, 2) := by decide +kernel
theorem dX1_momentumIn_20 : decode cX1_momentumIn 20 = .ok (.if_icmp .ge 39, 3) := by decide +kernel
theorem dX1_momentumIn_23 : decode cX1_momentumIn 23 = .ok (.iload 5, 2) := by decide +kernel
theorem dX1_momentumIn_25 : decode cX1_momentumIn 25 = .ok (.iload_n 1, 1) := by decide +kernel
theorem dX1_momentumIn_26 : decode cX1_momentumIn 26 = .ok (.iload 7, 2) := by decide +kernel
theorem dX1_momentumIn_28 : decode cX1_momentumIn 28 = .ok (.invokestatic 50, 3) := by decide +kernel
theorem dX1_momentumIn_31 : decode cX1_momentumIn 31 = .ok (.aload_n 0, 1) := by decide +kernel
theorem dX1_momentumIn_32 : decode cX1_momentumIn 32 = .ok (.getfield 9, 3) := by decide +kernel
theorem dX1_momentumIn_35 : decode cX1_momentumIn 35 = .ok (.iload 6, 2) := by decide +kernel
theorem dX1_momentumIn_37 : decode cX1_momentumIn 37 = .ok (.bipush 6, 2) := by decide +kernel
theorem dX1_momentumIn_39 : decode cX1_momentumIn 39 = .ok (.imul, 1) := by decide +kernel
theorem dX1_momentumIn_40 : decode cX1_momentumIn 40 = .ok (.iload 7, 2) := by decide +kernel
theorem dX1_momentumIn_42 : decode cX1_momentumIn 42 = .ok (.iadd, 1) := by decide +kernel
theorem dX1_momentumIn_43 : decode cX1_momentumIn 43 = .ok (.iaload, 1) := by decide +kernel
theorem dX1_momentumIn_44 : decode cX1_momentumIn 44 = .ok (.iload_n 2, 1) := by decide +kernel
theorem dX1_momentumIn_45 : decode cX1_momentumIn 45 = .ok (.iand, 1) := by decide +kernel
theorem dX1_momentumIn_46 : decode cX1_momentumIn 46 = .ok (.invokestatic 44, 3) := by decide +kernel
theorem dX1_momentumIn_49 : decode cX1_momentumIn 49 = .ok (.imul, 1) := by decide +kernel
theorem dX1_momentumIn_50 : decode cX1_momentumIn 50 = .ok (.iadd, 1) := by decide +kernel
theorem dX1_momentumIn_51 : decode cX1_momentumIn 51 = .ok (.istore 5, 2) := by decide +kernel
theorem dX1_momentumIn_53 : decode cX1_momentumIn 53 = .ok (.iinc 7 1, 3) := by decide +kernel
theorem dX1_momentumIn_56 : decode cX1_momentumIn 56 = .ok (.goto (-40), 3) := by decide +kernel
theorem dX1_momentumIn_59 : decode cX1_momentumIn 59 = .ok (.iinc 6 1, 3) := by decide +kernel
theorem dX1_momentumIn_62 : decode cX1_momentumIn 62 = .ok (.goto (-56), 3) := by decide +kernel
theorem dX1_momentumIn_65 : decode cX1_momentumIn 65 = .ok (.iload 5, 2) := by decide +kernel
theorem dX1_momentumIn_67 : decode cX1_momentumIn 67 = .ok (.ireturn, 1) := by decide +kernel
def f_X1_momentumIn : MX := mth 8 (sQ (sTi 5 (eI (0))) (sQ (sQ (sTi 6 (eLi 3)) (sLp (cB c_le (eLi 6) (eLi 4)) (sQ (sQ (sTi 7 (eI (0))) (sLp (cB c_lt (eLi 7) (eI (6))) (sQ (sTi 5 (eOp o_iadd (eLi 5) (eOp o_imul (eM (f_X7_momentumOf) (aI (aI (aN) (eLi 1)) (eLi 7))) (eM (f_J6_bitCount_0f7a4) (aI (aN) (eOp o_iand (eAi 0 (eGa (eLa 0) 1 3) (eOp o_iadd (eOp o_imul (eLi 6) (eI (6))) (eLi 7))) (eLi 2))))))) (sInc 7 (1))) NF)) (sInc 6 (1))) NF)) (sR (eLi 5))))
theorem Y_X1_momentumIn : Yk yX1_momentumIn cX1_momentumIn 8 (some .int) 4 := ⟨w951, w3, by decide +kernel, by decide +kernel, by decide +kernel⟩
set_option maxRecDepth 20000 in
theorem k_X1_momentumIn (l : Launch) (g : GE) : MetX l g yX1_momentumIn cX1_momentumIn 8 (some .int) 5 ({ frames := 1, cells := 0, slots := 0, locals := 21 } : Room) f_X1_momentumIn := by
  unfold f_X1_momentumIn
  exact MetX.of (own := RX1) 100 0 rfl (by decide +kernel) (by decide) (fun p e s m args below meth c Fin ad0 hr hn => ⟨_, _, Sv_seq (Sv_istore (Ev_iconst dX1_momentumIn_0 (by decide)) dX1_momentumIn_1 (Nat.le_of_ble_eq_true rfl) (Nat.ne_of_beq_eq_false rfl)) (Sv_seq (Sv_seq (Sv_istore (Ev_iload_n dX1_momentumIn_3 rfl) dX1_momentumIn_4 (Nat.le_of_ble_eq_true rfl) (Nat.ne_of_beq_eq_false rfl)) (Sv_loop0 NF (Cv_icmp_gt_n (Ev_iload dX1_momentumIn_6) (Ev_iload dX1_momentumIn_8) (t := 65) dX1_momentumIn_10 (by decide)) (Sv_goto (pE := 6) (Sv_seq (Sv_seq (Sv_istore (Ev_iconst dX1_momentumIn_13 (by decide)) dX1_momentumIn_14 (Nat.le_of_ble_eq_true rfl) (Nat.ne_of_beq_eq_false rfl)) (Sv_loop0 NF (Cv_icmp_ge_n (Ev_iload dX1_momentumIn_16) (Ev_bipush dX1_momentumIn_18 (by decide)) (t := 59) dX1_momentumIn_20 (by decide)) (Sv_goto (pE := 16) (Sv_seq (Sv_istore (Ev_iadd (Ev_iload dX1_momentumIn_23) (Ev_imul (Ev_call (Av_i (Av_i (Av_nil) (Ev_iload_n dX1_momentumIn_25 rfl)) (Ev_iload dX1_momentumIn_26)) (Rn_SN Y_X7_momentumOf (k_X7_momentumOf _ _) nt_X7_momentumOf w952 w367 dX1_momentumIn_28 (Nat.le_of_ble_eq_true rfl) (Nat.le_of_ble_eq_true rfl) (Nat.le_of_ble_eq_true rfl) (Nat.ne_of_beq_eq_false rfl))) (Ev_call (Av_i (Av_nil) (Ev_iand (Ev_iaload (Ev_getA Fx1 (Ev_aload_n dX1_momentumIn_31 rfl) (k := 3) (by decide) w51 dX1_momentumIn_32) (Ev_iadd (Ev_imul (Ev_iload dX1_momentumIn_35) (Ev_bipush dX1_momentumIn_37 (by decide)) dX1_momentumIn_39) (Ev_iload dX1_momentumIn_40) dX1_momentumIn_42) dX1_momentumIn_43) (Ev_iload_n dX1_momentumIn_44 rfl) dX1_momentumIn_45)) (Rn_S Y_J6_bitCount_0f7a4 (k_J6_bitCount_0f7a4 _ _) w625 w361 dX1_momentumIn_46 (Nat.le_of_ble_eq_true rfl) (Nat.le_of_ble_eq_true rfl) (Nat.le_of_ble_eq_true rfl) (Nat.ne_of_beq_eq_false rfl))) dX1_momentumIn_49) dX1_momentumIn_50) dX1_momentumIn_51 (Nat.le_of_ble_eq_true rfl) (Nat.ne_of_beq_eq_false rfl)) (Sv_iinc dX1_momentumIn_53 (by decide) (Nat.le_of_ble_eq_true rfl) (Nat.ne_of_beq_eq_false rfl))) dX1_momentumIn_56 (by decide)))) (Sv_iinc dX1_momentumIn_59 (by decide) (Nat.le_of_ble_eq_true rfl) (Nat.ne_of_beq_eq_false rfl))) dX1_momentumIn_62 (by decide)))) (Sv_ret (Ev_iload dX1_momentumIn_65) hr dX1_momentumIn_67)), Nat.le_of_ble_eq_true rfl, Nat.le_of_ble_eq_true rfl⟩)
theorem dX1_solidNumber_0 : decode cX1_solidNumber 0 = .ok (.iconst 0, 1) := by decide +kernel
theorem dX1_solidNumber_1 : decode cX1_solidNumber 1 = .ok (.istore_n 1, 1) := by decide +kernel
theorem dX1_solidNumber_2 : decode cX1_solidNumber 2 = .ok (.iconst 0, 1) := by decide +kernel
theorem dX1_solidNumber_3 : decode cX1_solidNumber 3 = .ok (.istore_n 2, 1) := by decide +kernel
theorem dX1_solidNumber_4 : decode cX1_solidNumber 4 = .ok (.iload_n 2, 1) := by decide +kernel
theorem dX1_solidNumber_5 : decode cX1_solidNumber 5 = .ok (.aload_n 0, 1) := by decide +kernel
theorem dX1_solidNumber_6 : decode cX1_solidNumber 6 = .ok (.getfield 22, 3) := by decide +kernel
theorem dX1_solidNumber_9 : decode cX1_solidNumber 9 = .ok (.if_icmp .ge 20, 3) := by decide +kernel
theorem dX1_solidNumber_12 : decode cX1_solidNumber 12 = .ok (.iload_n 1, 1) := by decide +kernel
theorem dX1_solidNumber_13 : decode cX1_solidNumber 13 = .ok (.aload_n 0, 1) := by decide +kernel
theorem dX1_solidNumber_14 : decode cX1_solidNumber 14 = .ok (.iload_n 2, 1) := by decide +kernel
theorem dX1_solidNumber_15 : decode cX1_solidNumber 15 = .ok (.invokevirtual 53, 3) := by decide +kernel
theorem dX1_solidNumber_18 : decode cX1_solidNumber 18 = .ok (.invokestatic 44, 3) := by decide +kernel
theorem dX1_solidNumber_21 : decode cX1_solidNumber 21 = .ok (.iadd, 1) := by decide +kernel
theorem dX1_solidNumber_22 : decode cX1_solidNumber 22 = .ok (.istore_n 1, 1) := by decide +kernel
theorem dX1_solidNumber_23 : decode cX1_solidNumber 23 = .ok (.iinc 2 1, 3) := by decide +kernel
theorem dX1_solidNumber_26 : decode cX1_solidNumber 26 = .ok (.goto (-22), 3) := by decide +kernel
theorem dX1_solidNumber_29 : decode cX1_solidNumber 29 = .ok (.iload_n 1, 1) := by decide +kernel
theorem dX1_solidNumber_30 : decode cX1_solidNumber 30 = .ok (.ireturn, 1) := by decide +kernel
def f_X1_solidNumber : MX := mth 3 (sQ (sTi 1 (eI (0))) (sQ (sQ (sTi 2 (eI (0))) (sLp (cB c_lt (eLi 2) (eGi (eLa 0) 1 1)) (sQ (sTi 1 (eOp o_iadd (eLi 1) (eM (f_J6_bitCount_0f7a4) (aI (aN) (eM (gd 1 f_X1_solidColumns) (aI (aA (aN) (eLa 0)) (eLi 2))))))) (sInc 2 (1))) NF)) (sR (eLi 1))))
theorem Y_X1_solidNumber : Yk yX1_solidNumber cX1_solidNumber 3 (some .int) 0 := ⟨w1041, w3, by decide +kernel, by decide +kernel, by decide +kernel⟩
set_option maxRecDepth 20000 in
theorem k_X1_solidNumber (l : Launch) (g : GE) : MetX l g yX1_solidNumber cX1_solidNumber 3 (some .int) 1 ({ frames := 1, cells := 0, slots := 0, locals := 23 } : Room) f_X1_solidNumber := by
  unfold f_X1_solidNumber
  exact MetX.of (own := RX1) 100 0 rfl (by decide +kernel) (by decide) (fun p e s m args below meth c Fin ad0 hr hn => ⟨_, _, Sv_seq (Sv_istore_n (Ev_iconst dX1_solidNumber_0 (by decide)) dX1_solidNumber_1 rfl (Nat.le_of_ble_eq_true rfl) (Nat.ne_of_beq_eq_false rfl)) (Sv_seq (Sv_seq (Sv_istore_n (Ev_iconst dX1_solidNumber_2 (by decide)) dX1_solidNumber_3 rfl (Nat.le_of_ble_eq_true rfl) (Nat.ne_of_beq_eq_false rfl)) (Sv_loop0 NF (Cv_icmp_ge_n (Ev_iload_n dX1_solidNumber_4 rfl) (Ev_getI Fx1 (Ev_aload_n dX1_solidNumber_5 rfl) (k := 1) (by decide) w46 dX1_solidNumber_6) (t := 29) dX1_solidNumber_9 (by decide)) (Sv_goto (pE := 4) (Sv_seq (Sv_istore_n (Ev_iadd (Ev_iload_n dX1_solidNumber_12 rfl) (Ev_call (Av_i (Av_nil) (Ev_call (Av_i (Av_a (Av_nil) (Ev_aload_n dX1_solidNumber_13 rfl)) (Ev_iload_n dX1_solidNumber_14 rfl)) (Rn_V (ci := 1) Fx1.1 rfl Y_X1_solidColumns (k_X1_solidColumns _ _) w617 w618 w619 dX1_solidNumber_15 (Nat.le_of_ble_eq_true rfl) (Nat.le_of_ble_eq_true rfl) (Nat.le_of_ble_eq_true rfl) (Nat.ne_of_beq_eq_false rfl)))) (Rn_S Y_J6_bitCount_0f7a4 (k_J6_bitCount_0f7a4 _ _) w625 w361 dX1_solidNumber_18 (Nat.le_of_ble_eq_true rfl) (Nat.le_of_ble_eq_true rfl) (Nat.le_of_ble_eq_true rfl) (Nat.ne_of_beq_eq_false rfl))) dX1_solidNumber_21) dX1_solidNumber_22 rfl (Nat.le_of_ble_eq_true rfl) (Nat.ne_of_beq_eq_false rfl)) (Sv_iinc dX1_solidNumber_23 (by decide) (Nat.le_of_ble_eq_true rfl) (Nat.ne_of_beq_eq_false rfl))) dX1_solidNumber_26 (by decide)))) (Sv_ret (Ev_iload_n dX1_solidNumber_29 rfl) hr dX1_solidNumber_30)), Nat.le_of_ble_eq_true rfl, Nat.le_of_ble_eq_true rfl⟩)
theorem dX1_sizeOf_0 : decode cX1_sizeOf 0 = .ok (.iconst 0, 1) := by decide +kernel
theorem dX1_sizeOf_1 : decode cX1_sizeOf 1 = .ok (.istore_n 2, 1) := by decide +kernel
theorem dX1_sizeOf_2 : decode cX1_sizeOf 2 = .ok (.iconst 0, 1) := by decide +kernel
theorem dX1_sizeOf_3 : decode cX1_sizeOf 3 = .ok (.istore_n 3, 1) := by decide +kernel
theorem dX1_sizeOf_4 : decode cX1_sizeOf 4 = .ok (.iload_n 3, 1) := by decide +kernel
theorem dX1_sizeOf_5 : decode cX1_sizeOf 5 = .ok (.aload_n 0, 1) := by decide +kernel
theorem dX1_sizeOf_6 : decode cX1_sizeOf 6 = .ok (.getfield 22, 3) := by decide +kernel
theorem dX1_sizeOf_9 : decode cX1_sizeOf 9 = .ok (.if_icmp .ge 26, 3) := by decide +kernel
theorem dX1_sizeOf_12 : decode cX1_sizeOf 12 = .ok (.iload_n 2, 1) := by decide +kernel
theorem dX1_sizeOf_13 : decode cX1_sizeOf 13 = .ok (.aload_n 0, 1) := by decide +kernel
theorem dX1_sizeOf_14 : decode cX1_sizeOf 14 = .ok (.getfield 15, 3) := by decide +kernel
theorem dX1_sizeOf_17 : decode cX1_sizeOf 17 = .ok (.iload_n 3, 1) := by decide +kernel
theorem dX1_sizeOf_18 : decode cX1_sizeOf 18 = .ok (.bipush 6, 2) := by decide +kernel
theorem dX1_sizeOf_20 : decode cX1_sizeOf 20 = .ok (.imul, 1) := by decide +kernel
theorem dX1_sizeOf_21 : decode cX1_sizeOf 21 = .ok (.iload_n 1, 1) := by decide +kernel
theorem dX1_sizeOf_22 : decode cX1_sizeOf 22 = .ok (.iadd, 1) := by decide +kernel
theorem dX1_sizeOf_23 : decode cX1_sizeOf 23 = .ok (.iaload, 1) := by decide +kernel
theorem dX1_sizeOf_24 : decode cX1_sizeOf 24 = .ok (.invokestatic 44, 3) := by decide +kernel
theorem dX1_sizeOf_27 : decode cX1_sizeOf 27 = .ok (.iadd, 1) := by decide +kernel
theorem dX1_sizeOf_28 : decode cX1_sizeOf 28 = .ok (.istore_n 2, 1) := by decide +kernel
theorem dX1_sizeOf_29 : decode cX1_sizeOf 29 = .ok (.iinc 3 1, 3) := by decide +kernel
theorem dX1_sizeOf_32 : decode cX1_sizeOf 32 = .ok (.goto (-28), 3) := by decide +kernel
theorem dX1_sizeOf_35 : decode cX1_sizeOf 35 = .ok (.iload_n 2, 1) := by decide +kernel
theorem dX1_sizeOf_36 : decode cX1_sizeOf 36 = .ok (.ireturn, 1) := by decide +kernel
def f_X1_sizeOf : MX := mth 4 (sQ (sTi 2 (eI (0))) (sQ (sQ (sTi 3 (eI (0))) (sLp (cB c_lt (eLi 3) (eGi (eLa 0) 1 1)) (sQ (sTi 2 (eOp o_iadd (eLi 2) (eM (f_J6_bitCount_0f7a4) (aI (aN) (eAi 0 (eGa (eLa 0) 1 4) (eOp o_iadd (eOp o_imul (eLi 3) (eI (6))) (eLi 1))))))) (sInc 3 (1))) NF)) (sR (eLi 2))))
theorem Y_X1_sizeOf : Yk yX1_sizeOf cX1_sizeOf 4 (some .int) 1 := ⟨w629, w3, by decide +kernel, by decide +kernel, by decide +kernel⟩
set_option maxRecDepth 20000 in
theorem k_X1_sizeOf (l : Launch) (g : GE) : MetX l g yX1_sizeOf cX1_sizeOf 4 (some .int) 2 ({ frames := 1, cells := 0, slots := 0, locals := 20 } : Room) f_X1_sizeOf := by
  unfold f_X1_sizeOf
  exact MetX.of (own := RX1) 100 0 rfl (by decide +kernel) (by decide) (fun p e s m args below meth c Fin ad0 hr hn => ⟨_, _, Sv_seq (Sv_istore_n (Ev_iconst dX1_sizeOf_0 (by decide)) dX1_sizeOf_1 rfl (Nat.le_of_ble_eq_true rfl) (Nat.ne_of_beq_eq_false rfl)) (Sv_seq (Sv_seq (Sv_istore_n (Ev_iconst dX1_sizeOf_2 (by decide)) dX1_sizeOf_3 rfl (Nat.le_of_ble_eq_true rfl) (Nat.ne_of_beq_eq_false rfl)) (Sv_loop0 NF (Cv_icmp_ge_n (Ev_iload_n dX1_sizeOf_4 rfl) (Ev_getI Fx1 (Ev_aload_n dX1_sizeOf_5 rfl) (k := 1) (by decide) w46 dX1_sizeOf_6) (t := 35) dX1_sizeOf_9 (by decide)) (Sv_goto (pE := 4) (Sv_seq (Sv_istore_n (Ev_iadd (Ev_iload_n dX1_sizeOf_12 rfl) (Ev_call (Av_i (Av_nil) (Ev_iaload (Ev_getA Fx1 (Ev_aload_n dX1_sizeOf_13 rfl) (k := 4) (by decide) w55 dX1_sizeOf_14) (Ev_iadd (Ev_imul (Ev_iload_n dX1_sizeOf_17 rfl) (Ev_bipush dX1_sizeOf_18 (by decide)) dX1_sizeOf_20) (Ev_iload_n dX1_sizeOf_21 rfl) dX1_sizeOf_22) dX1_sizeOf_23)) (Rn_S Y_J6_bitCount_0f7a4 (k_J6_bitCount_0f7a4 _ _) w625 w361 dX1_sizeOf_24 (Nat.le_of_ble_eq_true rfl) (Nat.le_of_ble_eq_true rfl) (Nat.le_of_ble_eq_true rfl) (Nat.ne_of_beq_eq_false rfl))) dX1_sizeOf_27) dX1_sizeOf_28 rfl (Nat.le_of_ble_eq_true rfl) (Nat.ne_of_beq_eq_false rfl)) (Sv_iinc dX1_sizeOf_29 (by decide) (Nat.le_of_ble_eq_true rfl) (Nat.ne_of_beq_eq_false rfl))) dX1_sizeOf_32 (by decide)))) (Sv_ret (Ev_iload_n dX1_sizeOf_35 rfl) hr dX1_sizeOf_36)), Nat.le_of_ble_eq_true rfl, Nat.le_of_ble_eq_true rfl⟩)
theorem dX1_allColumnsOf_0 : decode cX1_allColumnsOf 0 = .ok (.iconst 0, 1) := by decide +kernel
theorem dX1_allColumnsOf_1 : decode cX1_allColumnsOf 1 = .ok (.istore_n 2, 1) := by decide +kernel
theorem dX1_allColumnsOf_2 : decode cX1_allColumnsOf 2 = .ok (.iconst 0, 1) := by decide +kernel
theorem dX1_allColumnsOf_3 : decode cX1_allColumnsOf 3 = .ok (.istore_n 3, 1) := by decide +kernel
theorem dX1_allColumnsOf_4 : decode cX1_allColumnsOf 4 = .ok (.iload_n 3, 1) := by decide +kernel
theorem dX1_allColumnsOf_5 : decode cX1_allColumnsOf 5 = .ok (.aload_n 0, 1) := by decide +kernel
theorem dX1_allColumnsOf_6 : decode cX1_allColumnsOf 6 = .ok (.getfield 22, 3) := by decide +kernel
theorem dX1_allColumnsOf_9 : decode cX1_allColumnsOf 9 = .ok (.if_icmp .ge 23, 3) := by decide +kernel
theorem dX1_allColumnsOf_12 : decode cX1_allColumnsOf 12 = .ok (.iload_n 2, 1) := by decide +kernel
theorem dX1_allColumnsOf_13 : decode cX1_allColumnsOf 13 = .ok (.aload_n 0, 1) := by decide +kernel
theorem dX1_allColumnsOf_14 : decode cX1_allColumnsOf 14 = .ok (.getfield 15, 3) := by decide +kernel
theorem dX1_allColumnsOf_17 : decode cX1_allColumnsOf 17 = .ok (.iload_n 3, 1) := by decide +kernel
theorem dX1_allColumnsOf_18 : decode cX1_allColumnsOf 18 = .ok (.bipush 6, 2) := by decide +kernel
theorem dX1_allColumnsOf_20 : decode cX1_allColumnsOf 20 = .ok (.imul, 1) := by decide +kernel
theorem dX1_allColumnsOf_21 : decode cX1_allColumnsOf 21 = .ok (.iload_n 1, 1) := by decide +kernel
theorem dX1_allColumnsOf_22 : decode cX1_allColumnsOf 22 = .ok (.iadd, 1) := by decide +kernel
theorem dX1_allColumnsOf_23 : decode cX1_allColumnsOf 23 = .ok (.iaload, 1) := by decide +kernel
theorem dX1_allColumnsOf_24 : decode cX1_allColumnsOf 24 = .ok (.ior, 1) := by decide +kernel
theorem dX1_allColumnsOf_25 : decode cX1_allColumnsOf 25 = .ok (.istore_n 2, 1) := by decide +kernel
theorem dX1_allColumnsOf_26 : decode cX1_allColumnsOf 26 = .ok (.iinc 3 1, 3) := by decide +kernel
theorem dX1_allColumnsOf_29 : decode cX1_allColumnsOf 29 = .ok (.goto (-25), 3) := by decide +kernel
theorem dX1_allColumnsOf_32 : decode cX1_allColumnsOf 32 = .ok (.iload_n 2, 1) := by decide +kernel
theorem dX1_allColumnsOf_33 : decode cX1_allColumnsOf 33 = .ok (.ireturn, 1) := by decide +kernel
def f_X1_allColumnsOf : MX := mth 4 (sQ (sTi 2 (eI (0))) (sQ (sQ (sTi 3 (eI (0))) (sLp (cB c_lt (eLi 3) (eGi (eLa 0) 1 1)) (sQ (sTi 2 (eOp o_ior (eLi 2) (eAi 0 (eGa (eLa 0) 1 4) (eOp o_iadd (eOp o_imul (eLi 3) (eI (6))) (eLi 1))))) (sInc 3 (1))) NF)) (sR (eLi 2))))
theorem Y_X1_allColumnsOf : Yk yX1_allColumnsOf cX1_allColumnsOf 4 (some .int) 1 := ⟨w676, w3, by decide +kernel, by decide +kernel, by decide +kernel⟩
set_option maxRecDepth 20000 in
theorem k_X1_allColumnsOf (l : Launch) (g : GE) : MetX l g yX1_allColumnsOf cX1_allColumnsOf 4 (some .int) 2 ({ frames := 0, cells := 0, slots := 0, locals := 0 } : Room) f_X1_allColumnsOf := by
  unfold f_X1_allColumnsOf
  exact MetX.of (own := RX1) 100 0 rfl (by decide +kernel) (by decide) (fun p e s m args below meth c Fin ad0 hr hn => ⟨_, _, Sv_seq (Sv_istore_n (Ev_iconst dX1_allColumnsOf_0 (by decide)) dX1_allColumnsOf_1 rfl (Nat.le_of_ble_eq_true rfl) (Nat.ne_of_beq_eq_false rfl)) (Sv_seq (Sv_seq (Sv_istore_n (Ev_iconst dX1_allColumnsOf_2 (by decide)) dX1_allColumnsOf_3 rfl (Nat.le_of_ble_eq_true rfl) (Nat.ne_of_beq_eq_false rfl)) (Sv_loop0 NF (Cv_icmp_ge_n (Ev_iload_n dX1_allColumnsOf_4 rfl) (Ev_getI Fx1 (Ev_aload_n dX1_allColumnsOf_5 rfl) (k := 1) (by decide) w46 dX1_allColumnsOf_6) (t := 32) dX1_allColumnsOf_9 (by decide)) (Sv_goto (pE := 4) (Sv_seq (Sv_istore_n (Ev_ior (Ev_iload_n dX1_allColumnsOf_12 rfl) (Ev_iaload (Ev_getA Fx1 (Ev_aload_n dX1_allColumnsOf_13 rfl) (k := 4) (by decide) w55 dX1_allColumnsOf_14) (Ev_iadd (Ev_imul (Ev_iload_n dX1_allColumnsOf_17 rfl) (Ev_bipush dX1_allColumnsOf_18 (by decide)) dX1_allColumnsOf_20) (Ev_iload_n dX1_allColumnsOf_21 rfl) dX1_allColumnsOf_22) dX1_allColumnsOf_23) dX1_allColumnsOf_24) dX1_allColumnsOf_25 rfl (Nat.le_of_ble_eq_true rfl) (Nat.ne_of_beq_eq_false rfl)) (Sv_iinc dX1_allColumnsOf_26 (by decide) (Nat.le_of_ble_eq_true rfl) (Nat.ne_of_beq_eq_false rfl))) dX1_allColumnsOf_29 (by decide)))) (Sv_ret (Ev_iload_n dX1_allColumnsOf_32 rfl) hr dX1_allColumnsOf_33)), Nat.le_of_ble_eq_true rfl, Nat.le_of_ble_eq_true rfl⟩)
theorem dX1_firstColumnOf_0 : decode cX1_firstColumnOf 0 = .ok (.aload_n 0, 1) := by decide +kernel
theorem dX1_firstColumnOf_1 : decode cX1_firstColumnOf 1 = .ok (.iload_n 1, 1) := by decide +kernel
theorem dX1_firstColumnOf_2 : decode cX1_firstColumnOf 2 = .ok (.invokevirtual 56, 3) := by decide +kernel
theorem dX1_firstColumnOf_5 : decode cX1_firstColumnOf 5 = .ok (.istore_n 2, 1) := by decide +kernel
theorem dX1_firstColumnOf_6 : decode cX1_firstColumnOf 6 = .ok (.iconst 0, 1) := by decide +kernel
theorem dX1_firstColumnOf_7 : decode cX1_firstColumnOf 7 = .ok (.istore_n 3, 1) := by decide +kernel
theorem dX1_firstColumnOf_8 : decode cX1_firstColumnOf 8 = .ok (.iload_n 3, 1) := by decide +kernel
theorem dX1_firstColumnOf_9 : decode cX1_firstColumnOf 9 = .ok (.aload_n 0, 1) := by decide +kernel
theorem dX1_firstColumnOf_10 : decode cX1_firstColumnOf 10 = .ok (.getfield 18, 3) := by decide +kernel
theorem dX1_firstColumnOf_13 : decode cX1_firstColumnOf 13 = .ok (.if_icmp .ge 19, 3) := by decide +kernel
theorem dX1_firstColumnOf_16 : decode cX1_firstColumnOf 16 = .ok (.iload_n 2, 1) := by decide +kernel
theorem dX1_firstColumnOf_17 : decode cX1_firstColumnOf 17 = .ok (.iload_n 3, 1) := by decide +kernel
theorem dX1_firstColumnOf_18 : decode cX1_firstColumnOf 18 = .ok (.iushr, 1) := by decide +kernel
theorem dX1_firstColumnOf_19 : decode cX1_firstColumnOf 19 = .ok (.iconst 1, 1) := by decide +kernel
theorem dX1_firstColumnOf_20 : decode cX1_firstColumnOf 20 = .ok (.iand, 1) := by decide +kernel
theorem dX1_firstColumnOf_21 : decode cX1_firstColumnOf 21 = .ok (.ifCond .eq 5, 3) := by decide +kernel
theorem dX1_firstColumnOf_24 : decode cX1_firstColumnOf 24 = .ok (.iload_n 3, 1) := by decide +kernel
theorem dX1_firstColumnOf_25 : decode cX1_firstColumnOf 25 = .ok (.ireturn, 1) := by decide +kernel
theorem dX1_firstColumnOf_26 : decode cX1_firstColumnOf 26 = .ok (.iinc 3 1, 3) := by decide +kernel
theorem dX1_firstColumnOf_29 : decode cX1_firstColumnOf 29 = .ok (.goto (-21), 3) := by decide +kernel
theorem dX1_firstColumnOf_32 : decode cX1_firstColumnOf 32 = .ok (.iconst (-1), 1) := by decide +kernel
theorem dX1_firstColumnOf_33 : decode cX1_firstColumnOf 33 = .ok (.ireturn, 1) := by decide +kernel
def f_X1_firstColumnOf : MX := mth 4 (sQ (sTi 2 (eM (gd 1 f_X1_allColumnsOf) (aI (aA (aN) (eLa 0)) (eLi 1)))) (sQ (sQ (sTi 3 (eI (0))) (sLp (cB c_lt (eLi 3) (eGi (eLa 0) 1 0)) (sQ (sIf (cZ z_ne (eOp o_iand (eOp o_iushr (eLi 2) (eLi 3)) (eI (1)))) (sR (eLi 3)) sN) (sInc 3 (1))) NF)) (sR (eI (-1)))))
theorem Y_X1_firstColumnOf : Yk yX1_firstColumnOf cX1_firstColumnOf 4 (some .int) 1 := ⟨w672, w3, by decide +kernel, by decide +kernel, by decide +kernel⟩
set_option maxRecDepth 20000 in
theorem k_X1_firstColumnOf (l : Launch) (g : GE) : MetX l g yX1_firstColumnOf cX1_firstColumnOf 4 (some .int) 2 ({ frames := 1, cells := 0, slots := 0, locals := 23 } : Room) f_X1_firstColumnOf := by
  unfold f_X1_firstColumnOf
  exact MetX.of (own := RX1) 100 0 rfl (by decide +kernel) (by decide) (fun p e s m args below meth c Fin ad0 hr hn => ⟨_, _, Sv_seq (Sv_istore_n (Ev_call (Av_i (Av_a (Av_nil) (Ev_aload_n dX1_firstColumnOf_0 rfl)) (Ev_iload_n dX1_firstColumnOf_1 rfl)) (Rn_V (ci := 1) Fx1.1 rfl Y_X1_allColumnsOf (k_X1_allColumnsOf _ _) w673 w675 wp13 dX1_firstColumnOf_2 (Nat.le_of_ble_eq_true rfl) (Nat.le_of_ble_eq_true rfl) (Nat.le_of_ble_eq_true rfl) (Nat.ne_of_beq_eq_false rfl))) dX1_firstColumnOf_5 rfl (Nat.le_of_ble_eq_true rfl) (Nat.ne_of_beq_eq_false rfl)) (Sv_seq (Sv_seq (Sv_istore_n (Ev_iconst dX1_firstColumnOf_6 (by decide)) dX1_firstColumnOf_7 rfl (Nat.le_of_ble_eq_true rfl) (Nat.ne_of_beq_eq_false rfl)) (Sv_loop0 NF (Cv_icmp_ge_n (Ev_iload_n dX1_firstColumnOf_8 rfl) (Ev_getI Fx1 (Ev_aload_n dX1_firstColumnOf_9 rfl) (k := 0) (by decide) w44 dX1_firstColumnOf_10) (t := 32) dX1_firstColumnOf_13 (by decide)) (Sv_goto (pE := 8) (Sv_seq (Sv_if (Cv_if_eq_n (Ev_iand (Ev_iushr (Ev_iload_n dX1_firstColumnOf_16 rfl) (Ev_iload_n dX1_firstColumnOf_17 rfl) dX1_firstColumnOf_18) (Ev_iconst dX1_firstColumnOf_19 (by decide)) dX1_firstColumnOf_20) (t := 26) dX1_firstColumnOf_21 (by decide)) (Sv_ret (Ev_iload_n dX1_firstColumnOf_24 rfl) hr dX1_firstColumnOf_25) Sv_nop) (Sv_iinc dX1_firstColumnOf_26 (by decide) (Nat.le_of_ble_eq_true rfl) (Nat.ne_of_beq_eq_false rfl))) dX1_firstColumnOf_29 (by decide)))) (Sv_ret (Ev_iconst dX1_firstColumnOf_32 (by decide)) hr dX1_firstColumnOf_33)), Nat.le_of_ble_eq_true rfl, Nat.le_of_ble_eq_true rfl⟩)
theorem dX1_lastColumnOf_0 : decode cX1_lastColumnOf 0 = .ok (.aload_n 0, 1) := by decide +kernel
theorem dX1_lastColumnOf_1 : decode cX1_lastColumnOf 1 = .ok (.iload_n 1, 1) := by decide +kernel
theorem dX1_lastColumnOf_2 : decode cX1_lastColumnOf 2 = .ok (.invokevirtual 56, 3) := by decide +kernel
theorem dX1_lastColumnOf_5 : decode cX1_lastColumnOf 5 = .ok (.istore_n 2, 1) := by decide +kernel
theorem dX1_lastColumnOf_6 : decode cX1_lastColumnOf 6 = .ok (.aload_n 0, 1) := by decide +kernel
theorem dX1_lastColumnOf_7 : decode cX1_lastColumnOf 7 = .ok (.getfield 18, 3) := by decide +kernel
theorem dX1_lastColumnOf_10 : decode cX1_lastColumnOf 10 = .ok (.iconst 1, 1) := by decide +kernel
theorem dX1_lastColumnOf_11 : decode cX1_lastColumnOf 11 = .ok (.isub, 1) := by decide +kernel
theorem dX1_lastColumnOf_12 : decode cX1_lastColumnOf 12 = .ok (.istore_n 3, 1) := by decide +kernel
theorem dX1_lastColumnOf_13 : decode cX1_lastColumnOf 13 = .ok (.iload_n 3, 1) := by decide +kernel
theorem dX1_lastColumnOf_14 : decode cX1_lastColumnOf 14 = .ok (.ifCond .lt 19, 3) := by decide +kernel
theorem dX1_lastColumnOf_17 : decode cX1_lastColumnOf 17 = .ok (.iload_n 2, 1) := by decide +kernel
theorem dX1_lastColumnOf_18 : decode cX1_lastColumnOf 18 = .ok (.iload_n 3, 1) := by decide +kernel
theorem dX1_lastColumnOf_19 : decode cX1_lastColumnOf 19 = .ok (.iushr, 1) := by decide +kernel
theorem dX1_lastColumnOf_20 : decode cX1_lastColumnOf 20 = .ok (.iconst 1, 1) := by decide +kernel
theorem dX1_lastColumnOf_21 : decode cX1_lastColumnOf 21 = .ok (.iand, 1) := by decide +kernel
theorem dX1_lastColumnOf_22 : decode cX1_lastColumnOf 22 = .ok (.ifCond .eq 5, 3) := by decide +kernel
theorem dX1_lastColumnOf_25 : decode cX1_lastColumnOf 25 = .ok (.iload_n 3, 1) := by decide +kernel
theorem dX1_lastColumnOf_26 : decode cX1_lastColumnOf 26 = .ok (.ireturn, 1) := by decide +kernel
theorem dX1_lastColumnOf_27 : decode cX1_lastColumnOf 27 = .ok (.iinc 3 (-1), 3) := by decide +kernel
theorem dX1_lastColumnOf_30 : decode cX1_lastColumnOf 30 = .ok (.goto (-17), 3) := by decide +kernel
theorem dX1_lastColumnOf_33 : decode cX1_lastColumnOf 33 = .ok (.iconst (-1), 1) := by decide +kernel
theorem dX1_lastColumnOf_34 : decode cX1_lastColumnOf 34 = .ok (.ireturn, 1) := by decide +kernel
def f_X1_lastColumnOf : MX := mth 4 (sQ (sTi 2 (eM (gd 1 f_X1_allColumnsOf) (aI (aA (aN) (eLa 0)) (eLi 1)))) (sQ (sQ (sTi 3 (eOp o_isub (eGi (eLa 0) 1 0) (eI (1)))) (sLp (cZ z_ge (eLi 3)) (sQ (sIf (cZ z_ne (eOp o_iand (eOp o_iushr (eLi 2) (eLi 3)) (eI (1)))) (sR (eLi 3)) sN) (sInc 3 (-1))) NF)) (sR (eI (-1)))))
theorem Y_X1_lastColumnOf : Yk yX1_lastColumnOf cX1_lastColumnOf 4 (some .int) 1 := ⟨w680, w3, by decide +kernel, by decide +kernel, by decide +kernel⟩
set_option maxRecDepth 20000 in
theorem k_X1_lastColumnOf (l : Launch) (g : GE) : MetX l g yX1_lastColumnOf cX1_lastColumnOf 4 (some .int) 2 ({ frames := 1, cells := 0, slots := 0, locals := 23 } : Room) f_X1_lastColumnOf := by
  unfold f_X1_lastColumnOf
  exact MetX.of (own := RX1) 100 0 rfl (by decide +kernel) (by decide) (fun p e s m args below meth c Fin ad0 hr hn => ⟨_, _, Sv_seq (Sv_istore_n (Ev_call (Av_i (Av_a (Av_nil) (Ev_aload_n dX1_lastColumnOf_0 rfl)) (Ev_iload_n dX1_lastColumnOf_1 rfl)) (Rn_V (ci := 1) Fx1.1 rfl Y_X1_allColumnsOf (k_X1_allColumnsOf _ _) w673 w675 wp13 dX1_lastColumnOf_2 (Nat.le_of_ble_eq_true rfl) (Nat.le_of_ble_eq_true rfl) (Nat.le_of_ble_eq_true rfl) (Nat.ne_of_beq_eq_false rfl))) dX1_lastColumnOf_5 rfl (Nat.le_of_ble_eq_true rfl) (Nat.ne_of_beq_eq_false rfl)) (Sv_seq (Sv_seq (Sv_istore_n (Ev_isub (Ev_getI Fx1 (Ev_aload_n dX1_lastColumnOf_6 rfl) (k := 0) (by decide) w44 dX1_lastColumnOf_7) (Ev_iconst dX1_lastColumnOf_10 (by decide)) dX1_lastColumnOf_11) dX1_lastColumnOf_12 rfl (Nat.le_of_ble_eq_true rfl) (Nat.ne_of_beq_eq_false rfl)) (Sv_loop0 NF (Cv_if_lt_n (Ev_iload_n dX1_lastColumnOf_13 rfl) (t := 33) dX1_lastColumnOf_14 (by decide)) (Sv_goto (pE := 13) (Sv_seq (Sv_if (Cv_if_eq_n (Ev_iand (Ev_iushr (Ev_iload_n dX1_lastColumnOf_17 rfl) (Ev_iload_n dX1_lastColumnOf_18 rfl) dX1_lastColumnOf_19) (Ev_iconst dX1_lastColumnOf_20 (by decide)) dX1_lastColumnOf_21) (t := 27) dX1_lastColumnOf_22 (by decide)) (Sv_ret (Ev_iload_n dX1_lastColumnOf_25 rfl) hr dX1_lastColumnOf_26) Sv_nop) (Sv_iinc dX1_lastColumnOf_27 (by decide) (Nat.le_of_ble_eq_true rfl) (Nat.ne_of_beq_eq_false rfl))) dX1_lastColumnOf_30 (by decide)))) (Sv_ret (Ev_iconst dX1_lastColumnOf_33 (by decide)) hr dX1_lastColumnOf_34)), Nat.le_of_ble_eq_true rfl, Nat.le_of_ble_eq_true rfl⟩)
theorem dX1_firstRowOf_0 : decode cX1_firstRowOf 0 = .ok (.iconst 0, 1) := by decide +kernel
theorem dX1_firstRowOf_1 : decode cX1_firstRowOf 1 = .ok (.istore_n 2, 1) := by decide +kernel
theorem dX1_firstRowOf_2 : decode cX1_firstRowOf 2 = .ok (.iload_n 2, 1) := by decide +kernel
theorem dX1_firstRowOf_3 : decode cX1_firstRowOf 3 = .ok (.aload_n 0, 1) := by decide +kernel
theorem dX1_firstRowOf_4 : decode cX1_firstRowOf 4 = .ok (.getfield 22, 3) := by decide +kernel
theorem dX1_firstRowOf_7 : decode cX1_firstRowOf 7 = .ok (.if_icmp .ge 25, 3) := by decide +kernel
theorem dX1_firstRowOf_10 : decode cX1_firstRowOf 10 = .ok (.aload_n 0, 1) := by decide +kernel
theorem dX1_firstRowOf_11 : decode cX1_firstRowOf 11 = .ok (.getfield 15, 3) := by decide +kernel
theorem dX1_firstRowOf_14 : decode cX1_firstRowOf 14 = .ok (.iload_n 2, 1) := by decide +kernel
theorem dX1_firstRowOf_15 : decode cX1_firstRowOf 15 = .ok (.bipush 6, 2) := by decide +kernel
theorem dX1_firstRowOf_17 : decode cX1_firstRowOf 17 = .ok (.imul, 1) := by decide +kernel
theorem dX1_firstRowOf_18 : decode cX1_firstRowOf 18 = .ok (.iload_n 1, 1) := by decide +kernel
theorem dX1_firstRowOf_19 : decode cX1_firstRowOf 19 = .ok (.iadd, 1) := by decide +kernel
theorem dX1_firstRowOf_20 : decode cX1_firstRowOf 20 = .ok (.iaload, 1) := by decide +kernel
theorem dX1_firstRowOf_21 : decode cX1_firstRowOf 21 = .ok (.ifCond .eq 5, 3) := by decide +kernel
theorem dX1_firstRowOf_24 : decode cX1_firstRowOf 24 = .ok (.iload_n 2, 1) := by decide +kernel
theorem dX1_firstRowOf_25 : decode cX1_firstRowOf 25 = .ok (.ireturn, 1) := by decide +kernel
theorem dX1_firstRowOf_26 : decode cX1_firstRowOf 26 = .ok (.iinc 2 1, 3) := by decide +kernel
theorem dX1_firstRowOf_29 : decode cX1_firstRowOf 29 = .ok (.goto (-27), 3) := by decide +kernel
theorem dX1_firstRowOf_32 : decode cX1_firstRowOf 32 = .ok (.iconst (-1), 1) := by decide +kernel
theorem dX1_firstRowOf_33 : decode cX1_firstRowOf 33 = .ok (.ireturn, 1) := by decide +kernel
def f_X1_firstRowOf : MX := mth 3 (sQ (sQ (sTi 2 (eI (0))) (sLp (cB c_lt (eLi 2) (eGi (eLa 0) 1 1)) (sQ (sIf (cZ z_ne (eAi 0 (eGa (eLa 0) 1 4) (eOp o_iadd (eOp o_imul (eLi 2) (eI (6))) (eLi 1)))) (sR (eLi 2)) sN) (sInc 2 (1))) NF)) (sR (eI (-1))))
theorem Y_X1_firstRowOf : Yk yX1_firstRowOf cX1_firstRowOf 3 (some .int) 1 := ⟨w684, w3, by decide +kernel, by decide +kernel, by decide +kernel⟩
set_option maxRecDepth 20000 in
theorem k_X1_firstRowOf (l : Launch) (g : GE) : MetX l g yX1_firstRowOf cX1_firstRowOf 3 (some .int) 2 ({ frames := 0, cells := 0, slots := 0, locals := 0 } : Room) f_X1_firstRowOf := by
  unfold f_X1_firstRowOf
  exact MetX.of (own := RX1) 100 0 rfl (by decide +kernel) (by decide) (fun p e s m args below meth c Fin ad0 hr hn => ⟨_, _, Sv_seq (Sv_seq (Sv_istore_n (Ev_iconst dX1_firstRowOf_0 (by decide)) dX1_firstRowOf_1 rfl (Nat.le_of_ble_eq_true rfl) (Nat.ne_of_beq_eq_false rfl)) (Sv_loop0 NF (Cv_icmp_ge_n (Ev_iload_n dX1_firstRowOf_2 rfl) (Ev_getI Fx1 (Ev_aload_n dX1_firstRowOf_3 rfl) (k := 1) (by decide) w46 dX1_firstRowOf_4) (t := 32) dX1_firstRowOf_7 (by decide)) (Sv_goto (pE := 2) (Sv_seq (Sv_if (Cv_if_eq_n (Ev_iaload (Ev_getA Fx1 (Ev_aload_n dX1_firstRowOf_10 rfl) (k := 4) (by decide) w55 dX1_firstRowOf_11) (Ev_iadd (Ev_imul (Ev_iload_n dX1_firstRowOf_14 rfl) (Ev_bipush dX1_firstRowOf_15 (by decide)) dX1_firstRowOf_17) (Ev_iload_n dX1_firstRowOf_18 rfl) dX1_firstRowOf_19) dX1_firstRowOf_20) (t := 26) dX1_firstRowOf_21 (by decide)) (Sv_ret (Ev_iload_n dX1_firstRowOf_24 rfl) hr dX1_firstRowOf_25) Sv_nop) (Sv_iinc dX1_firstRowOf_26 (by decide) (Nat.le_of_ble_eq_true rfl) (Nat.ne_of_beq_eq_false rfl))) dX1_firstRowOf_29 (by decide)))) (Sv_ret (Ev_iconst dX1_firstRowOf_32 (by decide)) hr dX1_firstRowOf_33), Nat.le_of_ble_eq_true rfl, Nat.le_of_ble_eq_true rfl⟩)
theorem dX1_lastRowOf_0 : decode cX1_lastRowOf 0 = .ok (.aload_n 0, 1) := by decide +kernel
theorem dX1_lastRowOf_1 : decode cX1_lastRowOf 1 = .ok (.getfield 22, 3) := by decide +kernel
theorem dX1_lastRowOf_4 : decode cX1_lastRowOf 4 = .ok (.iconst 1, 1) := by decide +kernel
theorem dX1_lastRowOf_5 : decode cX1_lastRowOf 5 = .ok (.isub, 1) := by decide +kernel
theorem dX1_lastRowOf_6 : decode cX1_lastRowOf 6 = .ok (.istore_n 2, 1) := by decide +kernel
theorem dX1_lastRowOf_7 : decode cX1_lastRowOf 7 = .ok (.iload_n 2, 1) := by decide +kernel
theorem dX1_lastRowOf_8 : decode cX1_lastRowOf 8 = .ok (.ifCond .lt 25, 3) := by decide +kernel
theorem dX1_lastRowOf_11 : decode cX1_lastRowOf 11 = .ok (.aload_n 0, 1) := by decide +kernel
theorem dX1_lastRowOf_12 : decode cX1_lastRowOf 12 = .ok (.getfield 15, 3) := by decide +kernel
theorem dX1_lastRowOf_15 : decode cX1_lastRowOf 15 = .ok (.iload_n 2, 1) := by decide +kernel
theorem dX1_lastRowOf_16 : decode cX1_lastRowOf 16 = .ok (.bipush 6, 2) := by decide +kernel
theorem dX1_lastRowOf_18 : decode cX1_lastRowOf 18 = .ok (.imul, 1) := by decide +kernel
theorem dX1_lastRowOf_19 : decode cX1_lastRowOf 19 = .ok (.iload_n 1, 1) := by decide +kernel
theorem dX1_lastRowOf_20 : decode cX1_lastRowOf 20 = .ok (.iadd, 1) := by decide +kernel
theorem dX1_lastRowOf_21 : decode cX1_lastRowOf 21 = .ok (.iaload, 1) := by decide +kernel
theorem dX1_lastRowOf_22 : decode cX1_lastRowOf 22 = .ok (.ifCond .eq 5, 3) := by decide +kernel
theorem dX1_lastRowOf_25 : decode cX1_lastRowOf 25 = .ok (.iload_n 2, 1) := by decide +kernel
theorem dX1_lastRowOf_26 : decode cX1_lastRowOf 26 = .ok (.ireturn, 1) := by decide +kernel
theorem dX1_lastRowOf_27 : decode cX1_lastRowOf 27 = .ok (.iinc 2 (-1), 3) := by decide +kernel
theorem dX1_lastRowOf_30 : decode cX1_lastRowOf 30 = .ok (.goto (-23), 3) := by decide +kernel
theorem dX1_lastRowOf_33 : decode cX1_lastRowOf 33 = .ok (.iconst (-1), 1) := by decide +kernel
theorem dX1_lastRowOf_34 : decode cX1_lastRowOf 34 = .ok (.ireturn, 1) := by decide +kernel
def f_X1_lastRowOf : MX := mth 3 (sQ (sQ (sTi 2 (eOp o_isub (eGi (eLa 0) 1 1) (eI (1)))) (sLp (cZ z_ge (eLi 2)) (sQ (sIf (cZ z_ne (eAi 0 (eGa (eLa 0) 1 4) (eOp o_iadd (eOp o_imul (eLi 2) (eI (6))) (eLi 1)))) (sR (eLi 2)) sN) (sInc 2 (-1))) NF)) (sR (eI (-1))))
theorem Y_X1_lastRowOf : Yk yX1_lastRowOf cX1_lastRowOf 3 (some .int) 1 := ⟨w688, w3, by decide +kernel, by decide +kernel, by decide +kernel⟩
set_option maxRecDepth 20000 in
theorem k_X1_lastRowOf (l : Launch) (g : GE) : MetX l g yX1_lastRowOf cX1_lastRowOf 3 (some .int) 2 ({ frames := 0, cells := 0, slots := 0, locals := 0 } : Room) f_X1_lastRowOf := by
  unfold f_X1_lastRowOf
  exact MetX.of (own := RX1) 100 0 rfl (by decide +kernel) (by decide) (fun p e s m args below meth c Fin ad0 hr hn => ⟨_, _, Sv_seq (Sv_seq (Sv_istore_n (Ev_isub (Ev_getI Fx1 (Ev_aload_n dX1_lastRowOf_0 rfl) (k := 1) (by decide) w46 dX1_lastRowOf_1) (Ev_iconst dX1_lastRowOf_4 (by decide)) dX1_lastRowOf_5) dX1_lastRowOf_6 rfl (Nat.le_of_ble_eq_true rfl) (Nat.ne_of_beq_eq_false rfl)) (Sv_loop0 NF (Cv_if_lt_n (Ev_iload_n dX1_lastRowOf_7 rfl) (t := 33) dX1_lastRowOf_8 (by decide)) (Sv_goto (pE := 7) (Sv_seq (Sv_if (Cv_if_eq_n (Ev_iaload (Ev_getA Fx1 (Ev_aload_n dX1_lastRowOf_11 rfl) (k := 4) (by decide) w55 dX1_lastRowOf_12) (Ev_iadd (Ev_imul (Ev_iload_n dX1_lastRowOf_15 rfl) (Ev_bipush dX1_lastRowOf_16 (by decide)) dX1_lastRowOf_18) (Ev_iload_n dX1_lastRowOf_19 rfl) dX1_lastRowOf_20) dX1_lastRowOf_21) (t := 27) dX1_lastRowOf_22 (by decide)) (Sv_ret (Ev_iload_n dX1_lastRowOf_25 rfl) hr dX1_lastRowOf_26) Sv_nop) (Sv_iinc dX1_lastRowOf_27 (by decide) (Nat.le_of_ble_eq_true rfl) (Nat.ne_of_beq_eq_false rfl))) dX1_lastRowOf_30 (by decide)))) (Sv_ret (Ev_iconst dX1_lastRowOf_33 (by decide)) hr dX1_lastRowOf_34), Nat.le_of_ble_eq_true rfl, Nat.le_of_ble_eq_true rfl⟩)
theorem dX1_harden_0 : decode cX1_harden 0 = .ok (.iload_n 3, 1) := by decide +kernel
theorem dX1_harden_1 : decode cX1_harden 1 = .ok (.aload_n 0, 1) := by decide +kernel
theorem dX1_harden_2 : decode cX1_harden 2 = .ok (.iload_n 2, 1) := by decide +kernel
theorem dX1_harden_3 : decode cX1_harden 3 = .ok (.invokevirtual 53, 3) := by decide +kernel
theorem dX1_harden_6 : decode cX1_harden 6 = .ok (.iconst (-1), 1) := by decide +kernel
theorem dX1_harden_7 : decode cX1_harden 7 = .ok (.ixor, 1) := by decide +kernel
theorem dX1_harden_8 : decode cX1_harden 8 = .ok (.iand, 1) := by decide +kernel
theorem dX1_harden_9 : decode cX1_harden 9 = .ok (.aload_n 0, 1) := by decide +kernel
theorem dX1_harden_10 : decode cX1_harden 10 = .ok (.iload_n 2, 1) := by decide +kernel
theorem dX1_harden_11 : decode cX1_harden 11 = .ok (.invokevirtual 59, 3) := by decide +kernel
theorem dX1_harden_14 : decode cX1_harden 14 = .ok (.iconst (-1), 1) := by decide +kernel
theorem dX1_harden_15 : decode cX1_harden 15 = .ok (.ixor, 1) := by decide +kernel
theorem dX1_harden_16 : decode cX1_harden 16 = .ok (.iand, 1) := by decide +kernel
theorem dX1_harden_17 : decode cX1_harden 17 = .ok (.istore 4, 2) := by decide +kernel
theorem dX1_harden_19 : decode cX1_harden 19 = .ok (.aload_n 0, 1) := by decide +kernel
theorem dX1_harden_20 : decode cX1_harden 20 = .ok (.getfield 15, 3) := by decide +kernel
theorem dX1_harden_23 : decode cX1_harden 23 = .ok (.iload_n 2, 1) := by decide +kernel
theorem dX1_harden_24 : decode cX1_harden 24 = .ok (.bipush 6, 2) := by decide +kernel
theorem dX1_harden_26 : decode cX1_harden 26 = .ok (.imul, 1) := by decide +kernel
theorem dX1_harden_27 : decode cX1_harden 27 = .ok (.iload_n 1, 1) := by decide +kernel
theorem dX1_harden_28 : decode cX1_harden 28 = .ok (.iadd, 1) := by decide +kernel
theorem dX1_harden_29 : decode cX1_harden 29 = .ok (.dup2, 1) := by decide +kernel
theorem dX1_harden_30 : decode cX1_harden 30 = .ok (.iaload, 1) := by decide +kernel
theorem dX1_harden_31 : decode cX1_harden 31 = .ok (.iload 4, 2) := by decide +kernel
theorem dX1_harden_33 : decode cX1_harden 33 = .ok (.ior, 1) := by decide +kernel
theorem dX1_harden_34 : decode cX1_harden 34 = .ok (.iastore, 1) := by decide +kernel
theorem dX1_harden_35 : decode cX1_harden 35 = .ok (.iload 4, 2) := by decide +kernel
theorem dX1_harden_37 : decode cX1_harden 37 = .ok (.invokestatic 44, 3) := by decide +kernel
theorem dX1_harden_40 : decode cX1_harden 40 = .ok (.ireturn, 1) := by decide +kernel
def f_X1_harden : MX := mth 5 (sQ (sTi 4 (eOp o_iand (eOp o_iand (eLi 3) (eOp o_ixor (eM (gd 1 f_X1_solidColumns) (aI (aA (aN) (eLa 0)) (eLi 2))) (eI (-1)))) (eOp o_ixor (eM (gd 1 f_X1_occupiedColumns) (aI (aA (aN) (eLa 0)) (eLi 2))) (eI (-1))))) (sQ (sAo (eGa (eLa 0) 1 4) (eOp o_iadd (eOp o_imul (eLi 2) (eI (6))) (eLi 1)) o_ior (eLi 4)) (sR (eM (f_J6_bitCount_0f7a4) (aI (aN) (eLi 4))))))
theorem Y_X1_harden : Yk yX1_harden cX1_harden 5 (some .int) 3 := ⟨w616, w3, by decide +kernel, by decide +kernel, by decide +kernel⟩
set_option maxRecDepth 20000 in
theorem k_X1_harden (l : Launch) (g : GE) : MetX l g yX1_harden cX1_harden 5 (some .int) 4 ({ frames := 1, cells := 0, slots := 0, locals := 23 } : Room) f_X1_harden := by
  unfold f_X1_harden
  exact MetX.of (own := RX1) 100 0 rfl (by decide +kernel) (by decide) (fun p e s m args below meth c Fin ad0 hr hn => ⟨_, _, Sv_seq (Sv_istore (Ev_iand (Ev_iand (Ev_iload_n dX1_harden_0 rfl) (Ev_ixor (Ev_call (Av_i (Av_a (Av_nil) (Ev_aload_n dX1_harden_1 rfl)) (Ev_iload_n dX1_harden_2 rfl)) (Rn_V (ci := 1) Fx1.1 rfl Y_X1_solidColumns (k_X1_solidColumns _ _) w617 w618 w619 dX1_harden_3 (Nat.le_of_ble_eq_true rfl) (Nat.le_of_ble_eq_true rfl) (Nat.le_of_ble_eq_true rfl) (Nat.ne_of_beq_eq_false rfl))) (Ev_iconst dX1_harden_6 (by decide)) dX1_harden_7) dX1_harden_8) (Ev_ixor (Ev_call (Av_i (Av_a (Av_nil) (Ev_aload_n dX1_harden_9 rfl)) (Ev_iload_n dX1_harden_10 rfl)) (Rn_V (ci := 1) Fx1.1 rfl Y_X1_occupiedColumns (k_X1_occupiedColumns _ _) w621 w622 w623 dX1_harden_11 (Nat.le_of_ble_eq_true rfl) (Nat.le_of_ble_eq_true rfl) (Nat.le_of_ble_eq_true rfl) (Nat.ne_of_beq_eq_false rfl))) (Ev_iconst dX1_harden_14 (by decide)) dX1_harden_15) dX1_harden_16) dX1_harden_17 (Nat.le_of_ble_eq_true rfl) (Nat.ne_of_beq_eq_false rfl)) (Sv_seq (Sv_aop_ior (Ev_getA Fx1 (Ev_aload_n dX1_harden_19 rfl) (k := 4) (by decide) w55 dX1_harden_20) (Ev_iadd (Ev_imul (Ev_iload_n dX1_harden_23 rfl) (Ev_bipush dX1_harden_24 (by decide)) dX1_harden_26) (Ev_iload_n dX1_harden_27 rfl) dX1_harden_28) dX1_harden_29 dX1_harden_30 (Ev_iload dX1_harden_31) dX1_harden_33 dX1_harden_34) (Sv_ret (Ev_call (Av_i (Av_nil) (Ev_iload dX1_harden_35)) (Rn_S Y_J6_bitCount_0f7a4 (k_J6_bitCount_0f7a4 _ _) w625 w361 dX1_harden_37 (Nat.le_of_ble_eq_true rfl) (Nat.le_of_ble_eq_true rfl) (Nat.le_of_ble_eq_true rfl) (Nat.ne_of_beq_eq_false rfl))) hr dX1_harden_40)), Nat.le_of_ble_eq_true rfl, Nat.le_of_ble_eq_true rfl⟩)
theorem dX1_soften_0 : decode cX1_soften 0 = .ok (.aload_n 0, 1) := by decide +kernel
theorem dX1_soften_1 : decode cX1_soften 1 = .ok (.getfield 15, 3) := by decide +kernel
theorem dX1_soften_4 : decode cX1_soften 4 = .ok (.iload_n 3, 1) := by decide +kernel
theorem dX1_soften_5 : decode cX1_soften 5 = .ok (.bipush 6, 2) := by decide +kernel
theorem dX1_soften_7 : decode cX1_soften 7 = .ok (.imul, 1) := by decide +kernel
theorem dX1_soften_8 : decode cX1_soften 8 = .ok (.iload_n 1, 1) := by decide +kernel
theorem dX1_soften_9 : decode cX1_soften 9 = .ok (.iadd, 1) := by decide +kernel
theorem dX1_soften_10 : decode cX1_soften 10 = .ok (.dup2, 1) := by decide +kernel
theorem dX1_soften_11 : decode cX1_soften 11 = .ok (.iaload, 1) := by decide +kernel
theorem dX1_soften_12 : decode cX1_soften 12 = .ok (.iconst 1, 1) := by decide +kernel
theorem dX1_soften_13 : decode cX1_soften 13 = .ok (.iload_n 2, 1) := by decide +kernel
theorem dX1_soften_14 : decode cX1_soften 14 = .ok (.ishl, 1) := by decide +kernel
theorem dX1_soften_15 : decode cX1_soften 15 = .ok (.iconst (-1), 1) := by decide +kernel
theorem dX1_soften_16 : decode cX1_soften 16 = .ok (.ixor, 1) := by decide +kernel
theorem dX1_soften_17 : decode cX1_soften 17 = .ok (.iand, 1) := by decide +kernel
theorem dX1_soften_18 : decode cX1_soften 18 = .ok (.iastore, 1) := by decide +kernel
theorem dX1_soften_19 : decode cX1_soften 19 = .ok (.return_, 1) := by decide +kernel
def f_X1_soften : MX := mth 4 (sQ (sAo (eGa (eLa 0) 1 4) (eOp o_iadd (eOp o_imul (eLi 3) (eI (6))) (eLi 1)) o_iand (eOp o_ixor (eOp o_ishl (eI (1)) (eLi 2)) (eI (-1)))) (sRv))
theorem Y_X1_soften : Yk yX1_soften cX1_soften 4 none 3 := ⟨w656, w3, by decide +kernel, by decide +kernel, by decide +kernel⟩
set_option maxRecDepth 20000 in
theorem k_X1_soften (l : Launch) (g : GE) : MetX l g yX1_soften cX1_soften 4 none 4 ({ frames := 0, cells := 0, slots := 0, locals := 0 } : Room) f_X1_soften := by
  unfold f_X1_soften
  exact MetX.of (own := RX1) 100 0 rfl (by decide +kernel) (by decide) (fun p e s m args below meth c Fin ad0 hr hn => ⟨_, _, Sv_seq (Sv_aop_iand (Ev_getA Fx1 (Ev_aload_n dX1_soften_0 rfl) (k := 4) (by decide) w55 dX1_soften_1) (Ev_iadd (Ev_imul (Ev_iload_n dX1_soften_4 rfl) (Ev_bipush dX1_soften_5 (by decide)) dX1_soften_7) (Ev_iload_n dX1_soften_8 rfl) dX1_soften_9) dX1_soften_10 dX1_soften_11 (Ev_ixor (Ev_ishl (Ev_iconst dX1_soften_12 (by decide)) (Ev_iload_n dX1_soften_13 rfl) dX1_soften_14) (Ev_iconst dX1_soften_15 (by decide)) dX1_soften_16) dX1_soften_17 dX1_soften_18) (Sv_retv hr dX1_soften_19), Nat.le_of_ble_eq_true rfl, Nat.le_of_ble_eq_true rfl⟩)
theorem dX1_pushed_0 : decode cX1_pushed 0 = .ok (.iload_n 1, 1) := by decide +kernel
theorem dX1_pushed_1 : decode cX1_pushed 1 = .ok (.ifCond .lt 9, 3) := by decide +kernel
theorem dX1_pushed_4 : decode cX1_pushed 4 = .ok (.iload_n 0, 1) := by decide +kernel
theorem dX1_pushed_5 : decode cX1_pushed 5 = .ok (.iload_n 1, 1) := by decide +kernel
theorem dX1_pushed_6 : decode cX1_pushed 6 = .ok (.ishl, 1) := by decide +kernel
theorem dX1_pushed_7 : decode cX1_pushed 7 = .ok (.goto 7, 3) := by decide +kernel
theorem dX1_pushed_10 : decode cX1_pushed 10 = .ok (.iload_n 0, 1) := by decide +kernel
theorem dX1_pushed_11 : decode cX1_pushed 11 = .ok (.iload_n 1, 1) := by decide +kernel
theorem dX1_pushed_12 : decode cX1_pushed 12 = .ok (.ineg, 1) := by decide +kernel
theorem dX1_pushed_13 : decode cX1_pushed 13 = .ok (.iushr, 1) := by decide +kernel
theorem dX1_pushed_14 : decode cX1_pushed 14 = .ok (.ireturn, 1) := by decide +kernel
def f_X1_pushed : MX := mth 2 (sR (eIf (cZ z_ge (eLi 1)) (eOp o_ishl (eLi 0) (eLi 1)) (eOp o_iushr (eLi 0) (eU o_ineg (eLi 1)))))
theorem Y_X1_pushed : Yk yX1_pushed cX1_pushed 2 (some .int) 2 := ⟨w691, w3, by decide +kernel, by decide +kernel, by decide +kernel⟩
set_option maxRecDepth 20000 in
theorem k_X1_pushed (l : Launch) (g : GE) : MetX l g yX1_pushed cX1_pushed 2 (some .int) 2 ({ frames := 0, cells := 0, slots := 0, locals := 0 } : Room) f_X1_pushed := by
  unfold f_X1_pushed
  exact MetX.of (own := RX1) 100 0 rfl (by decide +kernel) (by decide) (fun p e s m args below meth c Fin ad0 hr hn => ⟨_, _, Sv_ret (Ev_if (pT := 14) (Cv_if_lt_n (Ev_iload_n dX1_pushed_0 rfl) (t := 10) dX1_pushed_1 (by decide)) (Ev_ishl (Ev_iload_n dX1_pushed_4 rfl) (Ev_iload_n dX1_pushed_5 rfl) dX1_pushed_6) dX1_pushed_7 (by decide) (Ev_iushr (Ev_iload_n dX1_pushed_10 rfl) (Ev_ineg (Ev_iload_n dX1_pushed_11 rfl) dX1_pushed_12) dX1_pushed_13)) hr dX1_pushed_14, Nat.le_of_ble_eq_true rfl, Nat.le_of_ble_eq_true rfl⟩)
theorem dX1_canMoveBody_0 : decode cX1_canMoveBody 0 = .ok (.aload_n 0, 1) := by decide +kernel
theorem dX1_canMoveBody_1 : decode cX1_canMoveBody 1 = .ok (.iload_n 1, 1) := by decide +kernel
theorem dX1_canMoveBody_2 : decode cX1_canMoveBody 2 = .ok (.invokevirtual 62, 3) := by decide +kernel
theorem dX1_canMoveBody_5 : decode cX1_canMoveBody 5 = .ok (.ifCond .ne 5, 3) := by decide +kernel
theorem dX1_canMoveBody_8 : decode cX1_canMoveBody 8 = .ok (.iconst 0, 1) := by decide +kernel
theorem dX1_canMoveBody_9 : decode cX1_canMoveBody 9 = .ok (.ireturn, 1) := by decide +kernel
theorem dX1_canMoveBody_10 : decode cX1_canMoveBody 10 = .ok (.aload_n 0, 1) := by decide +kernel
theorem dX1_canMoveBody_11 : decode cX1_canMoveBody 11 = .ok (.iload_n 1, 1) := by decide +kernel
theorem dX1_canMoveBody_12 : decode cX1_canMoveBody 12 = .ok (.invokevirtual 65, 3) := by decide +kernel
theorem dX1_canMoveBody_15 : decode cX1_canMoveBody 15 = .ok (.iload_n 2, 1) := by decide +kernel
theorem dX1_canMoveBody_16 : decode cX1_canMoveBody 16 = .ok (.iadd, 1) := by decide +kernel
theorem dX1_canMoveBody_17 : decode cX1_canMoveBody 17 = .ok (.ifCond .lt 41, 3) := by decide +kernel
theorem dX1_canMoveBody_20 : decode cX1_canMoveBody 20 = .ok (.aload_n 0, 1) := by decide +kernel
theorem dX1_canMoveBody_21 : decode cX1_canMoveBody 21 = .ok (.iload_n 1, 1) := by decide +kernel
theorem dX1_canMoveBody_22 : decode cX1_canMoveBody 22 = .ok (.invokevirtual 68, 3) := by decide +kernel
theorem dX1_canMoveBody_25 : decode cX1_canMoveBody 25 = .ok (.iload_n 2, 1) := by decide +kernel
theorem dX1_canMoveBody_26 : decode cX1_canMoveBody 26 = .ok (.iadd, 1) := by decide +kernel
theorem dX1_canMoveBody_27 : decode cX1_canMoveBody 27 = .ok (.aload_n 0, 1) := by decide +kernel
theorem dX1_canMoveBody_28 : decode cX1_canMoveBody 28 = .ok (.getfield 18, 3) := by decide +kernel
theorem dX1_canMoveBody_31 : decode cX1_canMoveBody 31 = .ok (.if_icmp .ge 27, 3) := by decide +kernel
theorem dX1_canMoveBody_34 : decode cX1_canMoveBody 34 = .ok (.aload_n 0, 1) := by decide +kernel
theorem dX1_canMoveBody_35 : decode cX1_canMoveBody 35 = .ok (.iload_n 1, 1) := by decide +kernel
theorem dX1_canMoveBody_36 : decode cX1_canMoveBody 36 = .ok (.invokevirtual 71, 3) := by decide +kernel
theorem dX1_canMoveBody_39 : decode cX1_canMoveBody 39 = .ok (.iload_n 3, 1) := by decide +kernel
theorem dX1_canMoveBody_40 : decode cX1_canMoveBody 40 = .ok (.iadd, 1) := by decide +kernel
theorem dX1_canMoveBody_41 : decode cX1_canMoveBody 41 = .ok (.ifCond .lt 17, 3) := by decide +kernel
theorem dX1_canMoveBody_44 : decode cX1_canMoveBody 44 = .ok (.aload_n 0, 1) := by decide +kernel
theorem dX1_canMoveBody_45 : decode cX1_canMoveBody 45 = .ok (.iload_n 1, 1) := by decide +kernel
theorem dX1_canMoveBody_46 : decode cX1_canMoveBody 46 = .ok (.invokevirtual 74, 3) := by decide +kernel
theorem dX1_canMoveBody_49 : decode cX1_canMoveBody 49 = .ok (.iload_n 3, 1) := by decide +kernel
theorem dX1_canMoveBody_50 : decode cX1_canMoveBody 50 = .ok (.iadd, 1) := by decide +kernel
theorem dX1_canMoveBody_51 : decode cX1_canMoveBody 51 = .ok (.aload_n 0, 1) := by decide +kernel
theorem dX1_canMoveBody_52 : decode cX1_canMoveBody 52 = .ok (.getfield 22, 3) := by decide +kernel
theorem dX1_canMoveBody_55 : decode cX1_canMoveBody 55 = .ok (.if_icmp .lt 5, 3) := by decide +kernel
theorem dX1_canMoveBody_58 : decode cX1_canMoveBody 58 = .ok (.iconst 0, 1) := by decide +kernel
theorem dX1_canMoveBody_59 : decode cX1_canMoveBody 59 = .ok (.ireturn, 1) := by decide +kernel
theorem dX1_canMoveBody_60 : decode cX1_canMoveBody 60 = .ok (.iconst 0, 1) := by decide +kernel
theorem dX1_canMoveBody_61 : decode cX1_canMoveBody 61 = .ok (.istore 4, 2) := by decide +kernel
theorem dX1_canMoveBody_63 : decode cX1_canMoveBody 63 = .ok (.iload 4, 2) := by decide +kernel
theorem dX1_canMoveBody_65 : decode cX1_canMoveBody 65 = .ok (.aload_n 0, 1) := by decide +kernel
theorem dX1_canMoveBody_66 : decode cX1_canMoveBody 66 = .ok (.getfield 22, 3) := by decide +kernel
theorem dX1_canMoveBody_69 : decode cX1_canMoveBody 69 = .ok (.if_icmp .ge 87, 3) := by decide +kernel
theorem dX1_canMoveBody_72 : decode cX1_canMoveBody 72 = .ok (.iload 4, 2) := by decide +kernel
theorem dX1_canMoveBody_74 : decode cX1_canMoveBody 74 = .ok (.iload_n 3, 1) := by decide +kernel
theorem dX1_canMoveBody_75 : decode cX1_canMoveBody 75 = .ok (.isub, 1) := by decide +kernel
theorem dX1_canMoveBody_76 : decode cX1_canMoveBody 76 = .ok (.istore 5, 2) := by decide +kernel
theorem dX1_canMoveBody_78 : decode cX1_canMoveBody 78 = .ok (.iload 5, 2) := by decide +kernel
theorem dX1_canMoveBody_80 : decode cX1_canMoveBody 80 = .ok (.ifCond .lt 70, 3) := by decide +kernel
theorem dX1_canMoveBody_83 : decode cX1_canMoveBody 83 = .ok (.iload 5, 2) := by decide +kernel
theorem dX1_canMoveBody_85 : decode cX1_canMoveBody 85 = .ok (.aload_n 0, 1) := by decide +kernel
theorem dX1_canMoveBody_86 : decode cX1_canMoveBody 86 = .ok (.getfield 22, 3) := by decide +kernel
theorem dX1_canMoveBody_89 : decode cX1_canMoveBody 89 = .ok (.if_icmp .ge 61, 3) := by decide +kernel
theorem dX1_canMoveBody_92 : decode cX1_canMoveBody 92 = .ok (.aload_n 0, 1) := by decide +kernel
theorem dX1_canMoveBody_93 : decode cX1_canMoveBody 93 = .ok (.getfield 15, 3) := by decide +kernel
theorem dX1_canMoveBody_96 : decode cX1_canMoveBody 96 = .ok (.iload 5, 2) := by decide +kernel
theorem dX1_canMoveBody_98 : decode cX1_canMoveBody 98 = .ok (.bipush 6, 2) := by decide +kernel
theorem dX1_canMoveBody_100 : decode cX1_canMoveBody 100 = .ok (.imul, 1) := by decide +kernel
theorem dX1_canMoveBody_101 : decode cX1_canMoveBody 101 = .ok (.iload_n 1, 1) := by decide +kernel
theorem dX1_canMoveBody_102 : decode cX1_canMoveBody 102 = .ok (.iadd, 1) := by decide +kernel
theorem dX1_canMoveBody_103 : decode cX1_canMoveBody 103 = .ok (.iaload, 1) := by decide +kernel
theorem dX1_canMoveBody_104 : decode cX1_canMoveBody 104 = .ok (.iload_n 2, 1) := by decide +kernel
theorem dX1_canMoveBody_105 : decode cX1_canMoveBody 105 = .ok (.invokestatic 77, 3) := by decide +kernel
theorem dX1_canMoveBody_108 : decode cX1_canMoveBody 108 = .ok (.istore 6, 2) := by decide +kernel
theorem dX1_canMoveBody_110 : decode cX1_canMoveBody 110 = .ok (.aload_n 0, 1) := by decide +kernel
theorem dX1_canMoveBody_111 : decode cX1_canMoveBody 111 = .ok (.iload 4, 2) := by decide +kernel
theorem dX1_canMoveBody_113 : decode cX1_canMoveBody 113 = .ok (.invokevirtual 53, 3) := by decide +kernel
theorem dX1_canMoveBody_116 : decode cX1_canMoveBody 116 = .ok (.aload_n 0, 1) := by decide +kernel
theorem dX1_canMoveBody_117 : decode cX1_canMoveBody 117 = .ok (.getfield 15, 3) := by decide +kernel
theorem dX1_canMoveBody_120 : decode cX1_canMoveBody 120 = .ok (.iload 4, 2) := by decide +kernel
theorem dX1_canMoveBody_122 : decode cX1_canMoveBody 122 = .ok (.bipush 6, 2) := by decide +kernel
theorem dX1_canMoveBody_124 : decode cX1_canMoveBody 124 = .ok (.imul, 1) := by decide +kernel
theorem dX1_canMoveBody_125 : decode cX1_canMoveBody 125 = .ok (.iload_n 1, 1) := by decide +kernel
theorem dX1_canMoveBody_126 : decode cX1_canMoveBody 126 = .ok (.iadd, 1) := by decide +kernel
theorem dX1_canMoveBody_127 : decode cX1_canMoveBody 127 = .ok (.iaload, 1) := by decide +kernel
theorem dX1_canMoveBody_128 : decode cX1_canMoveBody 128 = .ok (.iconst (-1), 1) := by decide +kernel
theorem dX1_canMoveBody_129 : decode cX1_canMoveBody 129 = .ok (.ixor, 1) := by decide +kernel
theorem dX1_canMoveBody_130 : decode cX1_canMoveBody 130 = .ok (.iand, 1) := by decide +kernel
theorem dX1_canMoveBody_131 : decode cX1_canMoveBody 131 = .ok (.istore 7, 2) := by decide +kernel
theorem dX1_canMoveBody_133 : decode cX1_canMoveBody 133 = .ok (.iload 6, 2) := by decide +kernel
theorem dX1_canMoveBody_135 : decode cX1_canMoveBody 135 = .ok (.iload 7, 2) := by decide +kernel
theorem dX1_canMoveBody_137 : decode cX1_canMoveBody 137 = .ok (.aload_n 0, 1) := by decide +kernel
theorem dX1_canMoveBody_138 : decode cX1_canMoveBody 138 = .ok (.iload 4, 2) := by decide +kernel
theorem dX1_canMoveBody_140 : decode cX1_canMoveBody 140 = .ok (.invokevirtual 59, 3) := by decide +kernel
theorem dX1_canMoveBody_143 : decode cX1_canMoveBody 143 = .ok (.ior, 1) := by decide +kernel
theorem dX1_canMoveBody_144 : decode cX1_canMoveBody 144 = .ok (.iand, 1) := by decide +kernel
theorem dX1_canMoveBody_145 : decode cX1_canMoveBody 145 = .ok (.ifCond .eq 5, 3) := by decide +kernel
theorem dX1_canMoveBody_148 : decode cX1_canMoveBody 148 = .ok (.iconst 0, 1) := by decide +kernel
theorem dX1_canMoveBody_149 : decode cX1_canMoveBody 149 = .ok (.ireturn, 1) := by decide +kernel
theorem dX1_canMoveBody_150 : decode cX1_canMoveBody 150 = .ok (.iinc 4 1, 3) := by decide +kernel
theorem dX1_canMoveBody_153 : decode cX1_canMoveBody 153 = .ok (.goto (-90), 3) := by decide +kernel
theorem dX1_canMoveBody_156 : decode cX1_canMoveBody 156 = .ok (.iconst 1, 1) := by decide +kernel
theorem dX1_canMoveBody_157 : decode cX1_canMoveBody 157 = .ok (.ireturn, 1) := by decide +kernel
def f_X1_canMoveBody : MX := mth 8 (sQ (sIf (cZ z_eq (eM (gd 1 f_X1_sizeOf) (aI (aA (aN) (eLa 0)) (eLi 1)))) (sRz (eI (0))) sN) (sQ (sIf (cOr (cOr (cOr (cZ z_lt (eOp o_iadd (eM (gd 1 f_X1_firstColumnOf) (aI (aA (aN) (eLa 0)) (eLi 1))) (eLi 2))) (cB c_ge (eOp o_iadd (eM (gd 1 f_X1_lastColumnOf) (aI (aA (aN) (eLa 0)) (eLi 1))) (eLi 2)) (eGi (eLa 0) 1 0))) (cZ z_lt (eOp o_iadd (eM (gd 1 f_X1_firstRowOf) (aI (aA (aN) (eLa 0)) (eLi 1))) (eLi 3)))) (cB c_ge (eOp o_iadd (eM (gd 1 f_X1_lastRowOf) (aI (aA (aN) (eLa 0)) (eLi 1))) (eLi 3)) (eGi (eLa 0) 1 1))) (sRz (eI (0))) sN) (sQ (sQ (sTi 4 (eI (0))) (sLp (cB c_lt (eLi 4) (eGi (eLa 0) 1 1)) (sQ (sQ (sTi 5 (eOp o_isub (eLi 4) (eLi 3))) (sIf (cAnd (cZ z_ge (eLi 5)) (cB c_lt (eLi 5) (eGi (eLa 0) 1 1))) (sQ (sTi 6 (eM (f_X1_pushed) (aI (aI (aN) (eAi 0 (eGa (eLa 0) 1 4) (eOp o_iadd (eOp o_imul (eLi 5) (eI (6))) (eLi 1)))) (eLi 2)))) (sQ (sTi 7 (eOp o_iand (eM (gd 1 f_X1_solidColumns) (aI (aA (aN) (eLa 0)) (eLi 4))) (eOp o_ixor (eAi 0 (eGa (eLa 0) 1 4) (eOp o_iadd (eOp o_imul (eLi 4) (eI (6))) (eLi 1))) (eI (-1))))) (sIf (cZ z_ne (eOp o_iand (eLi 6) (eOp o_ior (eLi 7) (eM (gd 1 f_X1_occupiedColumns) (aI (aA (aN) (eLa 0)) (eLi 4)))))) (sRz (eI (0))) sN))) sN)) (sInc 4 (1))) NF)) (sRz (eI (1))))))
theorem Y_X1_canMoveBody : Yk yX1_canMoveBody cX1_canMoveBody 8 (some .boolean) 3 := ⟨w667, w3, by decide +kernel, by decide +kernel, by decide +kernel⟩
set_option maxRecDepth 20000 in
theorem k_X1_canMoveBody (l : Launch) (g : GE) : MetX l g yX1_canMoveBody cX1_canMoveBody 8 (some .boolean) 4 ({ frames := 2, cells := 0, slots := 0, locals := 46 } : Room) f_X1_canMoveBody := by
  unfold f_X1_canMoveBody
  exact MetX.of (own := RX1) 100 0 rfl (by decide +kernel) (by decide) (fun p e s m args below meth c Fin ad0 hr hn => ⟨_, _, Sv_seq (Sv_if (Cv_if_ne_n (Ev_call (Av_i (Av_a (Av_nil) (Ev_aload_n dX1_canMoveBody_0 rfl)) (Ev_iload_n dX1_canMoveBody_1 rfl)) (Rn_V (ci := 1) Fx1.1 rfl Y_X1_sizeOf (k_X1_sizeOf _ _) w668 w627 w628 dX1_canMoveBody_2 (Nat.le_of_ble_eq_true rfl) (Nat.le_of_ble_eq_true rfl) (Nat.le_of_ble_eq_true rfl) (Nat.ne_of_beq_eq_false rfl))) (t := 10) dX1_canMoveBody_5 (by decide)) (Sv_retz (Ev_iconst dX1_canMoveBody_8 (by decide)) hr dX1_canMoveBody_9) Sv_nop) (Sv_seq (Sv_if (Cv_or (Cv_or (Cv_or (Cv_if_lt_j (Ev_iadd (Ev_call (Av_i (Av_a (Av_nil) (Ev_aload_n dX1_canMoveBody_10 rfl)) (Ev_iload_n dX1_canMoveBody_11 rfl)) (Rn_V (ci := 1) Fx1.1 rfl Y_X1_firstColumnOf (k_X1_firstColumnOf _ _) w669 w670 w671 dX1_canMoveBody_12 (Nat.le_of_ble_eq_true rfl) (Nat.le_of_ble_eq_true rfl) (Nat.le_of_ble_eq_true rfl) (Nat.ne_of_beq_eq_false rfl))) (Ev_iload_n dX1_canMoveBody_15 rfl) dX1_canMoveBody_16) (t := 58) dX1_canMoveBody_17 (by decide)) (Cv_icmp_ge_j (Ev_iadd (Ev_call (Av_i (Av_a (Av_nil) (Ev_aload_n dX1_canMoveBody_20 rfl)) (Ev_iload_n dX1_canMoveBody_21 rfl)) (Rn_V (ci := 1) Fx1.1 rfl Y_X1_lastColumnOf (k_X1_lastColumnOf _ _) w677 w678 w679 dX1_canMoveBody_22 (Nat.le_of_ble_eq_true rfl) (Nat.le_of_ble_eq_true rfl) (Nat.le_of_ble_eq_true rfl) (Nat.ne_of_beq_eq_false rfl))) (Ev_iload_n dX1_canMoveBody_25 rfl) dX1_canMoveBody_26) (Ev_getI Fx1 (Ev_aload_n dX1_canMoveBody_27 rfl) (k := 0) (by decide) w44 dX1_canMoveBody_28) (t := 58) dX1_canMoveBody_31 (by decide))) (Cv_if_lt_j (Ev_iadd (Ev_call (Av_i (Av_a (Av_nil) (Ev_aload_n dX1_canMoveBody_34 rfl)) (Ev_iload_n dX1_canMoveBody_35 rfl)) (Rn_V (ci := 1) Fx1.1 rfl Y_X1_firstRowOf (k_X1_firstRowOf _ _) w681 w682 w683 dX1_canMoveBody_36 (Nat.le_of_ble_eq_true rfl) (Nat.le_of_ble_eq_true rfl) (Nat.le_of_ble_eq_true rfl) (Nat.ne_of_beq_eq_false rfl))) (Ev_iload_n dX1_canMoveBody_39 rfl) dX1_canMoveBody_40) (t := 58) dX1_canMoveBody_41 (by decide))) (Cv_icmp_lt_n (Ev_iadd (Ev_call (Av_i (Av_a (Av_nil) (Ev_aload_n dX1_canMoveBody_44 rfl)) (Ev_iload_n dX1_canMoveBody_45 rfl)) (Rn_V (ci := 1) Fx1.1 rfl Y_X1_lastRowOf (k_X1_lastRowOf _ _) w685 w686 w687 dX1_canMoveBody_46 (Nat.le_of_ble_eq_true rfl) (Nat.le_of_ble_eq_true rfl) (Nat.le_of_ble_eq_true rfl) (Nat.ne_of_beq_eq_false rfl))) (Ev_iload_n dX1_canMoveBody_49 rfl) dX1_canMoveBody_50) (Ev_getI Fx1 (Ev_aload_n dX1_canMoveBody_51 rfl) (k := 1) (by decide) w46 dX1_canMoveBody_52) (t := 60) dX1_canMoveBody_55 (by decide))) (Sv_retz (Ev_iconst dX1_canMoveBody_58 (by decide)) hr dX1_canMoveBody_59) Sv_nop) (Sv_seq (Sv_seq (Sv_istore (Ev_iconst dX1_canMoveBody_60 (by decide)) dX1_canMoveBody_61 (Nat.le_of_ble_eq_true rfl) (Nat.ne_of_beq_eq_false rfl)) (Sv_loop0 NF (Cv_icmp_ge_n (Ev_iload dX1_canMoveBody_63) (Ev_getI Fx1 (Ev_aload_n dX1_canMoveBody_65 rfl) (k := 1) (by decide) w46 dX1_canMoveBody_66) (t := 156) dX1_canMoveBody_69 (by decide)) (Sv_goto (pE := 63) (Sv_seq (Sv_seq (Sv_istore (Ev_isub (Ev_iload dX1_canMoveBody_72) (Ev_iload_n dX1_canMoveBody_74 rfl) dX1_canMoveBody_75) dX1_canMoveBody_76 (Nat.le_of_ble_eq_true rfl) (Nat.ne_of_beq_eq_false rfl)) (Sv_if (Cv_and (Cv_if_lt_n (Ev_iload dX1_canMoveBody_78) (t := 150) dX1_canMoveBody_80 (by decide)) (Cv_icmp_ge_n (Ev_iload dX1_canMoveBody_83) (Ev_getI Fx1 (Ev_aload_n dX1_canMoveBody_85 rfl) (k := 1) (by decide) w46 dX1_canMoveBody_86) (t := 150) dX1_canMoveBody_89 (by decide))) (Sv_seq (Sv_istore (Ev_call (Av_i (Av_i (Av_nil) (Ev_iaload (Ev_getA Fx1 (Ev_aload_n dX1_canMoveBody_92 rfl) (k := 4) (by decide) w55 dX1_canMoveBody_93) (Ev_iadd (Ev_imul (Ev_iload dX1_canMoveBody_96) (Ev_bipush dX1_canMoveBody_98 (by decide)) dX1_canMoveBody_100) (Ev_iload_n dX1_canMoveBody_101 rfl) dX1_canMoveBody_102) dX1_canMoveBody_103)) (Ev_iload_n dX1_canMoveBody_104 rfl)) (Rn_S Y_X1_pushed (k_X1_pushed _ _) w689 w690 dX1_canMoveBody_105 (Nat.le_of_ble_eq_true rfl) (Nat.le_of_ble_eq_true rfl) (Nat.le_of_ble_eq_true rfl) (Nat.ne_of_beq_eq_false rfl))) dX1_canMoveBody_108 (Nat.le_of_ble_eq_true rfl) (Nat.ne_of_beq_eq_false rfl)) (Sv_seq (Sv_istore (Ev_iand (Ev_call (Av_i (Av_a (Av_nil) (Ev_aload_n dX1_canMoveBody_110 rfl)) (Ev_iload dX1_canMoveBody_111)) (Rn_V (ci := 1) Fx1.1 rfl Y_X1_solidColumns (k_X1_solidColumns _ _) w617 w618 w619 dX1_canMoveBody_113 (Nat.le_of_ble_eq_true rfl) (Nat.le_of_ble_eq_true rfl) (Nat.le_of_ble_eq_true rfl) (Nat.ne_of_beq_eq_false rfl))) (Ev_ixor (Ev_iaload (Ev_getA Fx1 (Ev_aload_n dX1_canMoveBody_116 rfl) (k := 4) (by decide) w55 dX1_canMoveBody_117) (Ev_iadd (Ev_imul (Ev_iload dX1_canMoveBody_120) (Ev_bipush dX1_canMoveBody_122 (by decide)) dX1_canMoveBody_124) (Ev_iload_n dX1_canMoveBody_125 rfl) dX1_canMoveBody_126) dX1_canMoveBody_127) (Ev_iconst dX1_canMoveBody_128 (by decide)) dX1_canMoveBody_129) dX1_canMoveBody_130) dX1_canMoveBody_131 (Nat.le_of_ble_eq_true rfl) (Nat.ne_of_beq_eq_false rfl)) (Sv_if (Cv_if_eq_n (Ev_iand (Ev_iload dX1_canMoveBody_133) (Ev_ior (Ev_iload dX1_canMoveBody_135) (Ev_call (Av_i (Av_a (Av_nil) (Ev_aload_n dX1_canMoveBody_137 rfl)) (Ev_iload dX1_canMoveBody_138)) (Rn_V (ci := 1) Fx1.1 rfl Y_X1_occupiedColumns (k_X1_occupiedColumns _ _) w621 w622 w623 dX1_canMoveBody_140 (Nat.le_of_ble_eq_true rfl) (Nat.le_of_ble_eq_true rfl) (Nat.le_of_ble_eq_true rfl) (Nat.ne_of_beq_eq_false rfl))) dX1_canMoveBody_143) dX1_canMoveBody_144) (t := 150) dX1_canMoveBody_145 (by decide)) (Sv_retz (Ev_iconst dX1_canMoveBody_148 (by decide)) hr dX1_canMoveBody_149) Sv_nop))) Sv_nop)) (Sv_iinc dX1_canMoveBody_150 (by decide) (Nat.le_of_ble_eq_true rfl) (Nat.ne_of_beq_eq_false rfl))) dX1_canMoveBody_153 (by decide)))) (Sv_retz (Ev_iconst dX1_canMoveBody_156 (by decide)) hr dX1_canMoveBody_157))), Nat.le_of_ble_eq_true rfl, Nat.le_of_ble_eq_true rfl⟩)
theorem dX1_moveBody_0 : decode cX1_moveBody 0 = .ok (.iconst 0, 1) := by decide +kernel
theorem dX1_moveBody_1 : decode cX1_moveBody 1 = .ok (.istore 4, 2) := by decide +kernel
theorem dX1_moveBody_3 : decode cX1_moveBody 3 = .ok (.iload 4, 2) := by decide +kernel
theorem dX1_moveBody_5 : decode cX1_moveBody 5 = .ok (.aload_n 0, 1) := by decide +kernel
theorem dX1_moveBody_6 : decode cX1_moveBody 6 = .ok (.getfield 22, 3) := by decide +kernel
theorem dX1_moveBody_9 : decode cX1_moveBody 9 = .ok (.if_icmp .ge 93, 3) := by decide +kernel
theorem dX1_moveBody_12 : decode cX1_moveBody 12 = .ok (.iload_n 3, 1) := by decide +kernel
theorem dX1_moveBody_13 : decode cX1_moveBody 13 = .ok (.ifCond .le 15, 3) := by decide +kernel
theorem dX1_moveBody_16 : decode cX1_moveBody 16 = .ok (.aload_n 0, 1) := by decide +kernel
theorem dX1_moveBody_17 : decode cX1_moveBody 17 = .ok (.getfield 22, 3) := by decide +kernel
theorem dX1_moveBody_20 : decode cX1_moveBody 20 = .ok (.iconst 1, 1) := by decide +kernel
theorem dX1_moveBody_21 : decode cX1_moveBody 21 = .ok (.isub, 1) := by decide +kernel
theorem dX1_moveBody_22 : decode cX1_moveBody 22 = .ok (.iload 4, 2) := by decide +kernel
theorem dX1_moveBody_24 : decode cX1_moveBody 24 = .ok (.isub, 1) := by decide +kernel
theorem dX1_moveBody_25 : decode cX1_moveBody 25 = .ok (.goto 5, 3) := by decide +kernel
theorem dX1_moveBody_28 : decode cX1_moveBody 28 = .ok (.iload 4, 2) := by decide +kernel
theorem dX1_moveBody_30 : decode cX1_moveBody 30 = .ok (.istore 5, 2) := by decide +kernel
theorem dX1_moveBody_32 : decode cX1_moveBody 32 = .ok (.iload 5, 2) := by decide +kernel
theorem dX1_moveBody_34 : decode cX1_moveBody 34 = .ok (.iload_n 3, 1) := by decide +kernel
theorem dX1_moveBody_35 : decode cX1_moveBody 35 = .ok (.isub, 1) := by decide +kernel
theorem dX1_moveBody_36 : decode cX1_moveBody 36 = .ok (.istore 6, 2) := by decide +kernel
theorem dX1_moveBody_38 : decode cX1_moveBody 38 = .ok (.iload 6, 2) := by decide +kernel
theorem dX1_moveBody_40 : decode cX1_moveBody 40 = .ok (.ifCond .lt 16, 3) := by decide +kernel
theorem dX1_moveBody_43 : decode cX1_moveBody 43 = .ok (.iload 6, 2) := by decide +kernel
theorem dX1_moveBody_45 : decode cX1_moveBody 45 = .ok (.aload_n 0, 1) := by decide +kernel
theorem dX1_moveBody_46 : decode cX1_moveBody 46 = .ok (.getfield 22, 3) := by decide +kernel
theorem dX1_moveBody_49 : decode cX1_moveBody 49 = .ok (.if_icmp .ge 7, 3) := by decide +kernel
theorem dX1_moveBody_52 : decode cX1_moveBody 52 = .ok (.iconst 1, 1) := by decide +kernel
theorem dX1_moveBody_53 : decode cX1_moveBody 53 = .ok (.goto 4, 3) := by decide +kernel
theorem dX1_moveBody_56 : decode cX1_moveBody 56 = .ok (.iconst 0, 1) := by decide +kernel
theorem dX1_moveBody_57 : decode cX1_moveBody 57 = .ok (.istore 7, 2) := by decide +kernel
theorem dX1_moveBody_59 : decode cX1_moveBody 59 = .ok (.aload_n 0, 1) := by decide +kernel
theorem dX1_moveBody_60 : decode cX1_moveBody 60 = .ok (.getfield 15, 3) := by decide +kernel
theorem dX1_moveBody_63 : decode cX1_moveBody 63 = .ok (.iload 5, 2) := by decide +kernel
theorem dX1_moveBody_65 : decode cX1_moveBody 65 = .ok (.bipush 6, 2) := by decide +kernel
theorem dX1_moveBody_67 : decode cX1_moveBody 67 = .ok (.imul, 1) := by decide +kernel
theorem dX1_moveBody_68 : decode cX1_moveBody 68 = .ok (.iload_n 1, 1) := by decide +kernel
theorem dX1_moveBody_69 : decode cX1_moveBody 69 = .ok (.iadd, 1) := by decide +kernel
theorem dX1_moveBody_70 : decode cX1_moveBody 70 = .ok (.iload 7, 2) := by decide +kernel
theorem dX1_moveBody_72 : decode cX1_moveBody 72 = .ok (.ifCond .eq 22, 3) := by decide +kernel
theorem dX1_moveBody_75 : decode cX1_moveBody 75 = .ok (.aload_n 0, 1) := by decide +kernel
theorem dX1_moveBody_76 : decode cX1_moveBody 76 = .ok (.getfield 15, 3) := by decide +kernel
theorem dX1_moveBody_79 : decode cX1_moveBody 79 = .ok (.iload 6, 2) := by decide +kernel
theorem dX1_moveBody_81 : decode cX1_moveBody 81 = .ok (.bipush 6, 2) := by decide +kernel
theorem dX1_moveBody_83 : decode cX1_moveBody 83 = .ok (.imul, 1) := by decide +kernel
theorem dX1_moveBody_84 : decode cX1_moveBody 84 = .ok (.iload_n 1, 1) := by decide +kernel
theorem dX1_moveBody_85 : decode cX1_moveBody 85 = .ok (.iadd, 1) := by decide +kernel
theorem dX1_moveBody_86 : decode cX1_moveBody 86 = .ok (.iaload, 1) := by decide +kernel
theorem dX1_moveBody_87 : decode cX1_moveBody 87 = .ok (.iload_n 2, 1) := by decide +kernel
theorem dX1_moveBody_88 : decode cX1_moveBody 88 = .ok (.invokestatic 77, 3) := by decide +kernel
theorem dX1_moveBody_91 : decode cX1_moveBody 91 = .ok (.goto 4, 3) := by decide +kernel
theorem dX1_moveBody_94 : decode cX1_moveBody 94 = .ok (.iconst 0, 1) := by decide +kernel
theorem dX1_moveBody_95 : decode cX1_moveBody 95 = .ok (.iastore, 1) := by decide +kernel
theorem dX1_moveBody_96 : decode cX1_moveBody 96 = .ok (.iinc 4 1, 3) := by decide +kernel
theorem dX1_moveBody_99 : decode cX1_moveBody 99 = .ok (.goto (-96), 3) := by decide +kernel
theorem dX1_moveBody_102 : decode cX1_moveBody 102 = .ok (.return_, 1) := by decide +kernel
def f_X1_moveBody : MX := mth 8 (sQ (sQ (sTi 4 (eI (0))) (sLp (cB c_lt (eLi 4) (eGi (eLa 0) 1 1)) (sQ (sQ (sTi 5 (eIf (cZ z_gt (eLi 3)) (eOp o_isub (eOp o_isub (eGi (eLa 0) 1 1) (eI (1))) (eLi 4)) (eLi 4))) (sQ (sTi 6 (eOp o_isub (eLi 5) (eLi 3))) (sQ (sTi 7 (eC (cAnd (cZ z_ge (eLi 6)) (cB c_lt (eLi 6) (eGi (eLa 0) 1 1))))) (sAi 0 (eGa (eLa 0) 1 4) (eOp o_iadd (eOp o_imul (eLi 5) (eI (6))) (eLi 1)) (eIf (cZ z_ne (eLi 7)) (eM (f_X1_pushed) (aI (aI (aN) (eAi 0 (eGa (eLa 0) 1 4) (eOp o_iadd (eOp o_imul (eLi 6) (eI (6))) (eLi 1)))) (eLi 2))) (eI (0))))))) (sInc 4 (1))) NF)) (sRv))
theorem Y_X1_moveBody : Yk yX1_moveBody cX1_moveBody 8 none 3 := ⟨w695, w3, by decide +kernel, by decide +kernel, by decide +kernel⟩
set_option maxRecDepth 20000 in
theorem k_X1_moveBody (l : Launch) (g : GE) : MetX l g yX1_moveBody cX1_moveBody 8 none 4 ({ frames := 1, cells := 0, slots := 0, locals := 21 } : Room) f_X1_moveBody := by
  unfold f_X1_moveBody
  exact MetX.of (own := RX1) 100 0 rfl (by decide +kernel) (by decide) (fun p e s m args below meth c Fin ad0 hr hn => ⟨_, _, Sv_seq (Sv_seq (Sv_istore (Ev_iconst dX1_moveBody_0 (by decide)) dX1_moveBody_1 (Nat.le_of_ble_eq_true rfl) (Nat.ne_of_beq_eq_false rfl)) (Sv_loop0 NF (Cv_icmp_ge_n (Ev_iload dX1_moveBody_3) (Ev_getI Fx1 (Ev_aload_n dX1_moveBody_5 rfl) (k := 1) (by decide) w46 dX1_moveBody_6) (t := 102) dX1_moveBody_9 (by decide)) (Sv_goto (pE := 3) (Sv_seq (Sv_seq (Sv_istore (Ev_if (pT := 30) (Cv_if_le_n (Ev_iload_n dX1_moveBody_12 rfl) (t := 28) dX1_moveBody_13 (by decide)) (Ev_isub (Ev_isub (Ev_getI Fx1 (Ev_aload_n dX1_moveBody_16 rfl) (k := 1) (by decide) w46 dX1_moveBody_17) (Ev_iconst dX1_moveBody_20 (by decide)) dX1_moveBody_21) (Ev_iload dX1_moveBody_22) dX1_moveBody_24) dX1_moveBody_25 (by decide) (Ev_iload dX1_moveBody_28)) dX1_moveBody_30 (Nat.le_of_ble_eq_true rfl) (Nat.ne_of_beq_eq_false rfl)) (Sv_seq (Sv_istore (Ev_isub (Ev_iload dX1_moveBody_32) (Ev_iload_n dX1_moveBody_34 rfl) dX1_moveBody_35) dX1_moveBody_36 (Nat.le_of_ble_eq_true rfl) (Nat.ne_of_beq_eq_false rfl)) (Sv_seq (Sv_istore (Ev_if (pT := 57) (Cv_and (Cv_if_lt_n (Ev_iload dX1_moveBody_38) (t := 56) dX1_moveBody_40 (by decide)) (Cv_icmp_ge_n (Ev_iload dX1_moveBody_43) (Ev_getI Fx1 (Ev_aload_n dX1_moveBody_45 rfl) (k := 1) (by decide) w46 dX1_moveBody_46) (t := 56) dX1_moveBody_49 (by decide))) (Ev_iconst dX1_moveBody_52 (by decide)) dX1_moveBody_53 (by decide) (Ev_iconst dX1_moveBody_56 (by decide))) dX1_moveBody_57 (Nat.le_of_ble_eq_true rfl) (Nat.ne_of_beq_eq_false rfl)) (Sv_iastore (Ev_getA Fx1 (Ev_aload_n dX1_moveBody_59 rfl) (k := 4) (by decide) w55 dX1_moveBody_60) (Ev_iadd (Ev_imul (Ev_iload dX1_moveBody_63) (Ev_bipush dX1_moveBody_65 (by decide)) dX1_moveBody_67) (Ev_iload_n dX1_moveBody_68 rfl) dX1_moveBody_69) (Ev_if (pT := 95) (Cv_if_eq_n (Ev_iload dX1_moveBody_70) (t := 94) dX1_moveBody_72 (by decide)) (Ev_call (Av_i (Av_i (Av_nil) (Ev_iaload (Ev_getA Fx1 (Ev_aload_n dX1_moveBody_75 rfl) (k := 4) (by decide) w55 dX1_moveBody_76) (Ev_iadd (Ev_imul (Ev_iload dX1_moveBody_79) (Ev_bipush dX1_moveBody_81 (by decide)) dX1_moveBody_83) (Ev_iload_n dX1_moveBody_84 rfl) dX1_moveBody_85) dX1_moveBody_86)) (Ev_iload_n dX1_moveBody_87 rfl)) (Rn_S Y_X1_pushed (k_X1_pushed _ _) w689 w690 dX1_moveBody_88 (Nat.le_of_ble_eq_true rfl) (Nat.le_of_ble_eq_true rfl) (Nat.le_of_ble_eq_true rfl) (Nat.ne_of_beq_eq_false rfl))) dX1_moveBody_91 (by decide) (Ev_iconst dX1_moveBody_94 (by decide))) dX1_moveBody_95)))) (Sv_iinc dX1_moveBody_96 (by decide) (Nat.le_of_ble_eq_true rfl) (Nat.ne_of_beq_eq_false rfl))) dX1_moveBody_99 (by decide)))) (Sv_retv hr dX1_moveBody_102), Nat.le_of_ble_eq_true rfl, Nat.le_of_ble_eq_true rfl⟩)
theorem dX1_stepped_0 : decode cX1_stepped 0 = .ok (.iload_n 2, 1) := by decide +kernel
theorem dX1_stepped_1 : decode cX1_stepped 1 = .ok (.ifCond .le 33, 3) := by decide +kernel
theorem dX1_stepped_4 : decode cX1_stepped 4 = .ok (.iload_n 3, 1) := by decide +kernel
theorem dX1_stepped_5 : decode cX1_stepped 5 = .ok (.ifCond .eq 14, 3) := by decide +kernel
theorem dX1_stepped_8 : decode cX1_stepped 8 = .ok (.iload_n 1, 1) := by decide +kernel
theorem dX1_stepped_9 : decode cX1_stepped 9 = .ok (.aload_n 0, 1) := by decide +kernel
theorem dX1_stepped_10 : decode cX1_stepped 10 = .ok (.getfield 18, 3) := by decide +kernel
theorem dX1_stepped_13 : decode cX1_stepped 13 = .ok (.iconst 1, 1) := by decide +kernel
theorem dX1_stepped_14 : decode cX1_stepped 14 = .ok (.isub, 1) := by decide +kernel
theorem dX1_stepped_15 : decode cX1_stepped 15 = .ok (.iushr, 1) := by decide +kernel
theorem dX1_stepped_16 : decode cX1_stepped 16 = .ok (.goto 4, 3) := by decide +kernel
theorem dX1_stepped_19 : decode cX1_stepped 19 = .ok (.iconst 0, 1) := by decide +kernel
theorem dX1_stepped_20 : decode cX1_stepped 20 = .ok (.istore 4, 2) := by decide +kernel
theorem dX1_stepped_22 : decode cX1_stepped 22 = .ok (.iload_n 1, 1) := by decide +kernel
theorem dX1_stepped_23 : decode cX1_stepped 23 = .ok (.iconst 1, 1) := by decide +kernel
theorem dX1_stepped_24 : decode cX1_stepped 24 = .ok (.ishl, 1) := by decide +kernel
theorem dX1_stepped_25 : decode cX1_stepped 25 = .ok (.aload_n 0, 1) := by decide +kernel
theorem dX1_stepped_26 : decode cX1_stepped 26 = .ok (.getfield 29, 3) := by decide +kernel
theorem dX1_stepped_29 : decode cX1_stepped 29 = .ok (.iand, 1) := by decide +kernel
theorem dX1_stepped_30 : decode cX1_stepped 30 = .ok (.iload 4, 2) := by decide +kernel
theorem dX1_stepped_32 : decode cX1_stepped 32 = .ok (.ior, 1) := by decide +kernel
theorem dX1_stepped_33 : decode cX1_stepped 33 = .ok (.ireturn, 1) := by decide +kernel
theorem dX1_stepped_34 : decode cX1_stepped 34 = .ok (.iload_n 2, 1) := by decide +kernel
theorem dX1_stepped_35 : decode cX1_stepped 35 = .ok (.ifCond .ge 30, 3) := by decide +kernel
theorem dX1_stepped_38 : decode cX1_stepped 38 = .ok (.iload_n 3, 1) := by decide +kernel
theorem dX1_stepped_39 : decode cX1_stepped 39 = .ok (.ifCond .eq 16, 3) := by decide +kernel
theorem dX1_stepped_42 : decode cX1_stepped 42 = .ok (.iload_n 1, 1) := by decide +kernel
theorem dX1_stepped_43 : decode cX1_stepped 43 = .ok (.iconst 1, 1) := by decide +kernel
theorem dX1_stepped_44 : decode cX1_stepped 44 = .ok (.iand, 1) := by decide +kernel
theorem dX1_stepped_45 : decode cX1_stepped 45 = .ok (.aload_n 0, 1) := by decide +kernel
theorem dX1_stepped_46 : decode cX1_stepped 46 = .ok (.getfield 18, 3) := by decide +kernel
theorem dX1_stepped_49 : decode cX1_stepped 49 = .ok (.iconst 1, 1) := by decide +kernel
theorem dX1_stepped_50 : decode cX1_stepped 50 = .ok (.isub, 1) := by decide +kernel
theorem dX1_stepped_51 : decode cX1_stepped 51 = .ok (.ishl, 1) := by decide +kernel
theorem dX1_stepped_52 : decode cX1_stepped 52 = .ok (.goto 4, 3) := by decide +kernel
theorem dX1_stepped_55 : decode cX1_stepped 55 = .ok (.iconst 0, 1) := by decide +kernel
theorem dX1_stepped_56 : decode cX1_stepped 56 = .ok (.istore 4, 2) := by decide +kernel
theorem dX1_stepped_58 : decode cX1_stepped 58 = .ok (.iload_n 1, 1) := by decide +kernel
theorem dX1_stepped_59 : decode cX1_stepped 59 = .ok (.iconst 1, 1) := by decide +kernel
theorem dX1_stepped_60 : decode cX1_stepped 60 = .ok (.iushr, 1) := by decide +kernel
theorem dX1_stepped_61 : decode cX1_stepped 61 = .ok (.iload 4, 2) := by decide +kernel
theorem dX1_stepped_63 : decode cX1_stepped 63 = .ok (.ior, 1) := by decide +kernel
theorem dX1_stepped_64 : decode cX1_stepped 64 = .ok (.ireturn, 1) := by decide +kernel
theorem dX1_stepped_65 : decode cX1_stepped 65 = .ok (.iload_n 1, 1) := by decide +kernel
theorem dX1_stepped_66 : decode cX1_stepped 66 = .ok (.ireturn, 1) := by decide +kernel
def f_X1_stepped : MX := mth 5 (sQ (sIf (cZ z_gt (eLi 2)) (sQ (sTi 4 (eIf (cZ z_ne (eLi 3)) (eOp o_iushr (eLi 1) (eOp o_isub (eGi (eLa 0) 1 0) (eI (1)))) (eI (0)))) (sR (eOp o_ior (eOp o_iand (eOp o_ishl (eLi 1) (eI (1))) (eGi (eLa 0) 1 2)) (eLi 4)))) sN) (sQ (sIf (cZ z_lt (eLi 2)) (sQ (sTi 4 (eIf (cZ z_ne (eLi 3)) (eOp o_ishl (eOp o_iand (eLi 1) (eI (1))) (eOp o_isub (eGi (eLa 0) 1 0) (eI (1)))) (eI (0)))) (sR (eOp o_ior (eOp o_iushr (eLi 1) (eI (1))) (eLi 4)))) sN) (sR (eLi 1))))
theorem Y_X1_stepped : Yk yX1_stepped cX1_stepped 5 (some .int) 3 := ⟨w886, w3, by decide +kernel, by decide +kernel, by decide +kernel⟩
set_option maxRecDepth 20000 in
theorem k_X1_stepped (l : Launch) (g : GE) : MetX l g yX1_stepped cX1_stepped 5 (some .int) 4 ({ frames := 0, cells := 0, slots := 0, locals := 0 } : Room) f_X1_stepped := by
  unfold f_X1_stepped
  exact MetX.of (own := RX1) 100 0 rfl (by decide +kernel) (by decide) (fun p e s m args below meth c Fin ad0 hr hn => ⟨_, _, Sv_seq (Sv_if (Cv_if_le_n (Ev_iload_n dX1_stepped_0 rfl) (t := 34) dX1_stepped_1 (by decide)) (Sv_seq (Sv_istore (Ev_if (pT := 20) (Cv_if_eq_n (Ev_iload_n dX1_stepped_4 rfl) (t := 19) dX1_stepped_5 (by decide)) (Ev_iushr (Ev_iload_n dX1_stepped_8 rfl) (Ev_isub (Ev_getI Fx1 (Ev_aload_n dX1_stepped_9 rfl) (k := 0) (by decide) w44 dX1_stepped_10) (Ev_iconst dX1_stepped_13 (by decide)) dX1_stepped_14) dX1_stepped_15) dX1_stepped_16 (by decide) (Ev_iconst dX1_stepped_19 (by decide))) dX1_stepped_20 (Nat.le_of_ble_eq_true rfl) (Nat.ne_of_beq_eq_false rfl)) (Sv_ret (Ev_ior (Ev_iand (Ev_ishl (Ev_iload_n dX1_stepped_22 rfl) (Ev_iconst dX1_stepped_23 (by decide)) dX1_stepped_24) (Ev_getI Fx1 (Ev_aload_n dX1_stepped_25 rfl) (k := 2) (by decide) w50 dX1_stepped_26) dX1_stepped_29) (Ev_iload dX1_stepped_30) dX1_stepped_32) hr dX1_stepped_33)) Sv_nop) (Sv_seq (Sv_if (Cv_if_ge_n (Ev_iload_n dX1_stepped_34 rfl) (t := 65) dX1_stepped_35 (by decide)) (Sv_seq (Sv_istore (Ev_if (pT := 56) (Cv_if_eq_n (Ev_iload_n dX1_stepped_38 rfl) (t := 55) dX1_stepped_39 (by decide)) (Ev_ishl (Ev_iand (Ev_iload_n dX1_stepped_42 rfl) (Ev_iconst dX1_stepped_43 (by decide)) dX1_stepped_44) (Ev_isub (Ev_getI Fx1 (Ev_aload_n dX1_stepped_45 rfl) (k := 0) (by decide) w44 dX1_stepped_46) (Ev_iconst dX1_stepped_49 (by decide)) dX1_stepped_50) dX1_stepped_51) dX1_stepped_52 (by decide) (Ev_iconst dX1_stepped_55 (by decide))) dX1_stepped_56 (Nat.le_of_ble_eq_true rfl) (Nat.ne_of_beq_eq_false rfl)) (Sv_ret (Ev_ior (Ev_iushr (Ev_iload_n dX1_stepped_58 rfl) (Ev_iconst dX1_stepped_59 (by decide)) dX1_stepped_60) (Ev_iload dX1_stepped_61) dX1_stepped_63) hr dX1_stepped_64)) Sv_nop) (Sv_ret (Ev_iload_n dX1_stepped_65 rfl) hr dX1_stepped_66)), Nat.le_of_ble_eq_true rfl, Nat.le_of_ble_eq_true rfl⟩)
theorem dX1_endColumn_0 : decode cX1_endColumn 0 = .ok (.iload_n 1, 1) := by decide +kernel
theorem dX1_endColumn_1 : decode cX1_endColumn 1 = .ok (.ifCond .le 12, 3) := by decide +kernel
theorem dX1_endColumn_4 : decode cX1_endColumn 4 = .ok (.iconst 1, 1) := by decide +kernel
theorem dX1_endColumn_5 : decode cX1_endColumn 5 = .ok (.aload_n 0, 1) := by decide +kernel
theorem dX1_endColumn_6 : decode cX1_endColumn 6 = .ok (.getfield 18, 3) := by decide +kernel
theorem dX1_endColumn_9 : decode cX1_endColumn 9 = .ok (.iconst 1, 1) := by decide +kernel
theorem dX1_endColumn_10 : decode cX1_endColumn 10 = .ok (.isub, 1) := by decide +kernel
theorem dX1_endColumn_11 : decode cX1_endColumn 11 = .ok (.ishl, 1) := by decide +kernel
theorem dX1_endColumn_12 : decode cX1_endColumn 12 = .ok (.ireturn, 1) := by decide +kernel
theorem dX1_endColumn_13 : decode cX1_endColumn 13 = .ok (.iload_n 1, 1) := by decide +kernel
theorem dX1_endColumn_14 : decode cX1_endColumn 14 = .ok (.ifCond .ge 7, 3) := by decide +kernel
theorem dX1_endColumn_17 : decode cX1_endColumn 17 = .ok (.iconst 1, 1) := by decide +kernel
theorem dX1_endColumn_18 : decode cX1_endColumn 18 = .ok (.goto 4, 3) := by decide +kernel
theorem dX1_endColumn_21 : decode cX1_endColumn 21 = .ok (.iconst 0, 1) := by decide +kernel
theorem dX1_endColumn_22 : decode cX1_endColumn 22 = .ok (.ireturn, 1) := by decide +kernel
def f_X1_endColumn : MX := mth 2 (sQ (sIf (cZ z_gt (eLi 1)) (sR (eOp o_ishl (eI (1)) (eOp o_isub (eGi (eLa 0) 1 0) (eI (1))))) sN) (sR (eIf (cZ z_lt (eLi 1)) (eI (1)) (eI (0)))))
theorem Y_X1_endColumn : Yk yX1_endColumn cX1_endColumn 2 (some .int) 1 := ⟨w882, w3, by decide +kernel, by decide +kernel, by decide +kernel⟩
set_option maxRecDepth 20000 in
theorem k_X1_endColumn (l : Launch) (g : GE) : MetX l g yX1_endColumn cX1_endColumn 2 (some .int) 2 ({ frames := 0, cells := 0, slots := 0, locals := 0 } : Room) f_X1_endColumn := by
  unfold f_X1_endColumn
  exact MetX.of (own := RX1) 100 0 rfl (by decide +kernel) (by decide) (fun p e s m args below meth c Fin ad0 hr hn => ⟨_, _, Sv_seq (Sv_if (Cv_if_le_n (Ev_iload_n dX1_endColumn_0 rfl) (t := 13) dX1_endColumn_1 (by decide)) (Sv_ret (Ev_ishl (Ev_iconst dX1_endColumn_4 (by decide)) (Ev_isub (Ev_getI Fx1 (Ev_aload_n dX1_endColumn_5 rfl) (k := 0) (by decide) w44 dX1_endColumn_6) (Ev_iconst dX1_endColumn_9 (by decide)) dX1_endColumn_10) dX1_endColumn_11) hr dX1_endColumn_12) Sv_nop) (Sv_ret (Ev_if (pT := 22) (Cv_if_ge_n (Ev_iload_n dX1_endColumn_13 rfl) (t := 21) dX1_endColumn_14 (by decide)) (Ev_iconst dX1_endColumn_17 (by decide)) dX1_endColumn_18 (by decide) (Ev_iconst dX1_endColumn_21 (by decide))) hr dX1_endColumn_22), Nat.le_of_ble_eq_true rfl, Nat.le_of_ble_eq_true rfl⟩)
