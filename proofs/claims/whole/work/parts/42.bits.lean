/-! BITS, COUNTS OF BITS, SUMS -/
def bt (x : Int32) (c : Nat) : Bool := x.toBitVec.getLsbD c
theorem bt_and (x y : Int32) (c : Nat) : bt (o_iand x y) c = (bt x c && bt y c) := by simp [bt, o_iand]
theorem bt_or (x y : Int32) (c : Nat) : bt (o_ior x y) c = (bt x c || bt y c) := by simp [bt, o_ior]
theorem bt_xor (x y : Int32) (c : Nat) : bt (o_ixor x y) c = (bt x c != bt y c) := by simp [bt, o_ixor]
theorem bt_lt {x : Int32} {c : Nat} (h : bt x c = true) : c < 32 := by
  unfold bt at h
  exact BitVec.lt_of_getLsbD h
theorem bt_ge (x : Int32) {c : Nat} (h : 32 ≤ c) : bt x c = false := by
  unfold bt
  exact BitVec.getLsbD_of_ge _ _ h
theorem bt_m1 {c : Nat} : bt (-1) c = decide (c < 32) := by
  by_cases h : c < 32
  · have : ∀ c, c < 32 → bt (-1) c = true := by decide
    rw [this c h]
    simp [h]
  · rw [bt_ge _ (by omega)]
    simp [h]
theorem tb1 {c : Nat} (h : c < 32) : Nat.testBit 1 c = decide (c = 0) := by
  have : ∀ c, c < 32 → Nat.testBit 1 c = decide (c = 0) := by decide
  exact this c h
theorem bt_not (x : Int32) {c : Nat} (h : c < 32) : bt (o_ixor x (-1)) c = !bt x c := by
  rw [bt_xor, bt_m1]
  simp [h]
theorem bt_nz (n : Nat) {c : Nat} (h : c < 32) : bt (nz n) c = n.testBit c := by
  unfold bt nz
  rw [show (Int32.ofNat n).toBitVec = BitVec.ofNat 32 n from rfl, BitVec.getLsbD_ofNat]
  simp [h]
theorem bt_ext {x y : Int32} (h : ∀ c, c < 32 → bt x c = bt y c) : x = y := by
  apply Int32.toBitVec.inj
  apply BitVec.eq_of_getLsbD_eq
  intro i hi
  exact h i hi
theorem nz_and31 {k : Nat} (h : k < 32) : nz k &&& 31 = nz k := by
  have : ∀ k, k < 32 → nz k &&& 31 = nz k := by decide
  exact this k h
theorem nz_smod {k : Nat} (h : k < 32) : ((nz k).toBitVec.smod 32).toNat = k := by
  have : ∀ k, k < 32 → ((nz k).toBitVec.smod 32).toNat = k := by decide
  exact this k h
theorem bt_shl (x : Int32) {k c : Nat} (h : k < 32) : bt (o_ishl x (nz k)) c = (decide (c < 32) && (decide (k ≤ c) && bt x (c - k))) := by
  unfold bt o_ishl
  rw [nz_and31 h, Int32.toBitVec_shiftLeft, BitVec.shiftLeft_eq', nz_smod h, BitVec.getLsbD_shiftLeft]
  by_cases h1 : c < 32 <;> by_cases h2 : k ≤ c <;> simp [h1, h2] <;> omega
theorem bt_ushr (x : Int32) {k c : Nat} (h : k < 32) : bt (o_iushr x (nz k)) c = bt x (c + k) := by
  have e : ∀ k, k < 32 → (((nz k).toUInt32 &&& Int32.toUInt32 31).toBitVec % 32#32).toNat = k := by decide
  unfold bt o_iushr
  show ((x.toUInt32 >>> ((nz k).toUInt32 &&& Int32.toUInt32 31)).toBitVec).getLsbD c = _
  rw [show (x.toUInt32 >>> ((nz k).toUInt32 &&& Int32.toUInt32 31)).toBitVec = x.toUInt32.toBitVec >>> (((nz k).toUInt32 &&& Int32.toUInt32 31).toBitVec % 32#32) from rfl, BitVec.ushiftRight_eq', e k h, BitVec.getLsbD_ushiftRight, Nat.add_comm]
  rfl
theorem bt_shr (x : Int32) {k c : Nat} (h : k < 32) (hc : c + k < 32) : bt (o_ishr x (nz k)) c = bt x (c + k) := by
  unfold bt o_ishr
  rw [nz_and31 h, Int32.toBitVec_shiftRight, BitVec.sshiftRight_eq', nz_smod h, BitVec.getLsbD_sshiftRight]
  rw [if_pos (by omega), Nat.add_comm k c]
  simp
  omega
theorem bt_0 (c : Nat) : bt 0 c = false := by simp [bt]
theorem bt_1 (c : Nat) : bt 1 c = decide (c = 0) := by
  by_cases h : c < 32
  · rw [nlit1, bt_nz 1 h, tb1 h]
  · rw [bt_ge _ (by omega)]
    simp
    omega
/-- the lowest bit, told as a number -/
theorem and1 (x : Int32) : o_iand x (nz 1) = b01 (bt x 0) := by
  unfold b01
  apply bt_ext
  intro c hc
  rw [bt_and, bt_nz 1 hc]
  by_cases h : c = 0
  · subst h
    cases hb : bt x 0 <;> simp [bt_nz]
  · have : Nat.testBit 1 c = false := by rw [tb1 hc]; simp [h]
    rw [this]
    cases bt x 0 <;> simp [bt_nz, hc, this]
theorem nz10 : (nz 1 = nz 0) = False := by
  rw [nz_inj (by decide) (by decide)]
  simp
theorem eq0_bt (x : Int32) : x = nz 0 ↔ ∀ c, c < 32 → bt x c = false := by
  constructor
  · rintro rfl c hc
    rw [bt_nz 0 hc]
    simp
  · intro h
    apply bt_ext
    intro c hc
    rw [h c hc, bt_nz 0 hc]
    simp
-- sums
def sm (n : Nat) (f : Nat → Int32) : Int32 := match n with
  | 0 => nz 0
  | n + 1 => sm n f + f n
theorem sm_succ {n : Nat} {f : Nat → Int32} : sm (n + 1) f = sm n f + f n := rfl
theorem sm_0 {f : Nat → Int32} : sm 0 f = nz 0 := rfl
theorem nz0_add (x : Int32) : nz 0 + x = x := Int32.zero_add x
theorem add_nz0 (x : Int32) : x + nz 0 = x := Int32.add_zero x
theorem sm_congr {n : Nat} {f g : Nat → Int32} (h : ∀ i, i < n → f i = g i) : sm n f = sm n g := by
  induction n with
  | zero => rfl
  | succ n ih =>
    show sm n f + f n = sm n g + g n
    rw [ih (fun i hi => h i (by omega)), h n (by omega)]
theorem sm_zero {n : Nat} {f : Nat → Int32} (h : ∀ i, i < n → f i = nz 0) : sm n f = nz 0 := by
  induction n with
  | zero => rfl
  | succ n ih =>
    show sm n f + f n = _
    rw [ih (fun i hi => h i (by omega)), h n (by omega)]
    rfl
theorem sm_add {n : Nat} {f g : Nat → Int32} : sm n (fun i => f i + g i) = sm n f + sm n g := by
  induction n with
  | zero => rfl
  | succ n ih =>
    show sm n (fun i => f i + g i) + (f n + g n) = sm n f + f n + (sm n g + g n)
    rw [ih]
    ac_rfl
theorem sm_mul {n : Nat} {x : Int32} {f : Nat → Int32} : sm n (fun i => x * f i) = x * sm n f := by
  induction n with
  | zero => exact (Int32.mul_zero).symm
  | succ n ih =>
    show sm n (fun i => x * f i) + x * f n = x * (sm n f + f n)
    rw [ih, Int32.mul_add]
theorem sm_swap {n k : Nat} {f : Nat → Nat → Int32} : sm n (fun i => sm k (fun j => f i j)) = sm k (fun j => sm n (fun i => f i j)) := by
  induction n with
  | zero => exact (sm_zero (fun i _ => rfl)).symm
  | succ n ih =>
    show sm n (fun i => sm k (fun j => f i j)) + sm k (fun j => f n j) = _
    rw [ih, ← sm_add]
    rfl
theorem sm_cut {n k : Nat} {f : Nat → Int32} (hk : k ≤ n) (h : ∀ i, k ≤ i → i < n → f i = nz 0) : sm n f = sm k f := by
  induction n with
  | zero => rw [show k = 0 by omega]
  | succ n ih =>
    by_cases e : k = n + 1
    · rw [e]
    · show sm n f + f n = _
      rw [h n (by omega) (by omega), add_nz0]
      exact ih (by omega) (fun i h1 h2 => h i h1 (by omega))
theorem sm_one {n k : Nat} {f : Nat → Int32} (hk : k < n) (h : ∀ i, i < n → i ≠ k → f i = nz 0) : sm n f = f k := by
  rw [sm_cut (k := k + 1) (by omega) (fun i h1 h2 => h i h2 (by omega))]
  show sm k f + f k = _
  rw [sm_zero (fun i hi => h i (by omega) (by omega)), nz0_add]
theorem sm_split {n k : Nat} {f : Nat → Int32} : sm (n + k) f = sm n f + sm k (fun i => f (n + i)) := by
  induction k with
  | zero => exact (add_nz0 _).symm
  | succ k ih =>
    show sm (n + k) f + f (n + k) = sm n f + (sm k (fun i => f (n + i)) + f (n + k))
    rw [ih, Int32.add_assoc]
-- how many bits
def pcN (n X : Nat) : Nat := match n with
  | 0 => 0
  | n + 1 => pcN n X + X / 2 ^ n % 2
def pc (x : Int32) : Nat := pcN 32 x.toBitVec.toNat
theorem and_cat {u p : Nat} (R Q : Nat) (hu : u < 256) (hp : p < 256) : (u + 256 * R) &&& (p + 256 * Q) = (u &&& p) + 256 * (R &&& Q) := by
  have h1 : ((u + 256 * R) &&& (p + 256 * Q)) % 2 ^ 8 = u &&& p := by
    rw [Nat.and_mod_two_pow]
    congr 1 <;> omega
  have h2 : ((u + 256 * R) &&& (p + 256 * Q)) / 2 ^ 8 = R &&& Q := by
    rw [Nat.and_div_two_pow]
    congr 1 <;> omega
  omega
def pA (X M : Nat) : Nat := X - (X / 2 &&& M)
def pB (X M : Nat) : Nat := (X &&& M) + (X / 4 &&& M)
def pD (X M : Nat) : Nat := (X + X / 16) &&& M
theorem pA_cat {a : Nat} (R M : Nat) (ha : a < 256) : pA (a + 256 * R) (85 + 256 * M) = pA a 85 + 256 * pA R M := by
  have h : ∀ a, a < 256 → ∀ e, e < 2 → (a / 2 + 128 * e) &&& 85 = a / 2 &&& 85 ∧ (a / 2 &&& 85) ≤ a := by decide +kernel
  obtain ⟨h1, h2⟩ := h a ha (R % 2) (by omega)
  have h3 : R / 2 &&& M ≤ R := Nat.le_trans Nat.and_le_left (by omega)
  unfold pA
  rw [show (a + 256 * R) / 2 = (a / 2 + 128 * (R % 2)) + 256 * (R / 2) by omega, and_cat _ _ (by omega) (by decide), h1]
  omega
theorem pB_cat {a : Nat} (R M : Nat) (ha : a < 256) : pB (a + 256 * R) (51 + 256 * M) = pB a 51 + 256 * pB R M := by
  have h : ∀ a, a < 256 → ∀ e, e < 4 → (a / 4 + 64 * e) &&& 51 = a / 4 &&& 51 := by decide +kernel
  have h1 := h a ha (R % 4) (by omega)
  unfold pB
  rw [and_cat _ _ ha (by decide), show (a + 256 * R) / 4 = (a / 4 + 64 * (R % 4)) + 256 * (R / 4) by omega, and_cat _ _ (by omega) (by decide), h1]
  omega
theorem pD_cat {a : Nat} (R M : Nat) (ha : a ≤ 68) (hR : R % 16 ≤ 4) : pD (a + 256 * R) (15 + 256 * M) = pD a 15 + 256 * pD R M := by
  have h : ∀ a, a ≤ 68 → ∀ e, e ≤ 4 → (a + a / 16 + 16 * e) &&& 15 = (a + a / 16) &&& 15 := by decide +kernel
  have h1 := h a ha (R % 16) hR
  unfold pD
  rw [show a + 256 * R + (a + 256 * R) / 16 = (a + a / 16 + 16 * (R % 16)) + 256 * (R + R / 16) by omega, and_cat _ _ (by omega) (by decide), h1]
theorem pcN_cat {a : Nat} (R k : Nat) (ha : a < 256) : pcN (8 + k) (a + 256 * R) = pcN 8 a + pcN k R := by
  induction k with
  | zero =>
    show pcN 8 (a + 256 * R) = pcN 8 a + 0
    simp only [pcN]
    omega
  | succ k ih =>
    show pcN (8 + k) (a + 256 * R) + (a + 256 * R) / 2 ^ (8 + k) % 2 = pcN 8 a + (pcN k R + R / 2 ^ k % 2)
    rw [ih, Nat.pow_add, ← Nat.div_div_eq_div_mul, show (a + 256 * R) / 2 ^ 8 = R by omega]
    omega
theorem pc_core (X : Nat) (hX : X < 4294967296) :
    pD (pB (pA X 1431655765) 858993459) 252645135 = pcN 8 (X % 256) + 256 * (pcN 8 (X / 256 % 256) + 256 * (pcN 8 (X / 65536 % 256) + 256 * pcN 8 (X / 16777216))) ∧ pcN 32 X = pcN 8 (X % 256) + (pcN 8 (X / 256 % 256) + (pcN 8 (X / 65536 % 256) + pcN 8 (X / 16777216))) := by
  have h : ∀ a, a < 256 → pB (pA a 85) 51 ≤ 68 ∧ pB (pA a 85) 51 % 16 ≤ 4 ∧ pA a 85 < 256 ∧ pD (pB (pA a 85) 51) 15 = pcN 8 a := by decide +kernel
  obtain ⟨a1, a2, a3, a4⟩ := h (X % 256) (by omega)
  obtain ⟨b1, b2, b3, b4⟩ := h (X / 256 % 256) (by omega)
  obtain ⟨c1, c2, c3, c4⟩ := h (X / 65536 % 256) (by omega)
  obtain ⟨d1, d2, d3, d4⟩ := h (X / 16777216) (by omega)
  have e : X = X % 256 + 256 * (X / 256 % 256 + 256 * (X / 65536 % 256 + 256 * (X / 16777216))) := by omega
  have i1 : X % 256 < 256 := by omega
  have i2 : X / 256 % 256 < 256 := by omega
  have i3 : X / 65536 % 256 < 256 := by omega
  have i4 : X / 16777216 < 256 := by omega
  refine ⟨?_, ?_⟩
  · generalize X % 256 = a, X / 256 % 256 = b, X / 65536 % 256 = c, X / 16777216 = d at *
    subst e
    rw [show 1431655765 = 85 + 256 * (85 + 256 * (85 + 256 * 85)) by decide, show 858993459 = 51 + 256 * (51 + 256 * (51 + 256 * 51)) by decide, show 252645135 = 15 + 256 * (15 + 256 * (15 + 256 * 15)) by decide]
    rw [pA_cat _ _ (by omega), pA_cat _ _ (by omega), pA_cat _ _ (by omega)]
    rw [pB_cat _ _ a3, pB_cat _ _ b3, pB_cat _ _ c3]
    rw [pD_cat _ _ a1 (by omega), pD_cat _ _ b1 (by omega), pD_cat _ _ c1 (by omega), a4, b4, c4, d4]
  · generalize X % 256 = a, X / 256 % 256 = b, X / 65536 % 256 = c, X / 16777216 = d at *
    subst e
    rw [show (32 : Nat) = 8 + (8 + (8 + 8)) from rfl, pcN_cat _ _ (by omega), pcN_cat _ _ (by omega), pcN_cat _ _ (by omega)]
theorem pcN_le : ∀ (n X : Nat), pcN n X ≤ n
  | 0, _ => Nat.le_refl _
  | n + 1, X => by
    have := pcN_le n X
    show pcN n X + X / 2 ^ n % 2 ≤ n + 1
    omega
theorem nz_bits (X Y : Nat) : nz X &&& nz Y = nz (X &&& Y) := by
  apply bt_ext
  intro c hc
  show bt (o_iand (nz X) (nz Y)) c = _
  rw [bt_and, bt_nz _ hc, bt_nz _ hc, bt_nz _ hc, Nat.testBit_and]
theorem nz_and (X Y : Nat) : o_iand (nz X) (nz Y) = nz (X &&& Y) := nz_bits X Y
theorem nz_or (X Y : Nat) : o_ior (nz X) (nz Y) = nz (X ||| Y) := by
  apply bt_ext
  intro c hc
  rw [bt_or, bt_nz _ hc, bt_nz _ hc, bt_nz _ hc, Nat.testBit_or]
theorem nz_xor (X Y : Nat) : o_ixor (nz X) (nz Y) = nz (X ^^^ Y) := by
  apply bt_ext
  intro c hc
  rw [bt_xor, bt_nz _ hc, bt_nz _ hc, bt_nz _ hc, Nat.testBit_xor]
theorem nz_ushr {X k : Nat} (hX : X < 4294967296) (hk : k < 32) : o_iushr (nz X) (nz k) = nz (X / 2 ^ k) := by
  apply bt_ext
  intro c hc
  rw [bt_ushr _ hk, bt_nz (X / 2 ^ k) hc, Nat.testBit_div_two_pow]
  by_cases h : c + k < 32
  · rw [bt_nz _ h]
  · rw [bt_ge _ (by omega)]
    symm
    apply Nat.testBit_lt_two_pow
    have : (2 : Nat) ^ 32 ≤ 2 ^ (c + k) := Nat.pow_le_pow_right (by decide) (by omega)
    omega
theorem nz_shl {X k : Nat} (hk : k < 32) : o_ishl (nz X) (nz k) = nz (X * 2 ^ k) := by
  apply bt_ext
  intro c hc
  rw [bt_shl _ hk, bt_nz (X * 2 ^ k) hc, ← Nat.shiftLeft_eq, Nat.testBit_shiftLeft, bt_nz X (by omega)]
  simp [hc]
theorem nz_shr {X k : Nat} (hX : X < 2147483648) (hk : k < 32) : o_ishr (nz X) (nz k) = nz (X / 2 ^ k) := by
  unfold o_ishr
  apply bt_ext
  intro c hc
  rw [bt_nz (X / 2 ^ k) hc, Nat.testBit_div_two_pow]
  unfold bt
  rw [nz_and31 hk, Int32.toBitVec_shiftRight, BitVec.sshiftRight_eq', nz_smod hk, BitVec.getLsbD_sshiftRight]
  by_cases h : k + c < 32
  · rw [if_pos h, Nat.add_comm k c]
    have := bt_nz X (c := c + k) (by omega)
    unfold bt at this
    rw [this]
    simp [hc]
  · rw [if_neg h]
    have hz : X.testBit (c + k) = false := by
      apply Nat.testBit_lt_two_pow
      have : (2 : Nat) ^ 32 ≤ 2 ^ (c + k) := Nat.pow_le_pow_right (by decide) (by omega)
      omega
    have hm : (nz X).toBitVec.msb = false := by
      rw [BitVec.msb_eq_getLsbD_last]
      have := bt_nz X (c := 31) (by decide)
      unfold bt at this
      rw [this]
      apply Nat.testBit_lt_two_pow
      omega
    rw [hz, hm]
    simp
theorem nz_to (x : Int32) : nz x.toBitVec.toNat = x := by
  unfold nz
  rw [Int32.ofNat_bitVecToNat]
  rfl
theorem e_bitCount {x : Int32} {h : Hp} : f_J6_bitCount_0f7a4 [.int x] h = some (h, .inl (some (.int (nz (pc x))))) := by
  unfold f_J6_bitCount_0f7a4
  simp only [mth_v, kR_r, kR_if, sQ, sN, sTi, sTa, sTl, sR, sRv, sX, sPi, sPo, sPz_v, zP_b, sRz_v, zR_b, zR_0, zR_1, zR_n0, zR_n1, sPa, sAi, sAl, sAo, sAa, sM_v, sMp_v, eM_v, sIf_v, eIf_v, cAnd_v, cOr_v, cB, cZ, cNot, eC_v, eI, eJ, eOp, eQ, eU, eIL, eLO, eLS, eLC, eGi, eGa, eZ_v, eAi, eAl, eAa, eAn, aN, aI, aA, sInc_v, sB_ok, sB_x, eS_ok, eS_x, eB_ok, eB_x, oE_s, oS_s, kI_i, kI_x, kV_v, kV_x, kP_i, kP_x, List.set_cons_zero, List.set_cons_succ, List.cons_append, List.nil_append, List.length_cons, List.length_nil, List.replicate_succ, List.replicate_zero, List.append_nil, bif_and, bif_or, zne_b01, zeq_b01, bif_d, cond_true, cond_false, nar_0, o_iadd, o_isub, o_imul, c_eq, c_ne, c_lt, c_ge, c_gt, c_le, Nat.reduceAdd, Nat.reduceSub, Nat.zero_add, if_true, if_false, eLl_2, eLi_0, eLi_1, eLi_2, eLi_3, eLi_4, eLi_5, eLi_6, eLi_7, eLi_8, eLi_9, eLi_10, eLi_11, eLi_12, eLi_13, eLa_0, eLa_1, eLa_2, eLa_3, eLa_4, eLa_5, eLa_6, eLa_7]
  congr 5
  have hX : x.toBitVec.toNat < 4294967296 := x.toBitVec.isLt
  unfold pc
  conv => lhs; rw [← nz_to x]
  revert hX
  generalize x.toBitVec.toNat = X
  intro hX
  obtain ⟨h1, h2⟩ := pc_core X hX
  rw [h2]
  have l1 := pcN_le 8 (X % 256)
  have l2 := pcN_le 8 (X / 256 % 256)
  have l3 := pcN_le 8 (X / 65536 % 256)
  have l4 := pcN_le 8 (X / 16777216)
  generalize pcN 8 (X % 256) = a, pcN 8 (X / 256 % 256) = b, pcN 8 (X / 65536 % 256) = c, pcN 8 (X / 16777216) = d at *
  have m1 : (1431655765 : Int32) = nz 1431655765 := rfl
  have m2 : (858993459 : Int32) = nz 858993459 := rfl
  have m3 : (252645135 : Int32) = nz 252645135 := rfl
  have m4 : (63 : Int32) = nz 63 := rfl
  have hA : X / 2 &&& 1431655765 ≤ X := Nat.le_trans Nat.and_le_left (by omega)
  have s1 : nz X - o_iand (o_iushr (nz X) 1) 1431655765 = nz (pA X 1431655765) := by
    rw [nlit1, nz_ushr hX (by decide), m1, nz_and, show (2 : Nat) ^ 1 = 2 from rfl, nz_sub hA]
    rfl
  have hA2 : pA X 1431655765 < 4294967296 := by unfold pA; omega
  rw [s1]
  generalize pA X 1431655765 = Y at *
  have s2 : o_iand (nz Y) 858993459 + o_iand (o_iushr (nz Y) 2) 858993459 = nz (pB Y 858993459) := by
    rw [nlit2, nz_ushr hA2 (by decide), m2, nz_and, nz_and, nz_add]
    rfl
  have hB2 : pB Y 858993459 < 4294967296 := by
    have z1 : Y &&& 858993459 ≤ 858993459 := Nat.and_le_right
    have z2 : Y / 4 &&& 858993459 ≤ 858993459 := Nat.and_le_right
    unfold pB; omega
  rw [s2]
  generalize pB Y 858993459 = Z at *
  have s3 : o_iand (nz Z + o_iushr (nz Z) 4) 252645135 = nz (pD Z 252645135) := by
    rw [nlit4, nz_ushr hB2 (by decide), m3, nz_add, nz_and]
    rfl
  rw [s3, h1]
  rw [nlit8, nz_ushr (by omega) (by decide), nz_add, nlit16, nz_ushr (by omega) (by decide), nz_add, m4, nz_and]
  congr 1
  rw [show (63 : Nat) = 2 ^ 6 - 1 from rfl, Nat.and_two_pow_sub_one_eq_mod]
  clear h1 s1 s2 s3 hA2 hB2 hA hX
  have q1 : (a + 256 * (b + 256 * (c + 256 * d))) / 2 ^ 8 = b + 256 * (c + 256 * d) := by omega
  rw [q1]
  have q2 : (a + 256 * (b + 256 * (c + 256 * d)) + (b + 256 * (c + 256 * d))) / 2 ^ 16 = c + d + 256 * d := by omega
  rw [q2]
  omega
theorem pc_sm (x : Int32) : nz (pc x) = sm 32 (fun c => b01 (bt x c)) := by
  have key : ∀ n, n ≤ 32 → nz (pcN n x.toBitVec.toNat) = sm n (fun c => b01 (bt x c)) := by
    intro n
    induction n with
    | zero => intro _; rfl
    | succ n ih =>
      intro hn
      show nz (pcN n x.toBitVec.toNat + x.toBitVec.toNat / 2 ^ n % 2) = sm n (fun c => b01 (bt x c)) + b01 (bt x n)
      rw [← nz_add, ih (by omega)]
      congr 1
      unfold bt b01
      rw [BitVec.getLsbD, Nat.testBit_eq_decide_div_mod_eq]
      by_cases h : x.toBitVec.toNat / 2 ^ n % 2 = 1
      · simp [h]
      · have : x.toBitVec.toNat / 2 ^ n % 2 = 0 := by omega
        simp [this]
  exact key 32 (by omega)
theorem sm_flat {n k : Nat} {f : Nat → Int32} : sm (n * k) f = sm n (fun i => sm k (fun j => f (i * k + j))) := by
  induction n with
  | zero => rw [Nat.zero_mul]; rfl
  | succ n ih =>
    rw [Nat.succ_mul, sm_split, ih]
    rfl
theorem zeq_nz {n : Nat} (h : n < 2147483648) : z_eq (nz n) = decide (n = 0) := by
  unfold z_eq
  rw [nlit0, decide_eq_decide, nz_inj h (by decide)]
theorem zne_nz {n : Nat} (h : n < 2147483648) : z_ne (nz n) = decide (n ≠ 0) := by
  unfold z_ne
  rw [nlit0, decide_eq_decide, ne_eq, nz_inj h (by decide)]
theorem zge_nz {n : Nat} (h : n < 2147483648) : z_ge (nz n) = true := by
  unfold z_ge
  rw [decide_eq_true_eq]
  exact nz_nn h
theorem zgt_nz {n : Nat} (h : n < 2147483648) : z_gt (nz n) = decide (0 < n) := by
  unfold z_gt
  rw [nlit0, decide_eq_decide, nz_lt (by decide) h]
theorem zlt_nz {n : Nat} (h : n < 2147483648) : z_lt (nz n) = false := by
  unfold z_lt
  rw [decide_eq_false_iff_not, nlit0, nz_lt h (by decide)]
  omega
theorem zge_m1 : z_ge (-1) = false := by decide
theorem nz_m1 {n : Nat} (h : 0 < n) : nz n + -1 = nz (n - 1) := by
  rw [← nz_sub h]
  exact (Int32.sub_eq_add_neg _ _).symm
theorem nz_rem {a b : Nat} (hb : 0 < b) (ha : a < 2147483648) (hb2 : b < 2147483648) : o_irem (nz a) (nz b) = nz (a % b) := by
  unfold o_irem
  have h : nz a / nz b = nz (a / b) := by
    unfold nz
    exact (Int32.ofNat_div ha hb2).symm
  rw [h, nz_mul, nz_sub (Nat.div_mul_le_self a b)]
  congr 1
  have := Nat.div_add_mod a b
  rw [Nat.mul_comm] at this
  omega
/-- whole numbers -/
def zz (z : Int) : Int32 := Int32.ofInt z
theorem zz_nz {z : Int} (h : 0 ≤ z) : zz z = nz z.toNat := by
  unfold zz nz
  rw [← Int32.ofInt_eq_ofNat, Int.toNat_of_nonneg h]
theorem nz_zz {n : Nat} : nz n = zz (n : Int) := by
  unfold zz nz
  rw [Int32.ofInt_eq_ofNat]
theorem zz_add {a b : Int} : zz a + zz b = zz (a + b) := (Int32.ofInt_add a b).symm
theorem zz_sub {a b : Int} : zz a - zz b = zz (a - b) := (Int32.ofInt_sub a b).symm
theorem zz_neg {a : Int} : -zz a = zz (-a) := (Int32.ofInt_neg a).symm
theorem zz_to {z : Int} (h1 : -2147483648 ≤ z) (h2 : z < 2147483648) : (zz z).toInt = z := Int32.toInt_ofInt_of_le h1 h2
theorem zge_zz {z : Int} (h1 : -2147483648 ≤ z) (h2 : z < 2147483648) : z_ge (zz z) = decide (0 ≤ z) := by
  unfold z_ge
  rw [decide_eq_decide, Int32.le_iff_toInt_le, zz_to h1 h2]
  exact Iff.rfl
theorem zlt_zz {z : Int} (h1 : -2147483648 ≤ z) (h2 : z < 2147483648) : z_lt (zz z) = decide (z < 0) := by
  unfold z_lt
  rw [decide_eq_decide, Int32.lt_iff_toInt_lt, zz_to h1 h2]
  exact Iff.rfl
theorem zgt_zz {z : Int} (h1 : -2147483648 ≤ z) (h2 : z < 2147483648) : z_gt (zz z) = decide (0 < z) := by
  unfold z_gt
  rw [decide_eq_decide, Int32.lt_iff_toInt_lt, zz_to h1 h2]
  exact Iff.rfl
theorem zz_lt {a b : Int} (h1 : -2147483648 ≤ a) (h2 : a < 2147483648) (h3 : -2147483648 ≤ b) (h4 : b < 2147483648) : (zz a < zz b) = (a < b) := by
  rw [Int32.lt_iff_toInt_lt, zz_to h1 h2, zz_to h3 h4]
theorem zz_le {a b : Int} (h1 : -2147483648 ≤ a) (h2 : a < 2147483648) (h3 : -2147483648 ≤ b) (h4 : b < 2147483648) : (zz a ≤ zz b) = (a ≤ b) := by
  rw [Int32.le_iff_toInt_le, zz_to h1 h2, zz_to h3 h4]
theorem zz_inj {a b : Int} (h1 : -2147483648 ≤ a) (h2 : a < 2147483648) (h3 : -2147483648 ≤ b) (h4 : b < 2147483648) : (zz a = zz b) = (a = b) := by
  refine propext ⟨fun h => ?_, fun h => by rw [h]⟩
  rw [← zz_to h1 h2, ← zz_to h3 h4, h]
/-- a number between two whole numbers, or one that isn't -/
theorem inZ (x : Int32) {a b : Int} (hab : a ≤ b) (h1 : -2147483648 ≤ a) (h2 : b < 2147483648) : (∃ z, a ≤ z ∧ z ≤ b ∧ x = zz z) ∨ (x < zz a ∨ zz b < x) := by
  have e : x = zz x.toInt := (Int32.ofInt_toInt x).symm
  have l1 : x.toInt < 2147483648 := Int32.toInt_lt x
  have l2 : -2147483648 ≤ x.toInt := Int32.le_toInt x
  by_cases h : a ≤ x.toInt
  · by_cases h' : x.toInt ≤ b
    · exact Or.inl ⟨_, h, h', e⟩
    · refine Or.inr (Or.inr ?_)
      rw [e, zz_lt (by omega) h2 (by omega) (by omega)]
      omega
  · refine Or.inr (Or.inl ?_)
    rw [e, zz_lt (by omega) (by omega) h1 (by omega)]
    omega
