/-! how many bits are set -/
def zb_pop : Nat → Nat → Nat
  | 0, _ => 0
  | k + 1, x => x % 2 + zb_pop k (x / 2)
theorem zb_pop_0 : ∀ k, zb_pop k 0 = 0
  | 0 => rfl
  | k + 1 => by rw [zb_pop, Nat.zero_mod, Nat.zero_div, zb_pop_0 k]
theorem zb_pop_add : ∀ j k x, zb_pop (j + k) x = zb_pop j x + zb_pop k (x / 2 ^ j)
  | 0, k, x => by simp [zb_pop]
  | j + 1, k, x => by
    rw [show j + 1 + k = (j + k) + 1 by omega, zb_pop, zb_pop, zb_pop_add j k (x / 2), Nat.div_div_eq_div_mul, Nat.pow_succ, Nat.mul_comm 2 (2 ^ j)]
    omega
theorem zb_pop_succ (j x : Nat) : zb_pop (j + 1) x = zb_pop j x + x / 2 ^ j % 2 := by
  rw [zb_pop_add j 1 x]
  simp [zb_pop]
theorem zb_pop_more {k x : Nat} (j : Nat) (h : x < 2 ^ k) : zb_pop (k + j) x = zb_pop k x := by
  rw [zb_pop_add, Nat.div_eq_of_lt h, zb_pop_0, Nat.add_zero]
theorem zb_pop_put : ∀ (s k B : Nat), B < 2 ^ s → s < k → zb_pop k (B + 2 ^ s) = zb_pop k B + 1
  | 0, 0, B, _, h => absurd h (Nat.lt_irrefl 0)
  | 0, k + 1, B, hB, _ => by
    have : B = 0 := by simpa using hB
    subst this
    simp [zb_pop, zb_pop_0]
  | s + 1, 0, B, _, h => absurd h (Nat.not_lt_zero _)
  | s + 1, k + 1, B, hB, h => by
    rw [Nat.pow_succ] at hB ⊢
    have ih := zb_pop_put s k (B / 2) (by omega) (by omega)
    rw [zb_pop, zb_pop, show (B + 2 ^ s * 2) / 2 = B / 2 + 2 ^ s by omega, ih, show (B + 2 ^ s * 2) % 2 = B % 2 by omega]
    omega
theorem zb_pop_le : ∀ k x, zb_pop k x ≤ k
  | 0, _ => Nat.le_refl 0
  | k + 1, x => by
    have := zb_pop_le k (x / 2)
    rw [zb_pop]
    omega
theorem zb_asplit {h l g m k : Nat} (hl : l < 2 ^ k) (hm : m < 2 ^ k) : (2 ^ k * h + l) &&& (2 ^ k * g + m) = 2 ^ k * (h &&& g) + (l &&& m) := by
  have hlm : l &&& m < 2 ^ k := Nat.lt_of_le_of_lt Nat.and_le_left hl
  apply Nat.eq_of_testBit_eq
  intro i
  rw [Nat.testBit_and, Nat.testBit_two_pow_mul_add h hl, Nat.testBit_two_pow_mul_add g hm, Nat.testBit_two_pow_mul_add _ hlm]
  by_cases hi : i < k
  · simp [hi]
  · simp [hi]
def zb_d1 (m x : Nat) : Nat := x - (x / 2 &&& m)
def zb_d2 (m x : Nat) : Nat := (x &&& m) + (x / 4 &&& m)
def zb_d3 (m x : Nat) : Nat := (x + x / 16) &&& m
theorem zb_s1 {h l g : Nat} (hl : l < 256) : zb_d1 (256 * g + 85) (256 * h + l) = 256 * zb_d1 g h + zb_d1 85 l := by
  have e1 : (256 * h + l) / 2 = 2 ^ 8 * (h / 2) + (2 ^ 7 * (h % 2) + l / 2) := by omega
  have e2 : (2 ^ 7 * (h % 2) + l / 2) &&& (2 ^ 7 * 0 + 85) = 2 ^ 7 * (h % 2 &&& 0) + (l / 2 &&& 85) := zb_asplit (by omega) (by decide)
  have e3 := zb_asplit (h := h / 2) (l := 2 ^ 7 * (h % 2) + l / 2) (g := g) (m := 85) (k := 8) (by omega) (by decide)
  have a1 : h / 2 &&& g ≤ h / 2 := Nat.and_le_left
  have a2 : l / 2 &&& 85 ≤ l / 2 := Nat.and_le_left
  simp only [Nat.and_zero, Nat.mul_zero, Nat.zero_add] at e2
  unfold zb_d1
  rw [e1, show 256 * g + 85 = 2 ^ 8 * g + 85 from rfl, e3, e2]
  omega
theorem zb_s2 {h l g : Nat} (hl : l < 256) : zb_d2 (256 * g + 51) (256 * h + l) = 256 * zb_d2 g h + zb_d2 51 l := by
  have e0 := zb_asplit (h := h) (l := l) (g := g) (m := 51) (k := 8) hl (by decide)
  have e1 : (256 * h + l) / 4 = 2 ^ 8 * (h / 4) + (2 ^ 6 * (h % 4) + l / 4) := by omega
  have e2 : (2 ^ 6 * (h % 4) + l / 4) &&& (2 ^ 6 * 0 + 51) = 2 ^ 6 * (h % 4 &&& 0) + (l / 4 &&& 51) := zb_asplit (by omega) (by decide)
  have e3 := zb_asplit (h := h / 4) (l := 2 ^ 6 * (h % 4) + l / 4) (g := g) (m := 51) (k := 8) (by omega) (by decide)
  simp only [Nat.and_zero, Nat.mul_zero, Nat.zero_add] at e2
  unfold zb_d2
  rw [e1, show 256 * g + 51 = 2 ^ 8 * g + 51 from rfl, e3, e2, show 256 * h + l = 2 ^ 8 * h + l from rfl, e0]
  omega
theorem zb_a15 (x : Nat) : x &&& 15 = x % 16 := Nat.and_two_pow_sub_one_eq_mod x 4
theorem zb_s3 {h l g : Nat} (hl : l ≤ 68) (hh : h % 16 ≤ 4) : zb_d3 (256 * g + 15) (256 * h + l) = 256 * zb_d3 g h + zb_d3 15 l := by
  have e1 : 256 * h + l + (256 * h + l) / 16 = 2 ^ 8 * (h + h / 16) + (16 * (h % 16) + (l + l / 16)) := by omega
  have e3 := zb_asplit (h := h + h / 16) (l := 16 * (h % 16) + (l + l / 16)) (g := g) (m := 15) (k := 8) (by omega) (by decide)
  unfold zb_d3
  rw [e1, show 256 * g + 15 = 2 ^ 8 * g + 15 from rfl, e3, zb_a15, zb_a15]
  omega
theorem zb_byte : ∀ b, b < 256 → zb_d3 15 (zb_d2 51 (zb_d1 85 b)) = zb_pop 8 b ∧ zb_d2 51 (zb_d1 85 b) ≤ 68 ∧ zb_d2 51 (zb_d1 85 b) % 16 ≤ 4 ∧ zb_d1 85 b < 256 := by decide +kernel
theorem zb_pop8 {h l : Nat} (hl : l < 256) (k : Nat) : zb_pop (8 + k) (256 * h + l) = zb_pop 8 l + zb_pop k h := by
  rw [zb_pop_add, show (256 * h + l) / 2 ^ 8 = h by omega]
  congr 1
  simp only [zb_pop]
  omega
def zb_c (x : Nat) : Nat :=
  let a := zb_d3 252645135 (zb_d2 858993459 (zb_d1 1431655765 x))
  let b := a + a / 256
  (b + b / 65536) &&& 63
theorem zb_c_pop {x : Nat} (hx : x < 2 ^ 32) : zb_c x = zb_pop 32 x := by
  obtain ⟨b0, b1, b2, b3, h0, h1, h2, h3, rfl⟩ : ∃ b0 b1 b2 b3 : Nat, b0 < 256 ∧ b1 < 256 ∧ b2 < 256 ∧ b3 < 256 ∧ x = 256 * (256 * (256 * b3 + b2) + b1) + b0 :=
    ⟨x % 256, x / 256 % 256, x / 65536 % 256, x / 16777216, by omega, by omega, by omega, by omega, by omega⟩
  obtain ⟨p0, q0, r0, t0⟩ := zb_byte b0 h0
  obtain ⟨p1, q1, r1, t1⟩ := zb_byte b1 h1
  obtain ⟨p2, q2, r2, t2⟩ := zb_byte b2 h2
  obtain ⟨p3, q3, r3, t3⟩ := zb_byte b3 h3
  have hp : zb_pop 32 (256 * (256 * (256 * b3 + b2) + b1) + b0) = zb_pop 8 b0 + (zb_pop 8 b1 + (zb_pop 8 b2 + zb_pop 8 b3)) := by
    rw [show (32 : Nat) = 8 + 24 from rfl, zb_pop8 h0, show (24 : Nat) = 8 + 16 from rfl, zb_pop8 h1, show (16 : Nat) = 8 + 8 from rfl, zb_pop8 h2]
  have s1 : zb_d1 1431655765 (256 * (256 * (256 * b3 + b2) + b1) + b0) = 256 * (256 * (256 * zb_d1 85 b3 + zb_d1 85 b2) + zb_d1 85 b1) + zb_d1 85 b0 := by
    rw [show (1431655765 : Nat) = 256 * (256 * (256 * 85 + 85) + 85) + 85 from rfl, zb_s1 h0, zb_s1 h1, zb_s1 h2]
  have s2 : zb_d2 858993459 (256 * (256 * (256 * zb_d1 85 b3 + zb_d1 85 b2) + zb_d1 85 b1) + zb_d1 85 b0) = 256 * (256 * (256 * zb_d2 51 (zb_d1 85 b3) + zb_d2 51 (zb_d1 85 b2)) + zb_d2 51 (zb_d1 85 b1)) + zb_d2 51 (zb_d1 85 b0) := by
    rw [show (858993459 : Nat) = 256 * (256 * (256 * 51 + 51) + 51) + 51 from rfl, zb_s2 t0, zb_s2 t1, zb_s2 t2]
  have s3 : zb_d3 252645135 (256 * (256 * (256 * zb_d2 51 (zb_d1 85 b3) + zb_d2 51 (zb_d1 85 b2)) + zb_d2 51 (zb_d1 85 b1)) + zb_d2 51 (zb_d1 85 b0)) = 256 * (256 * (256 * zb_pop 8 b3 + zb_pop 8 b2) + zb_pop 8 b1) + zb_pop 8 b0 := by
    rw [show (252645135 : Nat) = 256 * (256 * (256 * 15 + 15) + 15) + 15 from rfl, zb_s3 q0 (by omega), zb_s3 q1 (by omega), zb_s3 q2 r3, p0, p1, p2, p3]
  have l0 := zb_pop_le 8 b0
  have l1 := zb_pop_le 8 b1
  have l2 := zb_pop_le 8 b2
  have l3 := zb_pop_le 8 b3
  unfold zb_c
  rw [s1, s2, s3, hp]
  generalize zb_pop 8 b0 = u0 at *
  generalize zb_pop 8 b1 = u1 at *
  generalize zb_pop 8 b2 = u2 at *
  generalize zb_pop 8 b3 = u3 at *
  show (_ + _ / 65536) &&& (2 ^ 6 - 1) = _
  rw [Nat.and_two_pow_sub_one_eq_mod]
  clear s1 s2 s3 hp p0 p1 p2 p3 q0 q1 q2 q3 r0 r1 r2 r3 t0 t1 t2 t3 hx
  have e1 : (256 * (256 * (256 * u3 + u2) + u1) + u0) / 256 = 256 * (256 * u3 + u2) + u1 := by omega
  rw [e1]
  have e2 : (256 * (256 * (256 * u3 + u2) + u1) + u0 + (256 * (256 * u3 + u2) + u1)) / 65536 = 256 * u3 + (u2 + u3) := by omega
  rw [e2, show (2 : Nat) ^ 6 = 64 from rfl]
  omega
theorem zb_and (a b : Nat) : zn_I (a : Int) &&& zn_I (b : Int) = zn_I ((a &&& b : Nat) : Int) := by
  rw [← zn_nat, ← zn_nat, ← zn_nat]
  apply Int32.toBitVec_inj.1
  show BitVec.ofNat 32 a &&& BitVec.ofNat 32 b = BitVec.ofNat 32 (a &&& b)
  apply BitVec.eq_of_getLsbD_eq
  intro i hi
  simp [hi]
theorem zb_ushr {n p : Nat} (hn : n < 2 ^ 32) (s : Int32) (k : Nat) (hs : ((s.toUInt32 &&& Int32.toUInt32 31).toBitVec % 32).toNat = k) (hp : 2 ^ k = p) : ((zn_I (n : Int)).toUInt32 >>> (s.toUInt32 &&& Int32.toUInt32 31)).toInt32 = zn_I ((n / p : Nat) : Int) := by
  subst hp
  rw [← zn_nat, ← zn_nat]
  exact pk_ushrN hn s k hs
theorem zb_d1_lt {m x : Nat} : zb_d1 m x ≤ x := Nat.sub_le _ _
theorem zb_d2_lt {m x : Nat} : zb_d2 m x ≤ x + x / 4 := by
  have a1 : x &&& m ≤ x := Nat.and_le_left
  have a2 : x / 4 &&& m ≤ x / 4 := Nat.and_le_left
  unfold zb_d2
  omega
theorem zb_d3_lt {m x : Nat} : zb_d3 m x ≤ x + x / 16 := Nat.and_le_left
set_option maxRecDepth 100000 in
set_option maxHeartbeats 600000 in
theorem mJ6_bitCount {l : zw_Lh} {d : Nat} {M : zw_M} {x : Nat} (hx : x < 1073741824) : zw_C l d iJ6_bitCount_0f7a4 [.int (zn_I (x : Int))] M (zw_i (zn_I (zb_pop 32 x : Nat)) M) := by
  refine zw_of (by decide +kernel) (Nat.le_of_ble_eq_true rfl) ?_
  refine zy_loc (L1 := [.int (zn_I (x : Int))]) rfl ?_
  refine zx_iload_n dJ6_bitCount_0f7a4_0 rfl ?_
  refine zx_iload_n dJ6_bitCount_0f7a4_1 rfl ?_
  refine zx_iconst (v := zn_I 1) dJ6_bitCount_0f7a4_2 rfl ?_
  refine zx_iushr dJ6_bitCount_0f7a4_3 ?_
  refine zy_top (zb_ushr (k := 1) (p := 2) (by omega) _ (by decide) rfl) ?_
  refine zx_ldcw dJ6_bitCount_0f7a4_4 kJ6_265 ?_
  refine zy_top (show (1431655765 : Int32) = zn_I ((1431655765 : Nat) : Int) from by decide) ?_
  refine zx_iand dJ6_bitCount_0f7a4_7 ?_
  refine zy_top (zb_and _ _) ?_
  refine zy_isub dJ6_bitCount_0f7a4_8 ?_
  refine zy_top (show _ = zn_I ((zb_d1 1431655765 x : Nat) : Int) from congrArg zn_I (by have := @Nat.and_le_left (x / 2) 1431655765; unfold zb_d1; omega)) ?_
  refine zx_istore_n dJ6_bitCount_0f7a4_9 rfl (Nat.le_of_ble_eq_true rfl) ?_
  refine zx_iload_n dJ6_bitCount_0f7a4_10 rfl ?_
  refine zx_ldcw dJ6_bitCount_0f7a4_11 kJ6_266 ?_
  refine zy_top (show (858993459 : Int32) = zn_I ((858993459 : Nat) : Int) from by decide) ?_
  refine zx_iand dJ6_bitCount_0f7a4_14 ?_
  refine zy_top (zb_and _ _) ?_
  refine zx_iload_n dJ6_bitCount_0f7a4_15 rfl ?_
  refine zx_iconst (v := zn_I 2) dJ6_bitCount_0f7a4_16 rfl ?_
  refine zx_iushr dJ6_bitCount_0f7a4_17 ?_
  refine zy_top (zb_ushr (k := 2) (p := 4) (by have := @zb_d1_lt 1431655765 x; omega) _ (by decide) rfl) ?_
  refine zx_ldcw dJ6_bitCount_0f7a4_18 kJ6_266 ?_
  refine zy_top (show (858993459 : Int32) = zn_I ((858993459 : Nat) : Int) from by decide) ?_
  refine zx_iand dJ6_bitCount_0f7a4_21 ?_
  refine zy_top (zb_and _ _) ?_
  refine zy_iadd dJ6_bitCount_0f7a4_22 ?_
  refine zy_top (show _ = zn_I ((zb_d2 858993459 (zb_d1 1431655765 x) : Nat) : Int) from congrArg zn_I (by unfold zb_d2; omega)) ?_
  refine zx_istore_n dJ6_bitCount_0f7a4_23 rfl (Nat.le_of_ble_eq_true rfl) ?_
  refine zx_iload_n dJ6_bitCount_0f7a4_24 rfl ?_
  refine zx_iload_n dJ6_bitCount_0f7a4_25 rfl ?_
  refine zx_iconst (v := zn_I 4) dJ6_bitCount_0f7a4_26 rfl ?_
  refine zx_iushr dJ6_bitCount_0f7a4_27 ?_
  refine zy_top (zb_ushr (k := 4) (p := 16) (by have := @zb_d1_lt 1431655765 x; have := @zb_d2_lt 858993459 (zb_d1 1431655765 x); omega) _ (by decide) rfl) ?_
  refine zy_iadd dJ6_bitCount_0f7a4_28 ?_
  refine zy_top (show _ = zn_I ((zb_d2 858993459 (zb_d1 1431655765 x) + zb_d2 858993459 (zb_d1 1431655765 x) / 16 : Nat) : Int) from congrArg zn_I (by omega)) ?_
  refine zx_ldcw dJ6_bitCount_0f7a4_29 kJ6_267 ?_
  refine zy_top (show (252645135 : Int32) = zn_I ((252645135 : Nat) : Int) from by decide) ?_
  refine zx_iand dJ6_bitCount_0f7a4_32 ?_
  refine zy_top (zb_and _ _) ?_
  refine zx_istore_n dJ6_bitCount_0f7a4_33 rfl (Nat.le_of_ble_eq_true rfl) ?_
  refine zx_iload_n dJ6_bitCount_0f7a4_34 rfl ?_
  refine zx_iload_n dJ6_bitCount_0f7a4_35 rfl ?_
  refine zx_bipush (v := zn_I 8) dJ6_bitCount_0f7a4_36 (by decide) ?_
  refine zx_iushr dJ6_bitCount_0f7a4_38 ?_
  refine zy_top (zb_ushr (k := 8) (p := 256) (by have := @zb_d1_lt 1431655765 x; have := @zb_d2_lt 858993459 (zb_d1 1431655765 x); have := @zb_d3_lt 252645135 (zb_d2 858993459 (zb_d1 1431655765 x)); unfold zb_d3 at this; omega) _ (by decide) rfl) ?_
  refine zy_iadd dJ6_bitCount_0f7a4_39 ?_
  refine zy_top (show _ = zn_I ((zb_d3 252645135 (zb_d2 858993459 (zb_d1 1431655765 x)) + zb_d3 252645135 (zb_d2 858993459 (zb_d1 1431655765 x)) / 256 : Nat) : Int) from congrArg zn_I (by unfold zb_d3; omega)) ?_
  refine zx_istore_n dJ6_bitCount_0f7a4_40 rfl (Nat.le_of_ble_eq_true rfl) ?_
  refine zx_iload_n dJ6_bitCount_0f7a4_41 rfl ?_
  refine zx_iload_n dJ6_bitCount_0f7a4_42 rfl ?_
  refine zx_bipush (v := zn_I 16) dJ6_bitCount_0f7a4_43 (by decide) ?_
  refine zx_iushr dJ6_bitCount_0f7a4_45 ?_
  refine zy_top (zb_ushr (k := 16) (p := 65536) (by have := @zb_d1_lt 1431655765 x; have := @zb_d2_lt 858993459 (zb_d1 1431655765 x); have := @zb_d3_lt 252645135 (zb_d2 858993459 (zb_d1 1431655765 x)); omega) _ (by decide) rfl) ?_
  refine zy_iadd dJ6_bitCount_0f7a4_46 ?_
  refine zy_top (b := zn_I ((((zb_d3 252645135 (zb_d2 858993459 (zb_d1 1431655765 x)) + zb_d3 252645135 (zb_d2 858993459 (zb_d1 1431655765 x)) / 256) + (zb_d3 252645135 (zb_d2 858993459 (zb_d1 1431655765 x)) + zb_d3 252645135 (zb_d2 858993459 (zb_d1 1431655765 x)) / 256) / 65536) : Nat) : Int)) (congrArg zn_I (by omega)) ?_
  refine zx_istore_n dJ6_bitCount_0f7a4_47 rfl (Nat.le_of_ble_eq_true rfl) ?_
  refine zx_iload_n dJ6_bitCount_0f7a4_48 rfl ?_
  refine zx_bipush (v := zn_I 63) dJ6_bitCount_0f7a4_49 (by decide) ?_
  refine zy_top (show zn_I 63 = zn_I ((63 : Nat) : Int) from rfl) ?_
  refine zx_iand dJ6_bitCount_0f7a4_51 ?_
  refine zy_top (zb_and _ _) ?_
  refine zx_iret (st := []) dJ6_bitCount_0f7a4_52 rfl rfl ?_
  exact ⟨by rw [← zb_c_pop (x := x) (by omega)]; rfl, rfl⟩
theorem zp_bits_30 {π : zP} (h : π.1 ≤ 5 ∧ π.2.1 ≤ 6) (a b : Int) : zp_bits π a b (zp_n π) < 1073741824 := by
  have h1 := zp_bits_lt π a b (zp_n π)
  have h2 : 2 ^ zp_n π ≤ 2 ^ 30 := Nat.pow_le_pow_right (by decide) (zp_30 h)
  omega
/-- how many doors are wet -/
def zp_wc (π : zP) (a b : Int) : Nat := zb_pop 32 (zp_bits π a b (zp_n π))
theorem zp_wc_le (π : zP) (a b : Int) : zp_wc π a b ≤ 32 := zb_pop_le _ _

theorem zt_pb_8 {M : zw_M} {n : Nat} {τ : zQ} (hT : zT M n τ) : zt_pb τ τ.1 < 256 := by
  have h1 := zt_pb_lt τ τ.1
  have h2 : 2 ^ τ.1 ≤ 2 ^ 8 := Nat.pow_le_pow_right (by decide) hT.1
  omega
set_option maxRecDepth 100000 in
set_option maxHeartbeats 600000 in
theorem mX8_people {l : zw_Lh} {d : Nat} {M : zw_M} {n : Nat} {τ : zQ} (hT : zT M n τ) : zw_C l (d + 4) iX8_people [.ref 8] M (zw_i (zn_I (zb_pop 32 (zt_pb τ τ.1) : Nat)) M) := by
  have h30 := zt_pb_8 hT
  refine zw_of (by decide +kernel) (Nat.le_of_ble_eq_true rfl) ?_
  refine zy_loc (L1 := [.ref 8]) rfl ?_
  refine zx_aload_n dX8_people_0 rfl ?_
  refine zx_callV (y1 := iX8_peopleBits) dX8_people_1 lX8_43 vX8_peopleBits rc_8 (mX8_peopleBits hT) rfl rfl (Nat.le_of_ble_eq_true rfl) ?_
  refine zk_i ?_
  refine zx_callS (y1 := iJ6_bitCount_0f7a4) dX8_people_4 lX8_47 sJ6_bitCount_0f7a4 (mJ6_bitCount (by omega)) rfl rfl (Nat.le_of_ble_eq_true rfl) ?_
  refine zk_i ?_
  refine zx_iret (st := []) dX8_people_7 rfl rfl ?_
  exact ⟨rfl, rfl⟩
