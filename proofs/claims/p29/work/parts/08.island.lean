/-! THE ISLAND: rows, wide, heights -/
abbrev zP : Type := Nat × Nat × (Nat → Int)
def zp_n (π : zP) : Nat := π.1 * π.2.1
def zp_e (π : zP) (s : Nat) : Int := 2 * ((s % π.2.1 : Nat) : Int) - ((π.2.1 : Int) - 1)
def zp_s (π : zP) (s : Nat) : Int := 2 * ((s / π.2.1 : Nat) : Int) - ((π.1 : Int) - 1)
/-- how many doors there are among the first squares -/
def zp_d (π : zP) : Nat → Nat
  | 0 => 0
  | s + 1 => zp_d π s + (if 0 < π.2.2 s then 1 else 0)
def zI (M : zw_M) (π : zP) : Prop :=
  (π.1 ≤ 5 ∧ π.2.1 ≤ 6) ∧ M.1 4 3 = zn_I π.1 ∧ M.1 4 4 = zn_I π.2.1 ∧ M.1 4 5 = zn_I (zp_n π) ∧ M.1 4 6 = zn_I (zp_d π (zp_n π)) ∧ (∀ s, s < zp_n π → M.1 5 s = zn_I (π.2.2 s)) ∧ (∀ s, s < zp_n π → M.1 6 s = zn_I (zp_e π s)) ∧ (∀ s, s < zp_n π → M.1 7 s = zn_I (zp_s π s)) ∧ (∀ s, s < zp_n π → 0 ≤ π.2.2 s ∧ π.2.2 s ≤ 9)
theorem zp_30 {π : zP} (h : π.1 ≤ 5 ∧ π.2.1 ≤ 6) : zp_n π ≤ 30 := Nat.mul_le_mul h.1 h.2
theorem zp_e_rng {π : zP} (h : π.1 ≤ 5 ∧ π.2.1 ≤ 6) {s : Nat} (hs : s < zp_n π) : -5 ≤ zp_e π s ∧ zp_e π s ≤ 5 := by
  have hw : 0 < π.2.1 := Nat.pos_of_ne_zero fun q => by rw [zp_n, q, Nat.mul_zero] at hs; omega
  have := Nat.mod_lt s hw
  unfold zp_e
  generalize s % π.2.1 = k at this ⊢
  omega
theorem zp_s_rng {π : zP} (h : π.1 ≤ 5 ∧ π.2.1 ≤ 6) {s : Nat} (hs : s < zp_n π) : -4 ≤ zp_s π s ∧ zp_s π s ≤ 4 := by
  have := Nat.div_lt_of_lt_mul (show s < π.2.1 * π.1 by rw [Nat.mul_comm]; exact hs)
  unfold zp_s
  generalize s / π.2.1 = k at this ⊢
  omega
theorem zp_mul_rng {a e B : Int} (h1 : -5 ≤ e) (h2 : e ≤ 5) (h3 : -B ≤ a) (h4 : a ≤ B) : -(5 * B) ≤ a * e ∧ a * e ≤ 5 * B := by
  have : e = -5 ∨ e = -4 ∨ e = -3 ∨ e = -2 ∨ e = -1 ∨ e = 0 ∨ e = 1 ∨ e = 2 ∨ e = 3 ∨ e = 4 ∨ e = 5 := by omega
  rcases this with rfl | rfl | rfl | rfl | rfl | rfl | rfl | rfl | rfl | rfl | rfl <;> omega
def zp_dip (π : zP) (s : Nat) (a b : Int) : Int := a * zp_e π s + b * zp_s π s
theorem zp_dip_rng {π : zP} (h : π.1 ≤ 5 ∧ π.2.1 ≤ 6) {s : Nat} (hs : s < zp_n π) {a b B : Int} (ha : -B ≤ a ∧ a ≤ B) (hb : -B ≤ b ∧ b ≤ B) : -(10 * B) ≤ zp_dip π s a b ∧ zp_dip π s a b ≤ 10 * B := by
  have h1 := zp_e_rng h hs
  have h2 := zp_s_rng h hs
  have h3 := zp_mul_rng (a := a) (B := B) h1.1 h1.2 ha.1 ha.2
  have h4 := zp_mul_rng (a := b) (e := zp_s π s) (B := B) (by omega) (by omega) hb.1 hb.2
  unfold zp_dip
  omega
/-- a square's numbers, 0 where there is none -/
def zp_at (π : zP) (f : Nat → Int) (z : Int) : Int := if 0 ≤ z ∧ z < zp_n π then f z.toNat else 0
theorem zp_at_in {π : zP} {f : Nat → Int} {s : Nat} (h : s < zp_n π) : zp_at π f (s : Int) = f s := by
  rw [zp_at, if_pos ⟨by omega, by omega⟩, Int.toNat_natCast]
set_option maxRecDepth 100000 in
set_option maxHeartbeats 600000 in
theorem mX1_fromCentre {l : zw_Lh} {d : Nat} {M : zw_M} {a b : Int} : zw_C l d iX1_fromCentre [.int (zn_I a), .int (zn_I b)] M (zw_i (zn_I (2 * a - (b - 1))) M) := by
  refine zw_of (by decide +kernel) (Nat.le_of_ble_eq_true rfl) ?_
  refine zy_loc (L1 := [.int (zn_I a), .int (zn_I b)]) rfl ?_
  refine zx_iconst (v := zn_I 2) dX1_fromCentre_0 rfl ?_
  refine zx_iload_n dX1_fromCentre_1 rfl ?_
  refine zy_imul dX1_fromCentre_2 ?_
  refine zx_iload_n dX1_fromCentre_3 rfl ?_
  refine zx_iconst (v := zn_I 1) dX1_fromCentre_4 rfl ?_
  refine zy_isub dX1_fromCentre_5 ?_
  refine zy_isub dX1_fromCentre_6 ?_
  refine zx_iret (st := []) dX1_fromCentre_7 rfl rfl ?_
  exact ⟨rfl, rfl⟩
set_option maxRecDepth 100000 in
set_option maxHeartbeats 600000 in
theorem mX1_squares {l : zw_Lh} {d : Nat} {M : zw_M} {π : zP} (hI : zI M π) : zw_C l d iX1_squares [.ref 4] M (zw_i (zn_I (zp_n π)) M) := by
  obtain ⟨hp, hr, hw, hn, hdo, hH, hE, hS, hB⟩ := id hI
  have h30 := zp_30 hp
  refine zw_of (by decide +kernel) (Nat.le_of_ble_eq_true rfl) ?_
  refine zy_loc (L1 := [.ref 4]) rfl ?_
  refine zx_aload_n dX1_squares_0 rfl ?_
  refine zy_geti dX1_squares_1 fX1_28 (hn) ?_
  refine zx_iret (st := []) dX1_squares_4 rfl rfl ?_
  exact ⟨rfl, rfl⟩
set_option maxRecDepth 100000 in
set_option maxHeartbeats 600000 in
theorem mX1_doors {l : zw_Lh} {d : Nat} {M : zw_M} {π : zP} (hI : zI M π) : zw_C l d iX1_doors [.ref 4] M (zw_i (zn_I (zp_d π (zp_n π))) M) := by
  obtain ⟨hp, hr, hw, hn, hdo, hH, hE, hS, hB⟩ := id hI
  have h30 := zp_30 hp
  refine zw_of (by decide +kernel) (Nat.le_of_ble_eq_true rfl) ?_
  refine zy_loc (L1 := [.ref 4]) rfl ?_
  refine zx_aload_n dX1_doors_0 rfl ?_
  refine zy_geti dX1_doors_1 fX1_31 (hdo) ?_
  refine zx_iret (st := []) dX1_doors_4 rfl rfl ?_
  exact ⟨rfl, rfl⟩
set_option maxRecDepth 100000 in
set_option maxHeartbeats 600000 in
theorem mX1_isThere {l : zw_Lh} {d : Nat} {M : zw_M} {π : zP} (hI : zI M π) : zw_C l d iX1_isThere [.ref 4] M (zw_i (zn_B (0 < zp_n π)) M) := by
  obtain ⟨hp, hr, hw, hn, hdo, hH, hE, hS, hB⟩ := id hI
  have h30 := zp_30 hp
  refine zw_of (by decide +kernel) (Nat.le_of_ble_eq_true rfl) ?_
  refine zy_loc (L1 := [.ref 4]) rfl ?_
  refine zx_aload_n dX1_isThere_0 rfl ?_
  refine zy_geti dX1_isThere_1 fX1_28 (hn) ?_
  refine zy_if_le (tgt := 11) dX1_isThere_4 (by decide) (by omega) (fun h_4 => ?_) (fun h_4 => ?_)
  · refine zx_iconst (v := zn_I 0) dX1_isThere_11 rfl ?_
    refine zx_iret (st := []) dX1_isThere_12 rfl rfl ?_
    first | exact zk_B (zn_Bt (by omega)) | exact zk_B (zn_Bf (by omega))
  · refine zx_iconst (v := zn_I 1) dX1_isThere_7 rfl ?_
    refine zx_goto (tgt := 12) dX1_isThere_8 (by decide) ?_
    refine zx_iret (st := []) dX1_isThere_12 rfl rfl ?_
    first | exact zk_B (zn_Bt (by omega)) | exact zk_B (zn_Bf (by omega))
set_option maxRecDepth 100000 in
set_option maxHeartbeats 600000 in
theorem mX1_has {l : zw_Lh} {d : Nat} {M : zw_M} {π : zP} (hI : zI M π) {z : Int} (hz : -2147483648 ≤ z ∧ z < 2147483648) : zw_C l d iX1_has [.ref 4, .int (zn_I z)] M (zw_i (zn_B (0 ≤ z ∧ z < zp_n π)) M) := by
  obtain ⟨hp, hr, hw, hn, hdo, hH, hE, hS, hB⟩ := id hI
  have h30 := zp_30 hp
  refine zw_of (by decide +kernel) (Nat.le_of_ble_eq_true rfl) ?_
  refine zy_loc (L1 := [.ref 4, .int (zn_I z)]) rfl ?_
  refine zx_iload_n dX1_has_0 rfl ?_
  refine zy_if_lt (tgt := 16) dX1_has_1 (by decide) (by omega) (fun h_1 => ?_) (fun h_1 => ?_)
  · refine zx_iconst (v := zn_I 0) dX1_has_16 rfl ?_
    refine zx_iret (st := []) dX1_has_17 rfl rfl ?_
    first | exact zk_B (zn_Bt (by omega)) | exact zk_B (zn_Bf (by omega))
  · refine zx_iload_n dX1_has_4 rfl ?_
    refine zx_aload_n dX1_has_5 rfl ?_
    refine zy_geti dX1_has_6 fX1_28 (hn) ?_
    refine zy_icmp_ge (tgt := 16) dX1_has_9 (by decide) (by omega) (fun h_9 => ?_) (fun h_9 => ?_)
    · refine zx_iconst (v := zn_I 0) dX1_has_16 rfl ?_
      refine zx_iret (st := []) dX1_has_17 rfl rfl ?_
      first | exact zk_B (zn_Bt (by omega)) | exact zk_B (zn_Bf (by omega))
    · refine zx_iconst (v := zn_I 1) dX1_has_12 rfl ?_
      refine zx_goto (tgt := 17) dX1_has_13 (by decide) ?_
      refine zx_iret (st := []) dX1_has_17 rfl rfl ?_
      first | exact zk_B (zn_Bt (by omega)) | exact zk_B (zn_Bf (by omega))
set_option maxRecDepth 100000 in
set_option maxHeartbeats 600000 in
theorem mX1_east {l : zw_Lh} {d : Nat} {M : zw_M} {π : zP} (hI : zI M π) {z : Int} (hz : -2147483648 ≤ z ∧ z < 2147483648) : zw_C l (d + 1) iX1_east [.ref 4, .int (zn_I z)] M (zw_i (zn_I (zp_at π (zp_e π) z)) M) := by
  obtain ⟨hp, hr, hw, hn, hdo, hH, hE, hS, hB⟩ := id hI
  have h30 := zp_30 hp
  refine zw_of (by decide +kernel) (Nat.le_of_ble_eq_true rfl) ?_
  refine zy_loc (L1 := [.ref 4, .int (zn_I z)]) rfl ?_
  refine zx_aload_n dX1_east_0 rfl ?_
  refine zx_iload_n dX1_east_1 rfl ?_
  refine zx_callV (y1 := iX1_has) dX1_east_2 lX1_52 vX1_has rc_4 (mX1_has hI hz) rfl rfl (Nat.le_of_ble_eq_true rfl) ?_
  refine zk_i ?_
  refine zy_ifB_eq (tgt := 17) dX1_east_5 (by decide) (fun h_5 => ?_) (fun h_5 => ?_)
  · refine zx_iconst (v := zn_I 0) dX1_east_17 rfl ?_
    refine zx_iret (st := []) dX1_east_18 rfl rfl ?_
    first | exact zk_I (by rw [zp_at, if_pos h_5]) | exact zk_I (by rw [zp_at, if_neg h_5])
  · refine zx_aload_n dX1_east_8 rfl ?_
    refine zx_getr dX1_east_9 fX1_15 ?_
    refine zx_iload_n dX1_east_12 rfl ?_
    refine zy_iald (i := z.toNat) dX1_east_13 rfl (by decide) (by omega) (by omega) ((hE _ (by omega))) ?_
    refine zx_goto (tgt := 18) dX1_east_14 (by decide) ?_
    refine zx_iret (st := []) dX1_east_18 rfl rfl ?_
    first | exact zk_I (by rw [zp_at, if_pos h_5]) | exact zk_I (by rw [zp_at, if_neg h_5])
set_option maxRecDepth 100000 in
set_option maxHeartbeats 600000 in
theorem mX1_south {l : zw_Lh} {d : Nat} {M : zw_M} {π : zP} (hI : zI M π) {z : Int} (hz : -2147483648 ≤ z ∧ z < 2147483648) : zw_C l (d + 1) iX1_south [.ref 4, .int (zn_I z)] M (zw_i (zn_I (zp_at π (zp_s π) z)) M) := by
  obtain ⟨hp, hr, hw, hn, hdo, hH, hE, hS, hB⟩ := id hI
  have h30 := zp_30 hp
  refine zw_of (by decide +kernel) (Nat.le_of_ble_eq_true rfl) ?_
  refine zy_loc (L1 := [.ref 4, .int (zn_I z)]) rfl ?_
  refine zx_aload_n dX1_south_0 rfl ?_
  refine zx_iload_n dX1_south_1 rfl ?_
  refine zx_callV (y1 := iX1_has) dX1_south_2 lX1_52 vX1_has rc_4 (mX1_has hI hz) rfl rfl (Nat.le_of_ble_eq_true rfl) ?_
  refine zk_i ?_
  refine zy_ifB_eq (tgt := 17) dX1_south_5 (by decide) (fun h_5 => ?_) (fun h_5 => ?_)
  · refine zx_iconst (v := zn_I 0) dX1_south_17 rfl ?_
    refine zx_iret (st := []) dX1_south_18 rfl rfl ?_
    first | exact zk_I (by rw [zp_at, if_pos h_5]) | exact zk_I (by rw [zp_at, if_neg h_5])
  · refine zx_aload_n dX1_south_8 rfl ?_
    refine zx_getr dX1_south_9 fX1_18 ?_
    refine zx_iload_n dX1_south_12 rfl ?_
    refine zy_iald (i := z.toNat) dX1_south_13 rfl (by decide) (by omega) (by omega) ((hS _ (by omega))) ?_
    refine zx_goto (tgt := 18) dX1_south_14 (by decide) ?_
    refine zx_iret (st := []) dX1_south_18 rfl rfl ?_
    first | exact zk_I (by rw [zp_at, if_pos h_5]) | exact zk_I (by rw [zp_at, if_neg h_5])
set_option maxRecDepth 100000 in
set_option maxHeartbeats 600000 in
theorem mX1_dipOf {l : zw_Lh} {d : Nat} {M : zw_M} {π : zP} (hI : zI M π) {z : Int} (hz : -2147483648 ≤ z ∧ z < 2147483648) {a b : Int} : zw_C l (d + 1) iX1_dipOf [.ref 4, .int (zn_I z), .int (zn_I a), .int (zn_I b)] M (zw_i (zn_I (zp_at π (fun s => zp_dip π s a b) z)) M) := by
  obtain ⟨hp, hr, hw, hn, hdo, hH, hE, hS, hB⟩ := id hI
  have h30 := zp_30 hp
  refine zw_of (by decide +kernel) (Nat.le_of_ble_eq_true rfl) ?_
  refine zy_loc (L1 := [.ref 4, .int (zn_I z), .int (zn_I a), .int (zn_I b)]) rfl ?_
  refine zx_aload_n dX1_dipOf_0 rfl ?_
  refine zx_iload_n dX1_dipOf_1 rfl ?_
  refine zx_callV (y1 := iX1_has) dX1_dipOf_2 lX1_52 vX1_has rc_4 (mX1_has hI hz) rfl rfl (Nat.le_of_ble_eq_true rfl) ?_
  refine zk_i ?_
  refine zy_ifB_eq (tgt := 28) dX1_dipOf_5 (by decide) (fun h_5 => ?_) (fun h_5 => ?_)
  · refine zx_iconst (v := zn_I 0) dX1_dipOf_28 rfl ?_
    refine zx_iret (st := []) dX1_dipOf_29 rfl rfl ?_
    first | exact zk_I (by rw [zp_at, if_pos h_5]; rfl) | exact zk_I (by rw [zp_at, if_neg h_5])
  · refine zx_iload_n dX1_dipOf_8 rfl ?_
    refine zx_aload_n dX1_dipOf_9 rfl ?_
    refine zx_getr dX1_dipOf_10 fX1_15 ?_
    refine zx_iload_n dX1_dipOf_13 rfl ?_
    refine zy_iald (i := z.toNat) dX1_dipOf_14 rfl (by decide) (by omega) (by omega) ((hE _ (by omega))) ?_
    refine zy_imul dX1_dipOf_15 ?_
    refine zx_iload_n dX1_dipOf_16 rfl ?_
    refine zx_aload_n dX1_dipOf_17 rfl ?_
    refine zx_getr dX1_dipOf_18 fX1_18 ?_
    refine zx_iload_n dX1_dipOf_21 rfl ?_
    refine zy_iald (i := z.toNat) dX1_dipOf_22 rfl (by decide) (by omega) (by omega) ((hS _ (by omega))) ?_
    refine zy_imul dX1_dipOf_23 ?_
    refine zy_iadd dX1_dipOf_24 ?_
    refine zx_goto (tgt := 29) dX1_dipOf_25 (by decide) ?_
    refine zx_iret (st := []) dX1_dipOf_29 rfl rfl ?_
    first | exact zk_I (by rw [zp_at, if_pos h_5]; rfl) | exact zk_I (by rw [zp_at, if_neg h_5])
/-- a loop that counts up to n -/
theorem zw_loop (n : Nat) {P : Nat → Prop} (h : ∀ s, s ≤ n → (s < n → P (s + 1)) → P s) : ∀ s, s ≤ n → P s := by
  have key : ∀ k s, s + k = n → P s := by
    intro k
    induction k with
    | zero => intro s hs; exact h s (by omega) (fun q => absurd q (by omega))
    | succ k ih => intro s hs; exact h s (by omega) (fun _ => ih (s + 1) (by omega))
  intro s hs
  exact key (n - s) s (by omega)
abbrev zp_wet (π : zP) (a b : Int) (s : Nat) : Prop := 0 < π.2.2 s ∧ 50 * π.2.2 s ≤ zp_dip π s a b
/-- the squares with wet doors among the first ones, as bits -/
def zp_bits (π : zP) (a b : Int) : Nat → Nat
  | 0 => 0
  | s + 1 => zp_bits π a b s + (if zp_wet π a b s then 2 ^ s else 0)
theorem zp_bits_lt (π : zP) (a b : Int) : ∀ s, zp_bits π a b s < 2 ^ s
  | 0 => Nat.one_pos
  | s + 1 => by
    have ih := zp_bits_lt π a b s
    rw [zp_bits, Nat.pow_succ]
    split <;> omega
theorem zb_one : ∀ s : Nat, s < 31 → (zn_I 1 <<< (zn_I (s : Int) &&& 31)) = nI (2 ^ s) := by decide +kernel
theorem zb_or {B s : Nat} (hs : s < 31) (hB : B < 2 ^ s) : (zn_I (B : Int) ||| (zn_I 1 <<< (zn_I (s : Int) &&& 31))) = zn_I ((B + 2 ^ s : Nat) : Int) := by
  rw [zb_one s hs, ← zn_nat, ← zn_nat]
  have e : nI B ||| nI (2 ^ s) = nI (B ||| 2 ^ s) := by
    apply Int32.toBitVec_inj.1
    show BitVec.ofNat 32 B ||| BitVec.ofNat 32 (2 ^ s) = BitVec.ofNat 32 (B ||| 2 ^ s)
    apply BitVec.eq_of_getLsbD_eq
    intro i hi
    simp [hi]
  have h := Nat.two_pow_add_eq_or_of_lt hB 1
  rw [Nat.mul_one] at h
  rw [e, Nat.or_comm, ← h, Nat.add_comm]
set_option maxRecDepth 100000 in
set_option maxHeartbeats 600000 in
theorem mX1_wetDoors {l : zw_Lh} {d : Nat} {M : zw_M} {π : zP} (hI : zI M π) {a b : Int} (ha : -10000000 ≤ a ∧ a ≤ 10000000) (hb : -10000000 ≤ b ∧ b ≤ 10000000) : zw_C l d iX1_wetDoors [.ref 4, .int (zn_I a), .int (zn_I b)] M (zw_i (zn_I (zp_bits π a b (zp_n π) : Nat)) M) := by
  obtain ⟨hp, hr, hw, hn, hdo, hH, hE, hS, hB⟩ := id hI
  have h30 := zp_30 hp
  refine zw_of (by decide +kernel) (Nat.le_of_ble_eq_true rfl) ?_
  refine zy_loc (L1 := [.ref 4, .int (zn_I a), .int (zn_I b), .retAddr 0, .retAddr 0, .retAddr 0, .retAddr 0]) rfl ?_
  have loop : ∀ s, s ≤ zp_n π → ∀ v5 v6 : Value, zw_X l d iX1_wetDoors (zw_i (zn_I (zp_bits π a b (zp_n π) : Nat)) M) 5 [.ref 4, .int (zn_I a), .int (zn_I b), .int (zn_I (zp_bits π a b s : Nat)), .int (zn_I (s : Nat)), v5, v6] [] M := by
    refine zw_loop (zp_n π) (P := fun s => ∀ v5 v6 : Value, zw_X l d iX1_wetDoors (zw_i (zn_I (zp_bits π a b (zp_n π) : Nat)) M) 5 [.ref 4, .int (zn_I a), .int (zn_I b), .int (zn_I (zp_bits π a b s : Nat)), .int (zn_I (s : Nat)), v5, v6] [] M) (fun s hs ih v5 v6 => ?_)
    refine zx_iload dX1_wetDoors_5 rfl ?_
    refine zx_aload_n dX1_wetDoors_7 rfl ?_
    refine zy_geti dX1_wetDoors_8 fX1_28 (hn) ?_
    refine zy_icmp_ge (tgt := 72) dX1_wetDoors_11 (by decide) (by omega) (fun h_11 => ?_) (fun h_11 => ?_)
    · refine zx_iload_n dX1_wetDoors_72 rfl ?_
      refine zx_iret (st := []) dX1_wetDoors_73 rfl rfl ?_
      exact zk_I (by rw [show s = zp_n π by omega])
    · refine zx_aload_n dX1_wetDoors_14 rfl ?_
      refine zx_getr dX1_wetDoors_15 fX1_9 ?_
      refine zx_iload dX1_wetDoors_18 rfl ?_
      refine zy_iald dX1_wetDoors_20 rfl (by decide) rfl (by omega) ((hH _ (by omega))) ?_
      refine zx_istore dX1_wetDoors_21 rfl (Nat.le_of_ble_eq_true rfl) ?_
      refine zx_iload_n dX1_wetDoors_23 rfl ?_
      refine zx_aload_n dX1_wetDoors_24 rfl ?_
      refine zx_getr dX1_wetDoors_25 fX1_15 ?_
      refine zx_iload dX1_wetDoors_28 rfl ?_
      refine zy_iald dX1_wetDoors_30 rfl (by decide) rfl (by omega) ((hE _ (by omega))) ?_
      refine zy_imul dX1_wetDoors_31 ?_
      refine zx_iload_n dX1_wetDoors_32 rfl ?_
      refine zx_aload_n dX1_wetDoors_33 rfl ?_
      refine zx_getr dX1_wetDoors_34 fX1_18 ?_
      refine zx_iload dX1_wetDoors_37 rfl ?_
      refine zy_iald dX1_wetDoors_39 rfl (by decide) rfl (by omega) ((hS _ (by omega))) ?_
      refine zy_imul dX1_wetDoors_40 ?_
      refine zy_iadd dX1_wetDoors_41 ?_
      refine zx_istore dX1_wetDoors_42 rfl (Nat.le_of_ble_eq_true rfl) ?_
      refine zx_iload dX1_wetDoors_44 rfl ?_
      refine zy_if_le (tgt := 66) dX1_wetDoors_46 (by decide) (by have h8 := hB s (by omega); omega) (fun h_46 => ?_) (fun h_46 => ?_)
      · refine zy_iinc dX1_wetDoors_66 rfl rfl ?_
        refine zx_goto (tgt := 5) dX1_wetDoors_69 (by decide) ?_
        first
          | exact ih (by omega) _ _
          | (rw [show zp_bits π a b s = zp_bits π a b (s + 1) by rw [zp_bits, if_neg (fun q => by have q2 := q.2; unfold zp_dip at q2; omega), Nat.add_zero]]; exact ih (by omega) _ _)
      · refine zx_iload dX1_wetDoors_49 rfl ?_
        refine zx_bipush (v := zn_I 50) dX1_wetDoors_51 (by decide) ?_
        refine zx_iload dX1_wetDoors_53 rfl ?_
        refine zy_imul dX1_wetDoors_55 ?_
        refine zy_icmp_lt (tgt := 66) dX1_wetDoors_56 (by decide) (by have h7 := zp_dip_rng hp (show s < zp_n π by omega) ha hb; have h8 := hB s (by omega); unfold zp_dip at h7; omega) (fun h_56 => ?_) (fun h_56 => ?_)
        · refine zy_iinc dX1_wetDoors_66 rfl rfl ?_
          refine zx_goto (tgt := 5) dX1_wetDoors_69 (by decide) ?_
          first
            | exact ih (by omega) _ _
            | (rw [show zp_bits π a b s = zp_bits π a b (s + 1) by rw [zp_bits, if_neg (fun q => by have q2 := q.2; unfold zp_dip at q2; omega), Nat.add_zero]]; exact ih (by omega) _ _)
        · refine zx_iload_n dX1_wetDoors_59 rfl ?_
          refine zx_iconst (v := zn_I 1) dX1_wetDoors_60 rfl ?_
          refine zx_iload dX1_wetDoors_61 rfl ?_
          refine zx_ishl dX1_wetDoors_63 ?_
          refine zx_ior dX1_wetDoors_64 ?_
          refine zy_top (zb_or (by omega) (zp_bits_lt π a b s)) ?_
          rw [show zp_bits π a b s + 2 ^ s = zp_bits π a b (s + 1) by rw [zp_bits, if_pos ⟨by omega, by unfold zp_dip; omega⟩]]
          refine zx_istore_n dX1_wetDoors_65 rfl (Nat.le_of_ble_eq_true rfl) ?_
          refine zy_iinc dX1_wetDoors_66 rfl rfl ?_
          refine zx_goto (tgt := 5) dX1_wetDoors_69 (by decide) ?_
          first
            | exact ih (by omega) _ _
            | (rw [show zp_bits π a b s = zp_bits π a b (s + 1) by rw [zp_bits, if_neg (fun q => by have q2 := q.2; unfold zp_dip at q2; omega), Nat.add_zero]]; exact ih (by omega) _ _)
  refine zx_iconst (v := zn_I 0) dX1_wetDoors_0 rfl ?_
  refine zx_istore_n dX1_wetDoors_1 rfl (Nat.le_of_ble_eq_true rfl) ?_
  refine zx_iconst (v := zn_I 0) dX1_wetDoors_2 rfl ?_
  refine zx_istore dX1_wetDoors_3 rfl (Nat.le_of_ble_eq_true rfl) ?_
  exact loop 0 (by omega) _ _
/-- the square a step away: up, right, down, left; -1 where there is none -/
def zp_step (π : zP) (s : Nat) (v : Int) : Int :=
  if v = 1 then (if π.2.1 ≤ s then (s : Int) - π.2.1 else -1)
  else if v = 2 then (if s % π.2.1 < π.2.1 - 1 then (s : Int) + 1 else -1)
  else if v = 3 then (if s + π.2.1 < zp_n π then (s : Int) + π.2.1 else -1)
  else if v = 4 then (if 0 < s % π.2.1 then (s : Int) - 1 else -1)
  else s
theorem zp_w0 {π : zP} {s : Nat} (hs : s < zp_n π) : 0 < π.2.1 ∧ 0 < π.1 ∧ s % π.2.1 < π.2.1 ∧ s / π.2.1 < π.1 := by
  have hw : 0 < π.2.1 := Nat.pos_of_ne_zero fun q => by rw [zp_n, q, Nat.mul_zero] at hs; omega
  have hr : 0 < π.1 := Nat.pos_of_ne_zero fun q => by rw [zp_n, q, Nat.zero_mul] at hs; omega
  exact ⟨hw, hr, Nat.mod_lt s hw, Nat.div_lt_of_lt_mul (show s < π.2.1 * π.1 by rw [Nat.mul_comm]; exact hs)⟩

/-- the square to which a person goes in a storm's minute -/
def zp_mid (π : zP) (s : Nat) : Nat := if s / π.2.1 = π.1 / 2 then (if s % π.2.1 = π.2.1 / 2 then s else if s % π.2.1 < π.2.1 / 2 then s + 1 else s - 1) else if s / π.2.1 < π.1 / 2 then s + π.2.1 else s - π.2.1
theorem zp_down {π : zP} {s : Nat} (hs : s < zp_n π) (h : s / π.2.1 + 1 < π.1) : s + π.2.1 < zp_n π := by
  obtain ⟨hw0, -, -, -⟩ := zp_w0 hs
  have h1 : (s + π.2.1) / π.2.1 < π.1 := by rw [Nat.add_div_right _ hw0]; exact h
  exact (Nat.div_lt_iff_lt_mul hw0).mp h1
theorem zp_up {π : zP} {s : Nat} (hs : s < zp_n π) (h : 0 < s / π.2.1) : π.2.1 ≤ s := by
  rcases Nat.lt_or_ge s π.2.1 with q | q
  · rw [Nat.div_eq_of_lt q] at h; omega
  · exact q

