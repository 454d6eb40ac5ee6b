/-! THE THINGS: how many, kinds, weights, where each stands in each quarter -/
abbrev zQ : Type := Nat × (Nat → Int) × (Nat → Int) × (Nat → Nat → Nat)
def zT (M : zw_M) (n : Nat) (τ : zQ) : Prop :=
  τ.1 ≤ 8 ∧ M.1 8 4 = zn_I τ.1 ∧ (∀ t, t < τ.1 → M.1 9 t = zn_I (τ.2.1 t)) ∧ (∀ t, t < τ.1 → M.1 10 t = zn_I (τ.2.2.1 t)) ∧ (∀ t, t < τ.1 → ∀ q, q < 8 → M.1 11 (t * 8 + q) = zn_I (τ.2.2.2 t q : Nat)) ∧ (∀ t, t < τ.1 → 0 ≤ τ.2.1 t ∧ τ.2.1 t ≤ 4) ∧ (∀ t, t < τ.1 → 1 ≤ τ.2.2.1 t ∧ τ.2.2.1 t ≤ 99) ∧ (∀ t, t < τ.1 → ∀ q, q < 8 → τ.2.2.2 t q < n)
def zt_w (τ : zQ) (t : Nat) : Int := if τ.2.1 t = 4 then 2 * τ.2.2.1 t else τ.2.2.1 t
def zt_kind (τ : zQ) (z : Int) : Int := if 0 ≤ z ∧ z < τ.1 then τ.2.1 z.toNat else -1
def zt_weight (τ : zQ) (z : Int) : Int := if 0 ≤ z ∧ z < τ.1 then τ.2.2.1 z.toNat else 0
def zt_weighs (τ : zQ) (z : Int) : Int := if 0 ≤ z ∧ z < τ.1 then zt_w τ z.toNat else 0
abbrev zt_isA (τ : zQ) (z a : Int) : Prop := zt_kind τ z = a ∨ a = 0 ∨ (a = 3 ∧ zt_kind τ z = 4)
def zt_place (τ : zQ) (z q : Int) : Int := if (0 ≤ z ∧ z < τ.1) ∧ (0 ≤ q ∧ q < 8) then (τ.2.2.2 z.toNat q.toNat : Int) else -1
abbrev zt_per (τ : zQ) (t : Nat) : Prop := τ.2.1 t = 3 ∨ τ.2.1 t = 4
theorem zt_kind_in {τ : zQ} {t : Nat} (h : t < τ.1) : zt_kind τ (t : Int) = τ.2.1 t := by rw [zt_kind, if_pos ⟨by omega, by omega⟩, Int.toNat_natCast]
theorem zt_weighs_in {τ : zQ} {t : Nat} (h : t < τ.1) : zt_weighs τ (t : Int) = zt_w τ t := by rw [zt_weighs, if_pos ⟨by omega, by omega⟩, Int.toNat_natCast]
theorem zt_weighs_out {τ : zQ} {t : Nat} (h : τ.1 ≤ t) : zt_weighs τ (t : Int) = 0 := by rw [zt_weighs, if_neg (fun q => by omega)]
theorem zt_place_in {τ : zQ} {t q : Nat} (h : t < τ.1) (hq : q < 8) : zt_place τ (t : Int) (q : Int) = (τ.2.2.2 t q : Int) := by rw [zt_place, if_pos ⟨⟨by omega, by omega⟩, by omega, by omega⟩, Int.toNat_natCast, Int.toNat_natCast]
theorem zt_kind_rng {M : zw_M} {n : Nat} {τ : zQ} (hT : zT M n τ) (z : Int) : -1 ≤ zt_kind τ z ∧ zt_kind τ z ≤ 4 := by
  unfold zt_kind
  split
  · next h => have := hT.2.2.2.2.2.1 z.toNat (by omega); omega
  · omega
theorem zt_w_rng {M : zw_M} {n : Nat} {τ : zQ} (hT : zT M n τ) {t : Nat} (h : t < τ.1) : 1 ≤ zt_w τ t ∧ zt_w τ t ≤ 198 := by
  have := hT.2.2.2.2.2.2.1 t h
  unfold zt_w
  split <;> omega
/-- who is a person, as bits -/
def zt_pb (τ : zQ) : Nat → Nat
  | 0 => 0
  | t + 1 => zt_pb τ t + (if zt_per τ t then 2 ^ t else 0)
theorem zt_pb_lt (τ : zQ) : ∀ t, zt_pb τ t < 2 ^ t
  | 0 => Nat.one_pos
  | t + 1 => by
    have ih := zt_pb_lt τ t
    rw [zt_pb, Nat.pow_succ]
    split <;> omega
set_option maxRecDepth 100000 in
set_option maxHeartbeats 600000 in
theorem mX10_isQuarter {l : zw_Lh} {d : Nat} {M : zw_M} {z : Int} (hz : -2147483648 ≤ z ∧ z < 2147483648) : zw_C l d iX10_isQuarter [.int (zn_I z)] M (zw_i (zn_B (0 ≤ z ∧ z < 8)) M) := by
  refine zw_of (by decide +kernel) (Nat.le_of_ble_eq_true rfl) ?_
  refine zy_loc (L1 := [.int (zn_I z)]) rfl ?_
  refine zx_iload_n dX10_isQuarter_0 rfl ?_
  refine zy_if_lt (tgt := 14) dX10_isQuarter_1 (by decide) (by omega) (fun h_1 => ?_) (fun h_1 => ?_)
  · refine zx_iconst (v := zn_I 0) dX10_isQuarter_14 rfl ?_
    refine zx_iret (st := []) dX10_isQuarter_15 rfl rfl ?_
    first | exact zk_B (zn_Bt (by omega)) | exact zk_B (zn_Bf (by omega))
  · refine zx_iload_n dX10_isQuarter_4 rfl ?_
    refine zx_bipush (v := zn_I 8) dX10_isQuarter_5 (by decide) ?_
    refine zy_icmp_ge (tgt := 14) dX10_isQuarter_7 (by decide) (by omega) (fun h_7 => ?_) (fun h_7 => ?_)
    · refine zx_iconst (v := zn_I 0) dX10_isQuarter_14 rfl ?_
      refine zx_iret (st := []) dX10_isQuarter_15 rfl rfl ?_
      first | exact zk_B (zn_Bt (by omega)) | exact zk_B (zn_Bf (by omega))
    · refine zx_iconst (v := zn_I 1) dX10_isQuarter_10 rfl ?_
      refine zx_goto (tgt := 15) dX10_isQuarter_11 (by decide) ?_
      refine zx_iret (st := []) dX10_isQuarter_15 rfl rfl ?_
      first | exact zk_B (zn_Bt (by omega)) | exact zk_B (zn_Bf (by omega))
set_option maxRecDepth 100000 in
set_option maxHeartbeats 600000 in
theorem mX10_isKind {l : zw_Lh} {d : Nat} {M : zw_M} {z : Int} (hz : -2147483648 ≤ z ∧ z < 2147483648) : zw_C l d iX10_isKind [.int (zn_I z)] M (zw_i (zn_B (0 ≤ z ∧ z ≤ 4)) M) := by
  refine zw_of (by decide +kernel) (Nat.le_of_ble_eq_true rfl) ?_
  refine zy_loc (L1 := [.int (zn_I z)]) rfl ?_
  refine zx_iload_n dX10_isKind_0 rfl ?_
  refine zy_if_lt (tgt := 13) dX10_isKind_1 (by decide) (by omega) (fun h_1 => ?_) (fun h_1 => ?_)
  · refine zx_iconst (v := zn_I 0) dX10_isKind_13 rfl ?_
    refine zx_iret (st := []) dX10_isKind_14 rfl rfl ?_
    first | exact zk_B (zn_Bt (by omega)) | exact zk_B (zn_Bf (by omega))
  · refine zx_iload_n dX10_isKind_4 rfl ?_
    refine zx_iconst (v := zn_I 4) dX10_isKind_5 rfl ?_
    refine zy_icmp_gt (tgt := 13) dX10_isKind_6 (by decide) (by omega) (fun h_6 => ?_) (fun h_6 => ?_)
    · refine zx_iconst (v := zn_I 0) dX10_isKind_13 rfl ?_
      refine zx_iret (st := []) dX10_isKind_14 rfl rfl ?_
      first | exact zk_B (zn_Bt (by omega)) | exact zk_B (zn_Bf (by omega))
    · refine zx_iconst (v := zn_I 1) dX10_isKind_9 rfl ?_
      refine zx_goto (tgt := 14) dX10_isKind_10 (by decide) ?_
      refine zx_iret (st := []) dX10_isKind_14 rfl rfl ?_
      first | exact zk_B (zn_Bt (by omega)) | exact zk_B (zn_Bf (by omega))
set_option maxRecDepth 100000 in
set_option maxHeartbeats 600000 in
theorem mX10_isWeight {l : zw_Lh} {d : Nat} {M : zw_M} {z : Int} (hz : -2147483648 ≤ z ∧ z < 2147483648) : zw_C l d iX10_isWeight [.int (zn_I z)] M (zw_i (zn_B (1 ≤ z ∧ z ≤ 99)) M) := by
  refine zw_of (by decide +kernel) (Nat.le_of_ble_eq_true rfl) ?_
  refine zy_loc (L1 := [.int (zn_I z)]) rfl ?_
  refine zx_iload_n dX10_isWeight_0 rfl ?_
  refine zx_iconst (v := zn_I 1) dX10_isWeight_1 rfl ?_
  refine zy_icmp_lt (tgt := 15) dX10_isWeight_2 (by decide) (by omega) (fun h_2 => ?_) (fun h_2 => ?_)
  · refine zx_iconst (v := zn_I 0) dX10_isWeight_15 rfl ?_
    refine zx_iret (st := []) dX10_isWeight_16 rfl rfl ?_
    first | exact zk_B (zn_Bt (by omega)) | exact zk_B (zn_Bf (by omega))
  · refine zx_iload_n dX10_isWeight_5 rfl ?_
    refine zx_bipush (v := zn_I 99) dX10_isWeight_6 (by decide) ?_
    refine zy_icmp_gt (tgt := 15) dX10_isWeight_8 (by decide) (by omega) (fun h_8 => ?_) (fun h_8 => ?_)
    · refine zx_iconst (v := zn_I 0) dX10_isWeight_15 rfl ?_
      refine zx_iret (st := []) dX10_isWeight_16 rfl rfl ?_
      first | exact zk_B (zn_Bt (by omega)) | exact zk_B (zn_Bf (by omega))
    · refine zx_iconst (v := zn_I 1) dX10_isWeight_11 rfl ?_
      refine zx_goto (tgt := 16) dX10_isWeight_12 (by decide) ?_
      refine zx_iret (st := []) dX10_isWeight_16 rfl rfl ?_
      first | exact zk_B (zn_Bt (by omega)) | exact zk_B (zn_Bf (by omega))
set_option maxRecDepth 100000 in
set_option maxHeartbeats 600000 in
theorem mX10_asksPlace {l : zw_Lh} {d : Nat} {M : zw_M} {z : Int} (hz : -2147483648 ≤ z ∧ z < 2147483648) : zw_C l d iX10_asksPlace [.int (zn_I z)] M (zw_i (zn_B (10 ≤ z ∧ z ≤ 17)) M) := by
  refine zw_of (by decide +kernel) (Nat.le_of_ble_eq_true rfl) ?_
  refine zy_loc (L1 := [.int (zn_I z)]) rfl ?_
  refine zx_iload_n dX10_asksPlace_0 rfl ?_
  refine zx_bipush (v := zn_I 10) dX10_asksPlace_1 (by decide) ?_
  refine zy_icmp_lt (tgt := 16) dX10_asksPlace_3 (by decide) (by omega) (fun h_3 => ?_) (fun h_3 => ?_)
  · refine zx_iconst (v := zn_I 0) dX10_asksPlace_16 rfl ?_
    refine zx_iret (st := []) dX10_asksPlace_17 rfl rfl ?_
    first | exact zk_B (zn_Bt (by omega)) | exact zk_B (zn_Bf (by omega))
  · refine zx_iload_n dX10_asksPlace_6 rfl ?_
    refine zx_bipush (v := zn_I 17) dX10_asksPlace_7 (by decide) ?_
    refine zy_icmp_gt (tgt := 16) dX10_asksPlace_9 (by decide) (by omega) (fun h_9 => ?_) (fun h_9 => ?_)
    · refine zx_iconst (v := zn_I 0) dX10_asksPlace_16 rfl ?_
      refine zx_iret (st := []) dX10_asksPlace_17 rfl rfl ?_
      first | exact zk_B (zn_Bt (by omega)) | exact zk_B (zn_Bf (by omega))
    · refine zx_iconst (v := zn_I 1) dX10_asksPlace_12 rfl ?_
      refine zx_goto (tgt := 17) dX10_asksPlace_13 (by decide) ?_
      refine zx_iret (st := []) dX10_asksPlace_17 rfl rfl ?_
      first | exact zk_B (zn_Bt (by omega)) | exact zk_B (zn_Bf (by omega))
set_option maxRecDepth 100000 in
set_option maxHeartbeats 600000 in
theorem mX8_size {l : zw_Lh} {d : Nat} {M : zw_M} {n : Nat} {τ : zQ} (hT : zT M n τ) : zw_C l d iX8_size [.ref 8] M (zw_i (zn_I τ.1) M) := by
  obtain ⟨h8, hk, hK, hW, hP, hKr, hWr, hPr⟩ := id hT
  refine zw_of (by decide +kernel) (Nat.le_of_ble_eq_true rfl) ?_
  refine zy_loc (L1 := [.ref 8]) rfl ?_
  refine zx_aload_n dX8_size_0 rfl ?_
  refine zy_geti dX8_size_1 fX8_28 (hk) ?_
  refine zx_iret (st := []) dX8_size_4 rfl rfl ?_
  exact ⟨rfl, rfl⟩
set_option maxRecDepth 100000 in
set_option maxHeartbeats 600000 in
theorem mX8_has {l : zw_Lh} {d : Nat} {M : zw_M} {n : Nat} {τ : zQ} (hT : zT M n τ) {z : Int} (hz : -2147483648 ≤ z ∧ z < 2147483648) : zw_C l d iX8_has [.ref 8, .int (zn_I z)] M (zw_i (zn_B (0 ≤ z ∧ z < τ.1)) M) := by
  obtain ⟨h8, hk, hK, hW, hP, hKr, hWr, hPr⟩ := id hT
  refine zw_of (by decide +kernel) (Nat.le_of_ble_eq_true rfl) ?_
  refine zy_loc (L1 := [.ref 8, .int (zn_I z)]) rfl ?_
  refine zx_iload_n dX8_has_0 rfl ?_
  refine zy_if_lt (tgt := 16) dX8_has_1 (by decide) (by omega) (fun h_1 => ?_) (fun h_1 => ?_)
  · refine zx_iconst (v := zn_I 0) dX8_has_16 rfl ?_
    refine zx_iret (st := []) dX8_has_17 rfl rfl ?_
    first | exact zk_B (zn_Bt (by omega)) | exact zk_B (zn_Bf (by omega))
  · refine zx_iload_n dX8_has_4 rfl ?_
    refine zx_aload_n dX8_has_5 rfl ?_
    refine zy_geti dX8_has_6 fX8_28 (hk) ?_
    refine zy_icmp_ge (tgt := 16) dX8_has_9 (by decide) (by omega) (fun h_9 => ?_) (fun h_9 => ?_)
    · refine zx_iconst (v := zn_I 0) dX8_has_16 rfl ?_
      refine zx_iret (st := []) dX8_has_17 rfl rfl ?_
      first | exact zk_B (zn_Bt (by omega)) | exact zk_B (zn_Bf (by omega))
    · refine zx_iconst (v := zn_I 1) dX8_has_12 rfl ?_
      refine zx_goto (tgt := 17) dX8_has_13 (by decide) ?_
      refine zx_iret (st := []) dX8_has_17 rfl rfl ?_
      first | exact zk_B (zn_Bt (by omega)) | exact zk_B (zn_Bf (by omega))
set_option maxRecDepth 100000 in
set_option maxHeartbeats 600000 in
theorem mX8_kind {l : zw_Lh} {d : Nat} {M : zw_M} {n : Nat} {τ : zQ} (hT : zT M n τ) {z : Int} (hz : -2147483648 ≤ z ∧ z < 2147483648) : zw_C l (d + 1) iX8_kind [.ref 8, .int (zn_I z)] M (zw_i (zn_I (zt_kind τ z)) M) := by
  obtain ⟨h8, hk, hK, hW, hP, hKr, hWr, hPr⟩ := id hT
  refine zw_of (by decide +kernel) (Nat.le_of_ble_eq_true rfl) ?_
  refine zy_loc (L1 := [.ref 8, .int (zn_I z)]) rfl ?_
  refine zx_aload_n dX8_kind_0 rfl ?_
  refine zx_iload_n dX8_kind_1 rfl ?_
  refine zx_callV (y1 := iX8_has) dX8_kind_2 lX8_35 vX8_has rc_8 (mX8_has hT hz) rfl rfl (Nat.le_of_ble_eq_true rfl) ?_
  refine zk_i ?_
  refine zy_ifB_eq (tgt := 17) dX8_kind_5 (by decide) (fun h_5 => ?_) (fun h_5 => ?_)
  · refine zx_iconst (v := zn_I (-1)) dX8_kind_17 rfl ?_
    refine zx_iret (st := []) dX8_kind_18 rfl rfl ?_
    first | exact zk_I (by rw [zt_kind, if_pos h_5]) | exact zk_I (by rw [zt_kind, if_neg h_5])
  · refine zx_aload_n dX8_kind_8 rfl ?_
    refine zx_getr dX8_kind_9 fX8_9 ?_
    refine zx_iload_n dX8_kind_12 rfl ?_
    refine zy_iald (i := z.toNat) dX8_kind_13 rfl (by decide) (by omega) (by omega) ((hK _ (by omega))) ?_
    refine zx_goto (tgt := 18) dX8_kind_14 (by decide) ?_
    refine zx_iret (st := []) dX8_kind_18 rfl rfl ?_
    first | exact zk_I (by rw [zt_kind, if_pos h_5]) | exact zk_I (by rw [zt_kind, if_neg h_5])
set_option maxRecDepth 100000 in
set_option maxHeartbeats 600000 in
theorem mX8_weight {l : zw_Lh} {d : Nat} {M : zw_M} {n : Nat} {τ : zQ} (hT : zT M n τ) {z : Int} (hz : -2147483648 ≤ z ∧ z < 2147483648) : zw_C l (d + 1) iX8_weight [.ref 8, .int (zn_I z)] M (zw_i (zn_I (zt_weight τ z)) M) := by
  obtain ⟨h8, hk, hK, hW, hP, hKr, hWr, hPr⟩ := id hT
  refine zw_of (by decide +kernel) (Nat.le_of_ble_eq_true rfl) ?_
  refine zy_loc (L1 := [.ref 8, .int (zn_I z)]) rfl ?_
  refine zx_aload_n dX8_weight_0 rfl ?_
  refine zx_iload_n dX8_weight_1 rfl ?_
  refine zx_callV (y1 := iX8_has) dX8_weight_2 lX8_35 vX8_has rc_8 (mX8_has hT hz) rfl rfl (Nat.le_of_ble_eq_true rfl) ?_
  refine zk_i ?_
  refine zy_ifB_eq (tgt := 17) dX8_weight_5 (by decide) (fun h_5 => ?_) (fun h_5 => ?_)
  · refine zx_iconst (v := zn_I 0) dX8_weight_17 rfl ?_
    refine zx_iret (st := []) dX8_weight_18 rfl rfl ?_
    first | exact zk_I (by rw [zt_weight, if_pos h_5]) | exact zk_I (by rw [zt_weight, if_neg h_5])
  · refine zx_aload_n dX8_weight_8 rfl ?_
    refine zx_getr dX8_weight_9 fX8_15 ?_
    refine zx_iload_n dX8_weight_12 rfl ?_
    refine zy_iald (i := z.toNat) dX8_weight_13 rfl (by decide) (by omega) (by omega) ((hW _ (by omega))) ?_
    refine zx_goto (tgt := 18) dX8_weight_14 (by decide) ?_
    refine zx_iret (st := []) dX8_weight_18 rfl rfl ?_
    first | exact zk_I (by rw [zt_weight, if_pos h_5]) | exact zk_I (by rw [zt_weight, if_neg h_5])
set_option maxRecDepth 100000 in
set_option maxHeartbeats 600000 in
theorem mX8_weighs {l : zw_Lh} {d : Nat} {M : zw_M} {n : Nat} {τ : zQ} (hT : zT M n τ) {z : Int} (hz : -2147483648 ≤ z ∧ z < 2147483648) : zw_C l (d + 1) iX8_weighs [.ref 8, .int (zn_I z)] M (zw_i (zn_I (zt_weighs τ z)) M) := by
  obtain ⟨h8, hk, hK, hW, hP, hKr, hWr, hPr⟩ := id hT
  refine zw_of (by decide +kernel) (Nat.le_of_ble_eq_true rfl) ?_
  refine zy_loc (L1 := [.ref 8, .int (zn_I z)]) rfl ?_
  refine zx_aload_n dX8_weighs_0 rfl ?_
  refine zx_iload_n dX8_weighs_1 rfl ?_
  refine zx_callV (y1 := iX8_has) dX8_weighs_2 lX8_35 vX8_has rc_8 (mX8_has hT hz) rfl rfl (Nat.le_of_ble_eq_true rfl) ?_
  refine zk_i ?_
  refine zy_ifB_ne (tgt := 10) dX8_weighs_5 (by decide) (fun h_5 => ?_) (fun h_5 => ?_)
  · refine zx_aload_n dX8_weighs_10 rfl ?_
    refine zx_getr dX8_weighs_11 fX8_9 ?_
    refine zx_iload_n dX8_weighs_14 rfl ?_
    refine zy_iald (i := z.toNat) dX8_weighs_15 rfl (by decide) (by omega) (by omega) ((hK _ (by omega))) ?_
    refine zx_iconst (v := zn_I 4) dX8_weighs_16 rfl ?_
    refine zy_icmp_ne (tgt := 31) dX8_weighs_17 (by decide) (by have := hKr z.toNat (by omega); omega) (fun h_17 => ?_) (fun h_17 => ?_)
    · refine zx_aload_n dX8_weighs_31 rfl ?_
      refine zx_getr dX8_weighs_32 fX8_15 ?_
      refine zx_iload_n dX8_weighs_35 rfl ?_
      refine zy_iald (i := z.toNat) dX8_weighs_36 rfl (by decide) (by omega) (by omega) ((hW _ (by omega))) ?_
      refine zx_iret (st := []) dX8_weighs_37 rfl rfl ?_
      first | exact zk_I (by rw [zt_weighs, if_neg h_5]) | exact zk_I (by rw [zt_weighs, if_pos h_5, zt_w, if_pos h_17]) | exact zk_I (by rw [zt_weighs, if_pos h_5, zt_w, if_neg h_17])
    · refine zx_iconst (v := zn_I 2) dX8_weighs_20 rfl ?_
      refine zx_aload_n dX8_weighs_21 rfl ?_
      refine zx_getr dX8_weighs_22 fX8_15 ?_
      refine zx_iload_n dX8_weighs_25 rfl ?_
      refine zy_iald (i := z.toNat) dX8_weighs_26 rfl (by decide) (by omega) (by omega) ((hW _ (by omega))) ?_
      refine zy_imul dX8_weighs_27 ?_
      refine zx_goto (tgt := 37) dX8_weighs_28 (by decide) ?_
      refine zx_iret (st := []) dX8_weighs_37 rfl rfl ?_
      first | exact zk_I (by rw [zt_weighs, if_neg h_5]) | exact zk_I (by rw [zt_weighs, if_pos h_5, zt_w, if_pos h_17]) | exact zk_I (by rw [zt_weighs, if_pos h_5, zt_w, if_neg h_17])
  · refine zx_iconst (v := zn_I 0) dX8_weighs_8 rfl ?_
    refine zx_iret (st := []) dX8_weighs_9 rfl rfl ?_
    first | exact zk_I (by rw [zt_weighs, if_neg h_5]) | exact zk_I (by rw [zt_weighs, if_pos h_5, zt_w, if_pos h_17]) | exact zk_I (by rw [zt_weighs, if_pos h_5, zt_w, if_neg h_17])
set_option maxRecDepth 100000 in
set_option maxHeartbeats 600000 in
theorem mX8_isA {l : zw_Lh} {d : Nat} {M : zw_M} {n : Nat} {τ : zQ} (hT : zT M n τ) {z : Int} {a : Int} (hz : -2147483648 ≤ z ∧ z < 2147483648) (ha : -2147483648 ≤ a ∧ a < 2147483648) : zw_C l (d + 2) iX8_isA [.ref 8, .int (zn_I z), .int (zn_I a)] M (zw_i (zn_B (zt_isA τ z a)) M) := by
  obtain ⟨h8, hk, hK, hW, hP, hKr, hWr, hPr⟩ := id hT
  have hkr := zt_kind_rng hT z
  refine zw_of (by decide +kernel) (Nat.le_of_ble_eq_true rfl) ?_
  refine zy_loc (L1 := [.ref 8, .int (zn_I z), .int (zn_I a), .retAddr 0]) rfl ?_
  refine zx_aload_n dX8_isA_0 rfl ?_
  refine zx_iload_n dX8_isA_1 rfl ?_
  refine zx_callV (y1 := iX8_kind) dX8_isA_2 lX8_39 vX8_kind rc_8 (mX8_kind hT hz) rfl rfl (Nat.le_of_ble_eq_true rfl) ?_
  refine zk_i ?_
  refine zx_istore_n dX8_isA_5 rfl (Nat.le_of_ble_eq_true rfl) ?_
  refine zx_iload_n dX8_isA_6 rfl ?_
  refine zx_iload_n dX8_isA_7 rfl ?_
  refine zy_icmp_eq (tgt := 25) dX8_isA_8 (by decide) (by omega) (fun h_8 => ?_) (fun h_8 => ?_)
  · refine zx_iconst (v := zn_I 1) dX8_isA_25 rfl ?_
    refine zx_goto (tgt := 30) dX8_isA_26 (by decide) ?_
    refine zx_iret (st := []) dX8_isA_30 rfl rfl ?_
    first | exact zk_B (zn_Bt (by omega)) | exact zk_B (zn_Bf (by omega))
  · refine zx_iload_n dX8_isA_11 rfl ?_
    refine zy_if_eq (tgt := 25) dX8_isA_12 (by decide) (by omega) (fun h_12 => ?_) (fun h_12 => ?_)
    · refine zx_iconst (v := zn_I 1) dX8_isA_25 rfl ?_
      refine zx_goto (tgt := 30) dX8_isA_26 (by decide) ?_
      refine zx_iret (st := []) dX8_isA_30 rfl rfl ?_
      first | exact zk_B (zn_Bt (by omega)) | exact zk_B (zn_Bf (by omega))
    · refine zx_iload_n dX8_isA_15 rfl ?_
      refine zx_iconst (v := zn_I 3) dX8_isA_16 rfl ?_
      refine zy_icmp_ne (tgt := 29) dX8_isA_17 (by decide) (by omega) (fun h_17 => ?_) (fun h_17 => ?_)
      · refine zx_iconst (v := zn_I 0) dX8_isA_29 rfl ?_
        refine zx_iret (st := []) dX8_isA_30 rfl rfl ?_
        first | exact zk_B (zn_Bt (by omega)) | exact zk_B (zn_Bf (by omega))
      · refine zx_iload_n dX8_isA_20 rfl ?_
        refine zx_iconst (v := zn_I 4) dX8_isA_21 rfl ?_
        refine zy_icmp_ne (tgt := 29) dX8_isA_22 (by decide) (by omega) (fun h_22 => ?_) (fun h_22 => ?_)
        · refine zx_iconst (v := zn_I 0) dX8_isA_29 rfl ?_
          refine zx_iret (st := []) dX8_isA_30 rfl rfl ?_
          first | exact zk_B (zn_Bt (by omega)) | exact zk_B (zn_Bf (by omega))
        · refine zx_iconst (v := zn_I 1) dX8_isA_25 rfl ?_
          refine zx_goto (tgt := 30) dX8_isA_26 (by decide) ?_
          refine zx_iret (st := []) dX8_isA_30 rfl rfl ?_
          first | exact zk_B (zn_Bt (by omega)) | exact zk_B (zn_Bf (by omega))
set_option maxRecDepth 100000 in
set_option maxHeartbeats 600000 in
theorem mX8_place {l : zw_Lh} {d : Nat} {M : zw_M} {n : Nat} {τ : zQ} (hT : zT M n τ) {z : Int} {q : Int} (hz : -2147483648 ≤ z ∧ z < 2147483648) (hq : -2147483648 ≤ q ∧ q < 2147483648) : zw_C l (d + 1) iX8_place [.ref 8, .int (zn_I z), .int (zn_I q)] M (zw_i (zn_I (zt_place τ z q)) M) := by
  obtain ⟨h8, hk, hK, hW, hP, hKr, hWr, hPr⟩ := id hT
  refine zw_of (by decide +kernel) (Nat.le_of_ble_eq_true rfl) ?_
  refine zy_loc (L1 := [.ref 8, .int (zn_I z), .int (zn_I q)]) rfl ?_
  refine zx_aload_n dX8_place_0 rfl ?_
  refine zx_iload_n dX8_place_1 rfl ?_
  refine zx_callV (y1 := iX8_has) dX8_place_2 lX8_35 vX8_has rc_8 (mX8_has hT hz) rfl rfl (Nat.le_of_ble_eq_true rfl) ?_
  refine zk_i ?_
  refine zy_ifB_eq (tgt := 29) dX8_place_5 (by decide) (fun h_5 => ?_) (fun h_5 => ?_)
  · refine zx_iconst (v := zn_I (-1)) dX8_place_29 rfl ?_
    refine zx_iret (st := []) dX8_place_30 rfl rfl ?_
    exact zk_I (by unfold zt_place; split <;> first | rfl | omega)
  · refine zx_iload_n dX8_place_8 rfl ?_
    refine zx_callN (y1 := iX10_isQuarter) (host := "IslandThatLeans") dX8_place_9 (by decide) sX10_isQuarter (mX10_isQuarter hq) rfl rfl (Nat.le_of_ble_eq_true rfl) ?_
    refine zk_i ?_
    refine zy_ifB_eq (tgt := 29) dX8_place_12 (by decide) (fun h_12 => ?_) (fun h_12 => ?_)
    · refine zx_iconst (v := zn_I (-1)) dX8_place_29 rfl ?_
      refine zx_iret (st := []) dX8_place_30 rfl rfl ?_
      exact zk_I (by unfold zt_place; split <;> first | rfl | omega)
    · refine zx_aload_n dX8_place_15 rfl ?_
      refine zx_getr dX8_place_16 fX8_18 ?_
      refine zx_iload_n dX8_place_19 rfl ?_
      refine zx_bipush (v := zn_I 8) dX8_place_20 (by decide) ?_
      refine zy_imul dX8_place_22 ?_
      refine zx_iload_n dX8_place_23 rfl ?_
      refine zy_iadd dX8_place_24 ?_
      refine zy_iald (i := z.toNat * 8 + q.toNat) dX8_place_25 rfl (by decide) (by omega) (by omega) ((hP z.toNat (by omega) q.toNat (by omega))) ?_
      refine zx_goto (tgt := 30) dX8_place_26 (by decide) ?_
      refine zx_iret (st := []) dX8_place_30 rfl rfl ?_
      exact zk_I (by unfold zt_place; split <;> first | rfl | omega)
set_option maxRecDepth 100000 in
set_option maxHeartbeats 600000 in
theorem mX8_peopleBits {l : zw_Lh} {d : Nat} {M : zw_M} {n : Nat} {τ : zQ} (hT : zT M n τ) : zw_C l (d + 3) iX8_peopleBits [.ref 8] M (zw_i (zn_I (zt_pb τ τ.1 : Nat)) M) := by
  obtain ⟨h8, hk, hK, hW, hP, hKr, hWr, hPr⟩ := id hT
  refine zw_of (by decide +kernel) (Nat.le_of_ble_eq_true rfl) ?_
  refine zy_loc (L1 := [.ref 8, .retAddr 0, .retAddr 0]) rfl ?_
  have loop : ∀ s, s ≤ τ.1 → zw_X l (d + 3) iX8_peopleBits (zw_i (zn_I (zt_pb τ τ.1 : Nat)) M) 4 [.ref 8, .int (zn_I (zt_pb τ s : Nat)), .int (zn_I (s : Nat))] [] M := by
    refine zw_loop τ.1 (P := fun s => zw_X l (d + 3) iX8_peopleBits (zw_i (zn_I (zt_pb τ τ.1 : Nat)) M) 4 [.ref 8, .int (zn_I (zt_pb τ s : Nat)), .int (zn_I (s : Nat))] [] M) (fun s hs ih => ?_)
    refine zx_iload_n dX8_peopleBits_4 rfl ?_
    refine zx_aload_n dX8_peopleBits_5 rfl ?_
    refine zy_geti dX8_peopleBits_6 fX8_28 (hk) ?_
    refine zy_icmp_ge (tgt := 33) dX8_peopleBits_9 (by decide) (by omega) (fun h_9 => ?_) (fun h_9 => ?_)
    · refine zx_iload_n dX8_peopleBits_33 rfl ?_
      refine zx_iret (st := []) dX8_peopleBits_34 rfl rfl ?_
      exact zk_I (by rw [show s = τ.1 by omega])
    · refine zx_aload_n dX8_peopleBits_12 rfl ?_
      refine zx_iload_n dX8_peopleBits_13 rfl ?_
      refine zx_iconst (v := zn_I 3) dX8_peopleBits_14 rfl ?_
      refine zx_callV (y1 := iX8_isA) dX8_peopleBits_15 lX8_52 vX8_isA rc_8 (mX8_isA hT (z := (s : Int)) (a := 3) ⟨by omega, by omega⟩ ⟨by omega, by omega⟩) rfl rfl (Nat.le_of_ble_eq_true rfl) ?_
      refine zk_i ?_
      refine zy_ifB_eq (tgt := 27) dX8_peopleBits_18 (by decide) (fun h_18 => ?_) (fun h_18 => ?_)
      · refine zy_iinc dX8_peopleBits_27 rfl rfl ?_
        refine zx_goto (tgt := 4) dX8_peopleBits_30 (by decide) ?_
        first
          | exact ih (by omega)
          | (rw [zt_isA, zt_kind_in (show s < τ.1 by omega)] at h_18; rw [show zt_pb τ s = zt_pb τ (s + 1) by rw [zt_pb, if_neg (by omega), Nat.add_zero]]; exact ih (by omega))
      · rw [zt_isA, zt_kind_in (show s < τ.1 by omega)] at h_18
        refine zx_iload_n dX8_peopleBits_21 rfl ?_
        refine zx_iconst (v := zn_I 1) dX8_peopleBits_22 rfl ?_
        refine zx_iload_n dX8_peopleBits_23 rfl ?_
        refine zx_ishl dX8_peopleBits_24 ?_
        refine zx_ior dX8_peopleBits_25 ?_
        refine zy_top (zb_or (by omega) (zt_pb_lt τ s)) ?_
        rw [show zt_pb τ s + 2 ^ s = zt_pb τ (s + 1) by rw [zt_pb, if_pos (by omega)]]
        refine zx_istore_n dX8_peopleBits_26 rfl (Nat.le_of_ble_eq_true rfl) ?_
        refine zy_iinc dX8_peopleBits_27 rfl rfl ?_
        refine zx_goto (tgt := 4) dX8_peopleBits_30 (by decide) ?_
        first
          | exact ih (by omega)
          | (rw [zt_isA, zt_kind_in (show s < τ.1 by omega)] at h_18; rw [show zt_pb τ s = zt_pb τ (s + 1) by rw [zt_pb, if_neg (by omega), Nat.add_zero]]; exact ih (by omega))
  refine zx_iconst (v := zn_I 0) dX8_peopleBits_0 rfl ?_
  refine zx_istore_n dX8_peopleBits_1 rfl (Nat.le_of_ble_eq_true rfl) ?_
  refine zx_iconst (v := zn_I 0) dX8_peopleBits_2 rfl ?_
  refine zx_istore_n dX8_peopleBits_3 rfl (Nat.le_of_ble_eq_true rfl) ?_
  exact loop 0 (by omega)

set_option maxRecDepth 100000 in
set_option maxHeartbeats 600000 in
theorem mX8_clear {l : zw_Lh} {d : Nat} {M : zw_M}  : zw_C l d iX8_clear [.ref 8] M (zw_u (zw_s (zw_s M 8 4 (zn_I 0)) 8 5 (zn_I (-1)))) := by
  refine zw_of (by decide +kernel) (Nat.le_of_ble_eq_true rfl) ?_
  refine zy_loc (L1 := [.ref 8]) rfl ?_
  refine zx_aload_n dX8_clear_0 rfl ?_
  refine zx_iconst (v := zn_I 0) dX8_clear_1 rfl ?_
  refine zx_puti dX8_clear_2 fX8_28 ?_
  refine zx_aload_n dX8_clear_5 rfl ?_
  refine zx_iconst (v := zn_I (-1)) dX8_clear_6 rfl ?_
  refine zx_puti dX8_clear_7 fX8_24 ?_
  refine zx_vret (st := []) dX8_clear_10 rfl ?_
  exact ⟨rfl, rfl⟩
set_option maxRecDepth 100000 in
set_option maxHeartbeats 600000 in
theorem mX8_move {l : zw_Lh} {d : Nat} {M : zw_M} {n : Nat} {τ : zQ} (hT : zT M n τ) {t q : Nat} (ht : t < τ.1) (hq : q < 8) {x : Int32} : zw_C l (d + 1) iX8_move [.ref 8, .int (zn_I (t : Int)), .int (zn_I (q : Int)), .int x] M (zw_u (zw_s M 11 (t * 8 + q) x)) := by
  obtain ⟨h8, hk, hK, hW, hP, hKr, hWr, hPr⟩ := id hT
  refine zw_of (by decide +kernel) (Nat.le_of_ble_eq_true rfl) ?_
  refine zy_loc (L1 := [.ref 8, .int (zn_I (t : Int)), .int (zn_I (q : Int)), .int x]) rfl ?_
  refine zx_aload_n dX8_move_0 rfl ?_
  refine zx_iload_n dX8_move_1 rfl ?_
  refine zx_callV (y1 := iX8_has) dX8_move_2 lX8_35 vX8_has rc_8 (mX8_has hT ⟨by omega, by omega⟩) rfl rfl (Nat.le_of_ble_eq_true rfl) ?_
  refine zk_i ?_
  refine zy_ifB_eq (tgt := 27) dX8_move_5 (by decide) (fun h_5 => ?_) (fun h_5 => ?_)
  · exact absurd ⟨by omega, by omega⟩ h_5
  · refine zx_iload_n dX8_move_8 rfl ?_
    refine zx_callN (y1 := iX10_isQuarter) (host := "IslandThatLeans") dX8_move_9 (by decide) sX10_isQuarter (mX10_isQuarter ⟨by omega, by omega⟩) rfl rfl (Nat.le_of_ble_eq_true rfl) ?_
    refine zk_i ?_
    refine zy_ifB_eq (tgt := 27) dX8_move_12 (by decide) (fun h_12 => ?_) (fun h_12 => ?_)
    · exact absurd ⟨by omega, by omega⟩ h_12
    · refine zx_aload_n dX8_move_15 rfl ?_
      refine zx_getr dX8_move_16 fX8_18 ?_
      refine zx_iload_n dX8_move_19 rfl ?_
      refine zx_bipush (v := zn_I 8) dX8_move_20 (by decide) ?_
      refine zy_imul dX8_move_22 ?_
      refine zx_iload_n dX8_move_23 rfl ?_
      refine zy_iadd dX8_move_24 ?_
      refine zx_iload_n dX8_move_25 rfl ?_
      refine zy_iast (i := t * 8 + q) dX8_move_26 rfl (by decide) (by omega) (by omega) ?_
      refine zx_vret (st := []) dX8_move_27 rfl ?_
      exact ⟨rfl, rfl⟩
