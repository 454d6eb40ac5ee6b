/-! THE LEAVES THAT WRITE: things moved, added, kept, put back; which bits tell squares -/
/-- one thing stands elsewhere -/
def zt_mv (τ : zQ) (t : Nat) (f : Nat → Nat) : zQ := (τ.1, τ.2.1, τ.2.2.1, fun u => if u = t then f else τ.2.2.2 u)
/-- one thing more -/
def zt_new (τ : zQ) (k w : Int) (s : Nat) : zQ := (τ.1 + 1, fun u => if u = τ.1 then k else τ.2.1 u, fun u => if u = τ.1 then w else τ.2.2.1 u, fun u => if u = τ.1 then fun _ => s else τ.2.2.2 u)
theorem zT_mv {M M1 : zw_M} {n : Nat} {τ : zQ} (hT : zT M n τ) {t : Nat} {f : Nat → Nat} (hf : zw_fr [11] M M1) (h1 : ∀ q, q < 8 → M1.1 11 (t * 8 + q) = zn_I (f q : Nat)) (h2 : ∀ k, (k < t * 8 ∨ t * 8 + 8 ≤ k) → M1.1 11 k = M.1 11 k) (h3 : ∀ q, q < 8 → f q < n) : zT M1 n (zt_mv τ t f) := by
  obtain ⟨h8, hk, hK, hW, hP, hKr, hWr, hPr⟩ := hT
  refine ⟨h8, by rw [(hf 8 (by decide)).1]; exact hk, fun u hu => by rw [(hf 9 (by decide)).1]; exact hK u hu, fun u hu => by rw [(hf 10 (by decide)).1]; exact hW u hu, fun u hu q hq => ?_, hKr, hWr, fun u hu q hq => ?_⟩
  · by_cases e : u = t
    · subst e
      rw [h1 q hq]; simp [zt_mv]
    · rw [h2 _ (by omega), hP u hu q hq]
      simp [zt_mv, e]
  · by_cases e : u = t
    · subst e; simpa [zt_mv] using h3 q hq
    · simpa [zt_mv, e] using hPr u hu q hq
theorem zT_new {M M1 : zw_M} {n : Nat} {τ : zQ} (hT : zT M n τ) {k w : Int} {s : Nat} (h8 : M1.1 8 4 = zn_I (τ.1 + 1)) (h9 : ∀ u, u ≤ τ.1 → M1.1 9 u = if u = τ.1 then zn_I k else M.1 9 u) (h10 : ∀ u, u ≤ τ.1 → M1.1 10 u = if u = τ.1 then zn_I w else M.1 10 u) (h11 : ∀ j, M1.1 11 j = if τ.1 * 8 ≤ j ∧ j < τ.1 * 8 + 8 then zn_I (s : Nat) else M.1 11 j) (ht : τ.1 < 8) (hk : 0 ≤ k ∧ k ≤ 4) (hw : 1 ≤ w ∧ w ≤ 99) (hs : s < n) : zT M1 n (zt_new τ k w s) := by
  obtain ⟨_, _, hK, hW, hP, hKr, hWr, hPr⟩ := hT
  refine ⟨by show τ.1 + 1 ≤ 8; omega, h8, fun u hu => ?_, fun u hu => ?_, fun u hu q hq => ?_, fun u hu => ?_, fun u hu => ?_, fun u hu q hq => ?_⟩
  all_goals have hu1 : u < τ.1 + 1 := hu
  all_goals by_cases e : u = τ.1
  · rw [h9 u (by omega)]; simp [zt_new, e]
  · rw [h9 u (by omega), if_neg e, hK u (by omega)]; simp [zt_new, e]
  · rw [h10 u (by omega)]; simp [zt_new, e]
  · rw [h10 u (by omega), if_neg e, hW u (by omega)]; simp [zt_new, e]
  · rw [h11, if_pos (by omega)]; simp [zt_new, e]
  · rw [h11, if_neg (by omega), hP u (by omega) q hq]; simp [zt_new, e]
  · simpa [zt_new, e] using hk
  · simpa [zt_new, e] using hKr u (by omega)
  · simpa [zt_new, e] using hw
  · simpa [zt_new, e] using hWr u (by omega)
  · simpa [zt_new, e] using hs
  · simpa [zt_new, e] using hPr u (by omega) q hq
theorem zw_C_mem {l : zw_Lh} {d : Nat} {y : zw_I} {vs : List Value} {M M1 : zw_M} {Q : Option Value → zw_M → Prop} (h : M = M1) (hc : zw_C l d y vs M1 Q) : zw_C l d y vs M Q := by rw [h]; exact hc
theorem zb_hi : ∀ k : Nat, k ≤ 30 → (((zn_I (k : Int)).toUInt32 &&& Int32.toUInt32 31).toBitVec % 32).toNat = k := by decide +kernel
theorem zb_sq {b : Int} {k : Nat} (hb : 0 ≤ b ∧ b < 2147483648) : b.toNat / 2 ^ k = 0 ↔ b < (2 ^ k : Nat) := by
  rw [Nat.div_eq_zero_iff]
  have := Nat.two_pow_pos k
  omega
set_option maxRecDepth 100000 in
set_option maxHeartbeats 600000 in
theorem mX8_has_k {l : zw_Lh} {d : Nat} {M : zw_M} {k : Nat} (hk : M.1 8 4 = zn_I (k : Nat)) (h8 : k ≤ 8) {z : Int} (hz : -2147483648 ≤ z ∧ z < 2147483648) : zw_C l d iX8_has [.ref 8, .int (zn_I z)] M (zw_i (zn_B (0 ≤ z ∧ z < k)) M) := by
  refine zw_of (by decide +kernel) (Nat.le_of_ble_eq_true rfl) ?_
  refine zy_loc (L1 := [.ref 8, .int (zn_I z)]) rfl ?_
  refine zx_iload_n dX8_has_0 rfl ?_
  refine zy_if_lt (tgt := 16) dX8_has_1 (by decide) (by omega) (fun h_1 => ?_) (fun h_1 => ?_)
  · refine zx_iconst (v := zn_I 0) dX8_has_16 rfl ?_
    refine zx_iret (st := []) dX8_has_17 rfl rfl ?_
    first | exact zk_B (zn_Bt (by omega)) | exact zk_B (zn_Bf (by omega))
  · refine zx_iload_n dX8_has_4 rfl ?_
    refine zx_aload_n dX8_has_5 rfl ?_
    refine zy_geti dX8_has_6 fX8_28 (hk) ?_
    refine zy_icmp_ge (tgt := 16) dX8_has_9 (by decide) (by omega) (fun h_9 => ?_) (fun h_9 => ?_)
    · refine zx_iconst (v := zn_I 0) dX8_has_16 rfl ?_
      refine zx_iret (st := []) dX8_has_17 rfl rfl ?_
      first | exact zk_B (zn_Bt (by omega)) | exact zk_B (zn_Bf (by omega))
    · refine zx_iconst (v := zn_I 1) dX8_has_12 rfl ?_
      refine zx_goto (tgt := 17) dX8_has_13 (by decide) ?_
      refine zx_iret (st := []) dX8_has_17 rfl rfl ?_
      first | exact zk_B (zn_Bt (by omega)) | exact zk_B (zn_Bf (by omega))
set_option maxRecDepth 100000 in
set_option maxHeartbeats 600000 in
theorem mX8_move_k {l : zw_Lh} {d : Nat} {M : zw_M} {k : Nat} (hk : M.1 8 4 = zn_I (k : Nat)) (h8 : k ≤ 8) {t q : Nat} (ht : t < k) (hq : q < 8) {x : Int32} : zw_C l (d + 1) iX8_move [.ref 8, .int (zn_I (t : Int)), .int (zn_I (q : Int)), .int x] M (zw_u (zw_s M 11 (t * 8 + q) x)) := by
  refine zw_of (by decide +kernel) (Nat.le_of_ble_eq_true rfl) ?_
  refine zy_loc (L1 := [.ref 8, .int (zn_I (t : Int)), .int (zn_I (q : Int)), .int x]) rfl ?_
  refine zx_aload_n dX8_move_0 rfl ?_
  refine zx_iload_n dX8_move_1 rfl ?_
  refine zx_callV (y1 := iX8_has) dX8_move_2 lX8_35 vX8_has rc_8 (mX8_has_k hk h8 (by omega)) rfl rfl (Nat.le_of_ble_eq_true rfl) ?_
  refine zk_i ?_
  refine zy_ifB_eq (tgt := 27) dX8_move_5 (by decide) (fun h_5 => ?_) (fun h_5 => ?_)
  · exact absurd ⟨by omega, by omega⟩ h_5
  · refine zx_iload_n dX8_move_8 rfl ?_
    refine zx_callN (y1 := iX10_isQuarter) (host := "IslandThatLeans") dX8_move_9 (by decide) sX10_isQuarter (mX10_isQuarter (by omega)) rfl rfl (Nat.le_of_ble_eq_true rfl) ?_
    refine zk_i ?_
    refine zy_ifB_eq (tgt := 27) dX8_move_12 (by decide) (fun h_12 => ?_) (fun h_12 => ?_)
    · exact absurd ⟨by omega, by omega⟩ h_12
    · refine zx_aload_n dX8_move_15 rfl ?_
      refine zx_getr dX8_move_16 fX8_18 ?_
      refine zx_iload_n dX8_move_19 rfl ?_
      refine zx_bipush (v := zn_I 8) dX8_move_20 (by decide) ?_
      refine zy_imul dX8_move_22 ?_
      refine zx_iload_n dX8_move_23 rfl ?_
      refine zy_iadd dX8_move_24 ?_
      refine zx_iload_n dX8_move_25 rfl ?_
      refine zy_iast (i := t * 8 + q) dX8_move_26 rfl (by decide) (by omega) (by omega) ?_
      refine zx_vret (st := []) dX8_move_27 rfl ?_
      exact ⟨rfl, rfl⟩
set_option maxRecDepth 100000 in
set_option maxHeartbeats 600000 in
theorem mX8_moveAllDay {l : zw_Lh} {d : Nat} {M : zw_M} {k : Nat} (hk : M.1 8 4 = zn_I (k : Nat)) (h8 : k ≤ 8) {t : Nat} (ht : t < k) {x : Int32} : zw_C l (d + 2) iX8_moveAllDay [.ref 8, .int (zn_I (t : Int)), .int x] M (fun v M1 => v = none ∧ zw_fr [11] M M1 ∧ ∀ j, M1.1 11 j = if t * 8 ≤ j ∧ j < t * 8 + 8 then x else M.1 11 j) := by
  refine zw_of (by decide +kernel) (Nat.le_of_ble_eq_true rfl) ?_
  refine zy_loc (L1 := [.ref 8, .int (zn_I (t : Int)), .int x, .retAddr 0]) rfl ?_
  have loop : ∀ s : Nat, s ≤ 8 → ∀ M1 : zw_M, zw_fr [11] M M1 → (∀ j, M1.1 11 j = if t * 8 ≤ j ∧ j < t * 8 + s then x else M.1 11 j) → zw_X l (d + 2) iX8_moveAllDay (fun v M1 => v = none ∧ zw_fr [11] M M1 ∧ ∀ j, M1.1 11 j = if t * 8 ≤ j ∧ j < t * 8 + 8 then x else M.1 11 j) 2 [.ref 8, .int (zn_I (t : Int)), .int x, .int (zn_I (s : Int))] [] M1 := by
    refine zw_loop 8 (P := fun s => ∀ M1 : zw_M, zw_fr [11] M M1 → (∀ j, M1.1 11 j = if t * 8 ≤ j ∧ j < t * 8 + s then x else M.1 11 j) → zw_X l (d + 2) iX8_moveAllDay (fun v M1 => v = none ∧ zw_fr [11] M M1 ∧ ∀ j, M1.1 11 j = if t * 8 ≤ j ∧ j < t * 8 + 8 then x else M.1 11 j) 2 [.ref 8, .int (zn_I (t : Int)), .int x, .int (zn_I (s : Int))] [] M1) (fun s hs ih M1 hf hc => ?_)
    refine zx_iload_n dX8_moveAllDay_2 rfl ?_
    refine zx_bipush (v := zn_I 8) dX8_moveAllDay_3 (by decide) ?_
    refine zy_icmp_ge (tgt := 21) dX8_moveAllDay_5 (by decide) (by omega) (fun h_5 => ?_) (fun h_5 => ?_)
    · refine zx_vret (st := []) dX8_moveAllDay_21 rfl ?_
      exact ⟨rfl, hf, fun j => by rw [hc j, show s = 8 by omega]⟩
    · refine zx_aload_n dX8_moveAllDay_8 rfl ?_
      refine zx_iload_n dX8_moveAllDay_9 rfl ?_
      refine zx_iload_n dX8_moveAllDay_10 rfl ?_
      refine zx_iload_n dX8_moveAllDay_11 rfl ?_
      refine zx_callV (y1 := iX8_move) dX8_moveAllDay_12 lX8_59 vX8_move rc_8 (mX8_move_k (show M1.1 8 4 = zn_I (k : Nat) from by rw [(hf 8 (by decide)).1]; exact hk) h8 (t := t) (q := s) ht (by omega)) rfl rfl (Nat.le_of_ble_eq_true rfl) ?_
      refine zk_u ?_
      refine zy_iinc dX8_moveAllDay_15 rfl rfl ?_
      refine zx_goto (tgt := 2) dX8_moveAllDay_18 (by decide) ?_
      refine ih (by omega) _ (zf_s hf (by decide)) (fun j => ?_)
      by_cases e : j = t * 8 + s
      · subst e
        rw [if_pos (by omega)]
        simp [zw_s]
      · have h1 := hc j
        simp only [zw_s, e, and_false, if_false]
        rw [h1]
        by_cases r : t * 8 ≤ j ∧ j < t * 8 + s
        · rw [if_pos r, if_pos (by omega)]
        · rw [if_neg r, if_neg (by omega)]
  refine zx_iconst (v := zn_I 0) dX8_moveAllDay_0 rfl ?_
  refine zx_istore_n dX8_moveAllDay_1 rfl (Nat.le_of_ble_eq_true rfl) ?_
  exact loop 0 (by omega) M zf_rf (fun j => by rw [if_neg (by omega)])
set_option maxRecDepth 100000 in
set_option maxHeartbeats 600000 in
theorem mX8_add {l : zw_Lh} {d : Nat} {M : zw_M} {n : Nat} {τ : zQ} (hT : zT M n τ) {kd w : Int} {s : Nat} (hk : 0 ≤ kd ∧ kd ≤ 4) (hw : 1 ≤ w ∧ w ≤ 99) (hs : s < n) : zw_C l (d + 3) iX8_add [.ref 8, .int (zn_I kd), .int (zn_I w), .int (zn_I (s : Int))] M (fun v M1 => (8 ≤ τ.1 ∧ v = some (.int (zn_I (-104))) ∧ M1 = M) ∨ (τ.1 < 8 ∧ v = some (.int (zn_I τ.1)) ∧ zw_fr [8, 9, 10, 11] M M1 ∧ M1.1 8 5 = M.1 8 5 ∧ zT M1 n (zt_new τ kd w s))) := by
  have h8 := hT.1
  have hsz : M.1 8 4 = zn_I (τ.1 : Int) := hT.2.1
  refine zw_of (by decide +kernel) (Nat.le_of_ble_eq_true rfl) ?_
  refine zy_loc (L1 := [.ref 8, .int (zn_I kd), .int (zn_I w), .int (zn_I (s : Int)), .retAddr 0]) rfl ?_
  refine zx_aload_n dX8_add_0 rfl ?_
  refine zy_geti dX8_add_1 fX8_28 (hsz) ?_
  refine zx_bipush (v := zn_I 8) dX8_add_4 (by decide) ?_
  refine zy_icmp_lt (tgt := 12) dX8_add_6 (by decide) (by omega) (fun h_6 => ?_) (fun h_6 => ?_)
  · refine zx_aload_n dX8_add_12 rfl ?_
    refine zy_geti dX8_add_13 fX8_28 (hsz) ?_
    refine zx_istore dX8_add_16 rfl (Nat.le_of_ble_eq_true rfl) ?_
    refine zx_aload_n dX8_add_18 rfl ?_
    refine zx_getr dX8_add_19 fX8_9 ?_
    refine zx_iload dX8_add_22 rfl ?_
    refine zx_iload_n dX8_add_24 rfl ?_
    refine zy_iast (i := τ.1) dX8_add_25 rfl (by decide) (by omega) (by omega) ?_
    refine zx_aload_n dX8_add_26 rfl ?_
    refine zx_getr dX8_add_27 fX8_15 ?_
    refine zx_iload dX8_add_30 rfl ?_
    refine zx_iload_n dX8_add_32 rfl ?_
    refine zy_iast (i := τ.1) dX8_add_33 rfl (by decide) (by omega) (by omega) ?_
    refine zx_aload_n dX8_add_34 rfl ?_
    refine zx_dup dX8_add_35 rfl ?_
    refine zy_geti dX8_add_36 fX8_28 (hsz) ?_
    refine zx_iconst (v := zn_I 1) dX8_add_39 rfl ?_
    refine zy_iadd dX8_add_40 ?_
    refine zx_puti dX8_add_41 fX8_28 ?_
    refine zx_aload_n dX8_add_44 rfl ?_
    refine zx_iload dX8_add_45 rfl ?_
    refine zx_iload_n dX8_add_47 rfl ?_
    refine zx_callV (y1 := iX8_moveAllDay) dX8_add_48 lX8_31 vX8_moveAllDay rc_8 (mX8_moveAllDay (M := (zw_s (zw_s (zw_s M 9 τ.1 (zn_I kd)) 10 τ.1 (zn_I w)) 8 4 (zn_I ((τ.1 : Int) + 1)))) (k := τ.1 + 1) (by simp [zw_s]) (by omega) (t := τ.1) (x := zn_I (s : Int)) (Nat.lt_succ_self _)) rfl rfl (Nat.le_of_ble_eq_true rfl) ?_
    intro v M5 he
    obtain ⟨rfl, hf, hc⟩ := he
    refine zx_iload dX8_add_51 rfl ?_
    refine zx_iret (st := []) dX8_add_53 rfl rfl ?_
    have hf4 : zw_fr [8, 9, 10, 11] M M5 := zf_tr (zf_s (zf_s (zf_s zf_rf (by decide)) (by decide)) (by decide)) (zf_mono hf (by decide))
    refine Or.inr ⟨by omega, rfl, hf4, by rw [(hf 8 (by decide)).1]; simp [zw_s], zT_new hT ?_ (fun u hu => ?_) (fun u hu => ?_) (fun j => ?_) (by omega) hk hw hs⟩
    · rw [(hf 8 (by decide)).1]; simp [zw_s]
    · rw [(hf 9 (by decide)).1]; simp only [zw_s]; by_cases e : u = τ.1 <;> simp [e]
    · rw [(hf 10 (by decide)).1]; simp only [zw_s]; by_cases e : u = τ.1 <;> simp [e]
    · rw [hc j]; simp only [zw_s]; simp
  · refine zx_bipush (v := zn_I (-104)) dX8_add_9 (by decide) ?_
    refine zx_iret (st := []) dX8_add_11 rfl rfl ?_
    exact Or.inl ⟨by omega, rfl, rfl⟩


set_option maxRecDepth 100000 in
set_option maxHeartbeats 600000 in
theorem mX1_hasAll {l : zw_Lh} {d : Nat} {M : zw_M} {π : zP} (hI : zI M π) {b : Int} (hb : -2147483648 ≤ b ∧ b < 2147483648) : zw_C l d iX1_hasAll [.ref 4, .int (zn_I b)] M (zw_i (zn_B (0 ≤ b ∧ b < (2 ^ zp_n π : Nat))) M) := by
  have h30 := zp_30 hI.1
  have hsz : M.1 4 5 = zn_I (zp_n π : Nat) := hI.2.2.2.1
  refine zw_of (by decide +kernel) (Nat.le_of_ble_eq_true rfl) ?_
  refine zy_loc (L1 := [.ref 4, .int (zn_I b)]) rfl ?_
  refine zx_iload_n dX1_hasAll_0 rfl ?_
  refine zy_if_lt (tgt := 17) dX1_hasAll_1 (by decide) (by omega) (fun h_1 => ?_) (fun h_1 => ?_)
  · refine zx_iconst (v := zn_I 0) dX1_hasAll_17 rfl ?_
    refine zx_iret (st := []) dX1_hasAll_18 rfl rfl ?_
    first | exact zk_B (zn_Bt ⟨by omega, by rw [show ((b.toNat : Nat) : Int) = b by omega]; exact hq.mp (by omega)⟩) | exact zk_B (zn_Bf (fun r => h_10 (by rw [show ((b.toNat : Nat) : Int) = b by omega] at r; have := hq.mpr r.2; omega))) | exact zk_B (zn_Bf (fun r => absurd r.1 (by omega)))
  · refine zx_iload_n dX1_hasAll_4 rfl ?_
    refine zx_aload_n dX1_hasAll_5 rfl ?_
    refine zy_geti dX1_hasAll_6 fX1_28 (hsz) ?_
    rw [show b = ((b.toNat : Nat) : Int) by omega]
    refine zx_iushr dX1_hasAll_9 ?_
    refine zy_top (zb_ushr (k := zp_n π) (by omega) _ (zb_hi _ h30) rfl) ?_
    have hq := zb_sq (b := b) (k := zp_n π) ⟨by omega, by omega⟩
    have hd : b.toNat / 2 ^ zp_n π ≤ b.toNat := Nat.div_le_self _ _
    obtain ⟨w, hw⟩ : ∃ w, b.toNat / 2 ^ zp_n π = w := ⟨_, rfl⟩
    rw [hw] at hq hd ⊢
    refine zy_if_ne (tgt := 17) dX1_hasAll_10 (by decide) (by omega) (fun h_10 => ?_) (fun h_10 => ?_)
    · refine zx_iconst (v := zn_I 0) dX1_hasAll_17 rfl ?_
      refine zx_iret (st := []) dX1_hasAll_18 rfl rfl ?_
      first | exact zk_B (zn_Bt ⟨by omega, by rw [show ((b.toNat : Nat) : Int) = b by omega]; exact hq.mp (by omega)⟩) | exact zk_B (zn_Bf (fun r => h_10 (by rw [show ((b.toNat : Nat) : Int) = b by omega] at r; have := hq.mpr r.2; omega))) | exact zk_B (zn_Bf (fun r => absurd r.1 (by omega)))
    · refine zx_iconst (v := zn_I 1) dX1_hasAll_13 rfl ?_
      refine zx_goto (tgt := 18) dX1_hasAll_14 (by decide) ?_
      refine zx_iret (st := []) dX1_hasAll_18 rfl rfl ?_
      first | exact zk_B (zn_Bt ⟨by omega, by rw [show ((b.toNat : Nat) : Int) = b by omega]; exact hq.mp (by omega)⟩) | exact zk_B (zn_Bf (fun r => h_10 (by rw [show ((b.toNat : Nat) : Int) = b by omega] at r; have := hq.mpr r.2; omega))) | exact zk_B (zn_Bf (fun r => absurd r.1 (by omega)))
