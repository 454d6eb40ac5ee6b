/-! STORM AND COWS: where all would stand -/
def zv (τ : zQ) (p : Nat → Nat) (t : Nat) : Int := if t < τ.1 then (p t : Int) else -1
def zSp (M : zw_M) (τ : zQ) (p : Nat → Nat) : Prop := ∀ t, t < 8 → M.1 32 t = zn_I (zv τ p t)
def zm_e (π : zP) (τ : zQ) (p : Nat → Nat) : Nat → Int
  | 0 => 0
  | t + 1 => zm_e π τ p t + zt_w τ t * zp_e π (p t)
def zm_s (π : zP) (τ : zQ) (p : Nat → Nat) : Nat → Int
  | 0 => 0
  | t + 1 => zm_s π τ p t + zt_w τ t * zp_s π (p t)
theorem zm_rng {M : zw_M} {π : zP} {τ : zQ} {p : Nat → Nat} (hp : π.1 ≤ 5 ∧ π.2.1 ≤ 6) (hT : zT M (zp_n π) τ) (hpn : ∀ t, t < τ.1 → p t < zp_n π) : ∀ t : Nat, t ≤ τ.1 → (-(1000 * (t : Int)) ≤ zm_e π τ p t ∧ zm_e π τ p t ≤ 1000 * (t : Int)) ∧ -(1000 * (t : Int)) ≤ zm_s π τ p t ∧ zm_s π τ p t ≤ 1000 * (t : Int)
  | 0, _ => by simp [zm_e, zm_s]
  | t + 1, h => by
    have ih := zm_rng hp hT hpn t (by omega)
    have h1 := zt_w_rng hT (show t < τ.1 by omega)
    have g2 := zp_e_rng hp (hpn t (by omega))
    have g3 := zp_s_rng hp (hpn t (by omega))
    have k1 := zp_mul_rng (a := zt_w τ t) (e := zp_e π (p t)) (B := 198) (by omega) (by omega) (by omega) (by omega)
    have k2 := zp_mul_rng (a := zt_w τ t) (e := zp_s π (p t)) (B := 198) (by omega) (by omega) (by omega) (by omega)
    rw [zm_e, zm_s]
    omega
/-- the first t things, all of them behind the last -/
def zm_c (τ : zQ) (t : Nat) : Nat := if t < τ.1 then t else τ.1
theorem zm_c_in {τ : zQ} {t : Nat} (h : t < τ.1) : zm_c τ t = t ∧ zm_c τ (t + 1) = t + 1 := by
  unfold zm_c
  refine ⟨if_pos h, ?_⟩
  split <;> omega
theorem zm_c_out {τ : zQ} {t : Nat} (h : τ.1 ≤ t) : zm_c τ t = τ.1 ∧ zm_c τ (t + 1) = τ.1 := by
  unfold zm_c
  refine ⟨?_, ?_⟩ <;> split <;> omega
/-- which doors are wet where all stand at p -/
def zm_wet (π : zP) (τ : zQ) (p : Nat → Nat) : Nat := zp_bits π (zm_e π τ p τ.1) (zm_s π τ p τ.1) (zp_n π)
def zm_go (π : zP) (τ : zQ) (p : Nat → Nat) (t : Nat) : Nat := if zt_per τ t then zp_mid π (p t) else p t
def zm_at (π : zP) (τ : zQ) (p : Nat → Nat) : Nat → Nat → Nat
  | 0 => p
  | i + 1 => zm_go π τ (zm_at π τ p i)
theorem zp_mid_lt {π : zP} {s : Nat} (hs : s < zp_n π) : zp_mid π s < zp_n π := by
  obtain ⟨hw0, hr0, hm, hq⟩ := zp_w0 hs
  have hdn := zp_down hs
  have hr := zp_step_rng hs 2
  unfold zp_step at hr
  unfold zp_mid
  split
  · split
    · exact hs
    · split
      · simp at hr
        split at hr
        · omega
        · omega
      · omega
  · split
    · exact hdn (by omega)
    · omega
theorem zm_at_lt {π : zP} {τ : zQ} {p : Nat → Nat} (h : ∀ t, t < τ.1 → p t < zp_n π) : ∀ i t, t < τ.1 → zm_at π τ p i t < zp_n π
  | 0, t, ht => h t ht
  | i + 1, t, ht => by
    have ih := zm_at_lt h i t ht
    show zm_go π τ (zm_at π τ p i) t < _
    unfold zm_go
    split
    · exact zp_mid_lt ih
    · exact ih
/-- STORM: the first minute in which no door is wet -/
def zm_storm (π : zP) (τ : zQ) (q : Nat) : Int := zs_yr (fun i => decide (zm_wet π τ (zm_at π τ (fun t => τ.2.2.2 t q) i) = 0)) 10
/-! cows -/
def zc_sd (n : Nat) : Nat := (1103515245 * n + 12345) % 2147483648
def zc_dv (n : Nat) : Nat := n / 65536 % 5
def zc_to (π : zP) (s n : Nat) : Nat := if zp_step π s (zc_dv n : Int) = -1 then s else (zp_step π s (zc_dv n : Int)).toNat
def zc_up (p : Nat → Nat) (t x : Nat) : Nat → Nat := fun u => if u = t then x else p u
/-- one minute, the first t things -/
def zc_rt (π : zP) (τ : zQ) (p : Nat → Nat) (n : Nat) : Nat → (Nat → Nat) × Nat
  | 0 => (p, n)
  | t + 1 => if t < τ.1 ∧ τ.2.1 t = 2 then (zc_up (zc_rt π τ p n t).1 t (zc_to π ((zc_rt π τ p n t).1 t) (zc_sd (zc_rt π τ p n t).2)), zc_sd (zc_rt π τ p n t).2) else zc_rt π τ p n t
def zc_ms (π : zP) (τ : zQ) (p : Nat → Nat) (n : Nat) : Nat → (Nat → Nat) × Nat
  | 0 => (p, n)
  | i + 1 => zc_rt π τ (zc_ms π τ p n i).1 (zc_ms π τ p n i).2 8
/-- in how many of the minutes some door is wet -/
def zc_wm (π : zP) (τ : zQ) (p : Nat → Nat) (n : Nat) : Nat → Nat
  | 0 => 0
  | i + 1 => zc_wm π τ p n i + (if zm_wet π τ (zc_ms π τ p n (i + 1)).1 = 0 then 0 else 1)
theorem zc_wm_le (π : zP) (τ : zQ) (p : Nat → Nat) (n : Nat) : ∀ i, zc_wm π τ p n i ≤ i
  | 0 => Nat.le_refl 0
  | i + 1 => by
    have := zc_wm_le π τ p n i
    rw [zc_wm]
    split <;> omega
theorem zc_sd_lt (n : Nat) : zc_sd n < 2147483648 := Nat.mod_lt _ (by decide)
theorem zc_dv_lt (n : Nat) : zc_dv n < 5 := Nat.mod_lt _ (by decide)
theorem zc_to_lt {π : zP} {s n : Nat} (hs : s < zp_n π) : zc_to π s n < zp_n π := by
  have hr := zp_step_rng hs (zc_dv n : Int)
  unfold zc_to
  split
  · exact hs
  · omega
theorem zc_rt_lt {π : zP} {τ : zQ} {p : Nat → Nat} {n : Nat} (h : ∀ t, t < τ.1 → p t < zp_n π) (hn : n < 2147483648) : ∀ i, (∀ t, t < τ.1 → (zc_rt π τ p n i).1 t < zp_n π) ∧ (zc_rt π τ p n i).2 < 2147483648
  | 0 => ⟨h, hn⟩
  | i + 1 => by
    have ih := zc_rt_lt h hn i
    rw [zc_rt]
    split
    · refine ⟨fun t ht => ?_, zc_sd_lt _⟩
      show (if t = i then _ else _) < _
      split
      · exact zc_to_lt (ih.1 i (by omega))
      · exact ih.1 t ht
    · exact ih
theorem zc_ms_lt {π : zP} {τ : zQ} {p : Nat → Nat} {n : Nat} (h : ∀ t, t < τ.1 → p t < zp_n π) (hn : n < 2147483648) : ∀ i, (∀ t, t < τ.1 → (zc_ms π τ p n i).1 t < zp_n π) ∧ (zc_ms π τ p n i).2 < 2147483648
  | 0 => ⟨h, hn⟩
  | i + 1 => by
    have ih := zc_ms_lt h hn i
    exact zc_rt_lt ih.1 ih.2 8
theorem zc_l1 {n : Nat} (hn : n < 2147483648) : (1103515245 * lN n + 12345) &&& 2147483647 = lN (zc_sd n) := by
  have e1 : (1103515245 : Int64) = lN 1103515245 := by decide
  have e2 : (12345 : Int64) = lN 12345 := by decide
  have e3 : (2147483647 : Int64) = lN 2147483647 := by decide
  rw [e1, e2, e3, lN_mul, lN_add]
  apply wb_inj
  rw [Int64.toBitVec_and, wb_tb, wb_tb, wb_tb]
  apply BitVec.eq_of_toNat_eq
  have hb : zc_sd n < 2147483648 := zc_sd_lt n
  rw [BitVec.toNat_and, BitVec.toNat_ofNat, BitVec.toNat_ofNat, BitVec.toNat_ofNat, Nat.mod_eq_of_lt (show 1103515245 * n + 12345 < 2 ^ 64 by omega), Nat.mod_eq_of_lt (show zc_sd n < 2 ^ 64 by omega)]
  show (1103515245 * n + 12345) &&& (2 ^ 31 - 1) = _
  rw [Nat.and_two_pow_sub_one_eq_mod]
  rfl
theorem zc_l2 {n : Nat} (hn : n < 2147483648) : (lN n / 65536 - lN n / 65536 / 5 * 5).toInt32 = zn_I (zc_dv n : Nat) := by
  have e1 : (65536 : Int64) = lN 65536 := by decide
  have e2 : (5 : Int64) = lN 5 := by decide
  rw [e1, e2, pk_lDiv (by omega) (by omega) (by omega), pk_lRem (by omega) (by omega) (by omega), lN_i, zn_nat]
  rfl
theorem zc_l3 {z : Int} (h : 0 ≤ z ∧ z < 2147483648) : (zn_I z).toInt64 = lN z.toNat := by
  rw [show z = (z.toNat : Int) by omega, ← zn_nat, nI_l (by omega)]
  rfl
theorem zc_l4 (n : Nat) : (lN n).toInt32 = zn_I (n : Int) := by rw [lN_i, zn_nat]
set_option maxRecDepth 100000 in
set_option maxHeartbeats 600000 in
theorem mX6_standAsIn {l : Launch} {d : Nat} {M : zw_M} {π : zP} {τ : zQ} (hI : zI M π) (hT : zT M (zp_n π) τ) {q : Nat} (hq : q < 8) : zw_C l (d + 2) iX6_standAsIn [.ref 31, .int (zn_I (q : Int))] M (fun v M1 => v = none ∧ zw_fr [32] M M1 ∧ zSp M1 τ (fun t => τ.2.2.2 t q)) := by
  have hp := hI.1
  have h30 := zp_30 hp
  have h8 := hT.1
  refine zw_of (by decide +kernel) (Nat.le_of_ble_eq_true rfl) ?_
  refine zy_loc (L1 := [.ref 31, .int (zn_I (q : Int)), .retAddr 0]) rfl ?_
  have loop : ∀ s : Nat, s ≤ 8 → ∀ M1 : zw_M, zw_fr [32] M M1 → (∀ t, t < s → M1.1 32 t = zn_I (zv τ (fun t => τ.2.2.2 t q) t)) → zw_X l (d + 2) iX6_standAsIn (fun v M1 => v = none ∧ zw_fr [32] M M1 ∧ zSp M1 τ (fun t => τ.2.2.2 t q)) 2 [.ref 31, .int (zn_I (q : Int)), .int (zn_I (s : Int))] [] M1 := by
    refine zw_loop 8 (P := fun s => ∀ M1 : zw_M, zw_fr [32] M M1 → (∀ t, t < s → M1.1 32 t = zn_I (zv τ (fun t => τ.2.2.2 t q) t)) → zw_X l (d + 2) iX6_standAsIn (fun v M1 => v = none ∧ zw_fr [32] M M1 ∧ zSp M1 τ (fun t => τ.2.2.2 t q)) 2 [.ref 31, .int (zn_I (q : Int)), .int (zn_I (s : Int))] [] M1) (fun s hs ih M1 hf hc => ?_)
    have hpl : zt_place τ (s : Int) (q : Int) = zv τ (fun t => τ.2.2.2 t q) s := by
      unfold zt_place zv
      split
      · rw [if_pos (by omega), Int.toNat_natCast, Int.toNat_natCast]
      · rw [if_neg (by omega)]
    refine zx_iload_n dX6_standAsIn_2 rfl ?_
    refine zx_bipush (v := zn_I 8) dX6_standAsIn_3 (by decide) ?_
    refine zy_icmp_ge (tgt := 29) dX6_standAsIn_5 (by decide) (by omega) (fun h_5 => ?_) (fun h_5 => ?_)
    · refine zx_vret (st := []) dX6_standAsIn_29 rfl ?_
      exact ⟨rfl, hf, fun t ht => hc t (by omega)⟩
    · refine zx_aload_n dX6_standAsIn_8 rfl ?_
      refine zx_getr dX6_standAsIn_9 fX6_9 ?_
      refine zx_iload_n dX6_standAsIn_12 rfl ?_
      refine zx_aload_n dX6_standAsIn_13 rfl ?_
      refine zx_getr dX6_standAsIn_14 fX6_19 ?_
      refine zx_iload_n dX6_standAsIn_17 rfl ?_
      refine zx_iload_n dX6_standAsIn_18 rfl ?_
      refine zx_callV (y1 := iX8_place) dX6_standAsIn_19 lX6_33 vX8_place rc_8 (mX8_place (zT_f hf hT (by decide)) (z := (s : Int)) (q := (q : Int)) (by omega) (by omega)) rfl rfl (Nat.le_of_ble_eq_true rfl) ?_
      refine zk_i ?_
      rw [hpl]
      refine zy_iast dX6_standAsIn_22 rfl (by decide) rfl (by omega) ?_
      refine zy_iinc dX6_standAsIn_23 rfl rfl ?_
      refine zx_goto (tgt := 2) dX6_standAsIn_26 (by decide) ?_
      refine ih (by omega) _ (zf_s hf (by decide)) (fun t ht => ?_)
      by_cases e : t = s
      · subst e; simp [zw_s]
      · have := hc t (by omega)
        simp [zw_s, e, this]
  refine zx_iconst (v := zn_I 0) dX6_standAsIn_0 rfl ?_
  refine zx_istore_n dX6_standAsIn_1 rfl (Nat.le_of_ble_eq_true rfl) ?_
  exact loop 0 (by omega) M zf_rf (fun t ht => absurd ht (by omega))
set_option maxRecDepth 100000 in
set_option maxHeartbeats 600000 in
theorem mX6_isSomeDoorWet {l : Launch} {d : Nat} {M : zw_M} {π : zP} {τ : zQ} (hI : zI M π) (hT : zT M (zp_n π) τ) {p : Nat → Nat} (hS : zSp M τ p) (hpn : ∀ t, t < τ.1 → p t < zp_n π) : zw_C l (d + 2) iX6_isSomeDoorWet [.ref 31] M (zw_i (zn_B (zm_wet π τ p ≠ 0)) M) := by
  have hp := hI.1
  have h30 := zp_30 hp
  have h8 := hT.1
  refine zw_of (by decide +kernel) (Nat.le_of_ble_eq_true rfl) ?_
  refine zy_loc (L1 := [.ref 31, .retAddr 0, .retAddr 0, .retAddr 0]) rfl ?_
  have loop : ∀ t : Nat, t ≤ 8 → zw_X l (d + 2) iX6_isSomeDoorWet (zw_i (zn_B (zm_wet π τ p ≠ 0)) M) 6 [.ref 31, .int (zn_I (zm_e π τ p (zm_c τ t))), .int (zn_I (zm_s π τ p (zm_c τ t))), .int (zn_I (t : Int))] [] M := by
    refine zw_loop 8 (P := fun t => zw_X l (d + 2) iX6_isSomeDoorWet (zw_i (zn_B (zm_wet π τ p ≠ 0)) M) 6 [.ref 31, .int (zn_I (zm_e π τ p (zm_c τ t))), .int (zn_I (zm_s π τ p (zm_c τ t))), .int (zn_I (t : Int))] [] M) (fun t ht ih => ?_)
    have hvr : -1 ≤ zv τ p t ∧ zv τ p t < 30 := by
      unfold zv
      split
      · next h => have := hpn t h; omega
      · omega
    have ee : zm_e π τ p (zm_c τ t) + zt_weighs τ (t : Int) * zp_at π (zp_e π) (zv τ p t) = zm_e π τ p (zm_c τ (t + 1)) ∧ zm_s π τ p (zm_c τ t) + zt_weighs τ (t : Int) * zp_at π (zp_s π) (zv τ p t) = zm_s π τ p (zm_c τ (t + 1)) := by
      rcases Nat.lt_or_ge t τ.1 with r | r
      · rw [(zm_c_in r).1, (zm_c_in r).2, zt_weighs_in r, zv, if_pos r, zp_at_in (hpn t r), zp_at_in (hpn t r)]
        exact ⟨rfl, rfl⟩
      · rw [(zm_c_out r).1, (zm_c_out r).2, zt_weighs_out r]
        simp
    refine zx_iload_n dX6_isSomeDoorWet_6 rfl ?_
    refine zx_bipush (v := zn_I 8) dX6_isSomeDoorWet_7 (by decide) ?_
    refine zy_icmp_ge (tgt := 68) dX6_isSomeDoorWet_9 (by decide) (by omega) (fun h_9 => ?_) (fun h_9 => ?_)
    · have ec : zm_c τ t = τ.1 := by unfold zm_c; split <;> omega
      rw [ec]
      refine zx_aload_n dX6_isSomeDoorWet_68 rfl ?_
      refine zx_getr dX6_isSomeDoorWet_69 fX6_15 ?_
      refine zx_iload_n dX6_isSomeDoorWet_72 rfl ?_
      refine zx_iload_n dX6_isSomeDoorWet_73 rfl ?_
      refine zx_callV (y1 := iX1_wetDoors) dX6_isSomeDoorWet_74 lX6_49 vX1_wetDoors rc_4 (mX1_wetDoors hI (by have := (zm_rng hp hT hpn τ.1 (Nat.le_refl _)).1; omega) (by have := (zm_rng hp hT hpn τ.1 (Nat.le_refl _)).2; omega)) rfl rfl (Nat.le_of_ble_eq_true rfl) ?_
      refine zk_i ?_
      have hwb : zp_bits π (zm_e π τ p τ.1) (zm_s π τ p τ.1) (zp_n π) < 1073741824 := zp_bits_30 hp _ _
      have hwe : zp_bits π (zm_e π τ p τ.1) (zm_s π τ p τ.1) (zp_n π) = zm_wet π τ p := rfl
      refine zy_if_eq (tgt := 84) dX6_isSomeDoorWet_77 (by decide) (by omega) (fun h_77 => ?_) (fun h_77 => ?_)
      · refine zx_iconst (v := zn_I 0) dX6_isSomeDoorWet_84 rfl ?_
        refine zx_iret (st := []) dX6_isSomeDoorWet_85 rfl rfl ?_
        first | exact zk_B (zn_Bt (by omega)) | exact zk_B (zn_Bf (by omega))
      · refine zx_iconst (v := zn_I 1) dX6_isSomeDoorWet_80 rfl ?_
        refine zx_goto (tgt := 85) dX6_isSomeDoorWet_81 (by decide) ?_
        refine zx_iret (st := []) dX6_isSomeDoorWet_85 rfl rfl ?_
        first | exact zk_B (zn_Bt (by omega)) | exact zk_B (zn_Bf (by omega))
    · refine zx_iload_n dX6_isSomeDoorWet_12 rfl ?_
      refine zx_aload_n dX6_isSomeDoorWet_13 rfl ?_
      refine zx_getr dX6_isSomeDoorWet_14 fX6_19 ?_
      refine zx_iload_n dX6_isSomeDoorWet_17 rfl ?_
      refine zx_callV (y1 := iX8_weighs) dX6_isSomeDoorWet_18 lX6_37 vX8_weighs rc_8 (mX8_weighs hT (z := (t : Int)) (by omega)) rfl rfl (Nat.le_of_ble_eq_true rfl) ?_
      refine zk_i ?_
      refine zx_aload_n dX6_isSomeDoorWet_21 rfl ?_
      refine zx_getr dX6_isSomeDoorWet_22 fX6_15 ?_
      refine zx_aload_n dX6_isSomeDoorWet_25 rfl ?_
      refine zx_getr dX6_isSomeDoorWet_26 fX6_9 ?_
      refine zx_iload_n dX6_isSomeDoorWet_29 rfl ?_
      refine zy_iald dX6_isSomeDoorWet_30 rfl (by decide) rfl (by omega) (hS t (by omega)) ?_
      refine zx_callV (y1 := iX1_east) dX6_isSomeDoorWet_31 lX6_41 vX1_east rc_4 (mX1_east hI (by omega)) rfl rfl (Nat.le_of_ble_eq_true rfl) ?_
      refine zk_i ?_
      refine zy_imul dX6_isSomeDoorWet_34 ?_
      refine zy_iadd dX6_isSomeDoorWet_35 ?_
      rw [ee.1]
      refine zx_istore_n dX6_isSomeDoorWet_36 rfl (Nat.le_of_ble_eq_true rfl) ?_
      refine zx_iload_n dX6_isSomeDoorWet_37 rfl ?_
      refine zx_aload_n dX6_isSomeDoorWet_38 rfl ?_
      refine zx_getr dX6_isSomeDoorWet_39 fX6_19 ?_
      refine zx_iload_n dX6_isSomeDoorWet_42 rfl ?_
      refine zx_callV (y1 := iX8_weighs) dX6_isSomeDoorWet_43 lX6_37 vX8_weighs rc_8 (mX8_weighs hT (z := (t : Int)) (by omega)) rfl rfl (Nat.le_of_ble_eq_true rfl) ?_
      refine zk_i ?_
      refine zx_aload_n dX6_isSomeDoorWet_46 rfl ?_
      refine zx_getr dX6_isSomeDoorWet_47 fX6_15 ?_
      refine zx_aload_n dX6_isSomeDoorWet_50 rfl ?_
      refine zx_getr dX6_isSomeDoorWet_51 fX6_9 ?_
      refine zx_iload_n dX6_isSomeDoorWet_54 rfl ?_
      refine zy_iald dX6_isSomeDoorWet_55 rfl (by decide) rfl (by omega) (hS t (by omega)) ?_
      refine zx_callV (y1 := iX1_south) dX6_isSomeDoorWet_56 lX6_46 vX1_south rc_4 (mX1_south hI (by omega)) rfl rfl (Nat.le_of_ble_eq_true rfl) ?_
      refine zk_i ?_
      refine zy_imul dX6_isSomeDoorWet_59 ?_
      refine zy_iadd dX6_isSomeDoorWet_60 ?_
      rw [ee.2]
      refine zx_istore_n dX6_isSomeDoorWet_61 rfl (Nat.le_of_ble_eq_true rfl) ?_
      refine zy_iinc dX6_isSomeDoorWet_62 rfl rfl ?_
      refine zx_goto (tgt := 6) dX6_isSomeDoorWet_65 (by decide) ?_
      exact ih (by omega)
  refine zx_iconst (v := zn_I 0) dX6_isSomeDoorWet_0 rfl ?_
  refine zx_istore_n dX6_isSomeDoorWet_1 rfl (Nat.le_of_ble_eq_true rfl) ?_
  refine zx_iconst (v := zn_I 0) dX6_isSomeDoorWet_2 rfl ?_
  refine zx_istore_n dX6_isSomeDoorWet_3 rfl (Nat.le_of_ble_eq_true rfl) ?_
  refine zx_iconst (v := zn_I 0) dX6_isSomeDoorWet_4 rfl ?_
  refine zx_istore_n dX6_isSomeDoorWet_5 rfl (Nat.le_of_ble_eq_true rfl) ?_
  have h9 := loop 0 (by omega)
  rw [show zm_c τ 0 = 0 by unfold zm_c; split <;> omega] at h9
  exact h9
set_option maxRecDepth 100000 in
set_option maxHeartbeats 600000 in
theorem mX6_peopleGoToMiddle {l : Launch} {d : Nat} {M : zw_M} {π : zP} {τ : zQ} (hI : zI M π) (hT : zT M (zp_n π) τ) {p : Nat → Nat} (hS : zSp M τ p) (hpn : ∀ t, t < τ.1 → p t < zp_n π) : zw_C l (d + 3) iX6_peopleGoToMiddle [.ref 31] M (fun v M1 => v = none ∧ zw_fr [32] M M1 ∧ zSp M1 τ (zm_go π τ p)) := by
  have hp := hI.1
  have h30 := zp_30 hp
  have h8 := hT.1
  refine zw_of (by decide +kernel) (Nat.le_of_ble_eq_true rfl) ?_
  refine zy_loc (L1 := [.ref 31, .retAddr 0]) rfl ?_
  have loop : ∀ s : Nat, s ≤ 8 → ∀ M1 : zw_M, zw_fr [32] M M1 → (∀ t, t < 8 → M1.1 32 t = zn_I (if t < s then zv τ (zm_go π τ p) t else zv τ p t)) → zw_X l (d + 3) iX6_peopleGoToMiddle (fun v M1 => v = none ∧ zw_fr [32] M M1 ∧ zSp M1 τ (zm_go π τ p)) 2 [.ref 31, .int (zn_I (s : Int))] [] M1 := by
    refine zw_loop 8 (P := fun s => ∀ M1 : zw_M, zw_fr [32] M M1 → (∀ t, t < 8 → M1.1 32 t = zn_I (if t < s then zv τ (zm_go π τ p) t else zv τ p t)) → zw_X l (d + 3) iX6_peopleGoToMiddle (fun v M1 => v = none ∧ zw_fr [32] M M1 ∧ zSp M1 τ (zm_go π τ p)) 2 [.ref 31, .int (zn_I (s : Int))] [] M1) (fun s hs ih M1 hf hc => ?_)
    have hI1 := zI_f hf hI (by decide)
    have hT1 := zT_f hf hT (by decide)
    refine zx_iload_n dX6_peopleGoToMiddle_2 rfl ?_
    refine zx_bipush (v := zn_I 8) dX6_peopleGoToMiddle_3 (by decide) ?_
    refine zy_icmp_ge (tgt := 45) dX6_peopleGoToMiddle_5 (by decide) (by omega) (fun h_5 => ?_) (fun h_5 => ?_)
    · refine zx_vret (st := []) dX6_peopleGoToMiddle_45 rfl ?_
      refine ⟨rfl, hf, fun t ht => ?_⟩
      rw [hc t ht, if_pos (by omega)]
    · refine zx_aload_n dX6_peopleGoToMiddle_8 rfl ?_
      refine zx_getr dX6_peopleGoToMiddle_9 fX6_19 ?_
      refine zx_iload_n dX6_peopleGoToMiddle_12 rfl ?_
      refine zx_iconst (v := zn_I 3) dX6_peopleGoToMiddle_13 rfl ?_
      refine zx_callV (y1 := iX8_isA) dX6_peopleGoToMiddle_14 lX6_63 vX8_isA rc_8 (mX8_isA hT1 (z := (s : Int)) (a := 3) ⟨by omega, by omega⟩ ⟨by omega, by omega⟩) rfl rfl (Nat.le_of_ble_eq_true rfl) ?_
      refine zk_i ?_
      refine zy_ifB_eq (tgt := 39) dX6_peopleGoToMiddle_17 (by decide) (fun h_17 => ?_) (fun h_17 => ?_)
      · refine zy_iinc dX6_peopleGoToMiddle_39 rfl rfl ?_
        refine zx_goto (tgt := 2) dX6_peopleGoToMiddle_42 (by decide) ?_
        refine ih (by omega) M1 hf (fun t ht => ?_)
        rw [hc t ht]
        by_cases e : t = s
        · subst e
          rw [if_neg (Nat.lt_irrefl _), if_pos (Nat.lt_succ_self _)]
          unfold zv
          split
          · next r =>
            rw [zt_isA, zt_kind_in r] at h_17
            rw [zm_go, if_neg (by omega)]
          · rfl
        · by_cases r : t < s
          · rw [if_pos r, if_pos (by omega)]
          · rw [if_neg r, if_neg (by omega)]
      · have hsk : s < τ.1 := Classical.byContradiction fun q => by
          have : zt_kind τ (s : Int) = -1 := by rw [zt_kind, if_neg (by omega)]
          omega
        have hper : zt_per τ s := by rw [zt_isA, zt_kind_in hsk] at h_17; omega
        refine zx_aload_n dX6_peopleGoToMiddle_20 rfl ?_
        refine zx_getr dX6_peopleGoToMiddle_21 fX6_9 ?_
        refine zx_iload_n dX6_peopleGoToMiddle_24 rfl ?_
        refine zx_aload_n dX6_peopleGoToMiddle_25 rfl ?_
        refine zx_getr dX6_peopleGoToMiddle_26 fX6_15 ?_
        refine zx_aload_n dX6_peopleGoToMiddle_29 rfl ?_
        refine zx_getr dX6_peopleGoToMiddle_30 fX6_9 ?_
        refine zx_iload_n dX6_peopleGoToMiddle_33 rfl ?_
        refine zy_iald dX6_peopleGoToMiddle_34 rfl (by decide) rfl (by omega) (show _ = zn_I (p s : Nat) from by rw [hc s (by omega), if_neg (Nat.lt_irrefl _), zv, if_pos hsk]) ?_
        refine zx_callV (y1 := iX1_towardsMiddle) dX6_peopleGoToMiddle_35 lX6_67 vX1_towardsMiddle rc_4 (mX1_towardsMiddle hI1 (hpn s hsk)) rfl rfl (Nat.le_of_ble_eq_true rfl) ?_
        refine zk_i ?_
        refine zy_iast dX6_peopleGoToMiddle_38 rfl (by decide) rfl (by omega) ?_
        refine zy_iinc dX6_peopleGoToMiddle_39 rfl rfl ?_
        refine zx_goto (tgt := 2) dX6_peopleGoToMiddle_42 (by decide) ?_
        refine ih (by omega) _ (zf_s hf (by decide)) (fun t ht => ?_)
        by_cases e : t = s
        · subst e
          simp [zw_s, zv, hsk, zm_go, hper]
        · have h1 := hc t ht
          have e2 : (if t < s then zv τ (zm_go π τ p) t else zv τ p t) = (if t < s + 1 then zv τ (zm_go π τ p) t else zv τ p t) := by
            by_cases r : t < s
            · rw [if_pos r, if_pos (by omega)]
            · rw [if_neg r, if_neg (by omega)]
          rw [e2] at h1
          rw [← h1]
          simp [zw_s, e]
  refine zx_iconst (v := zn_I 0) dX6_peopleGoToMiddle_0 rfl ?_
  refine zx_istore_n dX6_peopleGoToMiddle_1 rfl (Nat.le_of_ble_eq_true rfl) ?_
  exact loop 0 (by omega) M zf_rf (fun t ht => by rw [hS t ht, if_neg (by omega)])
set_option maxRecDepth 100000 in
set_option maxHeartbeats 600000 in
theorem mX6_dryMinuteOfStorm {l : Launch} {d : Nat} {M : zw_M} {π : zP} {τ : zQ} (hI : zI M π) (hT : zT M (zp_n π) τ) {q : Nat} (hq : q < 8) : zw_C l (d + 4) iX6_dryMinuteOfStorm [.ref 31, .int (zn_I (q : Int))] M (fun v M1 => v = some (.int (zn_I (zm_storm π τ q))) ∧ zw_fr [32] M M1) := by
  have hp := hI.1
  have h30 := zp_30 hp
  have h8 := hT.1
  have hpn := fun i => zm_at_lt (π := π) (τ := τ) (p := fun t => τ.2.2.2 t q) (fun t ht => hT.2.2.2.2.2.2.2 t ht q hq) i
  refine zw_of (by decide +kernel) (Nat.le_of_ble_eq_true rfl) ?_
  refine zy_loc (L1 := [.ref 31, .int (zn_I (q : Int)), .retAddr 0]) rfl ?_
  have loop : ∀ i : Nat, i ≤ 10 → ∀ M1 : zw_M, zw_fr [32] M M1 → zSp M1 τ (zm_at π τ (fun t => τ.2.2.2 t q) i) → zs_yr (fun i => decide (zm_wet π τ (zm_at π τ (fun t => τ.2.2.2 t q) i) = 0)) i = -1 → zw_X l (d + 4) iX6_dryMinuteOfStorm (fun v M1 => v = some (.int (zn_I (zm_storm π τ q))) ∧ zw_fr [32] M M1) 7 [.ref 31, .int (zn_I (q : Int)), .int (zn_I (i : Int))] [] M1 := by
    refine zw_loop 10 (P := fun i => ∀ M1 : zw_M, zw_fr [32] M M1 → zSp M1 τ (zm_at π τ (fun t => τ.2.2.2 t q) i) → zs_yr (fun i => decide (zm_wet π τ (zm_at π τ (fun t => τ.2.2.2 t q) i) = 0)) i = -1 → zw_X l (d + 4) iX6_dryMinuteOfStorm (fun v M1 => v = some (.int (zn_I (zm_storm π τ q))) ∧ zw_fr [32] M M1) 7 [.ref 31, .int (zn_I (q : Int)), .int (zn_I (i : Int))] [] M1) (fun i hi ih M1 hf hS hno => ?_)
    have hI1 := zI_f hf hI (by decide)
    have hT1 := zT_f hf hT (by decide)
    refine zx_iload_n dX6_dryMinuteOfStorm_7 rfl ?_
    refine zx_bipush (v := zn_I 9) dX6_dryMinuteOfStorm_8 (by decide) ?_
    refine zy_icmp_gt (tgt := 32) dX6_dryMinuteOfStorm_10 (by decide) (by omega) (fun h_10 => ?_) (fun h_10 => ?_)
    · refine zx_iconst (v := zn_I (-1)) dX6_dryMinuteOfStorm_32 rfl ?_
      refine zx_iret (st := []) dX6_dryMinuteOfStorm_33 rfl rfl ?_
      exact ⟨by rw [zm_storm, show 10 = i by omega, hno], hf⟩
    · refine zx_aload_n dX6_dryMinuteOfStorm_13 rfl ?_
      refine zx_callV (y1 := iX6_isSomeDoorWet) dX6_dryMinuteOfStorm_14 lX6_56 vX6_isSomeDoorWet rc_31 (mX6_isSomeDoorWet hI1 hT1 hS (hpn i)) rfl rfl (Nat.le_of_ble_eq_true rfl) ?_
      refine zk_i ?_
      refine zy_ifB_ne (tgt := 22) dX6_dryMinuteOfStorm_17 (by decide) (fun h_17 => ?_) (fun h_17 => ?_)
      · refine zx_aload_n dX6_dryMinuteOfStorm_22 rfl ?_
        refine zx_callV (y1 := iX6_peopleGoToMiddle) dX6_dryMinuteOfStorm_23 lX6_60 vX6_peopleGoToMiddle rc_31 (mX6_peopleGoToMiddle hI1 hT1 hS (hpn i)) rfl rfl (Nat.le_of_ble_eq_true rfl) ?_
        intro v M2 he
        obtain ⟨rfl, hf2, hS2⟩ := he
        refine zy_iinc dX6_dryMinuteOfStorm_26 rfl rfl ?_
        refine zx_goto (tgt := 7) dX6_dryMinuteOfStorm_29 (by decide) ?_
        refine ih (by omega) M2 (zf_tr hf hf2) hS2 ?_
        rw [zs_yr, if_neg (by omega), if_neg (by simpa using h_17)]
      · refine zx_iload_n dX6_dryMinuteOfStorm_20 rfl ?_
        refine zx_iret (st := []) dX6_dryMinuteOfStorm_21 rfl rfl ?_
        exact ⟨by rw [zm_storm, zs_yr_stop hno (by simpa using h_17) 10 (by omega)], hf⟩
  refine zx_aload_n dX6_dryMinuteOfStorm_0 rfl ?_
  refine zx_iload_n dX6_dryMinuteOfStorm_1 rfl ?_
  refine zx_callV (y1 := iX6_standAsIn) dX6_dryMinuteOfStorm_2 lX6_52 vX6_standAsIn rc_31 (mX6_standAsIn hI hT hq) rfl rfl (Nat.le_of_ble_eq_true rfl) ?_
  intro v M1 he
  obtain ⟨rfl, hf, hS⟩ := he
  refine zx_iconst (v := zn_I 0) dX6_dryMinuteOfStorm_5 rfl ?_
  refine zx_istore_n dX6_dryMinuteOfStorm_6 rfl (Nat.le_of_ble_eq_true rfl) ?_
  exact loop 0 (by omega) M1 hf hS rfl
set_option maxRecDepth 100000 in
set_option maxHeartbeats 600000 in
theorem mX6_drawOfACow {l : Launch} {d : Nat} {M : zw_M} {n : Nat} (hn : n < 2147483648) (hs : M.2 31 3 = lN n) : zw_C l d iX6_drawOfACow [.ref 31] M (fun v M1 => v = some (.int (zn_I (zc_dv (zc_sd n) : Nat))) ∧ zw_fr [31] M M1 ∧ M1.1 = M.1 ∧ M1.2 31 3 = lN (zc_sd n)) := by
  refine zw_of (by decide +kernel) (Nat.le_of_ble_eq_true rfl) ?_
  refine zy_loc (L1 := [.ref 31]) rfl ?_
  refine zx_aload_n dX6_drawOfACow_0 rfl ?_
  refine zx_ldc2 dX6_drawOfACow_1 kX6_80 ?_
  refine zx_aload_n dX6_drawOfACow_4 rfl ?_
  refine zx_getl dX6_drawOfACow_5 fX6_29 ?_
  refine zx_lmul dX6_drawOfACow_8 ?_
  refine zx_ldc2 dX6_drawOfACow_9 kX6_82 ?_
  refine zx_ladd dX6_drawOfACow_12 ?_
  refine zx_ldc2 dX6_drawOfACow_13 kX6_84 ?_
  refine zx_land dX6_drawOfACow_16 ?_
  rw [hs, zc_l1 hn]
  refine zx_putl dX6_drawOfACow_17 fX6_29 ?_
  refine zx_aload_n dX6_drawOfACow_20 rfl ?_
  refine zx_getl dX6_drawOfACow_21 fX6_29 ?_
  rw [show (zw_sl M 31 3 (lN (zc_sd n))).2 31 3 = lN (zc_sd n) by simp [zw_sl]]
  refine zx_ldc2 dX6_drawOfACow_24 kX6_86 ?_
  refine zx_ldiv dX6_drawOfACow_27 (by decide) ?_
  refine zx_ldc2 dX6_drawOfACow_28 kX6_88 ?_
  refine zx_lrem dX6_drawOfACow_31 (by decide) ?_
  refine zx_l2i dX6_drawOfACow_32 ?_
  rw [zc_l2 (zc_sd_lt n)]
  refine zx_iret (st := []) dX6_drawOfACow_33 rfl rfl ?_
  exact ⟨rfl, zf_sl zf_rf (by decide), rfl, by simp [zw_sl]⟩
set_option maxRecDepth 100000 in
set_option maxHeartbeats 600000 in
theorem mX6_cowsGoAstray {l : Launch} {d : Nat} {M : zw_M} {π : zP} {τ : zQ} (hI : zI M π) (hT : zT M (zp_n π) τ) {p : Nat → Nat} (hS : zSp M τ p) (hpn : ∀ t, t < τ.1 → p t < zp_n π) {n : Nat} (hn : n < 2147483648) (hsd : M.2 31 3 = lN n) : zw_C l (d + 3) iX6_cowsGoAstray [.ref 31] M (fun v M1 => v = none ∧ zw_fr [31, 32] M M1 ∧ zSp M1 τ (zc_rt π τ p n 8).1 ∧ M1.2 31 3 = lN (zc_rt π τ p n 8).2) := by
  have hp := hI.1
  have h30 := zp_30 hp
  have h8 := hT.1
  have hrl := zc_rt_lt (π := π) (τ := τ) hpn hn
  refine zw_of (by decide +kernel) (Nat.le_of_ble_eq_true rfl) ?_
  refine zy_loc (L1 := [.ref 31, .retAddr 0, .retAddr 0]) rfl ?_
  have loop : ∀ s : Nat, s ≤ 8 → ∀ (M1 : zw_M) (v2 : Value), zw_fr [31, 32] M M1 → zSp M1 τ (zc_rt π τ p n s).1 → M1.2 31 3 = lN (zc_rt π τ p n s).2 → zw_X l (d + 3) iX6_cowsGoAstray (fun v M1 => v = none ∧ zw_fr [31, 32] M M1 ∧ zSp M1 τ (zc_rt π τ p n 8).1 ∧ M1.2 31 3 = lN (zc_rt π τ p n 8).2) 2 [.ref 31, .int (zn_I (s : Int)), v2] [] M1 := by
    refine zw_loop 8 (P := fun s => ∀ (M1 : zw_M) (v2 : Value), zw_fr [31, 32] M M1 → zSp M1 τ (zc_rt π τ p n s).1 → M1.2 31 3 = lN (zc_rt π τ p n s).2 → zw_X l (d + 3) iX6_cowsGoAstray (fun v M1 => v = none ∧ zw_fr [31, 32] M M1 ∧ zSp M1 τ (zc_rt π τ p n 8).1 ∧ M1.2 31 3 = lN (zc_rt π τ p n 8).2) 2 [.ref 31, .int (zn_I (s : Int)), v2] [] M1) (fun s hs ih M1 v2 hf hS hsd => ?_)
    have hI1 := zI_f hf hI (by decide)
    have hT1 := zT_f hf hT (by decide)
    refine zx_iload_n dX6_cowsGoAstray_2 rfl ?_
    refine zx_bipush (v := zn_I 8) dX6_cowsGoAstray_3 (by decide) ?_
    refine zy_icmp_ge (tgt := 65) dX6_cowsGoAstray_5 (by decide) (by omega) (fun h_5 => ?_) (fun h_5 => ?_)
    · refine zx_vret (st := []) dX6_cowsGoAstray_65 rfl ?_
      have es : s = 8 := by omega
      subst es
      exact ⟨rfl, hf, hS, hsd⟩
    · refine zx_aload_n dX6_cowsGoAstray_8 rfl ?_
      refine zx_getr dX6_cowsGoAstray_9 fX6_19 ?_
      refine zx_iload_n dX6_cowsGoAstray_12 rfl ?_
      refine zx_iconst (v := zn_I 2) dX6_cowsGoAstray_13 rfl ?_
      refine zx_callV (y1 := iX8_isA) dX6_cowsGoAstray_14 lX6_63 vX8_isA rc_8 (mX8_isA hT1 (z := (s : Int)) (a := 2) ⟨by omega, by omega⟩ ⟨by omega, by omega⟩) rfl rfl (Nat.le_of_ble_eq_true rfl) ?_
      refine zk_i ?_
      refine zy_ifB_eq (tgt := 59) dX6_cowsGoAstray_17 (by decide) (fun h_17 => ?_) (fun h_17 => ?_)
      · refine zy_iinc dX6_cowsGoAstray_59 rfl rfl ?_
        refine zx_goto (tgt := 2) dX6_cowsGoAstray_62 (by decide) ?_
        have hst : zc_rt π τ p n (s + 1) = zc_rt π τ p n s := by
          rw [zc_rt, if_neg]
          rintro ⟨r, e⟩
          rw [zt_isA, zt_kind_in r] at h_17
          omega
        exact ih (by omega) M1 _ hf (by rw [hst]; exact hS) (by rw [hst]; exact hsd)
      · have hsk : s < τ.1 := Classical.byContradiction fun q => by
          have : zt_kind τ (s : Int) = -1 := by rw [zt_kind, if_neg (by omega)]
          omega
        have hcow : τ.2.1 s = 2 := by rw [zt_isA, zt_kind_in hsk] at h_17; omega
        have hst : zc_rt π τ p n (s + 1) = (zc_up (zc_rt π τ p n s).1 s (zc_to π ((zc_rt π τ p n s).1 s) (zc_sd (zc_rt π τ p n s).2)), zc_sd (zc_rt π τ p n s).2) := by rw [zc_rt, if_pos ⟨hsk, hcow⟩]
        refine zx_aload_n dX6_cowsGoAstray_20 rfl ?_
        refine zx_getr dX6_cowsGoAstray_21 fX6_15 ?_
        refine zx_aload_n dX6_cowsGoAstray_24 rfl ?_
        refine zx_getr dX6_cowsGoAstray_25 fX6_9 ?_
        refine zx_iload_n dX6_cowsGoAstray_28 rfl ?_
        refine zy_iald dX6_cowsGoAstray_29 rfl (by decide) rfl (by omega) (show _ = zn_I ((zc_rt π τ p n s).1 s : Nat) from by rw [hS s (by omega), zv, if_pos hsk]) ?_
        refine zx_aload_n dX6_cowsGoAstray_30 rfl ?_
        refine zx_callV (y1 := iX6_drawOfACow) dX6_cowsGoAstray_31 lX6_73 vX6_drawOfACow rc_31 (mX6_drawOfACow (hrl s).2 hsd) rfl rfl (Nat.le_of_ble_eq_true rfl) ?_
        intro v M2 he
        obtain ⟨rfl, hf12, h12, hsd2⟩ := he
        have hf2 : zw_fr [31, 32] M M2 := zf_tr hf (zf_mono hf12 (by decide))
        refine zx_callV (y1 := iX1_step) dX6_cowsGoAstray_34 lX6_77 vX1_step rc_4 (mX1_step (zI_f hf2 hI (by decide)) ((hrl s).1 s hsk) (v := (zc_dv (zc_sd (zc_rt π τ p n s).2) : Nat)) (by have := zc_dv_lt (zc_sd (zc_rt π τ p n s).2); omega)) rfl rfl (Nat.le_of_ble_eq_true rfl) ?_
        refine zk_i ?_
        have hsr := zp_step_rng ((hrl s).1 s hsk) (zc_dv (zc_sd (zc_rt π τ p n s).2) : Nat)
        refine zx_istore_n dX6_cowsGoAstray_37 rfl (Nat.le_of_ble_eq_true rfl) ?_
        refine zx_aload_n dX6_cowsGoAstray_38 rfl ?_
        refine zx_getr dX6_cowsGoAstray_39 fX6_9 ?_
        refine zx_iload_n dX6_cowsGoAstray_42 rfl ?_
        refine zx_iload_n dX6_cowsGoAstray_43 rfl ?_
        refine zx_iconst (v := zn_I (-1)) dX6_cowsGoAstray_44 rfl ?_
        refine zy_icmp_ne (tgt := 57) dX6_cowsGoAstray_45 (by decide) (by omega) (fun h_45 => ?_) (fun h_45 => ?_)
        · refine zx_iload_n dX6_cowsGoAstray_57 rfl ?_
          refine zy_iast dX6_cowsGoAstray_58 rfl (by decide) rfl (by omega) ?_
          refine zy_iinc dX6_cowsGoAstray_59 rfl rfl ?_
          refine zx_goto (tgt := 2) dX6_cowsGoAstray_62 (by decide) ?_
          have hto : zc_to π ((zc_rt π τ p n s).1 s) (zc_sd (zc_rt π τ p n s).2) = (zp_step π ((zc_rt π τ p n s).1 s) (zc_dv (zc_sd (zc_rt π τ p n s).2) : Int)).toNat := by rw [zc_to, if_neg h_45]
          have hz : zp_step π ((zc_rt π τ p n s).1 s) (zc_dv (zc_sd (zc_rt π τ p n s).2) : Int) = ((zc_to π ((zc_rt π τ p n s).1 s) (zc_sd (zc_rt π τ p n s).2) : Nat) : Int) := by rw [hto]; omega
          rw [hz]
          refine ih (by omega) _ _ (zf_s hf2 (by decide)) (fun t ht => ?_) (by rw [hst]; exact hsd2)
          rw [hst]
          by_cases e : t = s
          · subst e
            simp [zw_s, zv, hsk, zc_up, h12]
          · have h1 := hS t ht
            simp only [zw_s, e, and_false, if_false]
            rw [h12, h1]
            simp [zv, zc_up, e]
        · refine zx_aload_n dX6_cowsGoAstray_48 rfl ?_
          refine zx_getr dX6_cowsGoAstray_49 fX6_9 ?_
          refine zx_iload_n dX6_cowsGoAstray_52 rfl ?_
          refine zy_iald dX6_cowsGoAstray_53 rfl (by decide) rfl (by omega) (show _ = zn_I ((zc_rt π τ p n s).1 s : Nat) from by rw [h12, hS s (by omega), zv, if_pos hsk]) ?_
          refine zx_goto (tgt := 58) dX6_cowsGoAstray_54 (by decide) ?_
          refine zy_iast dX6_cowsGoAstray_58 rfl (by decide) rfl (by omega) ?_
          refine zy_iinc dX6_cowsGoAstray_59 rfl rfl ?_
          refine zx_goto (tgt := 2) dX6_cowsGoAstray_62 (by decide) ?_
          have hto : zc_to π ((zc_rt π τ p n s).1 s) (zc_sd (zc_rt π τ p n s).2) = (zc_rt π τ p n s).1 s := by rw [zc_to, if_pos h_45]
          rw [hto] at hst
          refine ih (by omega) _ _ (zf_s hf2 (by decide)) (fun t ht => ?_) (by rw [hst]; exact hsd2)
          rw [hst]
          by_cases e : t = s
          · subst e
            simp [zw_s, zv, hsk, zc_up, h12]
          · have h1 := hS t ht
            simp only [zw_s, e, and_false, if_false]
            rw [h12, h1]
            simp [zv, zc_up, e]
  refine zx_iconst (v := zn_I 0) dX6_cowsGoAstray_0 rfl ?_
  refine zx_istore_n dX6_cowsGoAstray_1 rfl (Nat.le_of_ble_eq_true rfl) ?_
  exact loop 0 (by omega) M _ zf_rf hS hsd
set_option maxRecDepth 100000 in
set_option maxHeartbeats 600000 in
theorem mX6_stray {l : Launch} {d : Nat} {M : zw_M} {π : zP} {τ : zQ} (hI : zI M π) (hT : zT M (zp_n π) τ) {q mi n : Nat} (hq : q < 8) (hmi : mi ≤ 60) (hn : n < 2147483648) : zw_C l (d + 4) iX6_stray [.ref 31, .int (zn_I (q : Int)), .int (zn_I (mi : Int)), .int (zn_I (n : Int))] M (fun v M1 => v = some (.int (zn_I (zc_wm π τ (fun t => τ.2.2.2 t q) n mi : Nat))) ∧ zw_fr [31, 32] M M1 ∧ zSp M1 τ (zc_ms π τ (fun t => τ.2.2.2 t q) n mi).1 ∧ M1.2 31 3 = lN (zc_ms π τ (fun t => τ.2.2.2 t q) n mi).2) := by
  have hp := hI.1
  have h30 := zp_30 hp
  have h8 := hT.1
  have hml := zc_ms_lt (π := π) (τ := τ) (p := fun t => τ.2.2.2 t q) (n := n) (fun t ht => hT.2.2.2.2.2.2.2 t ht q hq) hn
  refine zw_of (by decide +kernel) (Nat.le_of_ble_eq_true rfl) ?_
  refine zy_loc (L1 := [.ref 31, .int (zn_I (q : Int)), .int (zn_I (mi : Int)), .int (zn_I (n : Int)), .retAddr 0, .retAddr 0]) rfl ?_
  have loop : ∀ i : Nat, i ≤ mi → ∀ M1 : zw_M, zw_fr [31, 32] M M1 → zSp M1 τ (zc_ms π τ (fun t => τ.2.2.2 t q) n i).1 → M1.2 31 3 = lN (zc_ms π τ (fun t => τ.2.2.2 t q) n i).2 → zw_X l (d + 4) iX6_stray (fun v M1 => v = some (.int (zn_I (zc_wm π τ (fun t => τ.2.2.2 t q) n mi : Nat))) ∧ zw_fr [31, 32] M M1 ∧ zSp M1 τ (zc_ms π τ (fun t => τ.2.2.2 t q) n mi).1 ∧ M1.2 31 3 = lN (zc_ms π τ (fun t => τ.2.2.2 t q) n mi).2) 17 [.ref 31, .int (zn_I (q : Int)), .int (zn_I (mi : Int)), .int (zn_I (n : Int)), .int (zn_I (zc_wm π τ (fun t => τ.2.2.2 t q) n i : Nat)), .int (zn_I (i : Int))] [] M1 := by
    refine zw_loop mi (P := fun i => ∀ M1 : zw_M, zw_fr [31, 32] M M1 → zSp M1 τ (zc_ms π τ (fun t => τ.2.2.2 t q) n i).1 → M1.2 31 3 = lN (zc_ms π τ (fun t => τ.2.2.2 t q) n i).2 → zw_X l (d + 4) iX6_stray (fun v M1 => v = some (.int (zn_I (zc_wm π τ (fun t => τ.2.2.2 t q) n mi : Nat))) ∧ zw_fr [31, 32] M M1 ∧ zSp M1 τ (zc_ms π τ (fun t => τ.2.2.2 t q) n mi).1 ∧ M1.2 31 3 = lN (zc_ms π τ (fun t => τ.2.2.2 t q) n mi).2) 17 [.ref 31, .int (zn_I (q : Int)), .int (zn_I (mi : Int)), .int (zn_I (n : Int)), .int (zn_I (zc_wm π τ (fun t => τ.2.2.2 t q) n i : Nat)), .int (zn_I (i : Int))] [] M1) (fun i hi ih M1 hf hS hsd => ?_)
    have hI1 := zI_f hf hI (by decide)
    have hT1 := zT_f hf hT (by decide)
    refine zx_iload dX6_stray_17 rfl ?_
    refine zx_iload_n dX6_stray_19 rfl ?_
    refine zy_icmp_ge (tgt := 43) dX6_stray_20 (by decide) (by omega) (fun h_20 => ?_) (fun h_20 => ?_)
    · refine zx_iload dX6_stray_43 rfl ?_
      refine zx_iret (st := []) dX6_stray_45 rfl rfl ?_
      have es : i = mi := by omega
      subst es
      exact ⟨rfl, hf, hS, hsd⟩
    · refine zx_aload_n dX6_stray_23 rfl ?_
      refine zx_callV (y1 := iX6_cowsGoAstray) dX6_stray_24 lX6_70 vX6_cowsGoAstray rc_31 (mX6_cowsGoAstray hI1 hT1 hS (hml i).1 (hml i).2 hsd) rfl rfl (Nat.le_of_ble_eq_true rfl) ?_
      intro v M2 he
      obtain ⟨rfl, hf2, hS2, hsd2⟩ := he
      have hf3 := zf_tr hf hf2
      refine zx_aload_n dX6_stray_27 rfl ?_
      refine zx_callV (y1 := iX6_isSomeDoorWet) dX6_stray_28 lX6_56 vX6_isSomeDoorWet rc_31 (mX6_isSomeDoorWet (zI_f hf3 hI (by decide)) (zT_f hf3 hT (by decide)) hS2 (hml (i + 1)).1) rfl rfl (Nat.le_of_ble_eq_true rfl) ?_
      refine zk_i ?_
      refine zy_ifB_eq (tgt := 37) dX6_stray_31 (by decide) (fun h_31 => ?_) (fun h_31 => ?_)
      · refine zy_iinc dX6_stray_37 rfl rfl ?_
        refine zx_goto (tgt := 17) dX6_stray_40 (by decide) ?_
        have h31 : zm_wet π τ (zc_ms π τ (fun t => τ.2.2.2 t q) n (i + 1)).1 = 0 := Classical.not_not.mp h_31
        have hw : zc_wm π τ (fun t => τ.2.2.2 t q) n (i + 1) = zc_wm π τ (fun t => τ.2.2.2 t q) n i := by rw [zc_wm, if_pos h31]; rfl
        have h9 := ih (by omega) M2 hf3 hS2 hsd2
        rw [hw] at h9
        exact h9
      · refine zy_iinc dX6_stray_34 rfl rfl ?_
        refine zy_iinc dX6_stray_37 rfl rfl ?_
        refine zx_goto (tgt := 17) dX6_stray_40 (by decide) ?_
        have h31 : ¬ zm_wet π τ (zc_ms π τ (fun t => τ.2.2.2 t q) n (i + 1)).1 = 0 := h_31
        have hw : zc_wm π τ (fun t => τ.2.2.2 t q) n (i + 1) = zc_wm π τ (fun t => τ.2.2.2 t q) n i + 1 := by rw [zc_wm, if_neg h31]
        have h9 := ih (by omega) M2 hf3 hS2 hsd2
        rw [hw] at h9
        exact h9
  refine zx_aload_n dX6_stray_0 rfl ?_
  refine zx_iload_n dX6_stray_1 rfl ?_
  refine zx_callV (y1 := iX6_standAsIn) dX6_stray_2 lX6_52 vX6_standAsIn rc_31 (mX6_standAsIn hI hT hq) rfl rfl (Nat.le_of_ble_eq_true rfl) ?_
  intro v M1 he
  obtain ⟨rfl, hf, hS⟩ := he
  refine zx_aload_n dX6_stray_5 rfl ?_
  refine zx_iload_n dX6_stray_6 rfl ?_
  refine zx_i2l dX6_stray_7 ?_
  rw [zc_l3 (z := (n : Int)) (by omega), Int.toNat_natCast]
  refine zx_putl dX6_stray_8 fX6_29 ?_
  refine zx_iconst (v := zn_I 0) dX6_stray_11 rfl ?_
  refine zx_istore dX6_stray_12 rfl (Nat.le_of_ble_eq_true rfl) ?_
  refine zx_iconst (v := zn_I 0) dX6_stray_14 rfl ?_
  refine zx_istore dX6_stray_15 rfl (Nat.le_of_ble_eq_true rfl) ?_
  refine loop 0 (by omega) _ (zf_sl (zf_mono hf (by decide)) (by decide)) hS (by simp [zw_sl, zc_ms])
set_option maxRecDepth 100000 in
set_option maxHeartbeats 600000 in
theorem mX6_placeOf {l : Launch} {d : Nat} {M : zw_M} {π : zP} {τ : zQ} (hI : zI M π) (hT : zT M (zp_n π) τ) {p : Nat → Nat} (hS : zSp M τ p) {z : Int} (hz : 0 ≤ z ∧ z ≤ 7) : zw_C l (d + 1) iX6_placeOf [.ref 31, .int (zn_I z)] M (zw_i (zn_I (zv τ p z.toNat)) M) := by
  have hp := hI.1
  have h30 := zp_30 hp
  have h8 := hT.1
  refine zw_of (by decide +kernel) (Nat.le_of_ble_eq_true rfl) ?_
  refine zy_loc (L1 := [.ref 31, .int (zn_I z)]) rfl ?_
  refine zx_aload_n dX6_placeOf_0 rfl ?_
  refine zx_getr dX6_placeOf_1 fX6_19 ?_
  refine zx_iload_n dX6_placeOf_4 rfl ?_
  refine zx_callV (y1 := iX8_has) dX6_placeOf_5 lX6_23 vX8_has rc_8 (mX8_has hT (by omega)) rfl rfl (Nat.le_of_ble_eq_true rfl) ?_
  refine zk_i ?_
  refine zy_ifB_eq (tgt := 26) dX6_placeOf_8 (by decide) (fun h_8 => ?_) (fun h_8 => ?_)
  · refine zx_iconst (v := zn_I (-1)) dX6_placeOf_26 rfl ?_
    refine zx_iret (st := []) dX6_placeOf_27 rfl rfl ?_
    first | exact zk_I rfl | exact zk_I (by rw [zv, if_neg (by omega)])
  · refine zx_iload_n dX6_placeOf_11 rfl ?_
    refine zx_bipush (v := zn_I 8) dX6_placeOf_12 (by decide) ?_
    refine zy_icmp_ge (tgt := 26) dX6_placeOf_14 (by decide) (by omega) (fun h_14 => ?_) (fun h_14 => ?_)
    · exact absurd h_14 (by omega)
    · refine zx_aload_n dX6_placeOf_17 rfl ?_
      refine zx_getr dX6_placeOf_18 fX6_9 ?_
      refine zx_iload_n dX6_placeOf_21 rfl ?_
      refine zy_iald (i := z.toNat) dX6_placeOf_22 rfl (by decide) (by omega) (by omega) (hS z.toNat (by omega)) ?_
      refine zx_goto (tgt := 27) dX6_placeOf_23 (by decide) ?_
      refine zx_iret (st := []) dX6_placeOf_27 rfl rfl ?_
      first | exact zk_I rfl | exact zk_I (by rw [zv, if_neg (by omega)])
set_option maxRecDepth 100000 in
set_option maxHeartbeats 600000 in
theorem mX6_seed {l : Launch} {d : Nat} {M : zw_M} {n : Nat} (hs : M.2 31 3 = lN n) : zw_C l d iX6_seed [.ref 31] M (zw_i (zn_I (n : Int)) M) := by
  refine zw_of (by decide +kernel) (Nat.le_of_ble_eq_true rfl) ?_
  refine zy_loc (L1 := [.ref 31]) rfl ?_
  refine zx_aload_n dX6_seed_0 rfl ?_
  refine zx_getl dX6_seed_1 fX6_29 ?_
  refine zx_l2i dX6_seed_4 ?_
  rw [hs, zc_l4]
  refine zx_iret (st := []) dX6_seed_5 rfl rfl ?_
  exact ⟨rfl, rfl⟩
