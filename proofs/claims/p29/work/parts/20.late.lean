/-! LATE: the sets of people who could still have been where they were -/
theorem zb_or2 (a b : Nat) : zn_I (a : Int) ||| zn_I (b : Int) = zn_I ((a ||| b : Nat) : Int) := by
  rw [← zn_nat, ← zn_nat, ← zn_nat]
  apply Int32.toBitVec_inj.1
  show BitVec.ofNat 32 a ||| BitVec.ofNat 32 b = BitVec.ofNat 32 (a ||| b)
  apply BitVec.eq_of_getLsbD_eq
  intro i hi
  simp [hi]
theorem zb_tb (n j : Nat) : n &&& 2 ^ j = 0 ↔ n.testBit j = false := by
  constructor
  · intro e
    have h1 : (n &&& 2 ^ j).testBit j = n.testBit j := by rw [Nat.testBit_and, Nat.testBit_two_pow]; simp
    rw [e] at h1
    simpa using h1.symm
  · intro h
    apply Nat.eq_of_testBit_eq
    intro i
    rw [Nat.testBit_and, Nat.testBit_two_pow, Nat.zero_testBit]
    by_cases e : j = i
    · subst e; simp [h]
    · simp [e]
/-- what is changed by who is late -/
def zl_ce (π : zP) (τ : zQ) (q t : Nat) : Int := if t < τ.1 then zt_w τ t * (zp_e π (τ.2.2.2 t (q - 1)) - zp_e π (τ.2.2.2 t q)) else 0
def zl_cs (π : zP) (τ : zQ) (q t : Nat) : Int := if t < τ.1 then zt_w τ t * (zp_s π (τ.2.2.2 t (q - 1)) - zp_s π (τ.2.2.2 t q)) else 0
def zl_add (f : Nat → Int) (set : Nat) : Nat → Int
  | 0 => 0
  | t + 1 => zl_add f set t + (if set.testBit t = true then f t else 0)
theorem zl_add_rng {f : Nat → Int} {set : Nat} (h : ∀ t : Nat, t < 8 → -2000 ≤ f t ∧ f t ≤ 2000) : ∀ t : Nat, t ≤ 8 → -(2000 * (t : Int)) ≤ zl_add f set t ∧ zl_add f set t ≤ 2000 * (t : Int)
  | 0, _ => by simp [zl_add]
  | t + 1, q => by
    have ih := zl_add_rng (set := set) h t (by omega)
    have := h t (by omega)
    rw [zl_add]
    split <;> omega
theorem zl_c_rng {M : zw_M} {π : zP} {τ : zQ} (hp : π.1 ≤ 5 ∧ π.2.1 ≤ 6) (hT : zT M (zp_n π) τ) {q : Nat} (hq : 1 ≤ q ∧ q < 8) (t : Nat) : (-2000 ≤ zl_ce π τ q t ∧ zl_ce π τ q t ≤ 2000) ∧ -2000 ≤ zl_cs π τ q t ∧ zl_cs π τ q t ≤ 2000 := by
  unfold zl_ce zl_cs
  split
  · next h =>
    have h1 := zt_w_rng hT h
    have ho := hT.2.2.2.2.2.2.2 t h q (by omega)
    have hs := hT.2.2.2.2.2.2.2 t h (q - 1) (by omega)
    have g2 := zp_e_rng hp ho
    have g3 := zp_s_rng hp ho
    have g4 := zp_e_rng hp hs
    have g5 := zp_s_rng hp hs
    have k1 := zp_mul_rng (a := zt_w τ t) (e := zp_e π (τ.2.2.2 t q)) (B := 198) (by omega) (by omega) (by omega) (by omega)
    have k2 := zp_mul_rng (a := zt_w τ t) (e := zp_s π (τ.2.2.2 t q)) (B := 198) (by omega) (by omega) (by omega) (by omega)
    have k3 := zp_mul_rng (a := zt_w τ t) (e := zp_e π (τ.2.2.2 t (q - 1))) (B := 198) (by omega) (by omega) (by omega) (by omega)
    have k4 := zp_mul_rng (a := zt_w τ t) (e := zp_s π (τ.2.2.2 t (q - 1))) (B := 198) (by omega) (by omega) (by omega) (by omega)
    rw [Int.mul_sub, Int.mul_sub]
    omega
  · omega
/-- which doors are wet, if a set is late -/
def zl_if (π : zP) (τ : zQ) (q set : Nat) : Nat := zp_bits π (zl_E π τ q + zl_add (zl_ce π τ q) set 8) (zl_S π τ q + zl_add (zl_cs π τ q) set 8) (zp_n π)
/-- a set that counts -/
def zl_ok (π : zP) (τ : zQ) (q : Nat) (doors : Int) (set : Nat) : Bool := decide (zn_I (set : Int) &&& (zn_I (zt_pb τ τ.1 : Nat) ^^^ zn_I (-1)) = 0) && decide ((zl_if π τ q set : Int) = doors)
def zl_go (f : Nat → Bool) (pb : Nat) : Nat → Nat × Nat × Nat
  | 0 => (0, pb, 0)
  | s + 1 => if f s = true then ((zl_go f pb s).1 + 1, (zl_go f pb s).2.1 &&& s, (zl_go f pb s).2.2 ||| s) else zl_go f pb s
theorem zl_go_rng {f : Nat → Bool} {pb : Nat} (hpb : pb < 256) : ∀ s, s ≤ 256 → (zl_go f pb s).1 ≤ s ∧ (zl_go f pb s).2.1 < 256 ∧ (zl_go f pb s).2.2 < 256
  | 0, _ => by simp [zl_go, hpb]
  | s + 1, h => by
    have ih := zl_go_rng (f := f) hpb s (by omega)
    rw [zl_go]
    split
    · refine ⟨by dsimp only; omega, ?_, ?_⟩
      · exact Nat.lt_of_le_of_lt Nat.and_le_left ih.2.1
      · exact Nat.or_lt_two_pow (n := 8) ih.2.2 (by omega)
    · omega
/-- LATE of a quarter and doors: how many sets, who is in all, who is in some -/
def zl_late (π : zP) (τ : zQ) (q : Nat) (doors : Int) : Nat × Nat × Nat := zl_go (zl_ok π τ q doors) (zt_pb τ τ.1) (zt_pb τ τ.1 + 1)
def zl_ans (π : zP) (τ : zQ) (q : Nat) (doors : Int) (j : Nat) : Nat := if j = 0 then (zl_late π τ q doors).1 else if j = 1 then (if (zl_late π τ q doors).1 = 0 then 0 else (zl_late π τ q doors).2.1) else (zl_late π τ q doors).2.2
set_option maxRecDepth 100000 in
set_option maxHeartbeats 600000 in
theorem mX2_found {l : zw_Lh} {d : Nat} {M : zw_M} {f : Nat → Int32} (hf : ∀ j, j < 3 → M.1 28 j = f j) {j : Nat} (hj : j < 3) : zw_C l d iX2_found [.ref 27, .int (zn_I (j : Int))] M (zw_i (f j) M) := by
  refine zw_of (by decide +kernel) (Nat.le_of_ble_eq_true rfl) ?_
  refine zy_loc (L1 := [.ref 27, .int (zn_I (j : Int))]) rfl ?_
  refine zx_iload_n dX2_found_0 rfl ?_
  refine zy_if_lt (tgt := 18) dX2_found_1 (by decide) (by omega) (fun h_1 => ?_) (fun h_1 => ?_)
  · exact absurd h_1 (by omega)
  · refine zx_iload_n dX2_found_4 rfl ?_
    refine zx_iconst (v := zn_I 3) dX2_found_5 rfl ?_
    refine zy_icmp_ge (tgt := 18) dX2_found_6 (by decide) (by omega) (fun h_6 => ?_) (fun h_6 => ?_)
    · exact absurd h_6 (by omega)
    · refine zx_aload_n dX2_found_9 rfl ?_
      refine zx_getr dX2_found_10 fX2_11 ?_
      refine zx_iload_n dX2_found_13 rfl ?_
      refine zy_iald dX2_found_14 rfl (by decide) rfl (by omega) ((hf j hj)) ?_
      refine zx_goto (tgt := 19) dX2_found_15 (by decide) ?_
      refine zx_iret (st := []) dX2_found_19 rfl rfl ?_
      exact ⟨rfl, rfl⟩
set_option maxRecDepth 100000 in
set_option maxHeartbeats 600000 in
theorem mX2_measureChanges {l : zw_Lh} {d : Nat} {M : zw_M} {π : zP} {τ : zQ} (hI : zI M π) (hT : zT M (zp_n π) τ) {q : Nat} (hq : 1 ≤ q ∧ q < 8) : zw_C l (d + 2) iX2_measureChanges [.ref 27, .int (zn_I (q : Int))] M (fun v M1 => v = none ∧ zw_fr [29, 30] M M1 ∧ ∀ t, t < 8 → M1.1 29 t = zn_I (zl_ce π τ q t) ∧ M1.1 30 t = zn_I (zl_cs π τ q t)) := by
  have hp := hI.1
  have h30 := zp_30 hp
  have h8 := hT.1
  refine zw_of (by decide +kernel) (Nat.le_of_ble_eq_true rfl) ?_
  refine zy_loc (L1 := [.ref 27, .int (zn_I (q : Int)), .retAddr 0, .retAddr 0, .retAddr 0, .retAddr 0]) rfl ?_
  have loop : ∀ s : Nat, s ≤ 8 → ∀ (M1 : zw_M) (v3 v4 v5 : Value), zw_fr [29, 30] M M1 → (∀ t, t < s → M1.1 29 t = zn_I (zl_ce π τ q t) ∧ M1.1 30 t = zn_I (zl_cs π τ q t)) → zw_X l (d + 2) iX2_measureChanges (fun v M1 => v = none ∧ zw_fr [29, 30] M M1 ∧ ∀ t, t < 8 → M1.1 29 t = zn_I (zl_ce π τ q t) ∧ M1.1 30 t = zn_I (zl_cs π τ q t)) 2 [.ref 27, .int (zn_I (q : Int)), .int (zn_I (s : Int)), v3, v4, v5] [] M1 := by
    refine zw_loop 8 (P := fun s => ∀ (M1 : zw_M) (v3 v4 v5 : Value), zw_fr [29, 30] M M1 → (∀ t, t < s → M1.1 29 t = zn_I (zl_ce π τ q t) ∧ M1.1 30 t = zn_I (zl_cs π τ q t)) → zw_X l (d + 2) iX2_measureChanges (fun v M1 => v = none ∧ zw_fr [29, 30] M M1 ∧ ∀ t, t < 8 → M1.1 29 t = zn_I (zl_ce π τ q t) ∧ M1.1 30 t = zn_I (zl_cs π τ q t)) 2 [.ref 27, .int (zn_I (q : Int)), .int (zn_I (s : Int)), v3, v4, v5] [] M1) (fun s hs ih M1 v3 v4 v5 hf hc => ?_)
    have hI1 := zI_f hf hI (by decide)
    have hT1 := zT_f hf hT (by decide)
    have pl1 : -1 ≤ zt_place τ (s : Int) (q : Int) ∧ zt_place τ (s : Int) (q : Int) < 30 := by
      unfold zt_place
      split
      · have := hT.2.2.2.2.2.2.2 (s : Int).toNat (by omega) (q : Int).toNat (by omega); omega
      · omega
    have pl2 : -1 ≤ zt_place τ (s : Int) ((q : Int) - 1) ∧ zt_place τ (s : Int) ((q : Int) - 1) < 30 := by
      unfold zt_place
      split
      · have := hT.2.2.2.2.2.2.2 (s : Int).toNat (by omega) ((q : Int) - 1).toNat (by omega); omega
      · omega
    have ee : zt_weighs τ (s : Int) * (zp_at π (zp_e π) (zt_place τ (s : Int) ((q : Int) - 1)) - zp_at π (zp_e π) (zt_place τ (s : Int) (q : Int))) = zl_ce π τ q s ∧ zt_weighs τ (s : Int) * (zp_at π (zp_s π) (zt_place τ (s : Int) ((q : Int) - 1)) - zp_at π (zp_s π) (zt_place τ (s : Int) (q : Int))) = zl_cs π τ q s := by
      unfold zl_ce zl_cs
      rcases Nat.lt_or_ge s τ.1 with r | r
      · have e1 : (q : Int) - 1 = ((q - 1 : Nat) : Int) := by omega
        rw [e1, zt_weighs_in r, zt_place_in r hq.2, zt_place_in r (show q - 1 < 8 by omega), zp_at_in (hT.2.2.2.2.2.2.2 s r q hq.2), zp_at_in (hT.2.2.2.2.2.2.2 s r (q - 1) (by omega)), zp_at_in (hT.2.2.2.2.2.2.2 s r q hq.2), zp_at_in (hT.2.2.2.2.2.2.2 s r (q - 1) (by omega)), if_pos r, if_pos r]
        exact ⟨rfl, rfl⟩
      · rw [zt_weighs_out r, if_neg (by omega), if_neg (by omega)]
        simp
    refine zx_iload_n dX2_measureChanges_2 rfl ?_
    refine zx_bipush (v := zn_I 8) dX2_measureChanges_3 (by decide) ?_
    refine zy_icmp_ge (tgt := 101) dX2_measureChanges_5 (by decide) (by omega) (fun h_5 => ?_) (fun h_5 => ?_)
    · refine zx_vret (st := []) dX2_measureChanges_101 rfl ?_
      exact ⟨rfl, hf, fun t ht => hc t (by omega)⟩
    · refine zx_aload_n dX2_measureChanges_8 rfl ?_
      refine zx_getr dX2_measureChanges_9 fX2_25 ?_
      refine zx_iload_n dX2_measureChanges_12 rfl ?_
      refine zx_iload_n dX2_measureChanges_13 rfl ?_
      refine zx_callV (y1 := iX8_place) dX2_measureChanges_14 lX2_56 vX8_place rc_8 (mX8_place hT1 (z := (s : Int)) (q := (q : Int)) (by omega) (by omega)) rfl rfl (Nat.le_of_ble_eq_true rfl) ?_
      refine zk_i ?_
      refine zx_istore_n dX2_measureChanges_17 rfl (Nat.le_of_ble_eq_true rfl) ?_
      refine zx_aload_n dX2_measureChanges_18 rfl ?_
      refine zx_getr dX2_measureChanges_19 fX2_25 ?_
      refine zx_iload_n dX2_measureChanges_22 rfl ?_
      refine zx_iload_n dX2_measureChanges_23 rfl ?_
      refine zx_iconst (v := zn_I 1) dX2_measureChanges_24 rfl ?_
      refine zy_isub dX2_measureChanges_25 ?_
      refine zx_callV (y1 := iX8_place) dX2_measureChanges_26 lX2_56 vX8_place rc_8 (mX8_place hT1 (z := (s : Int)) (q := (q : Int) - 1) (by omega) (by omega)) rfl rfl (Nat.le_of_ble_eq_true rfl) ?_
      refine zk_i ?_
      refine zx_istore dX2_measureChanges_29 rfl (Nat.le_of_ble_eq_true rfl) ?_
      refine zx_aload_n dX2_measureChanges_31 rfl ?_
      refine zx_getr dX2_measureChanges_32 fX2_25 ?_
      refine zx_iload_n dX2_measureChanges_35 rfl ?_
      refine zx_callV (y1 := iX8_weighs) dX2_measureChanges_36 lX2_60 vX8_weighs rc_8 (mX8_weighs hT1 (z := (s : Int)) (by omega)) rfl rfl (Nat.le_of_ble_eq_true rfl) ?_
      refine zk_i ?_
      refine zx_istore dX2_measureChanges_39 rfl (Nat.le_of_ble_eq_true rfl) ?_
      refine zx_aload_n dX2_measureChanges_41 rfl ?_
      refine zx_getr dX2_measureChanges_42 fX2_15 ?_
      refine zx_iload_n dX2_measureChanges_45 rfl ?_
      refine zx_iload dX2_measureChanges_46 rfl ?_
      refine zx_aload_n dX2_measureChanges_48 rfl ?_
      refine zx_getr dX2_measureChanges_49 fX2_21 ?_
      refine zx_iload dX2_measureChanges_52 rfl ?_
      refine zx_callV (y1 := iX1_east) dX2_measureChanges_54 lX2_63 vX1_east rc_4 (mX1_east hI1 (by omega)) rfl rfl (Nat.le_of_ble_eq_true rfl) ?_
      refine zk_i ?_
      refine zx_aload_n dX2_measureChanges_57 rfl ?_
      refine zx_getr dX2_measureChanges_58 fX2_21 ?_
      refine zx_iload_n dX2_measureChanges_61 rfl ?_
      refine zx_callV (y1 := iX1_east) dX2_measureChanges_62 lX2_63 vX1_east rc_4 (mX1_east hI1 (by omega)) rfl rfl (Nat.le_of_ble_eq_true rfl) ?_
      refine zk_i ?_
      refine zy_isub dX2_measureChanges_65 ?_
      refine zy_imul dX2_measureChanges_66 ?_
      rw [ee.1]
      refine zy_iast dX2_measureChanges_67 rfl (by decide) rfl (by omega) ?_
      refine zx_aload_n dX2_measureChanges_68 rfl ?_
      refine zx_getr dX2_measureChanges_69 fX2_18 ?_
      refine zx_iload_n dX2_measureChanges_72 rfl ?_
      refine zx_iload dX2_measureChanges_73 rfl ?_
      refine zx_aload_n dX2_measureChanges_75 rfl ?_
      refine zx_getr dX2_measureChanges_76 fX2_21 ?_
      refine zx_iload dX2_measureChanges_79 rfl ?_
      refine zx_callV (y1 := iX1_south) dX2_measureChanges_81 lX2_68 vX1_south rc_4 (mX1_south (zI_f (zf_s hf (by decide)) hI (by decide)) (by omega)) rfl rfl (Nat.le_of_ble_eq_true rfl) ?_
      refine zk_i ?_
      refine zx_aload_n dX2_measureChanges_84 rfl ?_
      refine zx_getr dX2_measureChanges_85 fX2_21 ?_
      refine zx_iload_n dX2_measureChanges_88 rfl ?_
      refine zx_callV (y1 := iX1_south) dX2_measureChanges_89 lX2_68 vX1_south rc_4 (mX1_south (zI_f (zf_s hf (by decide)) hI (by decide)) (by omega)) rfl rfl (Nat.le_of_ble_eq_true rfl) ?_
      refine zk_i ?_
      refine zy_isub dX2_measureChanges_92 ?_
      refine zy_imul dX2_measureChanges_93 ?_
      rw [ee.2]
      refine zy_iast dX2_measureChanges_94 rfl (by decide) rfl (by omega) ?_
      refine zy_iinc dX2_measureChanges_95 rfl rfl ?_
      refine zx_goto (tgt := 2) dX2_measureChanges_98 (by decide) ?_
      refine ih (by omega) _ _ _ _ (zf_s (zf_s hf (by decide)) (by decide)) (fun t ht => ?_)
      by_cases e : t = s
      · subst e; refine ⟨?_, ?_⟩ <;> simp [zw_s]
      · have := hc t (by omega)
        refine ⟨?_, ?_⟩ <;> simp [zw_s, e, this.1, this.2]
  refine zx_iconst (v := zn_I 0) dX2_measureChanges_0 rfl ?_
  refine zx_istore_n dX2_measureChanges_1 rfl (Nat.le_of_ble_eq_true rfl) ?_
  exact loop 0 (by omega) M _ _ _ zf_rf (fun t ht => absurd ht (by omega))
set_option maxRecDepth 100000 in
set_option maxHeartbeats 600000 in
theorem mX2_wetDoorsIfLate {l : zw_Lh} {d : Nat} {M : zw_M} {π : zP} (hI : zI M π) {f g : Nat → Int} (hc : ∀ t, t < 8 → (M.1 29 t = zn_I (f t) ∧ M.1 30 t = zn_I (g t)) ∧ (-2000 ≤ f t ∧ f t ≤ 2000) ∧ -2000 ≤ g t ∧ g t ≤ 2000) {set : Nat} (hset : set < 256) {E S : Int} (hE : -100000 ≤ E ∧ E ≤ 100000) (hS : -100000 ≤ S ∧ S ≤ 100000) : zw_C l (d + 1) iX2_wetDoorsIfLate [.ref 27, .int (zn_I (set : Int)), .int (zn_I E), .int (zn_I S)] M (zw_i (zn_I (zp_bits π (E + zl_add f set 8) (S + zl_add g set 8) (zp_n π) : Nat)) M) := by
  have r1 := zl_add_rng (set := set) (fun t ht => (hc t ht).2.1) 8 (Nat.le_refl 8)
  have r2 := zl_add_rng (set := set) (fun t ht => (hc t ht).2.2) 8 (Nat.le_refl 8)
  refine zw_of (by decide +kernel) (Nat.le_of_ble_eq_true rfl) ?_
  refine zy_loc (L1 := [.ref 27, .int (zn_I (set : Int)), .int (zn_I E), .int (zn_I S), .retAddr 0, .retAddr 0, .retAddr 0]) rfl ?_
  have loop : ∀ t : Nat, t ≤ 8 → zw_X l (d + 1) iX2_wetDoorsIfLate (zw_i (zn_I (zp_bits π (E + zl_add f set 8) (S + zl_add g set 8) (zp_n π) : Nat)) M) 9 [.ref 27, .int (zn_I (set : Int)), .int (zn_I E), .int (zn_I S), .int (zn_I (E + zl_add f set t)), .int (zn_I (S + zl_add g set t)), .int (zn_I (t : Int))] [] M := by
    refine zw_loop 8 (P := fun t => zw_X l (d + 1) iX2_wetDoorsIfLate (zw_i (zn_I (zp_bits π (E + zl_add f set 8) (S + zl_add g set 8) (zp_n π) : Nat)) M) 9 [.ref 27, .int (zn_I (set : Int)), .int (zn_I E), .int (zn_I S), .int (zn_I (E + zl_add f set t)), .int (zn_I (S + zl_add g set t)), .int (zn_I (t : Int))] [] M) (fun t ht ih => ?_)
    refine zx_iload dX2_wetDoorsIfLate_9 rfl ?_
    refine zx_bipush (v := zn_I 8) dX2_wetDoorsIfLate_11 (by decide) ?_
    refine zy_icmp_ge (tgt := 55) dX2_wetDoorsIfLate_13 (by decide) (by omega) (fun h_13 => ?_) (fun h_13 => ?_)
    · have et : t = 8 := by omega
      subst et
      refine zx_aload_n dX2_wetDoorsIfLate_55 rfl ?_
      refine zx_getr dX2_wetDoorsIfLate_56 fX2_21 ?_
      refine zx_iload dX2_wetDoorsIfLate_59 rfl ?_
      refine zx_iload dX2_wetDoorsIfLate_61 rfl ?_
      refine zx_callV (y1 := iX1_wetDoors) dX2_wetDoorsIfLate_63 lX2_71 vX1_wetDoors rc_4 (mX1_wetDoors hI (by omega) (by omega)) rfl rfl (Nat.le_of_ble_eq_true rfl) ?_
      refine zk_i ?_
      refine zx_iret (st := []) dX2_wetDoorsIfLate_66 rfl rfl ?_
      exact ⟨rfl, rfl⟩
    · refine zx_iload_n dX2_wetDoorsIfLate_16 rfl ?_
      refine zx_iconst (v := zn_I 1) dX2_wetDoorsIfLate_17 rfl ?_
      refine zx_iload dX2_wetDoorsIfLate_18 rfl ?_
      refine zx_ishl dX2_wetDoorsIfLate_20 ?_
      refine zy_top (show _ = zn_I ((2 ^ t : Nat) : Int) from by rw [zb_one t (by omega), zn_nat]) ?_
      refine zx_iand dX2_wetDoorsIfLate_21 ?_
      refine zy_top (zb_and _ _) ?_
      have hml : set &&& 2 ^ t ≤ 2 ^ t := Nat.and_le_right
      have h26 : 2 ^ t ≤ 2 ^ 8 := Nat.pow_le_pow_right (by decide) (by omega)
      have htb := zb_tb set t
      refine zy_if_eq (tgt := 49) dX2_wetDoorsIfLate_22 (by decide) (by omega) (fun h_22 => ?_) (fun h_22 => ?_)
      · refine zy_iinc dX2_wetDoorsIfLate_49 rfl rfl ?_
        refine zx_goto (tgt := 9) dX2_wetDoorsIfLate_52 (by decide) ?_
        have e1 : zl_add f set (t + 1) = zl_add f set t := by rw [zl_add, if_neg (by rw [htb.mp (by omega)]; decide), Int.add_zero]
        have e2 : zl_add g set (t + 1) = zl_add g set t := by rw [zl_add, if_neg (by rw [htb.mp (by omega)]; decide), Int.add_zero]
        have h9 := ih (by omega)
        rw [e1, e2] at h9
        exact h9
      · refine zx_iload dX2_wetDoorsIfLate_25 rfl ?_
        refine zx_aload_n dX2_wetDoorsIfLate_27 rfl ?_
        refine zx_getr dX2_wetDoorsIfLate_28 fX2_15 ?_
        refine zx_iload dX2_wetDoorsIfLate_31 rfl ?_
        refine zy_iald dX2_wetDoorsIfLate_33 rfl (by decide) rfl (by omega) ((hc t (by omega)).1.1) ?_
        refine zy_iadd dX2_wetDoorsIfLate_34 ?_
        refine zx_istore dX2_wetDoorsIfLate_35 rfl (Nat.le_of_ble_eq_true rfl) ?_
        refine zx_iload dX2_wetDoorsIfLate_37 rfl ?_
        refine zx_aload_n dX2_wetDoorsIfLate_39 rfl ?_
        refine zx_getr dX2_wetDoorsIfLate_40 fX2_18 ?_
        refine zx_iload dX2_wetDoorsIfLate_43 rfl ?_
        refine zy_iald dX2_wetDoorsIfLate_45 rfl (by decide) rfl (by omega) ((hc t (by omega)).1.2) ?_
        refine zy_iadd dX2_wetDoorsIfLate_46 ?_
        refine zx_istore dX2_wetDoorsIfLate_47 rfl (Nat.le_of_ble_eq_true rfl) ?_
        refine zy_iinc dX2_wetDoorsIfLate_49 rfl rfl ?_
        refine zx_goto (tgt := 9) dX2_wetDoorsIfLate_52 (by decide) ?_
        have htt : set.testBit t = true := by
          cases e : set.testBit t with
          | true => rfl
          | false => exact absurd (htb.mpr e) (by omega)
        have e1 : E + zl_add f set (t + 1) = E + zl_add f set t + f t := by rw [zl_add, if_pos htt, Int.add_assoc]
        have e2 : S + zl_add g set (t + 1) = S + zl_add g set t + g t := by rw [zl_add, if_pos htt, Int.add_assoc]
        have h9 := ih (by omega)
        rw [e1, e2] at h9
        exact h9
  refine zx_iload_n dX2_wetDoorsIfLate_0 rfl ?_
  refine zx_istore dX2_wetDoorsIfLate_1 rfl (Nat.le_of_ble_eq_true rfl) ?_
  refine zx_iload_n dX2_wetDoorsIfLate_3 rfl ?_
  refine zx_istore dX2_wetDoorsIfLate_4 rfl (Nat.le_of_ble_eq_true rfl) ?_
  refine zx_iconst (v := zn_I 0) dX2_wetDoorsIfLate_6 rfl ?_
  refine zx_istore dX2_wetDoorsIfLate_7 rfl (Nat.le_of_ble_eq_true rfl) ?_
  have h9 := loop 0 (by omega)
  rw [show E + zl_add f set 0 = E from Int.add_zero E, show S + zl_add g set 0 = S from Int.add_zero S] at h9
  exact h9
set_option maxRecDepth 100000 in
set_option maxHeartbeats 600000 in
theorem mX2_search {l : zw_Lh} {d : Nat} {M : zw_M} {π : zP} {τ : zQ} (hI : zI M π) (hT : zT M (zp_n π) τ) {q : Nat} (hq : 1 ≤ q ∧ q < 8) {doors : Int} (hdo : 0 ≤ doors ∧ doors < 1073741824) : zw_C l (d + 4) iX2_search [.ref 27, .int (zn_I (q : Int)), .int (zn_I doors)] M (fun v M1 => v = none ∧ zw_fr [28, 29, 30] M M1 ∧ ∀ j, j < 3 → M1.1 28 j = zn_I (zl_ans π τ q doors j : Nat)) := by
  have hp := hI.1
  have h30 := zp_30 hp
  have h8 := hT.1
  refine zw_of (by decide +kernel) (Nat.le_of_ble_eq_true rfl) ?_
  refine zy_loc (L1 := [.ref 27, .int (zn_I (q : Int)), .int (zn_I doors), .retAddr 0, .retAddr 0, .retAddr 0, .retAddr 0, .retAddr 0, .retAddr 0, .retAddr 0]) rfl ?_
  refine zx_aload_n dX2_search_0 rfl ?_
  refine zx_iload_n dX2_search_1 rfl ?_
  refine zx_callV (y1 := iX2_measureChanges) dX2_search_2 lX2_33 vX2_measureChanges rc_27 (mX2_measureChanges hI hT hq) rfl rfl (Nat.le_of_ble_eq_true rfl) ?_
  intro v M1 he
  obtain ⟨rfl, hf, hc⟩ := he
  have hI1 := zI_f hf hI (by decide)
  have hT1 := zT_f hf hT (by decide)
  have hpb := zt_pb_8 hT
  have hlr := zl_rng hp hT hq.2
  have loop : ∀ s : Nat, s ≤ zt_pb τ τ.1 + 1 → zw_X l (d + 4) iX2_search (fun v M1 => v = none ∧ zw_fr [28, 29, 30] M M1 ∧ ∀ j, j < 3 → M1.1 28 j = zn_I (zl_ans π τ q doors j : Nat)) 45 [.ref 27, .int (zn_I (q : Int)), .int (zn_I doors), .int (zn_I (zt_pb τ τ.1 : Nat)), .int (zn_I (zl_E π τ q)), .int (zn_I (zl_S π τ q)), .int (zn_I ((zl_go (zl_ok π τ q doors) (zt_pb τ τ.1) s).1 : Nat)), .int (zn_I ((zl_go (zl_ok π τ q doors) (zt_pb τ τ.1) s).2.1 : Nat)), .int (zn_I ((zl_go (zl_ok π τ q doors) (zt_pb τ τ.1) s).2.2 : Nat)), .int (zn_I (s : Int))] [] M1 := by
    refine zw_loop (zt_pb τ τ.1 + 1) (P := fun s => zw_X l (d + 4) iX2_search (fun v M1 => v = none ∧ zw_fr [28, 29, 30] M M1 ∧ ∀ j, j < 3 → M1.1 28 j = zn_I (zl_ans π τ q doors j : Nat)) 45 [.ref 27, .int (zn_I (q : Int)), .int (zn_I doors), .int (zn_I (zt_pb τ τ.1 : Nat)), .int (zn_I (zl_E π τ q)), .int (zn_I (zl_S π τ q)), .int (zn_I ((zl_go (zl_ok π τ q doors) (zt_pb τ τ.1) s).1 : Nat)), .int (zn_I ((zl_go (zl_ok π τ q doors) (zt_pb τ τ.1) s).2.1 : Nat)), .int (zn_I ((zl_go (zl_ok π τ q doors) (zt_pb τ τ.1) s).2.2 : Nat)), .int (zn_I (s : Int))] [] M1) (fun s hs ih => ?_)
    have hgr := zl_go_rng (f := zl_ok π τ q doors) hpb s (by omega)
    refine zx_iload dX2_search_45 rfl ?_
    refine zx_iload_n dX2_search_47 rfl ?_
    refine zy_icmp_gt (tgt := 97) dX2_search_48 (by decide) (by omega) (fun h_48 => ?_) (fun h_48 => ?_)
    · have es : s = zt_pb τ τ.1 + 1 := by omega
      subst es
      refine zx_aload_n dX2_search_97 rfl ?_
      refine zx_getr dX2_search_98 fX2_11 ?_
      refine zx_iconst (v := zn_I 0) dX2_search_101 rfl ?_
      refine zx_iload dX2_search_102 rfl ?_
      refine zy_iast (i := 0) dX2_search_104 rfl (by decide) (by omega) (by omega) ?_
      refine zx_aload_n dX2_search_105 rfl ?_
      refine zx_getr dX2_search_106 fX2_11 ?_
      refine zx_iconst (v := zn_I 1) dX2_search_109 rfl ?_
      refine zx_iload dX2_search_110 rfl ?_
      refine zy_if_ne (tgt := 119) dX2_search_112 (by decide) (by omega) (fun h_112 => ?_) (fun h_112 => ?_)
      · refine zx_iload dX2_search_119 rfl ?_
        refine zy_iast (i := 1) dX2_search_121 rfl (by decide) (by omega) (by omega) ?_
        refine zx_aload_n dX2_search_122 rfl ?_
        refine zx_getr dX2_search_123 fX2_11 ?_
        refine zx_iconst (v := zn_I 2) dX2_search_126 rfl ?_
        refine zx_iload dX2_search_127 rfl ?_
        refine zy_iast (i := 2) dX2_search_129 rfl (by decide) (by omega) (by omega) ?_
        refine zx_vret (st := []) dX2_search_130 rfl ?_
        refine ⟨rfl, zf_s (zf_s (zf_s (zf_mono hf (by decide)) (by decide)) (by decide)) (by decide), fun j hj => ?_⟩
        have hn : ¬ (zl_late π τ q doors).1 = 0 := by unfold zl_late; omega
        rcases (show j = 0 ∨ j = 1 ∨ j = 2 by omega) with e | e | e <;> subst e <;> simp [zw_s, zl_ans, hn] <;> rfl
      · refine zx_iconst (v := zn_I 0) dX2_search_115 rfl ?_
        refine zx_goto (tgt := 121) dX2_search_116 (by decide) ?_
        refine zy_iast (i := 1) dX2_search_121 rfl (by decide) (by omega) (by omega) ?_
        refine zx_aload_n dX2_search_122 rfl ?_
        refine zx_getr dX2_search_123 fX2_11 ?_
        refine zx_iconst (v := zn_I 2) dX2_search_126 rfl ?_
        refine zx_iload dX2_search_127 rfl ?_
        refine zy_iast (i := 2) dX2_search_129 rfl (by decide) (by omega) (by omega) ?_
        refine zx_vret (st := []) dX2_search_130 rfl ?_
        refine ⟨rfl, zf_s (zf_s (zf_s (zf_mono hf (by decide)) (by decide)) (by decide)) (by decide), fun j hj => ?_⟩
        have hn : (zl_late π τ q doors).1 = 0 := by unfold zl_late; omega
        rcases (show j = 0 ∨ j = 1 ∨ j = 2 by omega) with e | e | e
        · subst e; simp [zw_s, zl_ans]; rfl
        · subst e; simp [zw_s, zl_ans, hn]
        · subst e; simp [zw_s, zl_ans]; rfl
    · refine zx_iload dX2_search_51 rfl ?_
      refine zx_iload_n dX2_search_53 rfl ?_
      refine zx_iconst (v := zn_I (-1)) dX2_search_54 rfl ?_
      refine zx_ixor dX2_search_55 ?_
      refine zx_iand dX2_search_56 ?_
      refine zx_if_ne (tgt := 91) dX2_search_57 (by decide) (fun h_57 => ?_) (fun h_57 => ?_)
      · refine zy_iinc dX2_search_91 rfl rfl ?_
        refine zx_goto (tgt := 45) dX2_search_94 (by decide) ?_
        have hok : zl_ok π τ q doors s = false := by unfold zl_ok; rw [decide_eq_false h_57]; rfl
        have h9 := ih (by omega)
        rw [zl_go, if_neg (by rw [hok]; decide)] at h9
        exact h9
      · refine zx_aload_n dX2_search_60 rfl ?_
        refine zx_iload dX2_search_61 rfl ?_
        refine zx_iload dX2_search_63 rfl ?_
        refine zx_iload dX2_search_65 rfl ?_
        refine zx_callV (y1 := iX2_wetDoorsIfLate) dX2_search_67 lX2_52 vX2_wetDoorsIfLate rc_27 (mX2_wetDoorsIfLate hI1 (f := zl_ce π τ q) (g := zl_cs π τ q) (fun t ht => ⟨hc t ht, zl_c_rng hp hT hq t⟩) (set := s) (by omega) (by omega) (by omega)) rfl rfl (Nat.le_of_ble_eq_true rfl) ?_
        refine zk_i ?_
        refine zx_iload_n dX2_search_70 rfl ?_
        refine zy_icmp_ne (tgt := 91) dX2_search_71 (by decide) (by have := zp_bits_30 hp (zl_E π τ q + zl_add (zl_ce π τ q) s 8) (zl_S π τ q + zl_add (zl_cs π τ q) s 8); omega) (fun h_71 => ?_) (fun h_71 => ?_)
        · refine zy_iinc dX2_search_91 rfl rfl ?_
          refine zx_goto (tgt := 45) dX2_search_94 (by decide) ?_
          have hok : zl_ok π τ q doors s = false := by unfold zl_ok; rw [decide_eq_false (p := (zl_if π τ q s : Int) = doors) h_71, Bool.and_false]
          have h9 := ih (by omega)
          rw [zl_go, if_neg (by rw [hok]; decide)] at h9
          exact h9
        · refine zy_iinc dX2_search_74 rfl rfl ?_
          refine zx_iload dX2_search_77 rfl ?_
          refine zx_iload dX2_search_79 rfl ?_
          refine zx_iand dX2_search_81 ?_
          refine zy_top (zb_and _ _) ?_
          refine zx_istore dX2_search_82 rfl (Nat.le_of_ble_eq_true rfl) ?_
          refine zx_iload dX2_search_84 rfl ?_
          refine zx_iload dX2_search_86 rfl ?_
          refine zx_ior dX2_search_88 ?_
          refine zy_top (zb_or2 _ _) ?_
          refine zx_istore dX2_search_89 rfl (Nat.le_of_ble_eq_true rfl) ?_
          refine zy_iinc dX2_search_91 rfl rfl ?_
          refine zx_goto (tgt := 45) dX2_search_94 (by decide) ?_
          have hok : zl_ok π τ q doors s = true := by unfold zl_ok; rw [decide_eq_true h_57, decide_eq_true (p := (zl_if π τ q s : Int) = doors) h_71]; rfl
          have h9 := ih (by omega)
          rw [zl_go, if_pos hok] at h9
          exact h9
  refine zx_aload_n dX2_search_5 rfl ?_
  refine zx_getr dX2_search_6 fX2_25 ?_
  refine zx_callV (y1 := iX8_peopleBits) dX2_search_9 lX2_37 vX8_peopleBits rc_8 (mX8_peopleBits hT1) rfl rfl (Nat.le_of_ble_eq_true rfl) ?_
  refine zk_i ?_
  refine zx_istore_n dX2_search_12 rfl (Nat.le_of_ble_eq_true rfl) ?_
  refine zx_aload_n dX2_search_13 rfl ?_
  refine zx_getr dX2_search_14 fX2_29 ?_
  refine zx_iload_n dX2_search_17 rfl ?_
  refine zx_callV (y1 := iX0_leanEast) dX2_search_18 lX2_43 vX0_leanEast rc_13 (mX0_leanEast hI1 hT1 hq.2) rfl rfl (Nat.le_of_ble_eq_true rfl) ?_
  refine zk_i ?_
  refine zx_istore dX2_search_21 rfl (Nat.le_of_ble_eq_true rfl) ?_
  refine zx_aload_n dX2_search_23 rfl ?_
  refine zx_getr dX2_search_24 fX2_29 ?_
  refine zx_iload_n dX2_search_27 rfl ?_
  refine zx_callV (y1 := iX0_leanSouth) dX2_search_28 lX2_49 vX0_leanSouth rc_13 (mX0_leanSouth hI1 hT1 hq.2) rfl rfl (Nat.le_of_ble_eq_true rfl) ?_
  refine zk_i ?_
  refine zx_istore dX2_search_31 rfl (Nat.le_of_ble_eq_true rfl) ?_
  refine zx_iconst (v := zn_I 0) dX2_search_33 rfl ?_
  refine zx_istore dX2_search_34 rfl (Nat.le_of_ble_eq_true rfl) ?_
  refine zx_iload_n dX2_search_36 rfl ?_
  refine zx_istore dX2_search_37 rfl (Nat.le_of_ble_eq_true rfl) ?_
  refine zx_iconst (v := zn_I 0) dX2_search_39 rfl ?_
  refine zx_istore dX2_search_40 rfl (Nat.le_of_ble_eq_true rfl) ?_
  refine zx_iconst (v := zn_I 0) dX2_search_42 rfl ?_
  refine zx_istore dX2_search_43 rfl (Nat.le_of_ble_eq_true rfl) ?_
  exact loop 0 (by omega)
