/-! the class's own methods, the others -/
theorem zwet_30 {π : zP} (hp : π.1 ≤ 5 ∧ π.2.1 ≤ 6) (τ : zQ) (q : Nat) : zwet π τ q < 1073741824 := zp_bits_30 hp _ _
theorem zC_b {M M1 : zw_M} {σ : zZ} {x y z : Nat} {κ : zK} {S : List Nat} (h : zw_fr S M M1) (hC : zC_ M σ) (hS : ∀ p ∈ [1, 2, 4, 5, 6, 7, 8, 9, 10, 11], p ∉ S) (h1 : M1.1 0 10 = zn_I (x : Int) ∧ M1.1 0 11 = zn_I (y : Int) ∧ M1.1 0 12 = zn_I (z : Int)) (hk : zKc M1 κ) : zC_ M1 (σ.1, σ.2.1, σ.2.2.1, (x, y, z), κ) :=
  ⟨zI_f h hC.1 (fun p hp => hS p (by simp at hp ⊢; omega)), zT_f h hC.2.1 (fun p hp => hS p (by simp at hp ⊢; omega)), zG_f h hC.2.2.1 (fun p hp => hS p (by simp at hp ⊢; omega)), h1, hk⟩
set_option maxRecDepth 100000 in
set_option maxHeartbeats 600000 in
theorem mX10_leans {l : zw_Lh} {d : Nat} {M : zw_M} {σ : zZ} (hC : zC_ M σ) {q : Int} (hqq : -2147483648 ≤ q ∧ q < 2147483648) {w : Int} (hww : -2147483648 ≤ w ∧ w < 2147483648) : zw_C l (d + 4) iX10_leans [.ref 0, .int (zn_I q), .int (zn_I w)] M (zO (zn_I (zk_leans σ q w)) σ M) := by
  obtain ⟨hI, hT, hG, ⟨ha, hb, hc⟩, hk⟩ := id hC
  have hp := hI.1
  have h30 := zp_30 hp
  have h8 := hT.1
  refine zw_of (by decide +kernel) (Nat.le_of_ble_eq_true rfl) ?_
  refine zy_loc (L1 := [.ref 0, .int (zn_I q), .int (zn_I w)]) rfl ?_
  refine zx_iload_n dX10_leans_0 rfl ?_
  refine zx_callS (y1 := iX10_isQuarter) dX10_leans_1 lX10_171 sX10_isQuarter (mX10_isQuarter hqq) rfl rfl (Nat.le_of_ble_eq_true rfl) ?_
  refine zk_i ?_
  refine zy_ifB_ne (tgt := 10) dX10_leans_4 (by decide) (fun h_4 => ?_) (fun h_4 => ?_)
  · obtain ⟨q, rfl⟩ : ∃ n : Nat, q = (n : Int) := ⟨q.toNat, by omega⟩
    refine zx_iload_n dX10_leans_10 rfl ?_
    refine zy_if_ne (tgt := 23) dX10_leans_11 (by decide) (by omega) (fun h_11 => ?_) (fun h_11 => ?_)
    · refine zx_iload_n dX10_leans_23 rfl ?_
      refine zx_iconst (v := zn_I 1) dX10_leans_24 rfl ?_
      refine zy_icmp_ne (tgt := 39) dX10_leans_25 (by decide) (by omega) (fun h_25 => ?_) (fun h_25 => ?_)
      · refine zx_ldc dX10_leans_39 kX10_140 ?_
        refine zy_top (show (-100102 : Int32) = zn_I (-100102) from by decide) ?_
        refine zx_iret (st := []) dX10_leans_41 rfl rfl ?_
        exact zO_i hC (by simp only [zk_leans, Int.toNat_natCast]; (repeat' split) <;> first | rfl | omega)
      · refine zx_aload_n dX10_leans_28 rfl ?_
        refine zx_getr dX10_leans_29 fX10_42 ?_
        refine zx_iload_n dX10_leans_32 rfl ?_
        refine zx_callV (y1 := iX0_leanSouth) dX10_leans_33 lX10_185 vX0_leanSouth rc_13 (mX0_leanSouth hI hT (q := q) (by omega)) rfl rfl (Nat.le_of_ble_eq_true rfl) ?_
        refine zk_i ?_
        refine zx_goto (tgt := 41) dX10_leans_36 (by decide) ?_
        refine zx_iret (st := []) dX10_leans_41 rfl rfl ?_
        exact zO_i hC (by simp only [zk_leans, Int.toNat_natCast]; (repeat' split) <;> first | rfl | omega)
    · refine zx_aload_n dX10_leans_14 rfl ?_
      refine zx_getr dX10_leans_15 fX10_42 ?_
      refine zx_iload_n dX10_leans_18 rfl ?_
      refine zx_callV (y1 := iX0_leanEast) dX10_leans_19 lX10_182 vX0_leanEast rc_13 (mX0_leanEast hI hT (q := q) (by omega)) rfl rfl (Nat.le_of_ble_eq_true rfl) ?_
      refine zk_i ?_
      refine zx_iret (st := []) dX10_leans_22 rfl rfl ?_
      exact zO_i hC (by simp only [zk_leans, Int.toNat_natCast]; (repeat' split) <;> first | rfl | omega)
  · refine zx_ldc dX10_leans_7 kX10_129 ?_
    refine zy_top (show (-100101 : Int32) = zn_I (-100101) from by decide) ?_
    refine zx_iret (st := []) dX10_leans_9 rfl rfl ?_
    exact zO_i hC (by simp only [zk_leans, Int.toNat_natCast]; (repeat' split) <;> first | rfl | omega)
set_option maxRecDepth 100000 in
set_option maxHeartbeats 600000 in
theorem mX10_dip {l : zw_Lh} {d : Nat} {M : zw_M} {σ : zZ} (hC : zC_ M σ) {s : Int} (hss : -2147483648 ≤ s ∧ s < 2147483648) {q : Int} (hqq : -2147483648 ≤ q ∧ q < 2147483648) : zw_C l (d + 4) iX10_dip [.ref 0, .int (zn_I s), .int (zn_I q)] M (zO (zn_I (zk_dip σ s q)) σ M) := by
  obtain ⟨hI, hT, hG, ⟨ha, hb, hc⟩, hk⟩ := id hC
  have hp := hI.1
  have h30 := zp_30 hp
  have h8 := hT.1
  refine zw_of (by decide +kernel) (Nat.le_of_ble_eq_true rfl) ?_
  refine zy_loc (L1 := [.ref 0, .int (zn_I s), .int (zn_I q)]) rfl ?_
  refine zx_aload_n dX10_dip_0 rfl ?_
  refine zx_getr dX10_dip_1 fX10_26 ?_
  refine zx_iload_n dX10_dip_4 rfl ?_
  refine zx_callV (y1 := iX1_has) dX10_dip_5 lX10_125 vX1_has rc_4 (mX1_has hI hss) rfl rfl (Nat.le_of_ble_eq_true rfl) ?_
  refine zk_i ?_
  refine zy_ifB_eq (tgt := 18) dX10_dip_8 (by decide) (fun h_8 => ?_) (fun h_8 => ?_)
  · refine zx_ldc dX10_dip_18 kX10_188 ?_
    refine zy_top (show (-1000101 : Int32) = zn_I (-1000101) from by decide) ?_
    refine zx_iret (st := []) dX10_dip_20 rfl rfl ?_
    exact zO_i hC (by simp only [zk_dip, zp_at, Int.toNat_natCast]; (repeat' split) <;> first | rfl | omega)
  · refine zx_iload_n dX10_dip_11 rfl ?_
    refine zx_callS (y1 := iX10_isQuarter) dX10_dip_12 lX10_171 sX10_isQuarter (mX10_isQuarter hqq) rfl rfl (Nat.le_of_ble_eq_true rfl) ?_
    refine zk_i ?_
    refine zy_ifB_ne (tgt := 21) dX10_dip_15 (by decide) (fun h_15 => ?_) (fun h_15 => ?_)
    · obtain ⟨q, rfl⟩ : ∃ n : Nat, q = (n : Int) := ⟨q.toNat, by omega⟩
      refine zx_aload_n dX10_dip_21 rfl ?_
      refine zx_getr dX10_dip_22 fX10_26 ?_
      refine zx_iload_n dX10_dip_25 rfl ?_
      refine zx_aload_n dX10_dip_26 rfl ?_
      refine zx_getr dX10_dip_27 fX10_42 ?_
      refine zx_iload_n dX10_dip_30 rfl ?_
      refine zx_callV (y1 := iX0_leanEast) dX10_dip_31 lX10_182 vX0_leanEast rc_13 (mX0_leanEast hI hT (q := q) (by omega)) rfl rfl (Nat.le_of_ble_eq_true rfl) ?_
      refine zk_i ?_
      refine zx_aload_n dX10_dip_34 rfl ?_
      refine zx_getr dX10_dip_35 fX10_42 ?_
      refine zx_iload_n dX10_dip_38 rfl ?_
      refine zx_callV (y1 := iX0_leanSouth) dX10_dip_39 lX10_185 vX0_leanSouth rc_13 (mX0_leanSouth hI hT (q := q) (by omega)) rfl rfl (Nat.le_of_ble_eq_true rfl) ?_
      refine zk_i ?_
      refine zx_callV (y1 := iX1_dipOf) dX10_dip_42 lX10_189 vX1_dipOf rc_4 (mX1_dipOf hI hss (a := zl_E σ.1 σ.2.1 q) (b := zl_S σ.1 σ.2.1 q)) rfl rfl (Nat.le_of_ble_eq_true rfl) ?_
      refine zk_i ?_
      refine zx_iret (st := []) dX10_dip_45 rfl rfl ?_
      exact zO_i hC (by simp only [zk_dip, zp_at, Int.toNat_natCast]; (repeat' split) <;> first | rfl | omega)
    · refine zx_ldc dX10_dip_18 kX10_188 ?_
      refine zy_top (show (-1000101 : Int32) = zn_I (-1000101) from by decide) ?_
      refine zx_iret (st := []) dX10_dip_20 rfl rfl ?_
      exact zO_i hC (by simp only [zk_dip, zp_at, Int.toNat_natCast]; (repeat' split) <;> first | rfl | omega)
set_option maxRecDepth 100000 in
set_option maxHeartbeats 600000 in
theorem mX10_wet {l : zw_Lh} {d : Nat} {M : zw_M} {σ : zZ} (hC : zC_ M σ) {q : Int} (hqq : -2147483648 ≤ q ∧ q < 2147483648) : zw_C l (d + 5) iX10_wet [.ref 0, .int (zn_I q)] M (zO (zn_I (zk_wet σ q)) σ M) := by
  obtain ⟨hI, hT, hG, ⟨ha, hb, hc⟩, hk⟩ := id hC
  have hp := hI.1
  have h30 := zp_30 hp
  have h8 := hT.1
  refine zw_of (by decide +kernel) (Nat.le_of_ble_eq_true rfl) ?_
  refine zy_loc (L1 := [.ref 0, .int (zn_I q)]) rfl ?_
  refine zx_iload_n dX10_wet_0 rfl ?_
  refine zx_callS (y1 := iX10_isQuarter) dX10_wet_1 lX10_171 sX10_isQuarter (mX10_isQuarter hqq) rfl rfl (Nat.le_of_ble_eq_true rfl) ?_
  refine zk_i ?_
  refine zy_ifB_eq (tgt := 18) dX10_wet_4 (by decide) (fun h_4 => ?_) (fun h_4 => ?_)
  · refine zx_bipush (v := zn_I (-101)) dX10_wet_18 (by decide) ?_
    refine zx_iret (st := []) dX10_wet_20 rfl rfl ?_
    exact zO_i hC (by simp only [zk_wet, zwet, Int.toNat_natCast]; (repeat' split) <;> first | rfl | omega)
  · obtain ⟨q, rfl⟩ : ∃ n : Nat, q = (n : Int) := ⟨q.toNat, by omega⟩
    refine zx_aload_n dX10_wet_7 rfl ?_
    refine zx_getr dX10_wet_8 fX10_42 ?_
    refine zx_iload_n dX10_wet_11 rfl ?_
    refine zx_callV (y1 := iX0_wetIn) dX10_wet_12 lX10_192 vX0_wetIn rc_13 (mX0_wetIn hI hT (q := q) (by omega)) rfl rfl (Nat.le_of_ble_eq_true rfl) ?_
    refine zk_i ?_
    refine zx_goto (tgt := 20) dX10_wet_15 (by decide) ?_
    refine zx_iret (st := []) dX10_wet_20 rfl rfl ?_
    exact zO_i hC (by simp only [zk_wet, zwet, Int.toNat_natCast]; (repeat' split) <;> first | rfl | omega)




set_option maxRecDepth 100000 in
set_option maxHeartbeats 600000 in
theorem mX10_late {l : zw_Lh} {d : Nat} {M : zw_M} {σ : zZ} (hC : zC_ M σ) {q : Int} (hqq : -2147483648 ≤ q ∧ q < 2147483648) {e : Int} (hee : -2147483648 ≤ e ∧ e < 2147483648) {x : Int} (hxx : -2147483648 ≤ x ∧ x < 2147483648) : zw_C l (d + 5) iX10_late [.ref 0, .int (zn_I q), .int (zn_I e), .int (zn_I x)] M (zO (zn_I (zk_late σ q e x)) σ M) := by
  obtain ⟨hI, hT, hG, ⟨ha, hb, hc⟩, hk⟩ := id hC
  have hp := hI.1
  have h30 := zp_30 hp
  have h8 := hT.1
  have h2n := Nat.pow_le_pow_right (show 0 < 2 by omega) h30
  refine zw_of (by decide +kernel) (Nat.le_of_ble_eq_true rfl) ?_
  refine zy_loc (L1 := [.ref 0, .int (zn_I q), .int (zn_I e), .int (zn_I x)]) rfl ?_
  refine zx_iload_n dX10_late_0 rfl ?_
  refine zx_callS (y1 := iX10_isQuarter) dX10_late_1 lX10_171 sX10_isQuarter (mX10_isQuarter hqq) rfl rfl (Nat.le_of_ble_eq_true rfl) ?_
  refine zk_i ?_
  refine zy_ifB_eq (tgt := 11) dX10_late_4 (by decide) (fun h_4 => ?_) (fun h_4 => ?_)
  · refine zx_bipush (v := zn_I (-101)) dX10_late_11 (by decide) ?_
    refine zx_iret (st := []) dX10_late_13 rfl rfl ?_
    exact zO_i hC (by rw [zk_late, if_pos (by omega)])
  · refine zx_iload_n dX10_late_7 rfl ?_
    refine zy_if_ne (tgt := 14) dX10_late_8 (by decide) (by omega) (fun h_8 => ?_) (fun h_8 => ?_)
    · refine zx_aload_n dX10_late_14 rfl ?_
      refine zx_getr dX10_late_15 fX10_26 ?_
      refine zx_iload_n dX10_late_18 rfl ?_
      refine zx_callV (y1 := iX1_hasAll) dX10_late_19 lX10_240 vX1_hasAll rc_4 (mX1_hasAll hI hee) rfl rfl (Nat.le_of_ble_eq_true rfl) ?_
      refine zk_i ?_
      refine zy_ifB_eq (tgt := 34) dX10_late_22 (by decide) (fun h_22 => ?_) (fun h_22 => ?_)
      · refine zx_bipush (v := zn_I (-102)) dX10_late_34 (by decide) ?_
        refine zx_iret (st := []) dX10_late_36 rfl rfl ?_
        exact zO_i hC (by rw [zk_late, if_neg (by omega), if_pos (fun r => h_22 r.1)])
      · refine zx_iload_n dX10_late_25 rfl ?_
        refine zy_if_lt (tgt := 34) dX10_late_26 (by decide) (by omega) (fun h_26 => ?_) (fun h_26 => ?_)
        · refine zx_bipush (v := zn_I (-102)) dX10_late_34 (by decide) ?_
          refine zx_iret (st := []) dX10_late_36 rfl rfl ?_
          exact zO_i hC (by rw [zk_late, if_neg (by omega), if_pos (fun r => by omega)])
        · refine zx_iload_n dX10_late_29 rfl ?_
          refine zx_iconst (v := zn_I 3) dX10_late_30 rfl ?_
          refine zy_icmp_lt (tgt := 37) dX10_late_31 (by decide) (by omega) (fun h_31 => ?_) (fun h_31 => ?_)
          · refine zx_aload_n dX10_late_37 rfl ?_
            refine zx_getr dX10_late_38 fX10_26 ?_
            refine zx_callV (y1 := iX1_isThere) dX10_late_41 lX10_195 vX1_isThere rc_4 (mX1_isThere hI) rfl rfl (Nat.le_of_ble_eq_true rfl) ?_
            refine zk_i ?_
            refine zy_ifB_ne (tgt := 50) dX10_late_44 (by decide) (fun h_44 => ?_) (fun h_44 => ?_)
            · obtain ⟨q, rfl⟩ : ∃ n : Nat, q = (n : Int) := ⟨q.toNat, by omega⟩
              obtain ⟨x, rfl⟩ : ∃ n : Nat, x = (n : Int) := ⟨x.toNat, by omega⟩
              refine zx_aload_n dX10_late_50 rfl ?_
              refine zx_getr dX10_late_51 fX10_74 ?_
              refine zx_iload_n dX10_late_54 rfl ?_
              refine zx_iload_n dX10_late_55 rfl ?_
              refine zx_callV (y1 := iX2_search) dX10_late_56 lX10_243 vX2_search rc_27 (mX2_search hI hT (q := q) (by omega) (doors := e) (by omega)) rfl rfl (Nat.le_of_ble_eq_true rfl) ?_
              intro v M1 he
              obtain ⟨rfl, hf, hfd⟩ := he
              refine zx_aload_n dX10_late_59 rfl ?_
              refine zx_getr dX10_late_60 fX10_74 ?_
              refine zx_iload_n dX10_late_63 rfl ?_
              refine zx_callV (y1 := iX2_found) dX10_late_64 lX10_245 vX2_found rc_27 (mX2_found hfd (j := x) (by omega)) rfl rfl (Nat.le_of_ble_eq_true rfl) ?_
              refine zk_i ?_
              refine zx_iret (st := []) dX10_late_67 rfl rfl ?_
              exact zO_f (zf_mono hf (by decide)) (zC_f hf hC (by decide)) (by rw [zk_late, if_neg (by omega), if_neg (fun r => r ⟨h_22, by omega⟩), if_neg (by omega), Int.toNat_natCast, Int.toNat_natCast])
            · refine zx_bipush (v := zn_I (-103)) dX10_late_47 (by decide) ?_
              refine zx_iret (st := []) dX10_late_49 rfl rfl ?_
              exact zO_i hC (by rw [zk_late, if_neg (by omega), if_neg (fun r => r ⟨h_22, by omega⟩), if_pos h_44])
          · refine zx_bipush (v := zn_I (-102)) dX10_late_34 (by decide) ?_
            refine zx_iret (st := []) dX10_late_36 rfl rfl ?_
            exact zO_i hC (by rw [zk_late, if_neg (by omega), if_pos (fun r => by omega)])
    · refine zx_bipush (v := zn_I (-101)) dX10_late_11 (by decide) ?_
      refine zx_iret (st := []) dX10_late_13 rfl rfl ?_
      exact zO_i hC (by rw [zk_late, if_pos (by omega)])



set_option maxRecDepth 100000 in
set_option maxHeartbeats 600000 in
theorem mX10_count {l : zw_Lh} {d : Nat} {M : zw_M} {σ : zZ} (hC : zC_ M σ) {w : Int} (hww : -2147483648 ≤ w ∧ w < 2147483648) : zw_C l (d + 5) iX10_count [.ref 0, .int (zn_I w)] M (zw_i (zn_I (zk_count σ w)) M) := by
  obtain ⟨hI, hT, hG, ⟨ha, hb, hc⟩, hk⟩ := id hC
  have hp := hI.1
  have h30 := zp_30 hp
  have h8 := hT.1
  have hpop := zt_pl_pop (τ := σ.2.1) σ.2.1.1 h8
  have hpm : (zt_pl σ.2.1 σ.2.1.1).length = zt_m σ.2.1 := rfl
  refine zw_of (by decide +kernel) (Nat.le_of_ble_eq_true rfl) ?_
  refine zy_loc (L1 := [.ref 0, .int (zn_I w)]) rfl ?_
  refine zx_iload_n dX10_count_0 rfl ?_
  rcases (show w = 0 ∨ w = 1 ∨ w = 2 ∨ w = 3 ∨ w = 4 ∨ w = 5 ∨ w = 6 ∨ w = 7 ∨ (w < 0 ∨ 7 < w) by omega) with h_1 | h_1 | h_1 | h_1 | h_1 | h_1 | h_1 | h_1 | h_1
  · refine zx_tin (z := 0) (tgt := 48) dX10_count_1 ((zn_toInt ⟨by omega, by omega⟩).trans h_1) (by decide) (by decide) rfl (by decide) ?_
    refine zx_aload_n dX10_count_48 rfl ?_
    refine zx_getr dX10_count_49 fX10_26 ?_
    refine zx_callV (y1 := iX1_squares) dX10_count_52 lX10_122 vX1_squares rc_4 (mX1_squares hI) rfl rfl (Nat.le_of_ble_eq_true rfl) ?_
    refine zk_i ?_
    refine zx_iret (st := []) dX10_count_55 rfl rfl ?_
    exact zk_I (by simp only [zk_count, Int.toNat_natCast]; (repeat' split) <;> first | rfl | omega)
  · refine zx_tin (z := 1) (tgt := 56) dX10_count_1 ((zn_toInt ⟨by omega, by omega⟩).trans h_1) (by decide) (by decide) rfl (by decide) ?_
    refine zx_aload_n dX10_count_56 rfl ?_
    refine zx_getr dX10_count_57 fX10_26 ?_
    refine zx_callV (y1 := iX1_doors) dX10_count_60 lX10_271 vX1_doors rc_4 (mX1_doors hI) rfl rfl (Nat.le_of_ble_eq_true rfl) ?_
    refine zk_i ?_
    refine zx_iret (st := []) dX10_count_63 rfl rfl ?_
    exact zk_I (by simp only [zk_count, Int.toNat_natCast]; (repeat' split) <;> first | rfl | omega)
  · refine zx_tin (z := 2) (tgt := 64) dX10_count_1 ((zn_toInt ⟨by omega, by omega⟩).trans h_1) (by decide) (by decide) rfl (by decide) ?_
    refine zx_aload_n dX10_count_64 rfl ?_
    refine zx_getr dX10_count_65 fX10_33 ?_
    refine zx_callV (y1 := iX8_size) dX10_count_68 lX10_262 vX8_size rc_8 (mX8_size hT) rfl rfl (Nat.le_of_ble_eq_true rfl) ?_
    refine zk_i ?_
    refine zx_iret (st := []) dX10_count_71 rfl rfl ?_
    exact zk_I (by simp only [zk_count, Int.toNat_natCast]; (repeat' split) <;> first | rfl | omega)
  · refine zx_tin (z := 3) (tgt := 72) dX10_count_1 ((zn_toInt ⟨by omega, by omega⟩).trans h_1) (by decide) (by decide) rfl (by decide) ?_
    refine zx_aload_n dX10_count_72 rfl ?_
    refine zx_getr dX10_count_73 fX10_33 ?_
    refine zx_callV (y1 := iX8_people) dX10_count_76 lX10_199 vX8_people rc_8 (mX8_people hT) rfl rfl (Nat.le_of_ble_eq_true rfl) ?_
    refine zk_i ?_
    rw [hpop, hpm]
    refine zx_iret (st := []) dX10_count_79 rfl rfl ?_
    exact zk_I (by simp only [zk_count, Int.toNat_natCast]; (repeat' split) <;> first | rfl | omega)
  · refine zx_tin (z := 4) (tgt := 80) dX10_count_1 ((zn_toInt ⟨by omega, by omega⟩).trans h_1) (by decide) (by decide) rfl (by decide) ?_
    refine zx_aload_n dX10_count_80 rfl ?_
    refine zx_getr dX10_count_81 fX10_10 ?_
    refine zx_callV (y1 := iX3_length) dX10_count_84 lX10_89 vX3_length rc_1 (mX3_length hG) rfl rfl (Nat.le_of_ble_eq_true rfl) ?_
    refine zk_i ?_
    refine zx_iret (st := []) dX10_count_87 rfl rfl ?_
    exact zk_I (by simp only [zk_count, Int.toNat_natCast]; (repeat' split) <;> first | rfl | omega)
  · refine zx_tin (z := 5) (tgt := 88) dX10_count_1 ((zn_toInt ⟨by omega, by omega⟩).trans h_1) (by decide) (by decide) rfl (by decide) ?_
    refine zx_aload_n dX10_count_88 rfl ?_
    refine zy_geti dX10_count_89 fX10_118 (ha) ?_
    refine zx_iret (st := []) dX10_count_92 rfl rfl ?_
    exact zk_I (by simp only [zk_count, Int.toNat_natCast]; (repeat' split) <;> first | rfl | omega)
  · refine zx_tin (z := 6) (tgt := 93) dX10_count_1 ((zn_toInt ⟨by omega, by omega⟩).trans h_1) (by decide) (by decide) rfl (by decide) ?_
    refine zx_aload_n dX10_count_93 rfl ?_
    refine zy_geti dX10_count_94 fX10_202 (hb) ?_
    refine zx_iret (st := []) dX10_count_97 rfl rfl ?_
    exact zk_I (by simp only [zk_count, Int.toNat_natCast]; (repeat' split) <;> first | rfl | omega)
  · refine zx_tin (z := 7) (tgt := 98) dX10_count_1 ((zn_toInt ⟨by omega, by omega⟩).trans h_1) (by decide) (by decide) rfl (by decide) ?_
    refine zx_aload_n dX10_count_98 rfl ?_
    refine zy_geti dX10_count_99 fX10_229 (hc) ?_
    refine zx_iret (st := []) dX10_count_102 rfl rfl ?_
    exact zk_I (by simp only [zk_count, Int.toNat_natCast]; (repeat' split) <;> first | rfl | omega)
  · refine zx_tout (tgt := 103) dX10_count_1 (by rw [zn_toInt ⟨by omega, by omega⟩]; exact h_1) (by decide) ?_
    refine zx_bipush (v := zn_I (-102)) dX10_count_103 (by decide) ?_
    refine zx_iret (st := []) dX10_count_105 rfl rfl ?_
    exact zk_I (by simp only [zk_count, Int.toNat_natCast]; (repeat' split) <;> first | rfl | omega)
