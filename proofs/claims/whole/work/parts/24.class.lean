/-! the class's own methods, the others -/
theorem zwet_30 {π : zP} (hp : π.1 ≤ 5 ∧ π.2.1 ≤ 6) (τ : zQ) (q : Nat) : zwet π τ q < 1073741824 := zp_bits_30 hp _ _
theorem zC_b {M M1 : zw_M} {σ : zZ} {x y z : Nat} {κ : zK} {S : List Nat} (h : zw_fr S M M1) (hC : zC_ M σ) (hS : ∀ p ∈ [1, 2, 4, 5, 6, 7, 8, 9, 10, 11], p ∉ S) (h1 : M1.1 0 10 = zn_I (x : Int) ∧ M1.1 0 11 = zn_I (y : Int) ∧ M1.1 0 12 = zn_I (z : Int)) (hk : zKc M1 κ) : zC_ M1 (σ.1, σ.2.1, σ.2.2.1, (x, y, z), κ) :=
  ⟨zI_f h hC.1 (fun p hp => hS p (by simp at hp ⊢; omega)), zT_f h hC.2.1 (fun p hp => hS p (by simp at hp ⊢; omega)), zG_f h hC.2.2.1 (fun p hp => hS p (by simp at hp ⊢; omega)), h1, hk⟩
set_option maxRecDepth 100000 in
set_option maxHeartbeats 600000 in
theorem mX10_leans {l : Launch} {d : Nat} {M : zw_M} {σ : zZ} (hC : zC_ M σ) {q : Int} (hqq : -2147483648 ≤ q ∧ q < 2147483648) {w : Int} (hww : -2147483648 ≤ w ∧ w < 2147483648) : zw_C l (d + 4) iX10_leans [.ref 0, .int (zn_I q), .int (zn_I w)] M (zO (zn_I (zk_leans σ q w)) σ M) := by
  obtain ⟨hI, hT, hG, ⟨ha, hb, hc⟩, hk⟩ := id hC
  have hp := hI.1
  have h30 := zp_30 hp
  have h8 := hT.1
  refine zw_of (by decide +kernel) (Nat.le_of_ble_eq_true rfl) ?_
  refine zy_loc (L1 := [.ref 0, .int (zn_I q), .int (zn_I w)]) rfl ?_
  refine zx_iload_n dX10_leans_0 rfl ?_
  refine zx_callS (y1 := iX10_isQuarter) dX10_leans_1 lX10_171 sX10_isQuarter (mX10_isQuarter hqq) rfl rfl (Nat.le_of_ble_eq_true rfl) ?_
  refine zk_i ?_
  refine zy_ifB_ne (tgt := 10) dX10_leans_4 (by decide) (fun h_4 => ?_) (fun h_4 => ?_)
  · obtain ⟨q, rfl⟩ : ∃ n : Nat, q = (n : Int) := ⟨q.toNat, by omega⟩
    refine zx_iload_n dX10_leans_10 rfl ?_
    refine zy_if_ne (tgt := 23) dX10_leans_11 (by decide) (by omega) (fun h_11 => ?_) (fun h_11 => ?_)
    · refine zx_iload_n dX10_leans_23 rfl ?_
      refine zx_iconst (v := zn_I 1) dX10_leans_24 rfl ?_
      refine zy_icmp_ne (tgt := 39) dX10_leans_25 (by decide) (by omega) (fun h_25 => ?_) (fun h_25 => ?_)
      · refine zx_ldc dX10_leans_39 kX10_140 ?_
        refine zy_top (show (-100102 : Int32) = zn_I (-100102) from by decide) ?_
        refine zx_iret (st := []) dX10_leans_41 rfl rfl ?_
        exact zO_i hC (by simp only [zk_leans, Int.toNat_natCast]; (repeat' split) <;> first | rfl | omega)
      · refine zx_aload_n dX10_leans_28 rfl ?_
        refine zx_getr dX10_leans_29 fX10_42 ?_
        refine zx_iload_n dX10_leans_32 rfl ?_
        refine zx_callV (y1 := iX0_leanSouth) dX10_leans_33 lX10_185 vX0_leanSouth rc_13 (mX0_leanSouth hI hT (q := q) (by omega)) rfl rfl (Nat.le_of_ble_eq_true rfl) ?_
        refine zk_i ?_
        refine zx_goto (tgt := 41) dX10_leans_36 (by decide) ?_
        refine zx_iret (st := []) dX10_leans_41 rfl rfl ?_
        exact zO_i hC (by simp only [zk_leans, Int.toNat_natCast]; (repeat' split) <;> first | rfl | omega)
    · refine zx_aload_n dX10_leans_14 rfl ?_
      refine zx_getr dX10_leans_15 fX10_42 ?_
      refine zx_iload_n dX10_leans_18 rfl ?_
      refine zx_callV (y1 := iX0_leanEast) dX10_leans_19 lX10_182 vX0_leanEast rc_13 (mX0_leanEast hI hT (q := q) (by omega)) rfl rfl (Nat.le_of_ble_eq_true rfl) ?_
      refine zk_i ?_
      refine zx_iret (st := []) dX10_leans_22 rfl rfl ?_
      exact zO_i hC (by simp only [zk_leans, Int.toNat_natCast]; (repeat' split) <;> first | rfl | omega)
  · refine zx_ldc dX10_leans_7 kX10_129 ?_
    refine zy_top (show (-100101 : Int32) = zn_I (-100101) from by decide) ?_
    refine zx_iret (st := []) dX10_leans_9 rfl rfl ?_
    exact zO_i hC (by simp only [zk_leans, Int.toNat_natCast]; (repeat' split) <;> first | rfl | omega)
set_option maxRecDepth 100000 in
set_option maxHeartbeats 600000 in
theorem mX10_dip {l : Launch} {d : Nat} {M : zw_M} {σ : zZ} (hC : zC_ M σ) {s : Int} (hss : -2147483648 ≤ s ∧ s < 2147483648) {q : Int} (hqq : -2147483648 ≤ q ∧ q < 2147483648) : zw_C l (d + 4) iX10_dip [.ref 0, .int (zn_I s), .int (zn_I q)] M (zO (zn_I (zk_dip σ s q)) σ M) := by
  obtain ⟨hI, hT, hG, ⟨ha, hb, hc⟩, hk⟩ := id hC
  have hp := hI.1
  have h30 := zp_30 hp
  have h8 := hT.1
  refine zw_of (by decide +kernel) (Nat.le_of_ble_eq_true rfl) ?_
  refine zy_loc (L1 := [.ref 0, .int (zn_I s), .int (zn_I q)]) rfl ?_
  refine zx_aload_n dX10_dip_0 rfl ?_
  refine zx_getr dX10_dip_1 fX10_26 ?_
  refine zx_iload_n dX10_dip_4 rfl ?_
  refine zx_callV (y1 := iX1_has) dX10_dip_5 lX10_125 vX1_has rc_4 (mX1_has hI hss) rfl rfl (Nat.le_of_ble_eq_true rfl) ?_
  refine zk_i ?_
  refine zy_ifB_eq (tgt := 18) dX10_dip_8 (by decide) (fun h_8 => ?_) (fun h_8 => ?_)
  · refine zx_ldc dX10_dip_18 kX10_188 ?_
    refine zy_top (show (-1000101 : Int32) = zn_I (-1000101) from by decide) ?_
    refine zx_iret (st := []) dX10_dip_20 rfl rfl ?_
    exact zO_i hC (by simp only [zk_dip, zp_at, Int.toNat_natCast]; (repeat' split) <;> first | rfl | omega)
  · refine zx_iload_n dX10_dip_11 rfl ?_
    refine zx_callS (y1 := iX10_isQuarter) dX10_dip_12 lX10_171 sX10_isQuarter (mX10_isQuarter hqq) rfl rfl (Nat.le_of_ble_eq_true rfl) ?_
    refine zk_i ?_
    refine zy_ifB_ne (tgt := 21) dX10_dip_15 (by decide) (fun h_15 => ?_) (fun h_15 => ?_)
    · obtain ⟨q, rfl⟩ : ∃ n : Nat, q = (n : Int) := ⟨q.toNat, by omega⟩
      refine zx_aload_n dX10_dip_21 rfl ?_
      refine zx_getr dX10_dip_22 fX10_26 ?_
      refine zx_iload_n dX10_dip_25 rfl ?_
      refine zx_aload_n dX10_dip_26 rfl ?_
      refine zx_getr dX10_dip_27 fX10_42 ?_
      refine zx_iload_n dX10_dip_30 rfl ?_
      refine zx_callV (y1 := iX0_leanEast) dX10_dip_31 lX10_182 vX0_leanEast rc_13 (mX0_leanEast hI hT (q := q) (by omega)) rfl rfl (Nat.le_of_ble_eq_true rfl) ?_
      refine zk_i ?_
      refine zx_aload_n dX10_dip_34 rfl ?_
      refine zx_getr dX10_dip_35 fX10_42 ?_
      refine zx_iload_n dX10_dip_38 rfl ?_
      refine zx_callV (y1 := iX0_leanSouth) dX10_dip_39 lX10_185 vX0_leanSouth rc_13 (mX0_leanSouth hI hT (q := q) (by omega)) rfl rfl (Nat.le_of_ble_eq_true rfl) ?_
      refine zk_i ?_
      refine zx_callV (y1 := iX1_dipOf) dX10_dip_42 lX10_189 vX1_dipOf rc_4 (mX1_dipOf hI hss (a := zl_E σ.1 σ.2.1 q) (b := zl_S σ.1 σ.2.1 q)) rfl rfl (Nat.le_of_ble_eq_true rfl) ?_
      refine zk_i ?_
      refine zx_iret (st := []) dX10_dip_45 rfl rfl ?_
      exact zO_i hC (by simp only [zk_dip, zp_at, Int.toNat_natCast]; (repeat' split) <;> first | rfl | omega)
    · refine zx_ldc dX10_dip_18 kX10_188 ?_
      refine zy_top (show (-1000101 : Int32) = zn_I (-1000101) from by decide) ?_
      refine zx_iret (st := []) dX10_dip_20 rfl rfl ?_
      exact zO_i hC (by simp only [zk_dip, zp_at, Int.toNat_natCast]; (repeat' split) <;> first | rfl | omega)
set_option maxRecDepth 100000 in
set_option maxHeartbeats 600000 in
theorem mX10_wet {l : Launch} {d : Nat} {M : zw_M} {σ : zZ} (hC : zC_ M σ) {q : Int} (hqq : -2147483648 ≤ q ∧ q < 2147483648) : zw_C l (d + 5) iX10_wet [.ref 0, .int (zn_I q)] M (zO (zn_I (zk_wet σ q)) σ M) := by
  obtain ⟨hI, hT, hG, ⟨ha, hb, hc⟩, hk⟩ := id hC
  have hp := hI.1
  have h30 := zp_30 hp
  have h8 := hT.1
  refine zw_of (by decide +kernel) (Nat.le_of_ble_eq_true rfl) ?_
  refine zy_loc (L1 := [.ref 0, .int (zn_I q)]) rfl ?_
  refine zx_iload_n dX10_wet_0 rfl ?_
  refine zx_callS (y1 := iX10_isQuarter) dX10_wet_1 lX10_171 sX10_isQuarter (mX10_isQuarter hqq) rfl rfl (Nat.le_of_ble_eq_true rfl) ?_
  refine zk_i ?_
  refine zy_ifB_eq (tgt := 18) dX10_wet_4 (by decide) (fun h_4 => ?_) (fun h_4 => ?_)
  · refine zx_bipush (v := zn_I (-101)) dX10_wet_18 (by decide) ?_
    refine zx_iret (st := []) dX10_wet_20 rfl rfl ?_
    exact zO_i hC (by simp only [zk_wet, zwet, Int.toNat_natCast]; (repeat' split) <;> first | rfl | omega)
  · obtain ⟨q, rfl⟩ : ∃ n : Nat, q = (n : Int) := ⟨q.toNat, by omega⟩
    refine zx_aload_n dX10_wet_7 rfl ?_
    refine zx_getr dX10_wet_8 fX10_42 ?_
    refine zx_iload_n dX10_wet_11 rfl ?_
    refine zx_callV (y1 := iX0_wetIn) dX10_wet_12 lX10_192 vX0_wetIn rc_13 (mX0_wetIn hI hT (q := q) (by omega)) rfl rfl (Nat.le_of_ble_eq_true rfl) ?_
    refine zk_i ?_
    refine zx_goto (tgt := 20) dX10_wet_15 (by decide) ?_
    refine zx_iret (st := []) dX10_wet_20 rfl rfl ?_
    exact zO_i hC (by simp only [zk_wet, zwet, Int.toNat_natCast]; (repeat' split) <;> first | rfl | omega)
set_option maxRecDepth 100000 in
set_option maxHeartbeats 600000 in
theorem mX10_trades {l : Launch} {d : Nat} {M : zw_M} {σ : zZ} (hC : zC_ M σ) (hok : zok σ) {q : Int} (hqq : -2147483648 ≤ q ∧ q < 2147483648) {w : Int} (hww : -2147483648 ≤ w ∧ w < 2147483648) : zw_C l (d + 17) iX10_trades [.ref 0, .int (zn_I q), .int (zn_I w)] M (zO (zn_I (zk_trades σ q w)) (zk_tradesS σ q w) M) := by
  obtain ⟨hI, hT, hG, ⟨ha, hb, hc⟩, hk⟩ := id hC
  have hp := hI.1
  have h30 := zp_30 hp
  have h8 := hT.1
  have hpe := hok.1.1
  have hpop := zt_pl_pop (τ := σ.2.1) σ.2.1.1 h8
  have hpm : (zt_pl σ.2.1 σ.2.1.1).length = zt_m σ.2.1 := rfl
  have hm32 := zb_pop_le 32 (zt_pb σ.2.1 σ.2.1.1)
  refine zw_of (by decide +kernel) (Nat.le_of_ble_eq_true rfl) ?_
  refine zy_loc (L1 := [.ref 0, .int (zn_I q), .int (zn_I w)]) rfl ?_
  refine zx_iload_n dX10_trades_0 rfl ?_
  refine zx_callS (y1 := iX10_isQuarter) dX10_trades_1 lX10_171 sX10_isQuarter (mX10_isQuarter hqq) rfl rfl (Nat.le_of_ble_eq_true rfl) ?_
  refine zk_i ?_
  refine zy_ifB_ne (tgt := 10) dX10_trades_4 (by decide) (fun h_4 => ?_) (fun h_4 => ?_)
  · refine zx_iload_n dX10_trades_10 rfl ?_
    refine zy_if_eq (tgt := 29) dX10_trades_11 (by decide) (by omega) (fun h_11 => ?_) (fun h_11 => ?_)
    · refine zx_aload_n dX10_trades_29 rfl ?_
      refine zx_getr dX10_trades_30 fX10_26 ?_
      refine zx_callV (y1 := iX1_isThere) dX10_trades_33 lX10_195 vX1_isThere rc_4 (mX1_isThere hI) rfl rfl (Nat.le_of_ble_eq_true rfl) ?_
      refine zk_i ?_
      refine zy_ifB_eq (tgt := 60) dX10_trades_36 (by decide) (fun h_36 => ?_) (fun h_36 => ?_)
      · refine zx_bipush (v := zn_I (-103)) dX10_trades_60 (by decide) ?_
        refine zx_iret (st := []) dX10_trades_62 rfl rfl ?_
        rw [zk_tradesS, if_neg (by omega)]
        exact zO_i hC (by simp only [zk_trades, Int.toNat_natCast]; (repeat' split) <;> first | rfl | omega)
      · refine zx_aload_n dX10_trades_39 rfl ?_
        refine zx_getr dX10_trades_40 fX10_33 ?_
        refine zx_callV (y1 := iX8_people) dX10_trades_43 lX10_199 vX8_people rc_8 (mX8_people hT) rfl rfl (Nat.le_of_ble_eq_true rfl) ?_
        refine zk_i ?_
        refine zx_bipush (v := zn_I 6) dX10_trades_46 (by decide) ?_
        rw [hpop, hpm] at hm32 ⊢
        refine zy_icmp_gt (tgt := 60) dX10_trades_48 (by decide) (by omega) (fun h_48 => ?_) (fun h_48 => ?_)
        · refine zx_bipush (v := zn_I (-103)) dX10_trades_60 (by decide) ?_
          refine zx_iret (st := []) dX10_trades_62 rfl rfl ?_
          rw [zk_tradesS, if_neg (by omega)]
          exact zO_i hC (by simp only [zk_trades, Int.toNat_natCast]; (repeat' split) <;> first | rfl | omega)
        · refine zx_aload_n dX10_trades_51 rfl ?_
          refine zy_geti dX10_trades_52 fX10_202 (hb) ?_
          refine zx_bipush (v := zn_I 30) dX10_trades_55 (by decide) ?_
          refine zy_icmp_lt (tgt := 63) dX10_trades_57 (by decide) (by omega) (fun h_57 => ?_) (fun h_57 => ?_)
          · obtain ⟨q, rfl⟩ : ∃ n : Nat, q = (n : Int) := ⟨q.toNat, by omega⟩
            have hm : zt_m σ.2.1 ≤ 6 := by omega
            refine zx_aload_n dX10_trades_63 rfl ?_
            refine zx_dup dX10_trades_64 rfl ?_
            refine zy_geti dX10_trades_65 fX10_202 (hb) ?_
            refine zx_iconst (v := zn_I 1) dX10_trades_68 rfl ?_
            refine zy_iadd dX10_trades_69 ?_
            refine zx_puti dX10_trades_70 fX10_202 ?_
            refine zx_aload_n dX10_trades_73 rfl ?_
            refine zx_getr dX10_trades_74 fX10_60 ?_
            refine zx_iload_n dX10_trades_77 rfl ?_
            refine zx_callV (y1 := iX9_search) dX10_trades_78 lX10_205 vX9_search rc_19 (mX9_search (M := (zw_s M 0 11 (zn_I ((σ.2.2.2.1.2.1 : Int) + 1)))) (zI_f (zf_s (S := [0]) zf_rf (by decide)) hI (by decide)) (zT_f (zf_s (S := [0]) zf_rf (by decide)) hT (by decide)) (q := q) (by omega) hm) rfl rfl (Nat.le_of_ble_eq_true rfl) ?_
            intro v M1 he
            obtain ⟨rfl, hf, h7, hpe1, hacc⟩ := he
            obtain ⟨bw, be, bl, hbst⟩ := zt_best_some (π := σ.1) (τ := σ.2.1) (q := q) hm
            rw [hbst] at hacc
            obtain ⟨-, hA9, hA10, hAw, hAe, hAb⟩ := hacc
            refine zx_iload_n dX10_trades_81 rfl ?_
            refine zy_if_ne (tgt := 93) dX10_trades_82 (by decide) (by omega) (fun h_82 => ?_) (fun h_82 => ?_)
            · refine zx_iload_n dX10_trades_93 rfl ?_
              refine zx_iconst (v := zn_I 1) dX10_trades_94 rfl ?_
              refine zy_icmp_ne (tgt := 108) dX10_trades_95 (by decide) (by omega) (fun h_95 => ?_) (fun h_95 => ?_)
              · refine zx_aload_n dX10_trades_108 rfl ?_
                refine zx_getr dX10_trades_109 fX10_60 ?_
                refine zx_iload_n dX10_trades_112 rfl ?_
                refine zx_bipush (v := zn_I 10) dX10_trades_113 (by decide) ?_
                refine zy_isub dX10_trades_115 ?_
                refine zx_callV (y1 := iX9_placeOf) dX10_trades_116 lX10_215 vX9_placeOf rc_19 (mX9_placeOf h7 hm (fun i hi => ⟨hpe1 i hi, by have := (zt_pe_in hi).1; omega⟩) hAb (z := w - 10) (by omega)) rfl rfl (Nat.le_of_ble_eq_true rfl) ?_
                refine zk_i ?_
                refine zx_iret (st := []) dX10_trades_119 rfl rfl ?_
                have hcc : zC_ M1 (zk_tradesS σ q w) := by
                  rw [zk_tradesS, if_pos ⟨⟨by omega, by omega⟩, by omega, hm, by omega⟩]
                  exact zC_b (S := [0, 19, 20, 21, 22, 23]) (zf_tr (zf_s zf_rf (by decide)) (zf_mono hf (by decide))) hC (by decide) ⟨by rw [(hf 0 (by decide)).1]; simp [zw_s, ha], by rw [(hf 0 (by decide)).1]; simp [zw_s], by rw [(hf 0 (by decide)).1]; simp [zw_s, hc]⟩ (zKc_f (S := [0, 19, 20, 21, 22, 23]) (zf_tr (zf_s zf_rf (by decide)) (zf_mono hf (by decide))) hk (by decide))
                exact zO_f (zf_tr (zf_s zf_rf (by decide)) (zf_mono hf (by decide))) hcc (by rw [zk_trades, if_neg (by omega), if_neg (by omega), if_neg (fun r => r ⟨by omega, hm, by omega⟩), Int.toNat_natCast, hbst, zt_tell]; (repeat' split) <;> first | rfl | omega)
              · refine zx_aload_n dX10_trades_98 rfl ?_
                refine zx_getr dX10_trades_99 fX10_60 ?_
                refine zx_callV (y1 := iX9_elsewhere) dX10_trades_102 lX10_212 vX9_elsewhere rc_19 (mX9_elsewhere hA10) rfl rfl (Nat.le_of_ble_eq_true rfl) ?_
                refine zk_i ?_
                refine zx_goto (tgt := 119) dX10_trades_105 (by decide) ?_
                refine zx_iret (st := []) dX10_trades_119 rfl rfl ?_
                have hcc : zC_ M1 (zk_tradesS σ q w) := by
                  rw [zk_tradesS, if_pos ⟨⟨by omega, by omega⟩, by omega, hm, by omega⟩]
                  exact zC_b (S := [0, 19, 20, 21, 22, 23]) (zf_tr (zf_s zf_rf (by decide)) (zf_mono hf (by decide))) hC (by decide) ⟨by rw [(hf 0 (by decide)).1]; simp [zw_s, ha], by rw [(hf 0 (by decide)).1]; simp [zw_s], by rw [(hf 0 (by decide)).1]; simp [zw_s, hc]⟩ (zKc_f (S := [0, 19, 20, 21, 22, 23]) (zf_tr (zf_s zf_rf (by decide)) (zf_mono hf (by decide))) hk (by decide))
                exact zO_f (zf_tr (zf_s zf_rf (by decide)) (zf_mono hf (by decide))) hcc (by rw [zk_trades, if_neg (by omega), if_neg (by omega), if_neg (fun r => r ⟨by omega, hm, by omega⟩), Int.toNat_natCast, hbst, zt_tell]; (repeat' split) <;> first | rfl | omega)
            · refine zx_aload_n dX10_trades_85 rfl ?_
              refine zx_getr dX10_trades_86 fX10_60 ?_
              refine zx_callV (y1 := iX9_wetDoors) dX10_trades_89 lX10_209 vX9_wetDoors rc_19 (mX9_wetDoors hA9) rfl rfl (Nat.le_of_ble_eq_true rfl) ?_
              refine zk_i ?_
              refine zx_iret (st := []) dX10_trades_92 rfl rfl ?_
              have hcc : zC_ M1 (zk_tradesS σ q w) := by
                rw [zk_tradesS, if_pos ⟨⟨by omega, by omega⟩, by omega, hm, by omega⟩]
                exact zC_b (S := [0, 19, 20, 21, 22, 23]) (zf_tr (zf_s zf_rf (by decide)) (zf_mono hf (by decide))) hC (by decide) ⟨by rw [(hf 0 (by decide)).1]; simp [zw_s, ha], by rw [(hf 0 (by decide)).1]; simp [zw_s], by rw [(hf 0 (by decide)).1]; simp [zw_s, hc]⟩ (zKc_f (S := [0, 19, 20, 21, 22, 23]) (zf_tr (zf_s zf_rf (by decide)) (zf_mono hf (by decide))) hk (by decide))
              exact zO_f (zf_tr (zf_s zf_rf (by decide)) (zf_mono hf (by decide))) hcc (by rw [zk_trades, if_neg (by omega), if_neg (by omega), if_neg (fun r => r ⟨by omega, hm, by omega⟩), Int.toNat_natCast, hbst, zt_tell]; (repeat' split) <;> first | rfl | omega)
          · refine zx_bipush (v := zn_I (-103)) dX10_trades_60 (by decide) ?_
            refine zx_iret (st := []) dX10_trades_62 rfl rfl ?_
            rw [zk_tradesS, if_neg (by omega)]
            exact zO_i hC (by simp only [zk_trades, Int.toNat_natCast]; (repeat' split) <;> first | rfl | omega)
    · refine zx_iload_n dX10_trades_14 rfl ?_
      refine zx_iconst (v := zn_I 1) dX10_trades_15 rfl ?_
      refine zy_icmp_eq (tgt := 29) dX10_trades_16 (by decide) (by omega) (fun h_16 => ?_) (fun h_16 => ?_)
      · refine zx_aload_n dX10_trades_29 rfl ?_
        refine zx_getr dX10_trades_30 fX10_26 ?_
        refine zx_callV (y1 := iX1_isThere) dX10_trades_33 lX10_195 vX1_isThere rc_4 (mX1_isThere hI) rfl rfl (Nat.le_of_ble_eq_true rfl) ?_
        refine zk_i ?_
        refine zy_ifB_eq (tgt := 60) dX10_trades_36 (by decide) (fun h_36 => ?_) (fun h_36 => ?_)
        · refine zx_bipush (v := zn_I (-103)) dX10_trades_60 (by decide) ?_
          refine zx_iret (st := []) dX10_trades_62 rfl rfl ?_
          rw [zk_tradesS, if_neg (by omega)]
          exact zO_i hC (by simp only [zk_trades, Int.toNat_natCast]; (repeat' split) <;> first | rfl | omega)
        · refine zx_aload_n dX10_trades_39 rfl ?_
          refine zx_getr dX10_trades_40 fX10_33 ?_
          refine zx_callV (y1 := iX8_people) dX10_trades_43 lX10_199 vX8_people rc_8 (mX8_people hT) rfl rfl (Nat.le_of_ble_eq_true rfl) ?_
          refine zk_i ?_
          refine zx_bipush (v := zn_I 6) dX10_trades_46 (by decide) ?_
          rw [hpop, hpm] at hm32 ⊢
          refine zy_icmp_gt (tgt := 60) dX10_trades_48 (by decide) (by omega) (fun h_48 => ?_) (fun h_48 => ?_)
          · refine zx_bipush (v := zn_I (-103)) dX10_trades_60 (by decide) ?_
            refine zx_iret (st := []) dX10_trades_62 rfl rfl ?_
            rw [zk_tradesS, if_neg (by omega)]
            exact zO_i hC (by simp only [zk_trades, Int.toNat_natCast]; (repeat' split) <;> first | rfl | omega)
          · refine zx_aload_n dX10_trades_51 rfl ?_
            refine zy_geti dX10_trades_52 fX10_202 (hb) ?_
            refine zx_bipush (v := zn_I 30) dX10_trades_55 (by decide) ?_
            refine zy_icmp_lt (tgt := 63) dX10_trades_57 (by decide) (by omega) (fun h_57 => ?_) (fun h_57 => ?_)
            · obtain ⟨q, rfl⟩ : ∃ n : Nat, q = (n : Int) := ⟨q.toNat, by omega⟩
              have hm : zt_m σ.2.1 ≤ 6 := by omega
              refine zx_aload_n dX10_trades_63 rfl ?_
              refine zx_dup dX10_trades_64 rfl ?_
              refine zy_geti dX10_trades_65 fX10_202 (hb) ?_
              refine zx_iconst (v := zn_I 1) dX10_trades_68 rfl ?_
              refine zy_iadd dX10_trades_69 ?_
              refine zx_puti dX10_trades_70 fX10_202 ?_
              refine zx_aload_n dX10_trades_73 rfl ?_
              refine zx_getr dX10_trades_74 fX10_60 ?_
              refine zx_iload_n dX10_trades_77 rfl ?_
              refine zx_callV (y1 := iX9_search) dX10_trades_78 lX10_205 vX9_search rc_19 (mX9_search (M := (zw_s M 0 11 (zn_I ((σ.2.2.2.1.2.1 : Int) + 1)))) (zI_f (zf_s (S := [0]) zf_rf (by decide)) hI (by decide)) (zT_f (zf_s (S := [0]) zf_rf (by decide)) hT (by decide)) (q := q) (by omega) hm) rfl rfl (Nat.le_of_ble_eq_true rfl) ?_
              intro v M1 he
              obtain ⟨rfl, hf, h7, hpe1, hacc⟩ := he
              obtain ⟨bw, be, bl, hbst⟩ := zt_best_some (π := σ.1) (τ := σ.2.1) (q := q) hm
              rw [hbst] at hacc
              obtain ⟨-, hA9, hA10, hAw, hAe, hAb⟩ := hacc
              refine zx_iload_n dX10_trades_81 rfl ?_
              refine zy_if_ne (tgt := 93) dX10_trades_82 (by decide) (by omega) (fun h_82 => ?_) (fun h_82 => ?_)
              · refine zx_iload_n dX10_trades_93 rfl ?_
                refine zx_iconst (v := zn_I 1) dX10_trades_94 rfl ?_
                refine zy_icmp_ne (tgt := 108) dX10_trades_95 (by decide) (by omega) (fun h_95 => ?_) (fun h_95 => ?_)
                · refine zx_aload_n dX10_trades_108 rfl ?_
                  refine zx_getr dX10_trades_109 fX10_60 ?_
                  refine zx_iload_n dX10_trades_112 rfl ?_
                  refine zx_bipush (v := zn_I 10) dX10_trades_113 (by decide) ?_
                  refine zy_isub dX10_trades_115 ?_
                  refine zx_callV (y1 := iX9_placeOf) dX10_trades_116 lX10_215 vX9_placeOf rc_19 (mX9_placeOf h7 hm (fun i hi => ⟨hpe1 i hi, by have := (zt_pe_in hi).1; omega⟩) hAb (z := w - 10) (by omega)) rfl rfl (Nat.le_of_ble_eq_true rfl) ?_
                  refine zk_i ?_
                  refine zx_iret (st := []) dX10_trades_119 rfl rfl ?_
                  have hcc : zC_ M1 (zk_tradesS σ q w) := by
                    rw [zk_tradesS, if_pos ⟨⟨by omega, by omega⟩, by omega, hm, by omega⟩]
                    exact zC_b (S := [0, 19, 20, 21, 22, 23]) (zf_tr (zf_s zf_rf (by decide)) (zf_mono hf (by decide))) hC (by decide) ⟨by rw [(hf 0 (by decide)).1]; simp [zw_s, ha], by rw [(hf 0 (by decide)).1]; simp [zw_s], by rw [(hf 0 (by decide)).1]; simp [zw_s, hc]⟩ (zKc_f (S := [0, 19, 20, 21, 22, 23]) (zf_tr (zf_s zf_rf (by decide)) (zf_mono hf (by decide))) hk (by decide))
                  exact zO_f (zf_tr (zf_s zf_rf (by decide)) (zf_mono hf (by decide))) hcc (by rw [zk_trades, if_neg (by omega), if_neg (by omega), if_neg (fun r => r ⟨by omega, hm, by omega⟩), Int.toNat_natCast, hbst, zt_tell]; (repeat' split) <;> first | rfl | omega)
                · refine zx_aload_n dX10_trades_98 rfl ?_
                  refine zx_getr dX10_trades_99 fX10_60 ?_
                  refine zx_callV (y1 := iX9_elsewhere) dX10_trades_102 lX10_212 vX9_elsewhere rc_19 (mX9_elsewhere hA10) rfl rfl (Nat.le_of_ble_eq_true rfl) ?_
                  refine zk_i ?_
                  refine zx_goto (tgt := 119) dX10_trades_105 (by decide) ?_
                  refine zx_iret (st := []) dX10_trades_119 rfl rfl ?_
                  have hcc : zC_ M1 (zk_tradesS σ q w) := by
                    rw [zk_tradesS, if_pos ⟨⟨by omega, by omega⟩, by omega, hm, by omega⟩]
                    exact zC_b (S := [0, 19, 20, 21, 22, 23]) (zf_tr (zf_s zf_rf (by decide)) (zf_mono hf (by decide))) hC (by decide) ⟨by rw [(hf 0 (by decide)).1]; simp [zw_s, ha], by rw [(hf 0 (by decide)).1]; simp [zw_s], by rw [(hf 0 (by decide)).1]; simp [zw_s, hc]⟩ (zKc_f (S := [0, 19, 20, 21, 22, 23]) (zf_tr (zf_s zf_rf (by decide)) (zf_mono hf (by decide))) hk (by decide))
                  exact zO_f (zf_tr (zf_s zf_rf (by decide)) (zf_mono hf (by decide))) hcc (by rw [zk_trades, if_neg (by omega), if_neg (by omega), if_neg (fun r => r ⟨by omega, hm, by omega⟩), Int.toNat_natCast, hbst, zt_tell]; (repeat' split) <;> first | rfl | omega)
              · refine zx_aload_n dX10_trades_85 rfl ?_
                refine zx_getr dX10_trades_86 fX10_60 ?_
                refine zx_callV (y1 := iX9_wetDoors) dX10_trades_89 lX10_209 vX9_wetDoors rc_19 (mX9_wetDoors hA9) rfl rfl (Nat.le_of_ble_eq_true rfl) ?_
                refine zk_i ?_
                refine zx_iret (st := []) dX10_trades_92 rfl rfl ?_
                have hcc : zC_ M1 (zk_tradesS σ q w) := by
                  rw [zk_tradesS, if_pos ⟨⟨by omega, by omega⟩, by omega, hm, by omega⟩]
                  exact zC_b (S := [0, 19, 20, 21, 22, 23]) (zf_tr (zf_s zf_rf (by decide)) (zf_mono hf (by decide))) hC (by decide) ⟨by rw [(hf 0 (by decide)).1]; simp [zw_s, ha], by rw [(hf 0 (by decide)).1]; simp [zw_s], by rw [(hf 0 (by decide)).1]; simp [zw_s, hc]⟩ (zKc_f (S := [0, 19, 20, 21, 22, 23]) (zf_tr (zf_s zf_rf (by decide)) (zf_mono hf (by decide))) hk (by decide))
                exact zO_f (zf_tr (zf_s zf_rf (by decide)) (zf_mono hf (by decide))) hcc (by rw [zk_trades, if_neg (by omega), if_neg (by omega), if_neg (fun r => r ⟨by omega, hm, by omega⟩), Int.toNat_natCast, hbst, zt_tell]; (repeat' split) <;> first | rfl | omega)
            · refine zx_bipush (v := zn_I (-103)) dX10_trades_60 (by decide) ?_
              refine zx_iret (st := []) dX10_trades_62 rfl rfl ?_
              rw [zk_tradesS, if_neg (by omega)]
              exact zO_i hC (by simp only [zk_trades, Int.toNat_natCast]; (repeat' split) <;> first | rfl | omega)
      · refine zx_iload_n dX10_trades_19 rfl ?_
        refine zx_callS (y1 := iX10_asksPlace) dX10_trades_20 lX10_151 sX10_asksPlace (mX10_asksPlace hww) rfl rfl (Nat.le_of_ble_eq_true rfl) ?_
        refine zk_i ?_
        refine zy_ifB_ne (tgt := 29) dX10_trades_23 (by decide) (fun h_23 => ?_) (fun h_23 => ?_)
        · refine zx_aload_n dX10_trades_29 rfl ?_
          refine zx_getr dX10_trades_30 fX10_26 ?_
          refine zx_callV (y1 := iX1_isThere) dX10_trades_33 lX10_195 vX1_isThere rc_4 (mX1_isThere hI) rfl rfl (Nat.le_of_ble_eq_true rfl) ?_
          refine zk_i ?_
          refine zy_ifB_eq (tgt := 60) dX10_trades_36 (by decide) (fun h_36 => ?_) (fun h_36 => ?_)
          · refine zx_bipush (v := zn_I (-103)) dX10_trades_60 (by decide) ?_
            refine zx_iret (st := []) dX10_trades_62 rfl rfl ?_
            rw [zk_tradesS, if_neg (by omega)]
            exact zO_i hC (by simp only [zk_trades, Int.toNat_natCast]; (repeat' split) <;> first | rfl | omega)
          · refine zx_aload_n dX10_trades_39 rfl ?_
            refine zx_getr dX10_trades_40 fX10_33 ?_
            refine zx_callV (y1 := iX8_people) dX10_trades_43 lX10_199 vX8_people rc_8 (mX8_people hT) rfl rfl (Nat.le_of_ble_eq_true rfl) ?_
            refine zk_i ?_
            refine zx_bipush (v := zn_I 6) dX10_trades_46 (by decide) ?_
            rw [hpop, hpm] at hm32 ⊢
            refine zy_icmp_gt (tgt := 60) dX10_trades_48 (by decide) (by omega) (fun h_48 => ?_) (fun h_48 => ?_)
            · refine zx_bipush (v := zn_I (-103)) dX10_trades_60 (by decide) ?_
              refine zx_iret (st := []) dX10_trades_62 rfl rfl ?_
              rw [zk_tradesS, if_neg (by omega)]
              exact zO_i hC (by simp only [zk_trades, Int.toNat_natCast]; (repeat' split) <;> first | rfl | omega)
            · refine zx_aload_n dX10_trades_51 rfl ?_
              refine zy_geti dX10_trades_52 fX10_202 (hb) ?_
              refine zx_bipush (v := zn_I 30) dX10_trades_55 (by decide) ?_
              refine zy_icmp_lt (tgt := 63) dX10_trades_57 (by decide) (by omega) (fun h_57 => ?_) (fun h_57 => ?_)
              · obtain ⟨q, rfl⟩ : ∃ n : Nat, q = (n : Int) := ⟨q.toNat, by omega⟩
                have hm : zt_m σ.2.1 ≤ 6 := by omega
                refine zx_aload_n dX10_trades_63 rfl ?_
                refine zx_dup dX10_trades_64 rfl ?_
                refine zy_geti dX10_trades_65 fX10_202 (hb) ?_
                refine zx_iconst (v := zn_I 1) dX10_trades_68 rfl ?_
                refine zy_iadd dX10_trades_69 ?_
                refine zx_puti dX10_trades_70 fX10_202 ?_
                refine zx_aload_n dX10_trades_73 rfl ?_
                refine zx_getr dX10_trades_74 fX10_60 ?_
                refine zx_iload_n dX10_trades_77 rfl ?_
                refine zx_callV (y1 := iX9_search) dX10_trades_78 lX10_205 vX9_search rc_19 (mX9_search (M := (zw_s M 0 11 (zn_I ((σ.2.2.2.1.2.1 : Int) + 1)))) (zI_f (zf_s (S := [0]) zf_rf (by decide)) hI (by decide)) (zT_f (zf_s (S := [0]) zf_rf (by decide)) hT (by decide)) (q := q) (by omega) hm) rfl rfl (Nat.le_of_ble_eq_true rfl) ?_
                intro v M1 he
                obtain ⟨rfl, hf, h7, hpe1, hacc⟩ := he
                obtain ⟨bw, be, bl, hbst⟩ := zt_best_some (π := σ.1) (τ := σ.2.1) (q := q) hm
                rw [hbst] at hacc
                obtain ⟨-, hA9, hA10, hAw, hAe, hAb⟩ := hacc
                refine zx_iload_n dX10_trades_81 rfl ?_
                refine zy_if_ne (tgt := 93) dX10_trades_82 (by decide) (by omega) (fun h_82 => ?_) (fun h_82 => ?_)
                · refine zx_iload_n dX10_trades_93 rfl ?_
                  refine zx_iconst (v := zn_I 1) dX10_trades_94 rfl ?_
                  refine zy_icmp_ne (tgt := 108) dX10_trades_95 (by decide) (by omega) (fun h_95 => ?_) (fun h_95 => ?_)
                  · refine zx_aload_n dX10_trades_108 rfl ?_
                    refine zx_getr dX10_trades_109 fX10_60 ?_
                    refine zx_iload_n dX10_trades_112 rfl ?_
                    refine zx_bipush (v := zn_I 10) dX10_trades_113 (by decide) ?_
                    refine zy_isub dX10_trades_115 ?_
                    refine zx_callV (y1 := iX9_placeOf) dX10_trades_116 lX10_215 vX9_placeOf rc_19 (mX9_placeOf h7 hm (fun i hi => ⟨hpe1 i hi, by have := (zt_pe_in hi).1; omega⟩) hAb (z := w - 10) (by omega)) rfl rfl (Nat.le_of_ble_eq_true rfl) ?_
                    refine zk_i ?_
                    refine zx_iret (st := []) dX10_trades_119 rfl rfl ?_
                    have hcc : zC_ M1 (zk_tradesS σ q w) := by
                      rw [zk_tradesS, if_pos ⟨⟨by omega, by omega⟩, by omega, hm, by omega⟩]
                      exact zC_b (S := [0, 19, 20, 21, 22, 23]) (zf_tr (zf_s zf_rf (by decide)) (zf_mono hf (by decide))) hC (by decide) ⟨by rw [(hf 0 (by decide)).1]; simp [zw_s, ha], by rw [(hf 0 (by decide)).1]; simp [zw_s], by rw [(hf 0 (by decide)).1]; simp [zw_s, hc]⟩ (zKc_f (S := [0, 19, 20, 21, 22, 23]) (zf_tr (zf_s zf_rf (by decide)) (zf_mono hf (by decide))) hk (by decide))
                    exact zO_f (zf_tr (zf_s zf_rf (by decide)) (zf_mono hf (by decide))) hcc (by rw [zk_trades, if_neg (by omega), if_neg (by omega), if_neg (fun r => r ⟨by omega, hm, by omega⟩), Int.toNat_natCast, hbst, zt_tell]; (repeat' split) <;> first | rfl | omega)
                  · refine zx_aload_n dX10_trades_98 rfl ?_
                    refine zx_getr dX10_trades_99 fX10_60 ?_
                    refine zx_callV (y1 := iX9_elsewhere) dX10_trades_102 lX10_212 vX9_elsewhere rc_19 (mX9_elsewhere hA10) rfl rfl (Nat.le_of_ble_eq_true rfl) ?_
                    refine zk_i ?_
                    refine zx_goto (tgt := 119) dX10_trades_105 (by decide) ?_
                    refine zx_iret (st := []) dX10_trades_119 rfl rfl ?_
                    have hcc : zC_ M1 (zk_tradesS σ q w) := by
                      rw [zk_tradesS, if_pos ⟨⟨by omega, by omega⟩, by omega, hm, by omega⟩]
                      exact zC_b (S := [0, 19, 20, 21, 22, 23]) (zf_tr (zf_s zf_rf (by decide)) (zf_mono hf (by decide))) hC (by decide) ⟨by rw [(hf 0 (by decide)).1]; simp [zw_s, ha], by rw [(hf 0 (by decide)).1]; simp [zw_s], by rw [(hf 0 (by decide)).1]; simp [zw_s, hc]⟩ (zKc_f (S := [0, 19, 20, 21, 22, 23]) (zf_tr (zf_s zf_rf (by decide)) (zf_mono hf (by decide))) hk (by decide))
                    exact zO_f (zf_tr (zf_s zf_rf (by decide)) (zf_mono hf (by decide))) hcc (by rw [zk_trades, if_neg (by omega), if_neg (by omega), if_neg (fun r => r ⟨by omega, hm, by omega⟩), Int.toNat_natCast, hbst, zt_tell]; (repeat' split) <;> first | rfl | omega)
                · refine zx_aload_n dX10_trades_85 rfl ?_
                  refine zx_getr dX10_trades_86 fX10_60 ?_
                  refine zx_callV (y1 := iX9_wetDoors) dX10_trades_89 lX10_209 vX9_wetDoors rc_19 (mX9_wetDoors hA9) rfl rfl (Nat.le_of_ble_eq_true rfl) ?_
                  refine zk_i ?_
                  refine zx_iret (st := []) dX10_trades_92 rfl rfl ?_
                  have hcc : zC_ M1 (zk_tradesS σ q w) := by
                    rw [zk_tradesS, if_pos ⟨⟨by omega, by omega⟩, by omega, hm, by omega⟩]
                    exact zC_b (S := [0, 19, 20, 21, 22, 23]) (zf_tr (zf_s zf_rf (by decide)) (zf_mono hf (by decide))) hC (by decide) ⟨by rw [(hf 0 (by decide)).1]; simp [zw_s, ha], by rw [(hf 0 (by decide)).1]; simp [zw_s], by rw [(hf 0 (by decide)).1]; simp [zw_s, hc]⟩ (zKc_f (S := [0, 19, 20, 21, 22, 23]) (zf_tr (zf_s zf_rf (by decide)) (zf_mono hf (by decide))) hk (by decide))
                  exact zO_f (zf_tr (zf_s zf_rf (by decide)) (zf_mono hf (by decide))) hcc (by rw [zk_trades, if_neg (by omega), if_neg (by omega), if_neg (fun r => r ⟨by omega, hm, by omega⟩), Int.toNat_natCast, hbst, zt_tell]; (repeat' split) <;> first | rfl | omega)
              · refine zx_bipush (v := zn_I (-103)) dX10_trades_60 (by decide) ?_
                refine zx_iret (st := []) dX10_trades_62 rfl rfl ?_
                rw [zk_tradesS, if_neg (by omega)]
                exact zO_i hC (by simp only [zk_trades, Int.toNat_natCast]; (repeat' split) <;> first | rfl | omega)
        · refine zx_bipush (v := zn_I (-102)) dX10_trades_26 (by decide) ?_
          refine zx_iret (st := []) dX10_trades_28 rfl rfl ?_
          rw [zk_tradesS, if_neg (by omega)]
          exact zO_i hC (by simp only [zk_trades, Int.toNat_natCast]; (repeat' split) <;> first | rfl | omega)
  · refine zx_bipush (v := zn_I (-101)) dX10_trades_7 (by decide) ?_
    refine zx_iret (st := []) dX10_trades_9 rfl rfl ?_
    rw [zk_tradesS, if_neg (by omega)]
    exact zO_i hC (by simp only [zk_trades, Int.toNat_natCast]; (repeat' split) <;> first | rfl | omega)
set_option maxRecDepth 100000 in
set_option maxHeartbeats 600000 in
theorem mX10_counter {l : Launch} {d : Nat} {M : zw_M} {σ : zZ} (hC : zC_ M σ) {s : Int} (hss : -2147483648 ≤ s ∧ s < 2147483648) {w : Int} (hww : -2147483648 ≤ w ∧ w < 2147483648) {x : Int} (hxx : -2147483648 ≤ x ∧ x < 2147483648) : zw_C l (d + 6) iX10_counter [.ref 0, .int (zn_I s), .int (zn_I w), .int (zn_I x)] M (zO (zn_I (zk_counter σ s w x)) σ M) := by
  obtain ⟨hI, hT, hG, ⟨ha, hb, hc⟩, hk⟩ := id hC
  have hp := hI.1
  have h30 := zp_30 hp
  have h8 := hT.1
  refine zw_of (by decide +kernel) (Nat.le_of_ble_eq_true rfl) ?_
  refine zy_loc (L1 := [.ref 0, .int (zn_I s), .int (zn_I w), .int (zn_I x)]) rfl ?_
  refine zx_aload_n dX10_counter_0 rfl ?_
  refine zx_getr dX10_counter_1 fX10_26 ?_
  refine zx_iload_n dX10_counter_4 rfl ?_
  refine zx_callV (y1 := iX1_has) dX10_counter_5 lX10_125 vX1_has rc_4 (mX1_has hI hss) rfl rfl (Nat.le_of_ble_eq_true rfl) ?_
  refine zk_i ?_
  refine zy_ifB_ne (tgt := 14) dX10_counter_8 (by decide) (fun h_8 => ?_) (fun h_8 => ?_)
  · refine zx_iload_n dX10_counter_14 rfl ?_
    refine zx_callS (y1 := iX10_isWeight) dX10_counter_15 lX10_144 sX10_isWeight (mX10_isWeight hww) rfl rfl (Nat.le_of_ble_eq_true rfl) ?_
    refine zk_i ?_
    refine zy_ifB_eq (tgt := 30) dX10_counter_18 (by decide) (fun h_18 => ?_) (fun h_18 => ?_)
    · refine zx_bipush (v := zn_I (-102)) dX10_counter_30 (by decide) ?_
      refine zx_iret (st := []) dX10_counter_32 rfl rfl ?_
      exact zO_i hC (by simp only [zk_counter, Int.toNat_natCast]; (repeat' split) <;> first | rfl | omega)
    · refine zx_iload_n dX10_counter_21 rfl ?_
      refine zy_if_eq (tgt := 33) dX10_counter_22 (by decide) (by omega) (fun h_22 => ?_) (fun h_22 => ?_)
      · obtain ⟨s, rfl⟩ : ∃ n : Nat, s = (n : Int) := ⟨s.toNat, by omega⟩
        refine zx_aload_n dX10_counter_33 rfl ?_
        refine zx_getr dX10_counter_34 fX10_10 ?_
        refine zx_callV (y1 := iX3_isWay) dX10_counter_37 lX10_218 vX3_isWay rc_1 (mX3_isWay hG) rfl rfl (Nat.le_of_ble_eq_true rfl) ?_
        refine zk_i ?_
        refine zy_ifB_eq (tgt := 54) dX10_counter_40 (by decide) (fun h_40 => ?_) (fun h_40 => ?_)
        · refine zx_bipush (v := zn_I (-103)) dX10_counter_54 (by decide) ?_
          refine zx_iret (st := []) dX10_counter_56 rfl rfl ?_
          exact zO_i hC (by rw [zk_counter, if_neg (by omega), if_neg (by omega), if_pos (fun r => h_40 r.1)])
        · refine zx_aload_n dX10_counter_43 rfl ?_
          refine zx_getr dX10_counter_44 fX10_51 ?_
          refine zx_iload_n dX10_counter_47 rfl ?_
          refine zx_callV (y1 := iX5_firstGoesFrom) dX10_counter_48 lX10_221 vX5_firstGoesFrom rc_16 (mX5_firstGoesFrom hI hG (s := s) (by omega)) rfl rfl (Nat.le_of_ble_eq_true rfl) ?_
          intro v M1 he
          obtain ⟨rfl, hf, h17⟩ := he
          refine zy_ifB_ne (tgt := 57) dX10_counter_51 (by decide) (fun h_51 => ?_) (fun h_51 => ?_)
          · refine zx_aload_n dX10_counter_57 rfl ?_
            refine zx_getr dX10_counter_58 fX10_51 ?_
            refine zx_iload_n dX10_counter_61 rfl ?_
            refine zx_callV (y1 := iX5_search) dX10_counter_62 lX10_224 vX5_search rc_16 (mX5_search (zI_f hf hI (by decide)) (zG_f hf hG (by decide)) (zT_f hf hT (by decide)) (by omega) (s1 := s) (fun q hq => ⟨h17 h_51 q hq, zo_p_lt (s := s) (by omega) (zo_some h_51 (q := q) (by omega))⟩)) rfl rfl (Nat.le_of_ble_eq_true rfl) ?_
            intro v M2 he
            obtain ⟨rfl, hf2, hA5, hA6⟩ := he
            refine zx_iload_n dX10_counter_65 rfl ?_
            refine zy_if_ne (tgt := 79) dX10_counter_66 (by decide) (by omega) (fun h_66 => ?_) (fun h_66 => ?_)
            · refine zx_aload_n dX10_counter_79 rfl ?_
              refine zx_getr dX10_counter_80 fX10_51 ?_
              refine zx_callV (y1 := iX5_wetDoors) dX10_counter_83 lX10_228 vX5_wetDoors rc_16 (mX5_wetDoors hA6) rfl rfl (Nat.le_of_ble_eq_true rfl) ?_
              refine zk_i ?_
              refine zx_iret (st := []) dX10_counter_86 rfl rfl ?_
              exact zO_f (zf_mono (zf_tr (zf_mono (S1 := [14, 15, 16, 17, 18]) hf (by decide)) (zf_mono hf2 (by decide))) (by decide)) (zC_f (S := [14, 15, 16, 17, 18]) (zf_tr (zf_mono hf (by decide)) (zf_mono hf2 (by decide))) hC (by decide)) (by rw [zk_counter, if_neg (by omega), if_neg (by omega), if_neg (fun r => r ⟨h_40, h_51⟩), Int.toNat_natCast]; split <;> first | rfl | omega)
            · refine zx_aload_n dX10_counter_69 rfl ?_
              refine zx_getr dX10_counter_70 fX10_51 ?_
              refine zx_callV (y1 := iX5_start) dX10_counter_73 lX10_225 vX5_start rc_16 (mX5_start hA5) rfl rfl (Nat.le_of_ble_eq_true rfl) ?_
              refine zk_i ?_
              refine zx_goto (tgt := 86) dX10_counter_76 (by decide) ?_
              refine zx_iret (st := []) dX10_counter_86 rfl rfl ?_
              exact zO_f (zf_mono (zf_tr (zf_mono (S1 := [14, 15, 16, 17, 18]) hf (by decide)) (zf_mono hf2 (by decide))) (by decide)) (zC_f (S := [14, 15, 16, 17, 18]) (zf_tr (zf_mono hf (by decide)) (zf_mono hf2 (by decide))) hC (by decide)) (by rw [zk_counter, if_neg (by omega), if_neg (by omega), if_neg (fun r => r ⟨h_40, h_51⟩), Int.toNat_natCast]; split <;> first | rfl | omega)
          · refine zx_bipush (v := zn_I (-103)) dX10_counter_54 (by decide) ?_
            refine zx_iret (st := []) dX10_counter_56 rfl rfl ?_
            exact zO_f (zf_mono hf (by decide)) (zC_f hf hC (by decide)) (by rw [zk_counter, if_neg (by omega), if_neg (by omega), if_pos (fun r => h_51 r.2)])
      · refine zx_iload_n dX10_counter_25 rfl ?_
        refine zx_iconst (v := zn_I 1) dX10_counter_26 rfl ?_
        refine zy_icmp_eq (tgt := 33) dX10_counter_27 (by decide) (by omega) (fun h_27 => ?_) (fun h_27 => ?_)
        · obtain ⟨s, rfl⟩ : ∃ n : Nat, s = (n : Int) := ⟨s.toNat, by omega⟩
          refine zx_aload_n dX10_counter_33 rfl ?_
          refine zx_getr dX10_counter_34 fX10_10 ?_
          refine zx_callV (y1 := iX3_isWay) dX10_counter_37 lX10_218 vX3_isWay rc_1 (mX3_isWay hG) rfl rfl (Nat.le_of_ble_eq_true rfl) ?_
          refine zk_i ?_
          refine zy_ifB_eq (tgt := 54) dX10_counter_40 (by decide) (fun h_40 => ?_) (fun h_40 => ?_)
          · refine zx_bipush (v := zn_I (-103)) dX10_counter_54 (by decide) ?_
            refine zx_iret (st := []) dX10_counter_56 rfl rfl ?_
            exact zO_i hC (by rw [zk_counter, if_neg (by omega), if_neg (by omega), if_pos (fun r => h_40 r.1)])
          · refine zx_aload_n dX10_counter_43 rfl ?_
            refine zx_getr dX10_counter_44 fX10_51 ?_
            refine zx_iload_n dX10_counter_47 rfl ?_
            refine zx_callV (y1 := iX5_firstGoesFrom) dX10_counter_48 lX10_221 vX5_firstGoesFrom rc_16 (mX5_firstGoesFrom hI hG (s := s) (by omega)) rfl rfl (Nat.le_of_ble_eq_true rfl) ?_
            intro v M1 he
            obtain ⟨rfl, hf, h17⟩ := he
            refine zy_ifB_ne (tgt := 57) dX10_counter_51 (by decide) (fun h_51 => ?_) (fun h_51 => ?_)
            · refine zx_aload_n dX10_counter_57 rfl ?_
              refine zx_getr dX10_counter_58 fX10_51 ?_
              refine zx_iload_n dX10_counter_61 rfl ?_
              refine zx_callV (y1 := iX5_search) dX10_counter_62 lX10_224 vX5_search rc_16 (mX5_search (zI_f hf hI (by decide)) (zG_f hf hG (by decide)) (zT_f hf hT (by decide)) (by omega) (s1 := s) (fun q hq => ⟨h17 h_51 q hq, zo_p_lt (s := s) (by omega) (zo_some h_51 (q := q) (by omega))⟩)) rfl rfl (Nat.le_of_ble_eq_true rfl) ?_
              intro v M2 he
              obtain ⟨rfl, hf2, hA5, hA6⟩ := he
              refine zx_iload_n dX10_counter_65 rfl ?_
              refine zy_if_ne (tgt := 79) dX10_counter_66 (by decide) (by omega) (fun h_66 => ?_) (fun h_66 => ?_)
              · refine zx_aload_n dX10_counter_79 rfl ?_
                refine zx_getr dX10_counter_80 fX10_51 ?_
                refine zx_callV (y1 := iX5_wetDoors) dX10_counter_83 lX10_228 vX5_wetDoors rc_16 (mX5_wetDoors hA6) rfl rfl (Nat.le_of_ble_eq_true rfl) ?_
                refine zk_i ?_
                refine zx_iret (st := []) dX10_counter_86 rfl rfl ?_
                exact zO_f (zf_mono (zf_tr (zf_mono (S1 := [14, 15, 16, 17, 18]) hf (by decide)) (zf_mono hf2 (by decide))) (by decide)) (zC_f (S := [14, 15, 16, 17, 18]) (zf_tr (zf_mono hf (by decide)) (zf_mono hf2 (by decide))) hC (by decide)) (by rw [zk_counter, if_neg (by omega), if_neg (by omega), if_neg (fun r => r ⟨h_40, h_51⟩), Int.toNat_natCast]; split <;> first | rfl | omega)
              · refine zx_aload_n dX10_counter_69 rfl ?_
                refine zx_getr dX10_counter_70 fX10_51 ?_
                refine zx_callV (y1 := iX5_start) dX10_counter_73 lX10_225 vX5_start rc_16 (mX5_start hA5) rfl rfl (Nat.le_of_ble_eq_true rfl) ?_
                refine zk_i ?_
                refine zx_goto (tgt := 86) dX10_counter_76 (by decide) ?_
                refine zx_iret (st := []) dX10_counter_86 rfl rfl ?_
                exact zO_f (zf_mono (zf_tr (zf_mono (S1 := [14, 15, 16, 17, 18]) hf (by decide)) (zf_mono hf2 (by decide))) (by decide)) (zC_f (S := [14, 15, 16, 17, 18]) (zf_tr (zf_mono hf (by decide)) (zf_mono hf2 (by decide))) hC (by decide)) (by rw [zk_counter, if_neg (by omega), if_neg (by omega), if_neg (fun r => r ⟨h_40, h_51⟩), Int.toNat_natCast]; split <;> first | rfl | omega)
            · refine zx_bipush (v := zn_I (-103)) dX10_counter_54 (by decide) ?_
              refine zx_iret (st := []) dX10_counter_56 rfl rfl ?_
              exact zO_f (zf_mono hf (by decide)) (zC_f hf hC (by decide)) (by rw [zk_counter, if_neg (by omega), if_neg (by omega), if_pos (fun r => h_51 r.2)])
        · refine zx_bipush (v := zn_I (-102)) dX10_counter_30 (by decide) ?_
          refine zx_iret (st := []) dX10_counter_32 rfl rfl ?_
          exact zO_i hC (by simp only [zk_counter, Int.toNat_natCast]; (repeat' split) <;> first | rfl | omega)
  · refine zx_bipush (v := zn_I (-101)) dX10_counter_11 (by decide) ?_
    refine zx_iret (st := []) dX10_counter_13 rfl rfl ?_
    exact zO_i hC (by simp only [zk_counter, Int.toNat_natCast]; (repeat' split) <;> first | rfl | omega)
set_option maxRecDepth 100000 in
set_option maxHeartbeats 600000 in
theorem mX10_stones {l : Launch} {d : Nat} {M : zw_M} {σ : zZ} (hC : zC_ M σ) (hok : zok σ) {w : Int} (hww : -2147483648 ≤ w ∧ w < 2147483648) : zw_C l (d + 10) iX10_stones [.ref 0, .int (zn_I w)] M (zO (zk_stones σ w) (zk_stonesS σ w) M) := by
  obtain ⟨hI, hT, hG, ⟨ha, hb, hc⟩, hk⟩ := id hC
  have hp := hI.1
  have h30 := zp_30 hp
  have h8 := hT.1
  have hpe := hok.1.2
  refine zw_of (by decide +kernel) (Nat.le_of_ble_eq_true rfl) ?_
  refine zy_loc (L1 := [.ref 0, .int (zn_I w)]) rfl ?_
  refine zx_iload_n dX10_stones_0 rfl ?_
  refine zy_if_lt (tgt := 9) dX10_stones_1 (by decide) (by omega) (fun h_1 => ?_) (fun h_1 => ?_)
  · refine zx_bipush (v := zn_I (-102)) dX10_stones_9 (by decide) ?_
    refine zx_iret (st := []) dX10_stones_11 rfl rfl ?_
    rw [zk_stonesS, if_neg (by omega)]
    refine ⟨?_, zf_rf, hC⟩
    rw [zk_stones, if_pos (by omega)]
  · refine zx_iload_n dX10_stones_4 rfl ?_
    refine zx_iconst (v := zn_I 5) dX10_stones_5 rfl ?_
    refine zy_icmp_lt (tgt := 12) dX10_stones_6 (by decide) (by omega) (fun h_6 => ?_) (fun h_6 => ?_)
    · refine zx_aload_n dX10_stones_12 rfl ?_
      refine zx_getr dX10_stones_13 fX10_26 ?_
      refine zx_callV (y1 := iX1_isThere) dX10_stones_16 lX10_195 vX1_isThere rc_4 (mX1_isThere hI) rfl rfl (Nat.le_of_ble_eq_true rfl) ?_
      refine zk_i ?_
      refine zy_ifB_eq (tgt := 31) dX10_stones_19 (by decide) (fun h_19 => ?_) (fun h_19 => ?_)
      · refine zx_bipush (v := zn_I (-103)) dX10_stones_31 (by decide) ?_
        refine zx_iret (st := []) dX10_stones_33 rfl rfl ?_
        rw [zk_stonesS, if_neg (by omega)]
        refine ⟨?_, zf_rf, hC⟩
        rw [zk_stones, if_neg (by omega), if_pos (by omega)]
      · refine zx_aload_n dX10_stones_22 rfl ?_
        refine zy_geti dX10_stones_23 fX10_229 (hc) ?_
        refine zx_bipush (v := zn_I 20) dX10_stones_26 (by decide) ?_
        refine zy_icmp_lt (tgt := 34) dX10_stones_28 (by decide) (by omega) (fun h_28 => ?_) (fun h_28 => ?_)
        · refine zx_aload_n dX10_stones_34 rfl ?_
          refine zx_dup dX10_stones_35 rfl ?_
          refine zy_geti dX10_stones_36 fX10_229 (hc) ?_
          refine zx_iconst (v := zn_I 1) dX10_stones_39 rfl ?_
          refine zy_iadd dX10_stones_40 ?_
          refine zx_puti dX10_stones_41 fX10_229 ?_
          refine zx_aload_n dX10_stones_44 rfl ?_
          refine zx_getr dX10_stones_45 fX10_67 ?_
          refine zx_callV (y1 := iX7_search) dX10_stones_48 lX10_232 vX7_search rc_24 (mX7_search (M := (zw_s M 0 12 (zn_I ((σ.2.2.2.1.2.2 : Int) + 1)))) (zI_f (zf_s (S := [0]) zf_rf (by decide)) hI (by decide)) (zT_f (zf_s (S := [0]) zf_rf (by decide)) hT (by decide))) rfl rfl (Nat.le_of_ble_eq_true rfl) ?_
          intro v M1 he
          obtain ⟨rfl, hf, hfd⟩ := he
          obtain ⟨w, rfl⟩ : ∃ n : Nat, w = (n : Int) := ⟨w.toNat, by omega⟩
          refine zx_aload_n dX10_stones_51 rfl ?_
          refine zx_getr dX10_stones_52 fX10_67 ?_
          refine zx_iload_n dX10_stones_55 rfl ?_
          refine zx_callV (y1 := iX7_found) dX10_stones_56 lX10_234 vX7_found rc_24 (mX7_found (f := M1.1 25) rfl (j := w) (by omega)) rfl rfl (Nat.le_of_ble_eq_true rfl) ?_
          refine zk_i ?_
          refine zx_iret (st := []) dX10_stones_59 rfl rfl ?_
          have hfa : zw_fr [0, 14, 15, 24, 25, 26] M M1 := zf_tr (zf_s zf_rf (by decide)) (zf_mono hf (by decide))
          refine ⟨?_, zf_mono hfa (by decide), ?_⟩
          · rw [zk_stones, if_neg (by omega), if_neg (by omega), hfd w (by omega), Int.toNat_natCast]
          · rw [zk_stonesS, if_pos ⟨by omega, by omega, by omega⟩]
            exact zC_b hfa hC (by decide) ⟨by rw [(hf 0 (by decide)).1]; simp [zw_s, ha], by rw [(hf 0 (by decide)).1]; simp [zw_s, hb], by rw [(hf 0 (by decide)).1]; simp [zw_s]⟩ (zKc_f hfa hk (by decide))
        · refine zx_bipush (v := zn_I (-103)) dX10_stones_31 (by decide) ?_
          refine zx_iret (st := []) dX10_stones_33 rfl rfl ?_
          rw [zk_stonesS, if_neg (by omega)]
          refine ⟨?_, zf_rf, hC⟩
          rw [zk_stones, if_neg (by omega), if_pos (by omega)]
    · refine zx_bipush (v := zn_I (-102)) dX10_stones_9 (by decide) ?_
      refine zx_iret (st := []) dX10_stones_11 rfl rfl ?_
      rw [zk_stonesS, if_neg (by omega)]
      refine ⟨?_, zf_rf, hC⟩
      rw [zk_stones, if_pos (by omega)]
set_option maxRecDepth 100000 in
set_option maxHeartbeats 600000 in
theorem mX10_site {l : Launch} {d : Nat} {M : zw_M} {σ : zZ} (hC : zC_ M σ) {w : Int} (hww : -2147483648 ≤ w ∧ w < 2147483648) : zw_C l (d + 6) iX10_site [.ref 0, .int (zn_I w)] M (zO (zn_I (zk_site σ w)) σ M) := by
  obtain ⟨hI, hT, hG, ⟨ha, hb, hc⟩, hk⟩ := id hC
  have hp := hI.1
  have h30 := zp_30 hp
  have h8 := hT.1
  refine zw_of (by decide +kernel) (Nat.le_of_ble_eq_true rfl) ?_
  refine zy_loc (L1 := [.ref 0, .int (zn_I w)]) rfl ?_
  refine zx_iload_n dX10_site_0 rfl ?_
  refine zx_callS (y1 := iX10_isWeight) dX10_site_1 lX10_144 sX10_isWeight (mX10_isWeight hww) rfl rfl (Nat.le_of_ble_eq_true rfl) ?_
  refine zk_i ?_
  refine zy_ifB_ne (tgt := 10) dX10_site_4 (by decide) (fun h_4 => ?_) (fun h_4 => ?_)
  · refine zx_aload_n dX10_site_10 rfl ?_
    refine zx_getr dX10_site_11 fX10_26 ?_
    refine zx_callV (y1 := iX1_isThere) dX10_site_14 lX10_195 vX1_isThere rc_4 (mX1_isThere hI) rfl rfl (Nat.le_of_ble_eq_true rfl) ?_
    refine zk_i ?_
    refine zy_ifB_eq (tgt := 31) dX10_site_17 (by decide) (fun h_17 => ?_) (fun h_17 => ?_)
    · refine zx_bipush (v := zn_I (-103)) dX10_site_31 (by decide) ?_
      refine zx_iret (st := []) dX10_site_33 rfl rfl ?_
      exact zO_i hC (by simp only [zk_site, Int.toNat_natCast]; (repeat' split) <;> first | rfl | omega)
    · refine zx_aload_n dX10_site_20 rfl ?_
      refine zx_getr dX10_site_21 fX10_42 ?_
      refine zx_iload_n dX10_site_24 rfl ?_
      refine zx_callV (y1 := iX0_driestSquareFor) dX10_site_25 lX10_237 vX0_driestSquareFor rc_13 (mX0_driestSquareFor hI hT (w := w) (by omega)) rfl rfl (Nat.le_of_ble_eq_true rfl) ?_
      intro v M1 he
      obtain ⟨rfl, hf⟩ := he
      refine zx_goto (tgt := 33) dX10_site_28 (by decide) ?_
      refine zx_iret (st := []) dX10_site_33 rfl rfl ?_
      exact zO_f (zf_mono hf (by decide)) (zC_f hf hC (by decide)) (by simp only [zk_site, zsite, Int.toNat_natCast]; (repeat' split) <;> first | rfl | omega)
  · refine zx_bipush (v := zn_I (-102)) dX10_site_7 (by decide) ?_
    refine zx_iret (st := []) dX10_site_9 rfl rfl ?_
    exact zO_i hC (by simp only [zk_site, Int.toNat_natCast]; (repeat' split) <;> first | rfl | omega)
set_option maxRecDepth 100000 in
set_option maxHeartbeats 600000 in
theorem mX10_late {l : Launch} {d : Nat} {M : zw_M} {σ : zZ} (hC : zC_ M σ) {q : Int} (hqq : -2147483648 ≤ q ∧ q < 2147483648) {e : Int} (hee : -2147483648 ≤ e ∧ e < 2147483648) {x : Int} (hxx : -2147483648 ≤ x ∧ x < 2147483648) : zw_C l (d + 5) iX10_late [.ref 0, .int (zn_I q), .int (zn_I e), .int (zn_I x)] M (zO (zn_I (zk_late σ q e x)) σ M) := by
  obtain ⟨hI, hT, hG, ⟨ha, hb, hc⟩, hk⟩ := id hC
  have hp := hI.1
  have h30 := zp_30 hp
  have h8 := hT.1
  have h2n := Nat.pow_le_pow_right (show 0 < 2 by omega) h30
  refine zw_of (by decide +kernel) (Nat.le_of_ble_eq_true rfl) ?_
  refine zy_loc (L1 := [.ref 0, .int (zn_I q), .int (zn_I e), .int (zn_I x)]) rfl ?_
  refine zx_iload_n dX10_late_0 rfl ?_
  refine zx_callS (y1 := iX10_isQuarter) dX10_late_1 lX10_171 sX10_isQuarter (mX10_isQuarter hqq) rfl rfl (Nat.le_of_ble_eq_true rfl) ?_
  refine zk_i ?_
  refine zy_ifB_eq (tgt := 11) dX10_late_4 (by decide) (fun h_4 => ?_) (fun h_4 => ?_)
  · refine zx_bipush (v := zn_I (-101)) dX10_late_11 (by decide) ?_
    refine zx_iret (st := []) dX10_late_13 rfl rfl ?_
    exact zO_i hC (by rw [zk_late, if_pos (by omega)])
  · refine zx_iload_n dX10_late_7 rfl ?_
    refine zy_if_ne (tgt := 14) dX10_late_8 (by decide) (by omega) (fun h_8 => ?_) (fun h_8 => ?_)
    · refine zx_aload_n dX10_late_14 rfl ?_
      refine zx_getr dX10_late_15 fX10_26 ?_
      refine zx_iload_n dX10_late_18 rfl ?_
      refine zx_callV (y1 := iX1_hasAll) dX10_late_19 lX10_240 vX1_hasAll rc_4 (mX1_hasAll hI hee) rfl rfl (Nat.le_of_ble_eq_true rfl) ?_
      refine zk_i ?_
      refine zy_ifB_eq (tgt := 34) dX10_late_22 (by decide) (fun h_22 => ?_) (fun h_22 => ?_)
      · refine zx_bipush (v := zn_I (-102)) dX10_late_34 (by decide) ?_
        refine zx_iret (st := []) dX10_late_36 rfl rfl ?_
        exact zO_i hC (by rw [zk_late, if_neg (by omega), if_pos (fun r => h_22 r.1)])
      · refine zx_iload_n dX10_late_25 rfl ?_
        refine zy_if_lt (tgt := 34) dX10_late_26 (by decide) (by omega) (fun h_26 => ?_) (fun h_26 => ?_)
        · refine zx_bipush (v := zn_I (-102)) dX10_late_34 (by decide) ?_
          refine zx_iret (st := []) dX10_late_36 rfl rfl ?_
          exact zO_i hC (by rw [zk_late, if_neg (by omega), if_pos (fun r => by omega)])
        · refine zx_iload_n dX10_late_29 rfl ?_
          refine zx_iconst (v := zn_I 3) dX10_late_30 rfl ?_
          refine zy_icmp_lt (tgt := 37) dX10_late_31 (by decide) (by omega) (fun h_31 => ?_) (fun h_31 => ?_)
          · refine zx_aload_n dX10_late_37 rfl ?_
            refine zx_getr dX10_late_38 fX10_26 ?_
            refine zx_callV (y1 := iX1_isThere) dX10_late_41 lX10_195 vX1_isThere rc_4 (mX1_isThere hI) rfl rfl (Nat.le_of_ble_eq_true rfl) ?_
            refine zk_i ?_
            refine zy_ifB_ne (tgt := 50) dX10_late_44 (by decide) (fun h_44 => ?_) (fun h_44 => ?_)
            · obtain ⟨q, rfl⟩ : ∃ n : Nat, q = (n : Int) := ⟨q.toNat, by omega⟩
              obtain ⟨x, rfl⟩ : ∃ n : Nat, x = (n : Int) := ⟨x.toNat, by omega⟩
              refine zx_aload_n dX10_late_50 rfl ?_
              refine zx_getr dX10_late_51 fX10_74 ?_
              refine zx_iload_n dX10_late_54 rfl ?_
              refine zx_iload_n dX10_late_55 rfl ?_
              refine zx_callV (y1 := iX2_search) dX10_late_56 lX10_243 vX2_search rc_27 (mX2_search hI hT (q := q) (by omega) (doors := e) (by omega)) rfl rfl (Nat.le_of_ble_eq_true rfl) ?_
              intro v M1 he
              obtain ⟨rfl, hf, hfd⟩ := he
              refine zx_aload_n dX10_late_59 rfl ?_
              refine zx_getr dX10_late_60 fX10_74 ?_
              refine zx_iload_n dX10_late_63 rfl ?_
              refine zx_callV (y1 := iX2_found) dX10_late_64 lX10_245 vX2_found rc_27 (mX2_found hfd (j := x) (by omega)) rfl rfl (Nat.le_of_ble_eq_true rfl) ?_
              refine zk_i ?_
              refine zx_iret (st := []) dX10_late_67 rfl rfl ?_
              exact zO_f (zf_mono hf (by decide)) (zC_f hf hC (by decide)) (by rw [zk_late, if_neg (by omega), if_neg (fun r => r ⟨h_22, by omega⟩), if_neg (by omega), Int.toNat_natCast, Int.toNat_natCast])
            · refine zx_bipush (v := zn_I (-103)) dX10_late_47 (by decide) ?_
              refine zx_iret (st := []) dX10_late_49 rfl rfl ?_
              exact zO_i hC (by rw [zk_late, if_neg (by omega), if_neg (fun r => r ⟨h_22, by omega⟩), if_pos h_44])
          · refine zx_bipush (v := zn_I (-102)) dX10_late_34 (by decide) ?_
            refine zx_iret (st := []) dX10_late_36 rfl rfl ?_
            exact zO_i hC (by rw [zk_late, if_neg (by omega), if_pos (fun r => by omega)])
    · refine zx_bipush (v := zn_I (-101)) dX10_late_11 (by decide) ?_
      refine zx_iret (st := []) dX10_late_13 rfl rfl ?_
      exact zO_i hC (by rw [zk_late, if_pos (by omega)])
set_option maxRecDepth 100000 in
set_option maxHeartbeats 600000 in
theorem mX10_storm {l : Launch} {d : Nat} {M : zw_M} {σ : zZ} (hC : zC_ M σ) {q : Int} (hqq : -2147483648 ≤ q ∧ q < 2147483648) : zw_C l (d + 5) iX10_storm [.ref 0, .int (zn_I q)] M (zO (zn_I (zk_storm σ q)) σ M) := by
  obtain ⟨hI, hT, hG, ⟨ha, hb, hc⟩, hk⟩ := id hC
  have hp := hI.1
  have h30 := zp_30 hp
  have h8 := hT.1
  refine zw_of (by decide +kernel) (Nat.le_of_ble_eq_true rfl) ?_
  refine zy_loc (L1 := [.ref 0, .int (zn_I q)]) rfl ?_
  refine zx_iload_n dX10_storm_0 rfl ?_
  refine zx_callS (y1 := iX10_isQuarter) dX10_storm_1 lX10_171 sX10_isQuarter (mX10_isQuarter hqq) rfl rfl (Nat.le_of_ble_eq_true rfl) ?_
  refine zk_i ?_
  refine zy_ifB_ne (tgt := 10) dX10_storm_4 (by decide) (fun h_4 => ?_) (fun h_4 => ?_)
  · refine zx_aload_n dX10_storm_10 rfl ?_
    refine zx_getr dX10_storm_11 fX10_26 ?_
    refine zx_callV (y1 := iX1_isThere) dX10_storm_14 lX10_195 vX1_isThere rc_4 (mX1_isThere hI) rfl rfl (Nat.le_of_ble_eq_true rfl) ?_
    refine zk_i ?_
    refine zy_ifB_eq (tgt := 31) dX10_storm_17 (by decide) (fun h_17 => ?_) (fun h_17 => ?_)
    · refine zx_bipush (v := zn_I (-103)) dX10_storm_31 (by decide) ?_
      refine zx_iret (st := []) dX10_storm_33 rfl rfl ?_
      exact zO_i hC (by simp only [zk_storm, Int.toNat_natCast]; (repeat' split) <;> first | rfl | omega)
    · obtain ⟨q, rfl⟩ : ∃ n : Nat, q = (n : Int) := ⟨q.toNat, by omega⟩
      refine zx_aload_n dX10_storm_20 rfl ?_
      refine zx_getr dX10_storm_21 fX10_81 ?_
      refine zx_iload_n dX10_storm_24 rfl ?_
      refine zx_callV (y1 := iX6_dryMinuteOfStorm) dX10_storm_25 lX10_246 vX6_dryMinuteOfStorm rc_31 (mX6_dryMinuteOfStorm hI hT (q := q) (by omega)) rfl rfl (Nat.le_of_ble_eq_true rfl) ?_
      intro v M1 he
      obtain ⟨rfl, hf⟩ := he
      refine zx_goto (tgt := 33) dX10_storm_28 (by decide) ?_
      refine zx_iret (st := []) dX10_storm_33 rfl rfl ?_
      exact zO_f (zf_mono hf (by decide)) (zC_f hf hC (by decide)) (by simp only [zk_storm, Int.toNat_natCast]; (repeat' split) <;> first | rfl | omega)
  · refine zx_bipush (v := zn_I (-101)) dX10_storm_7 (by decide) ?_
    refine zx_iret (st := []) dX10_storm_9 rfl rfl ?_
    exact zO_i hC (by simp only [zk_storm, Int.toNat_natCast]; (repeat' split) <;> first | rfl | omega)
set_option maxRecDepth 100000 in
set_option maxHeartbeats 600000 in
theorem mX10_moss {l : Launch} {d : Nat} {M : zw_M} {σ : zZ} (hC : zC_ M σ) : zw_C l (d + 10) iX10_moss [.ref 0] M (zO (zn_I (zk_moss σ)) σ M) := by
  obtain ⟨hI, hT, hG, ⟨ha, hb, hc⟩, hk⟩ := id hC
  have hp := hI.1
  have h30 := zp_30 hp
  have h8 := hT.1
  refine zw_of (by decide +kernel) (Nat.le_of_ble_eq_true rfl) ?_
  refine zy_loc (L1 := [.ref 0]) rfl ?_
  refine zx_aload_n dX10_moss_0 rfl ?_
  refine zx_getr dX10_moss_1 fX10_26 ?_
  refine zx_callV (y1 := iX1_isThere) dX10_moss_4 lX10_195 vX1_isThere rc_4 (mX1_isThere hI) rfl rfl (Nat.le_of_ble_eq_true rfl) ?_
  refine zk_i ?_
  refine zy_ifB_eq (tgt := 20) dX10_moss_7 (by decide) (fun h_7 => ?_) (fun h_7 => ?_)
  · refine zx_bipush (v := zn_I (-103)) dX10_moss_20 (by decide) ?_
    refine zx_iret (st := []) dX10_moss_22 rfl rfl ?_
    exact zO_i hC (by simp only [zk_moss, Int.toNat_natCast]; (repeat' split) <;> first | rfl | omega)
  · refine zx_aload_n dX10_moss_10 rfl ?_
    refine zx_getr dX10_moss_11 fX10_67 ?_
    refine zx_callV (y1 := iX7_wetYear) dX10_moss_14 lX10_249 vX7_wetYear rc_24 (mX7_wetYear hI hT) rfl rfl (Nat.le_of_ble_eq_true rfl) ?_
    intro v M1 he
    obtain ⟨rfl, hf⟩ := he
    refine zx_goto (tgt := 22) dX10_moss_17 (by decide) ?_
    refine zx_iret (st := []) dX10_moss_22 rfl rfl ?_
    exact zO_f (zf_mono hf (by decide)) (zC_f hf hC (by decide)) (by simp only [zk_moss, zmoss, Int.toNat_natCast]; (repeat' split) <;> first | rfl | omega)
set_option maxRecDepth 100000 in
set_option maxHeartbeats 600000 in
theorem mX10_cows {l : Launch} {d : Nat} {M : zw_M} {σ : zZ} (hC : zC_ M σ) {q : Int} (hqq : -2147483648 ≤ q ∧ q < 2147483648) {m : Int} (hmm : -2147483648 ≤ m ∧ m < 2147483648) {s : Int} (hss : -2147483648 ≤ s ∧ s < 2147483648) {w : Int} (hww : -2147483648 ≤ w ∧ w < 2147483648) : zw_C l (d + 5) iX10_cows [.ref 0, .int (zn_I q), .int (zn_I m), .int (zn_I s), .int (zn_I w)] M (zO (zn_I (zk_cows σ q m s w)) σ M) := by
  obtain ⟨hI, hT, hG, ⟨ha, hb, hc⟩, hk⟩ := id hC
  have hp := hI.1
  have h30 := zp_30 hp
  have h8 := hT.1
  refine zw_of (by decide +kernel) (Nat.le_of_ble_eq_true rfl) ?_
  refine zy_loc (L1 := [.ref 0, .int (zn_I q), .int (zn_I m), .int (zn_I s), .int (zn_I w), .retAddr 0]) rfl ?_
  refine zx_iload_n dX10_cows_0 rfl ?_
  refine zx_callS (y1 := iX10_isQuarter) dX10_cows_1 lX10_171 sX10_isQuarter (mX10_isQuarter hqq) rfl rfl (Nat.le_of_ble_eq_true rfl) ?_
  refine zk_i ?_
  refine zy_ifB_ne (tgt := 10) dX10_cows_4 (by decide) (fun h_4 => ?_) (fun h_4 => ?_)
  · refine zx_iload_n dX10_cows_10 rfl ?_
    refine zx_iconst (v := zn_I 1) dX10_cows_11 rfl ?_
    refine zy_icmp_lt (tgt := 25) dX10_cows_12 (by decide) (by omega) (fun h_12 => ?_) (fun h_12 => ?_)
    · refine zx_bipush (v := zn_I (-102)) dX10_cows_25 (by decide) ?_
      refine zx_iret (st := []) dX10_cows_27 rfl rfl ?_
      exact zO_i hC (by simp only [zk_cows, Int.toNat_natCast]; (repeat' split) <;> first | rfl | omega)
    · refine zx_iload_n dX10_cows_15 rfl ?_
      refine zx_bipush (v := zn_I 60) dX10_cows_16 (by decide) ?_
      refine zy_icmp_gt (tgt := 25) dX10_cows_18 (by decide) (by omega) (fun h_18 => ?_) (fun h_18 => ?_)
      · refine zx_bipush (v := zn_I (-102)) dX10_cows_25 (by decide) ?_
        refine zx_iret (st := []) dX10_cows_27 rfl rfl ?_
        exact zO_i hC (by simp only [zk_cows, Int.toNat_natCast]; (repeat' split) <;> first | rfl | omega)
      · refine zx_iload_n dX10_cows_21 rfl ?_
        refine zy_if_ge (tgt := 28) dX10_cows_22 (by decide) (by omega) (fun h_22 => ?_) (fun h_22 => ?_)
        · refine zx_iload dX10_cows_28 rfl ?_
          refine zy_if_eq (tgt := 50) dX10_cows_30 (by decide) (by omega) (fun h_30 => ?_) (fun h_30 => ?_)
          · refine zx_aload_n dX10_cows_50 rfl ?_
            refine zx_getr dX10_cows_51 fX10_26 ?_
            refine zx_callV (y1 := iX1_isThere) dX10_cows_54 lX10_195 vX1_isThere rc_4 (mX1_isThere hI) rfl rfl (Nat.le_of_ble_eq_true rfl) ?_
            refine zk_i ?_
            refine zy_ifB_ne (tgt := 63) dX10_cows_57 (by decide) (fun h_57 => ?_) (fun h_57 => ?_)
            · obtain ⟨q, rfl⟩ : ∃ n : Nat, q = (n : Int) := ⟨q.toNat, by omega⟩
              obtain ⟨m, rfl⟩ : ∃ n : Nat, m = (n : Int) := ⟨m.toNat, by omega⟩
              obtain ⟨s, rfl⟩ : ∃ n : Nat, s = (n : Int) := ⟨s.toNat, by omega⟩
              refine zx_aload_n dX10_cows_63 rfl ?_
              refine zx_getr dX10_cows_64 fX10_81 ?_
              refine zx_iload_n dX10_cows_67 rfl ?_
              refine zx_iload_n dX10_cows_68 rfl ?_
              refine zx_iload_n dX10_cows_69 rfl ?_
              refine zx_callV (y1 := iX6_stray) dX10_cows_70 lX10_252 vX6_stray rc_31 (mX6_stray hI hT (q := q) (mi := m) (n := s) (by omega) (by omega) (by omega)) rfl rfl (Nat.le_of_ble_eq_true rfl) ?_
              intro v M1 he
              obtain ⟨rfl, hf, hSp, hsd⟩ := he
              refine zx_istore dX10_cows_73 rfl (Nat.le_of_ble_eq_true rfl) ?_
              refine zx_iload dX10_cows_75 rfl ?_
              refine zy_if_ne (tgt := 83) dX10_cows_77 (by decide) (by omega) (fun h_77 => ?_) (fun h_77 => ?_)
              · refine zx_iload dX10_cows_83 rfl ?_
                refine zx_iconst (v := zn_I 1) dX10_cows_85 rfl ?_
                refine zy_icmp_ne (tgt := 99) dX10_cows_86 (by decide) (by omega) (fun h_86 => ?_) (fun h_86 => ?_)
                · refine zx_aload_n dX10_cows_99 rfl ?_
                  refine zx_getr dX10_cows_100 fX10_81 ?_
                  refine zx_iload dX10_cows_103 rfl ?_
                  refine zx_bipush (v := zn_I 10) dX10_cows_105 (by decide) ?_
                  refine zy_isub dX10_cows_107 ?_
                  refine zx_callV (y1 := iX6_placeOf) dX10_cows_108 lX10_258 vX6_placeOf rc_31 (mX6_placeOf (zI_f hf hI (by decide)) (zT_f hf hT (by decide)) hSp (z := w - 10) (by omega)) rfl rfl (Nat.le_of_ble_eq_true rfl) ?_
                  refine zk_i ?_
                  refine zx_iret (st := []) dX10_cows_111 rfl rfl ?_
                  exact zO_f (zf_mono hf (by decide)) (zC_f hf hC (by decide)) (by rw [zk_cows, if_neg (by omega), if_neg (by omega), if_neg (by omega), if_neg (by omega), Int.toNat_natCast, Int.toNat_natCast, Int.toNat_natCast]; (repeat' split) <;> first | rfl | omega)
                · refine zx_aload_n dX10_cows_89 rfl ?_
                  refine zx_getr dX10_cows_90 fX10_81 ?_
                  refine zx_callV (y1 := iX6_seed) dX10_cows_93 lX10_255 vX6_seed rc_31 (mX6_seed hsd) rfl rfl (Nat.le_of_ble_eq_true rfl) ?_
                  refine zk_i ?_
                  refine zx_goto (tgt := 111) dX10_cows_96 (by decide) ?_
                  refine zx_iret (st := []) dX10_cows_111 rfl rfl ?_
                  exact zO_f (zf_mono hf (by decide)) (zC_f hf hC (by decide)) (by rw [zk_cows, if_neg (by omega), if_neg (by omega), if_neg (by omega), if_neg (by omega), Int.toNat_natCast, Int.toNat_natCast, Int.toNat_natCast]; (repeat' split) <;> first | rfl | omega)
              · refine zx_iload dX10_cows_80 rfl ?_
                refine zx_iret (st := []) dX10_cows_82 rfl rfl ?_
                exact zO_f (zf_mono hf (by decide)) (zC_f hf hC (by decide)) (by rw [zk_cows, if_neg (by omega), if_neg (by omega), if_neg (by omega), if_neg (by omega), Int.toNat_natCast, Int.toNat_natCast, Int.toNat_natCast]; (repeat' split) <;> first | rfl | omega)
            · refine zx_bipush (v := zn_I (-103)) dX10_cows_60 (by decide) ?_
              refine zx_iret (st := []) dX10_cows_62 rfl rfl ?_
              exact zO_i hC (by simp only [zk_cows, Int.toNat_natCast]; (repeat' split) <;> first | rfl | omega)
          · refine zx_iload dX10_cows_33 rfl ?_
            refine zx_iconst (v := zn_I 1) dX10_cows_35 rfl ?_
            refine zy_icmp_eq (tgt := 50) dX10_cows_36 (by decide) (by omega) (fun h_36 => ?_) (fun h_36 => ?_)
            · refine zx_aload_n dX10_cows_50 rfl ?_
              refine zx_getr dX10_cows_51 fX10_26 ?_
              refine zx_callV (y1 := iX1_isThere) dX10_cows_54 lX10_195 vX1_isThere rc_4 (mX1_isThere hI) rfl rfl (Nat.le_of_ble_eq_true rfl) ?_
              refine zk_i ?_
              refine zy_ifB_ne (tgt := 63) dX10_cows_57 (by decide) (fun h_57 => ?_) (fun h_57 => ?_)
              · obtain ⟨q, rfl⟩ : ∃ n : Nat, q = (n : Int) := ⟨q.toNat, by omega⟩
                obtain ⟨m, rfl⟩ : ∃ n : Nat, m = (n : Int) := ⟨m.toNat, by omega⟩
                obtain ⟨s, rfl⟩ : ∃ n : Nat, s = (n : Int) := ⟨s.toNat, by omega⟩
                refine zx_aload_n dX10_cows_63 rfl ?_
                refine zx_getr dX10_cows_64 fX10_81 ?_
                refine zx_iload_n dX10_cows_67 rfl ?_
                refine zx_iload_n dX10_cows_68 rfl ?_
                refine zx_iload_n dX10_cows_69 rfl ?_
                refine zx_callV (y1 := iX6_stray) dX10_cows_70 lX10_252 vX6_stray rc_31 (mX6_stray hI hT (q := q) (mi := m) (n := s) (by omega) (by omega) (by omega)) rfl rfl (Nat.le_of_ble_eq_true rfl) ?_
                intro v M1 he
                obtain ⟨rfl, hf, hSp, hsd⟩ := he
                refine zx_istore dX10_cows_73 rfl (Nat.le_of_ble_eq_true rfl) ?_
                refine zx_iload dX10_cows_75 rfl ?_
                refine zy_if_ne (tgt := 83) dX10_cows_77 (by decide) (by omega) (fun h_77 => ?_) (fun h_77 => ?_)
                · refine zx_iload dX10_cows_83 rfl ?_
                  refine zx_iconst (v := zn_I 1) dX10_cows_85 rfl ?_
                  refine zy_icmp_ne (tgt := 99) dX10_cows_86 (by decide) (by omega) (fun h_86 => ?_) (fun h_86 => ?_)
                  · refine zx_aload_n dX10_cows_99 rfl ?_
                    refine zx_getr dX10_cows_100 fX10_81 ?_
                    refine zx_iload dX10_cows_103 rfl ?_
                    refine zx_bipush (v := zn_I 10) dX10_cows_105 (by decide) ?_
                    refine zy_isub dX10_cows_107 ?_
                    refine zx_callV (y1 := iX6_placeOf) dX10_cows_108 lX10_258 vX6_placeOf rc_31 (mX6_placeOf (zI_f hf hI (by decide)) (zT_f hf hT (by decide)) hSp (z := w - 10) (by omega)) rfl rfl (Nat.le_of_ble_eq_true rfl) ?_
                    refine zk_i ?_
                    refine zx_iret (st := []) dX10_cows_111 rfl rfl ?_
                    exact zO_f (zf_mono hf (by decide)) (zC_f hf hC (by decide)) (by rw [zk_cows, if_neg (by omega), if_neg (by omega), if_neg (by omega), if_neg (by omega), Int.toNat_natCast, Int.toNat_natCast, Int.toNat_natCast]; (repeat' split) <;> first | rfl | omega)
                  · refine zx_aload_n dX10_cows_89 rfl ?_
                    refine zx_getr dX10_cows_90 fX10_81 ?_
                    refine zx_callV (y1 := iX6_seed) dX10_cows_93 lX10_255 vX6_seed rc_31 (mX6_seed hsd) rfl rfl (Nat.le_of_ble_eq_true rfl) ?_
                    refine zk_i ?_
                    refine zx_goto (tgt := 111) dX10_cows_96 (by decide) ?_
                    refine zx_iret (st := []) dX10_cows_111 rfl rfl ?_
                    exact zO_f (zf_mono hf (by decide)) (zC_f hf hC (by decide)) (by rw [zk_cows, if_neg (by omega), if_neg (by omega), if_neg (by omega), if_neg (by omega), Int.toNat_natCast, Int.toNat_natCast, Int.toNat_natCast]; (repeat' split) <;> first | rfl | omega)
                · refine zx_iload dX10_cows_80 rfl ?_
                  refine zx_iret (st := []) dX10_cows_82 rfl rfl ?_
                  exact zO_f (zf_mono hf (by decide)) (zC_f hf hC (by decide)) (by rw [zk_cows, if_neg (by omega), if_neg (by omega), if_neg (by omega), if_neg (by omega), Int.toNat_natCast, Int.toNat_natCast, Int.toNat_natCast]; (repeat' split) <;> first | rfl | omega)
              · refine zx_bipush (v := zn_I (-103)) dX10_cows_60 (by decide) ?_
                refine zx_iret (st := []) dX10_cows_62 rfl rfl ?_
                exact zO_i hC (by simp only [zk_cows, Int.toNat_natCast]; (repeat' split) <;> first | rfl | omega)
            · refine zx_iload dX10_cows_39 rfl ?_
              refine zx_callS (y1 := iX10_asksPlace) dX10_cows_41 lX10_151 sX10_asksPlace (mX10_asksPlace hww) rfl rfl (Nat.le_of_ble_eq_true rfl) ?_
              refine zk_i ?_
              refine zy_ifB_ne (tgt := 50) dX10_cows_44 (by decide) (fun h_44 => ?_) (fun h_44 => ?_)
              · refine zx_aload_n dX10_cows_50 rfl ?_
                refine zx_getr dX10_cows_51 fX10_26 ?_
                refine zx_callV (y1 := iX1_isThere) dX10_cows_54 lX10_195 vX1_isThere rc_4 (mX1_isThere hI) rfl rfl (Nat.le_of_ble_eq_true rfl) ?_
                refine zk_i ?_
                refine zy_ifB_ne (tgt := 63) dX10_cows_57 (by decide) (fun h_57 => ?_) (fun h_57 => ?_)
                · obtain ⟨q, rfl⟩ : ∃ n : Nat, q = (n : Int) := ⟨q.toNat, by omega⟩
                  obtain ⟨m, rfl⟩ : ∃ n : Nat, m = (n : Int) := ⟨m.toNat, by omega⟩
                  obtain ⟨s, rfl⟩ : ∃ n : Nat, s = (n : Int) := ⟨s.toNat, by omega⟩
                  refine zx_aload_n dX10_cows_63 rfl ?_
                  refine zx_getr dX10_cows_64 fX10_81 ?_
                  refine zx_iload_n dX10_cows_67 rfl ?_
                  refine zx_iload_n dX10_cows_68 rfl ?_
                  refine zx_iload_n dX10_cows_69 rfl ?_
                  refine zx_callV (y1 := iX6_stray) dX10_cows_70 lX10_252 vX6_stray rc_31 (mX6_stray hI hT (q := q) (mi := m) (n := s) (by omega) (by omega) (by omega)) rfl rfl (Nat.le_of_ble_eq_true rfl) ?_
                  intro v M1 he
                  obtain ⟨rfl, hf, hSp, hsd⟩ := he
                  refine zx_istore dX10_cows_73 rfl (Nat.le_of_ble_eq_true rfl) ?_
                  refine zx_iload dX10_cows_75 rfl ?_
                  refine zy_if_ne (tgt := 83) dX10_cows_77 (by decide) (by omega) (fun h_77 => ?_) (fun h_77 => ?_)
                  · refine zx_iload dX10_cows_83 rfl ?_
                    refine zx_iconst (v := zn_I 1) dX10_cows_85 rfl ?_
                    refine zy_icmp_ne (tgt := 99) dX10_cows_86 (by decide) (by omega) (fun h_86 => ?_) (fun h_86 => ?_)
                    · refine zx_aload_n dX10_cows_99 rfl ?_
                      refine zx_getr dX10_cows_100 fX10_81 ?_
                      refine zx_iload dX10_cows_103 rfl ?_
                      refine zx_bipush (v := zn_I 10) dX10_cows_105 (by decide) ?_
                      refine zy_isub dX10_cows_107 ?_
                      refine zx_callV (y1 := iX6_placeOf) dX10_cows_108 lX10_258 vX6_placeOf rc_31 (mX6_placeOf (zI_f hf hI (by decide)) (zT_f hf hT (by decide)) hSp (z := w - 10) (by omega)) rfl rfl (Nat.le_of_ble_eq_true rfl) ?_
                      refine zk_i ?_
                      refine zx_iret (st := []) dX10_cows_111 rfl rfl ?_
                      exact zO_f (zf_mono hf (by decide)) (zC_f hf hC (by decide)) (by rw [zk_cows, if_neg (by omega), if_neg (by omega), if_neg (by omega), if_neg (by omega), Int.toNat_natCast, Int.toNat_natCast, Int.toNat_natCast]; (repeat' split) <;> first | rfl | omega)
                    · refine zx_aload_n dX10_cows_89 rfl ?_
                      refine zx_getr dX10_cows_90 fX10_81 ?_
                      refine zx_callV (y1 := iX6_seed) dX10_cows_93 lX10_255 vX6_seed rc_31 (mX6_seed hsd) rfl rfl (Nat.le_of_ble_eq_true rfl) ?_
                      refine zk_i ?_
                      refine zx_goto (tgt := 111) dX10_cows_96 (by decide) ?_
                      refine zx_iret (st := []) dX10_cows_111 rfl rfl ?_
                      exact zO_f (zf_mono hf (by decide)) (zC_f hf hC (by decide)) (by rw [zk_cows, if_neg (by omega), if_neg (by omega), if_neg (by omega), if_neg (by omega), Int.toNat_natCast, Int.toNat_natCast, Int.toNat_natCast]; (repeat' split) <;> first | rfl | omega)
                  · refine zx_iload dX10_cows_80 rfl ?_
                    refine zx_iret (st := []) dX10_cows_82 rfl rfl ?_
                    exact zO_f (zf_mono hf (by decide)) (zC_f hf hC (by decide)) (by rw [zk_cows, if_neg (by omega), if_neg (by omega), if_neg (by omega), if_neg (by omega), Int.toNat_natCast, Int.toNat_natCast, Int.toNat_natCast]; (repeat' split) <;> first | rfl | omega)
                · refine zx_bipush (v := zn_I (-103)) dX10_cows_60 (by decide) ?_
                  refine zx_iret (st := []) dX10_cows_62 rfl rfl ?_
                  exact zO_i hC (by simp only [zk_cows, Int.toNat_natCast]; (repeat' split) <;> first | rfl | omega)
              · refine zx_bipush (v := zn_I (-102)) dX10_cows_47 (by decide) ?_
                refine zx_iret (st := []) dX10_cows_49 rfl rfl ?_
                exact zO_i hC (by simp only [zk_cows, Int.toNat_natCast]; (repeat' split) <;> first | rfl | omega)
        · refine zx_bipush (v := zn_I (-102)) dX10_cows_25 (by decide) ?_
          refine zx_iret (st := []) dX10_cows_27 rfl rfl ?_
          exact zO_i hC (by simp only [zk_cows, Int.toNat_natCast]; (repeat' split) <;> first | rfl | omega)
  · refine zx_bipush (v := zn_I (-101)) dX10_cows_7 (by decide) ?_
    refine zx_iret (st := []) dX10_cows_9 rfl rfl ?_
    exact zO_i hC (by simp only [zk_cows, Int.toNat_natCast]; (repeat' split) <;> first | rfl | omega)
set_option maxRecDepth 100000 in
set_option maxHeartbeats 600000 in
theorem mX10_image {l : Launch} {d : Nat} {M : zw_M} {σ : zZ} (hC : zC_ M σ) : zw_C l (d + 2) iX10_image [.ref 0] M (zO (zn_I (zk_image σ)) (zk_imageS σ) M) := by
  obtain ⟨hI, hT, hG, ⟨ha, hb, hc⟩, hk⟩ := id hC
  have hp := hI.1
  have h30 := zp_30 hp
  have h8 := hT.1
  refine zw_of (by decide +kernel) (Nat.le_of_ble_eq_true rfl) ?_
  refine zy_loc (L1 := [.ref 0]) rfl ?_
  refine zx_aload_n dX10_image_0 rfl ?_
  refine zx_getr dX10_image_1 fX10_26 ?_
  refine zx_callV (y1 := iX1_isThere) dX10_image_4 lX10_195 vX1_isThere rc_4 (mX1_isThere hI) rfl rfl (Nat.le_of_ble_eq_true rfl) ?_
  refine zk_i ?_
  refine zy_ifB_ne (tgt := 13) dX10_image_7 (by decide) (fun h_7 => ?_) (fun h_7 => ?_)
  · refine zx_aload_n dX10_image_13 rfl ?_
    refine zx_getr dX10_image_14 fX10_33 ?_
    refine zx_callV (y1 := iX8_keep) dX10_image_17 lX10_259 vX8_keep rc_8 (mX8_keep hT) rfl rfl (Nat.le_of_ble_eq_true rfl) ?_
    intro v M1 he
    obtain ⟨rfl, hf, h84, h85, h12⟩ := he
    have hT1 : zT M1 (zp_n σ.1) σ.2.1 := ⟨h8, h84.trans hT.2.1, fun t ht => by rw [(hf 9 (by decide)).1]; exact hT.2.2.1 t ht, fun t ht => by rw [(hf 10 (by decide)).1]; exact hT.2.2.2.1 t ht, fun t ht q hq => by rw [(hf 11 (by decide)).1]; exact hT.2.2.2.2.1 t ht q hq, hT.2.2.2.2.2⟩
    refine zx_aload_n dX10_image_20 rfl ?_
    refine zx_getr dX10_image_21 fX10_33 ?_
    refine zx_callV (y1 := iX8_size) dX10_image_24 lX10_262 vX8_size rc_8 (mX8_size hT1) rfl rfl (Nat.le_of_ble_eq_true rfl) ?_
    refine zk_i ?_
    refine zx_iret (st := []) dX10_image_27 rfl rfl ?_
    rw [zk_imageS, if_pos h_7]
    refine zO_f (zf_mono hf (by decide)) ⟨zI_f hf hI (by decide), hT1, zG_f hf hG (by decide), by rw [(hf 0 (by decide)).1]; exact ⟨ha, hb, hc⟩, h85, fun t ht q hq => ?_⟩ (by simp only [zk_image, Int.toNat_natCast]; (repeat' split) <;> first | rfl | omega)
    have ht2 : t < σ.2.1.1 := ht
    rw [h12 _ (by omega)]
    exact hT.2.2.2.2.1 t ht2 q hq
  · refine zx_bipush (v := zn_I (-103)) dX10_image_10 (by decide) ?_
    refine zx_iret (st := []) dX10_image_12 rfl rfl ?_
    rw [zk_imageS, if_neg h_7]
    exact zO_i hC (by simp only [zk_image, Int.toNat_natCast]; (repeat' split) <;> first | rfl | omega)
set_option maxRecDepth 100000 in
set_option maxHeartbeats 600000 in
theorem mX10_restore {l : Launch} {d : Nat} {M : zw_M} {σ : zZ} (hC : zC_ M σ) (hok : zok σ) : zw_C l (d + 2) iX10_restore [.ref 0] M (zO (zn_I (zk_restore σ)) (zk_restoreS σ) M) := by
  obtain ⟨hI, hT, hG, hct, hk⟩ := id hC
  have h8 := hT.1
  have hok2 := hok.2.2
  obtain ⟨π, τ, ρ, c, κ⟩ := σ
  dsimp only at hI hT hG hct hk hok2 h8
  cases κ with
  | none =>
    have h5 : M.1 8 5 = zn_I (-1) := hk
    refine zw_of (by decide +kernel) (Nat.le_of_ble_eq_true rfl) ?_
    refine zy_loc (L1 := [.ref 0]) rfl ?_
    refine zx_aload_n dX10_restore_0 rfl ?_
    refine zx_getr dX10_restore_1 fX10_33 ?_
    refine zx_callV (y1 := iX8_isKept) dX10_restore_4 lX10_265 vX8_isKept rc_8 (mX8_isKept (z := -1) (by omega) h5) rfl rfl (Nat.le_of_ble_eq_true rfl) ?_
    refine zk_i ?_
    refine zy_ifB_ne (tgt := 13) dX10_restore_7 (by decide) (fun h_7 => ?_) (fun h_7 => ?_)
    · exact absurd h_7 (by omega)
    · refine zx_bipush (v := zn_I (-103)) dX10_restore_10 (by decide) ?_
      refine zx_iret (st := []) dX10_restore_12 rfl rfl ?_
      exact zO_i hC rfl
  | some x =>
    obtain ⟨K, P⟩ := x
    obtain ⟨h5, hkP⟩ : M.1 8 5 = zn_I (K : Nat) ∧ ∀ t, t < K → ∀ q, q < 8 → M.1 12 (t * 8 + q) = zn_I (P t q : Nat) := hk
    obtain ⟨hKt, hKn, hKp⟩ : K ≤ τ.1 ∧ (∀ t, t < K → ∀ q, q < 8 → P t q < zp_n π) ∧ ∀ t, t < K → ¬ zt_per τ t → ∀ q, q < 8 → P t q = P t 0 := hok2
    refine zw_of (by decide +kernel) (Nat.le_of_ble_eq_true rfl) ?_
    refine zy_loc (L1 := [.ref 0]) rfl ?_
    refine zx_aload_n dX10_restore_0 rfl ?_
    refine zx_getr dX10_restore_1 fX10_33 ?_
    refine zx_callV (y1 := iX8_isKept) dX10_restore_4 lX10_265 vX8_isKept rc_8 (mX8_isKept (z := (K : Int)) (by omega) h5) rfl rfl (Nat.le_of_ble_eq_true rfl) ?_
    refine zk_i ?_
    refine zy_ifB_ne (tgt := 13) dX10_restore_7 (by decide) (fun h_7 => ?_) (fun h_7 => ?_)
    · refine zx_aload_n dX10_restore_13 rfl ?_
      refine zx_getr dX10_restore_14 fX10_33 ?_
      refine zx_callV (y1 := iX8_goBack) dX10_restore_17 lX10_268 vX8_goBack rc_8 (mX8_goBack (z := (K : Int)) h5) rfl rfl (Nat.le_of_ble_eq_true rfl) ?_
      intro v M1 he
      obtain ⟨rfl, hf, h84, h85, h11⟩ := he
      have hT1 : zT M1 (zp_n π) (K, τ.2.1, τ.2.2.1, P) := ⟨by show K ≤ 8; omega, h84, fun t ht => by rw [(hf 9 (by decide)).1]; exact hT.2.2.1 t (Nat.lt_of_lt_of_le ht hKt), fun t ht => by rw [(hf 10 (by decide)).1]; exact hT.2.2.2.1 t (Nat.lt_of_lt_of_le ht hKt), fun t ht q hq => (h11 (t * 8 + q) (by have ht2 : t < K := ht; omega)).trans (hkP t ht q hq), fun t ht => hT.2.2.2.2.2.1 t (Nat.lt_of_lt_of_le ht hKt), fun t ht => hT.2.2.2.2.2.2.1 t (Nat.lt_of_lt_of_le ht hKt), fun t ht q hq => hKn t ht q hq⟩
      refine zx_aload_n dX10_restore_20 rfl ?_
      refine zx_getr dX10_restore_21 fX10_33 ?_
      refine zx_callV (y1 := iX8_size) dX10_restore_24 lX10_262 vX8_size rc_8 (mX8_size hT1) rfl rfl (Nat.le_of_ble_eq_true rfl) ?_
      refine zk_i ?_
      refine zx_iret (st := []) dX10_restore_27 rfl rfl ?_
      exact ⟨rfl, zf_mono hf (by decide), zI_f hf hI (by decide), hT1, zG_f hf hG (by decide), by rw [(hf 0 (by decide)).1]; exact hct, h85, fun t ht q hq => by rw [(hf 12 (by decide)).1]; exact hkP t ht q hq⟩
    · refine zx_bipush (v := zn_I (-103)) dX10_restore_10 (by decide) ?_
      refine zx_iret (st := []) dX10_restore_12 rfl rfl ?_
      exact absurd (by omega) h_7
set_option maxRecDepth 100000 in
set_option maxHeartbeats 600000 in
theorem mX10_count {l : Launch} {d : Nat} {M : zw_M} {σ : zZ} (hC : zC_ M σ) {w : Int} (hww : -2147483648 ≤ w ∧ w < 2147483648) : zw_C l (d + 5) iX10_count [.ref 0, .int (zn_I w)] M (zw_i (zn_I (zk_count σ w)) M) := by
  obtain ⟨hI, hT, hG, ⟨ha, hb, hc⟩, hk⟩ := id hC
  have hp := hI.1
  have h30 := zp_30 hp
  have h8 := hT.1
  have hpop := zt_pl_pop (τ := σ.2.1) σ.2.1.1 h8
  have hpm : (zt_pl σ.2.1 σ.2.1.1).length = zt_m σ.2.1 := rfl
  refine zw_of (by decide +kernel) (Nat.le_of_ble_eq_true rfl) ?_
  refine zy_loc (L1 := [.ref 0, .int (zn_I w)]) rfl ?_
  refine zx_iload_n dX10_count_0 rfl ?_
  rcases (show w = 0 ∨ w = 1 ∨ w = 2 ∨ w = 3 ∨ w = 4 ∨ w = 5 ∨ w = 6 ∨ w = 7 ∨ (w < 0 ∨ 7 < w) by omega) with h_1 | h_1 | h_1 | h_1 | h_1 | h_1 | h_1 | h_1 | h_1
  · refine zx_tin (z := 0) (tgt := 48) dX10_count_1 ((zn_toInt ⟨by omega, by omega⟩).trans h_1) (by decide) (by decide) rfl (by decide) ?_
    refine zx_aload_n dX10_count_48 rfl ?_
    refine zx_getr dX10_count_49 fX10_26 ?_
    refine zx_callV (y1 := iX1_squares) dX10_count_52 lX10_122 vX1_squares rc_4 (mX1_squares hI) rfl rfl (Nat.le_of_ble_eq_true rfl) ?_
    refine zk_i ?_
    refine zx_iret (st := []) dX10_count_55 rfl rfl ?_
    exact zk_I (by simp only [zk_count, Int.toNat_natCast]; (repeat' split) <;> first | rfl | omega)
  · refine zx_tin (z := 1) (tgt := 56) dX10_count_1 ((zn_toInt ⟨by omega, by omega⟩).trans h_1) (by decide) (by decide) rfl (by decide) ?_
    refine zx_aload_n dX10_count_56 rfl ?_
    refine zx_getr dX10_count_57 fX10_26 ?_
    refine zx_callV (y1 := iX1_doors) dX10_count_60 lX10_271 vX1_doors rc_4 (mX1_doors hI) rfl rfl (Nat.le_of_ble_eq_true rfl) ?_
    refine zk_i ?_
    refine zx_iret (st := []) dX10_count_63 rfl rfl ?_
    exact zk_I (by simp only [zk_count, Int.toNat_natCast]; (repeat' split) <;> first | rfl | omega)
  · refine zx_tin (z := 2) (tgt := 64) dX10_count_1 ((zn_toInt ⟨by omega, by omega⟩).trans h_1) (by decide) (by decide) rfl (by decide) ?_
    refine zx_aload_n dX10_count_64 rfl ?_
    refine zx_getr dX10_count_65 fX10_33 ?_
    refine zx_callV (y1 := iX8_size) dX10_count_68 lX10_262 vX8_size rc_8 (mX8_size hT) rfl rfl (Nat.le_of_ble_eq_true rfl) ?_
    refine zk_i ?_
    refine zx_iret (st := []) dX10_count_71 rfl rfl ?_
    exact zk_I (by simp only [zk_count, Int.toNat_natCast]; (repeat' split) <;> first | rfl | omega)
  · refine zx_tin (z := 3) (tgt := 72) dX10_count_1 ((zn_toInt ⟨by omega, by omega⟩).trans h_1) (by decide) (by decide) rfl (by decide) ?_
    refine zx_aload_n dX10_count_72 rfl ?_
    refine zx_getr dX10_count_73 fX10_33 ?_
    refine zx_callV (y1 := iX8_people) dX10_count_76 lX10_199 vX8_people rc_8 (mX8_people hT) rfl rfl (Nat.le_of_ble_eq_true rfl) ?_
    refine zk_i ?_
    rw [hpop, hpm]
    refine zx_iret (st := []) dX10_count_79 rfl rfl ?_
    exact zk_I (by simp only [zk_count, Int.toNat_natCast]; (repeat' split) <;> first | rfl | omega)
  · refine zx_tin (z := 4) (tgt := 80) dX10_count_1 ((zn_toInt ⟨by omega, by omega⟩).trans h_1) (by decide) (by decide) rfl (by decide) ?_
    refine zx_aload_n dX10_count_80 rfl ?_
    refine zx_getr dX10_count_81 fX10_10 ?_
    refine zx_callV (y1 := iX3_length) dX10_count_84 lX10_89 vX3_length rc_1 (mX3_length hG) rfl rfl (Nat.le_of_ble_eq_true rfl) ?_
    refine zk_i ?_
    refine zx_iret (st := []) dX10_count_87 rfl rfl ?_
    exact zk_I (by simp only [zk_count, Int.toNat_natCast]; (repeat' split) <;> first | rfl | omega)
  · refine zx_tin (z := 5) (tgt := 88) dX10_count_1 ((zn_toInt ⟨by omega, by omega⟩).trans h_1) (by decide) (by decide) rfl (by decide) ?_
    refine zx_aload_n dX10_count_88 rfl ?_
    refine zy_geti dX10_count_89 fX10_118 (ha) ?_
    refine zx_iret (st := []) dX10_count_92 rfl rfl ?_
    exact zk_I (by simp only [zk_count, Int.toNat_natCast]; (repeat' split) <;> first | rfl | omega)
  · refine zx_tin (z := 6) (tgt := 93) dX10_count_1 ((zn_toInt ⟨by omega, by omega⟩).trans h_1) (by decide) (by decide) rfl (by decide) ?_
    refine zx_aload_n dX10_count_93 rfl ?_
    refine zy_geti dX10_count_94 fX10_202 (hb) ?_
    refine zx_iret (st := []) dX10_count_97 rfl rfl ?_
    exact zk_I (by simp only [zk_count, Int.toNat_natCast]; (repeat' split) <;> first | rfl | omega)
  · refine zx_tin (z := 7) (tgt := 98) dX10_count_1 ((zn_toInt ⟨by omega, by omega⟩).trans h_1) (by decide) (by decide) rfl (by decide) ?_
    refine zx_aload_n dX10_count_98 rfl ?_
    refine zy_geti dX10_count_99 fX10_229 (hc) ?_
    refine zx_iret (st := []) dX10_count_102 rfl rfl ?_
    exact zk_I (by simp only [zk_count, Int.toNat_natCast]; (repeat' split) <;> first | rfl | omega)
  · refine zx_tout (tgt := 103) dX10_count_1 (by rw [zn_toInt ⟨by omega, by omega⟩]; exact h_1) (by decide) ?_
    refine zx_bipush (v := zn_I (-102)) dX10_count_103 (by decide) ?_
    refine zx_iret (st := []) dX10_count_105 rfl rfl ?_
    exact zk_I (by simp only [zk_count, Int.toNat_natCast]; (repeat' split) <;> first | rfl | omega)
