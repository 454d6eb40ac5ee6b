/-! the class's digest -/
theorem zt_weight_in {τ : zQ} {t : Nat} (h : t < τ.1) : zt_weight τ (t : Int) = τ.2.2.1 t := by rw [zt_weight, if_pos ⟨by omega, by omega⟩, Int.toNat_natCast]
set_option maxRecDepth 100000 in
set_option maxHeartbeats 600000 in
theorem mX10_digested {l : Launch} {d : Nat} {M : zw_M} {h : Int64} {x : Int32} : zw_C l d iX10_digested [.long h, .int x] M (zw_l (zh h x) M) := by
  refine zw_of (by decide +kernel) (Nat.le_of_ble_eq_true rfl) ?_
  refine zy_loc (L1 := [.long h, .retAddr 0, .int x]) rfl ?_
  refine zx_ldc2 dX10_digested_0 kX10_293 ?_
  refine zx_lload_n dX10_digested_3 rfl ?_
  refine zx_lmul dX10_digested_4 ?_
  refine zx_iload_n dX10_digested_5 rfl ?_
  refine zx_i2l dX10_digested_6 ?_
  refine zx_ladd dX10_digested_7 ?_
  refine zx_lret (st := []) dX10_digested_8 rfl ?_
  exact ⟨rfl, rfl⟩
set_option maxRecDepth 100000 in
set_option maxHeartbeats 600000 in
theorem mX10_digestedThing {l : Launch} {d : Nat} {M : zw_M} {π : zP} {τ : zQ} (hI : zI M π) (hT : zT M (zp_n π) τ) {t : Nat} (ht : t < τ.1) {h : Int64} : zw_C l (d + 3) iX10_digestedThing [.ref 0, .long h, .int (zn_I (t : Int))] M (zw_l (zh_t τ t h) M) := by
  have h8 := hT.1
  refine zw_of (by decide +kernel) (Nat.le_of_ble_eq_true rfl) ?_
  refine zy_loc (L1 := [.ref 0, .long h, .retAddr 0, .int (zn_I (t : Int)), .retAddr 0, .retAddr 0, .retAddr 0]) rfl ?_
  have loop : ∀ s : Nat, s ≤ 8 → zw_X l (d + 3) iX10_digestedThing (zw_l (zh_t τ t h) M) 47 [.ref 0, .long h, .retAddr 0, .int (zn_I (t : Int)), .long (zh_f (fun q => zn_I (τ.2.2.2 t q : Nat)) (zh (zh (zh h (zn_I (τ.2.1 t))) (zn_I (τ.2.2.1 t))) (zn_I (zt_w τ t))) s), .retAddr 0, .int (zn_I (s : Int))] [] M := by
    refine zw_loop 8 (P := fun s => zw_X l (d + 3) iX10_digestedThing (zw_l (zh_t τ t h) M) 47 [.ref 0, .long h, .retAddr 0, .int (zn_I (t : Int)), .long (zh_f (fun q => zn_I (τ.2.2.2 t q : Nat)) (zh (zh (zh h (zn_I (τ.2.1 t))) (zn_I (τ.2.2.1 t))) (zn_I (zt_w τ t))) s), .retAddr 0, .int (zn_I (s : Int))] [] M) (fun s hs ih => ?_)
    refine zx_iload dX10_digestedThing_47 rfl ?_
    refine zx_bipush (v := zn_I 8) dX10_digestedThing_49 (by decide) ?_
    refine zy_icmp_ge (tgt := 77) dX10_digestedThing_51 (by decide) (by omega) (fun h_51 => ?_) (fun h_51 => ?_)
    · refine zx_lload dX10_digestedThing_77 rfl ?_
      refine zx_lret (st := []) dX10_digestedThing_79 rfl ?_
      exact ⟨by rw [show s = 8 by omega]; rfl, rfl⟩
    · refine zx_lload dX10_digestedThing_54 rfl ?_
      refine zx_aload_n dX10_digestedThing_56 rfl ?_
      refine zx_getr dX10_digestedThing_57 fX10_33 ?_
      refine zx_iload_n dX10_digestedThing_60 rfl ?_
      refine zx_iload dX10_digestedThing_61 rfl ?_
      refine zx_callV (y1 := iX8_place) dX10_digestedThing_63 lX10_154 vX8_place rc_8 (mX8_place_in hT ht (q := s) (by omega)) rfl rfl (Nat.le_of_ble_eq_true rfl) ?_
      refine zk_i ?_
      refine zx_callS (y1 := iX10_digested) dX10_digestedThing_66 lX10_276 sX10_digested (mX10_digested) rfl rfl (Nat.le_of_ble_eq_true rfl) ?_
      refine zk_l ?_
      refine zx_lstore dX10_digestedThing_69 rfl (Nat.le_of_ble_eq_true rfl) ?_
      refine zy_iinc dX10_digestedThing_71 rfl rfl ?_
      refine zx_goto (tgt := 47) dX10_digestedThing_74 (by decide) ?_
      exact ih (by omega)
  refine zx_lload_n dX10_digestedThing_0 rfl ?_
  refine zx_aload_n dX10_digestedThing_1 rfl ?_
  refine zx_getr dX10_digestedThing_2 fX10_33 ?_
  refine zx_iload_n dX10_digestedThing_5 rfl ?_
  refine zx_callV (y1 := iX8_kind) dX10_digestedThing_6 lX10_158 vX8_kind rc_8 (mX8_kind hT (z := (t : Int)) (by omega)) rfl rfl (Nat.le_of_ble_eq_true rfl) ?_
  refine zk_i ?_
  rw [zt_kind_in ht]
  refine zx_callS (y1 := iX10_digested) dX10_digestedThing_9 lX10_276 sX10_digested (mX10_digested) rfl rfl (Nat.le_of_ble_eq_true rfl) ?_
  refine zk_l ?_
  refine zx_lstore dX10_digestedThing_12 rfl (Nat.le_of_ble_eq_true rfl) ?_
  refine zx_lload dX10_digestedThing_14 rfl ?_
  refine zx_aload_n dX10_digestedThing_16 rfl ?_
  refine zx_getr dX10_digestedThing_17 fX10_33 ?_
  refine zx_iload_n dX10_digestedThing_20 rfl ?_
  refine zx_callV (y1 := iX8_weight) dX10_digestedThing_21 lX10_161 vX8_weight rc_8 (mX8_weight hT (z := (t : Int)) (by omega)) rfl rfl (Nat.le_of_ble_eq_true rfl) ?_
  refine zk_i ?_
  rw [zt_weight_in ht]
  refine zx_callS (y1 := iX10_digested) dX10_digestedThing_24 lX10_276 sX10_digested (mX10_digested) rfl rfl (Nat.le_of_ble_eq_true rfl) ?_
  refine zk_l ?_
  refine zx_lstore dX10_digestedThing_27 rfl (Nat.le_of_ble_eq_true rfl) ?_
  refine zx_lload dX10_digestedThing_29 rfl ?_
  refine zx_aload_n dX10_digestedThing_31 rfl ?_
  refine zx_getr dX10_digestedThing_32 fX10_33 ?_
  refine zx_iload_n dX10_digestedThing_35 rfl ?_
  refine zx_callV (y1 := iX8_weighs) dX10_digestedThing_36 lX10_164 vX8_weighs rc_8 (mX8_weighs_in hT ht) rfl rfl (Nat.le_of_ble_eq_true rfl) ?_
  refine zk_i ?_
  refine zx_callS (y1 := iX10_digested) dX10_digestedThing_39 lX10_276 sX10_digested (mX10_digested) rfl rfl (Nat.le_of_ble_eq_true rfl) ?_
  refine zk_l ?_
  refine zx_lstore dX10_digestedThing_42 rfl (Nat.le_of_ble_eq_true rfl) ?_
  refine zx_iconst (v := zn_I 0) dX10_digestedThing_44 rfl ?_
  refine zx_istore dX10_digestedThing_45 rfl (Nat.le_of_ble_eq_true rfl) ?_
  exact loop 0 (by omega)
set_option maxRecDepth 100000 in
set_option maxHeartbeats 600000 in
theorem mX10_digestedFindings {l : Launch} {d : Nat} {M : zw_M} {π : zP} {τ : zQ} (hI : zI M π) (hT : zT M (zp_n π) τ) {h : Int64} : zw_C l (d + 10) iX10_digestedFindings [.ref 0, .long h] M (fun v M1 => v = some (.long (zh_d π τ h)) ∧ zw_fr [14, 15, 24, 25, 26, 28, 29, 30, 32] M M1) := by
  have hp := hI.1
  have h8 := hT.1
  have hw := zwet_30 hp τ 4
  refine zw_of (by decide +kernel) (Nat.le_of_ble_eq_true rfl) ?_
  refine zy_loc (L1 := [.ref 0, .long h, .retAddr 0, .retAddr 0, .retAddr 0, .retAddr 0]) rfl ?_
  have loop : ∀ s : Nat, s ≤ 3 → ∀ M1 : zw_M, zw_fr [14, 15, 24, 25, 26, 28, 29, 30, 32] M M1 → (∀ j, j < 3 → M1.1 28 j = zn_I (zl_ans π τ 4 (zwet π τ 4 : Nat) j : Nat)) → zw_X l (d + 10) iX10_digestedFindings (fun v M1 => v = some (.long (zh_d π τ h)) ∧ zw_fr [14, 15, 24, 25, 26, 28, 29, 30, 32] M M1) 45 [.ref 0, .long h, .retAddr 0, .long (zh_f (fun x => zn_I (zl_ans π τ 4 (zwet π τ 4 : Nat) x : Nat)) (zh (zh h (zn_I (zsite π τ 10))) (zn_I (zmoss π τ))) s), .retAddr 0, .int (zn_I (s : Int))] [] M1 := by
    refine zw_loop 3 (P := fun s => ∀ M1 : zw_M, zw_fr [14, 15, 24, 25, 26, 28, 29, 30, 32] M M1 → (∀ j, j < 3 → M1.1 28 j = zn_I (zl_ans π τ 4 (zwet π τ 4 : Nat) j : Nat)) → zw_X l (d + 10) iX10_digestedFindings (fun v M1 => v = some (.long (zh_d π τ h)) ∧ zw_fr [14, 15, 24, 25, 26, 28, 29, 30, 32] M M1) 45 [.ref 0, .long h, .retAddr 0, .long (zh_f (fun x => zn_I (zl_ans π τ 4 (zwet π τ 4 : Nat) x : Nat)) (zh (zh h (zn_I (zsite π τ 10))) (zn_I (zmoss π τ))) s), .retAddr 0, .int (zn_I (s : Int))] [] M1) (fun s hs ih M1 hf hfd => ?_)
    refine zx_iload dX10_digestedFindings_45 rfl ?_
    refine zx_iconst (v := zn_I 3) dX10_digestedFindings_47 rfl ?_
    refine zy_icmp_ge (tgt := 71) dX10_digestedFindings_48 (by decide) (by omega) (fun h_48 => ?_) (fun h_48 => ?_)
    · refine zx_lload_n dX10_digestedFindings_71 rfl ?_
      refine zx_aload_n dX10_digestedFindings_72 rfl ?_
      refine zx_getr dX10_digestedFindings_73 fX10_81 ?_
      refine zx_iconst (v := zn_I 4) dX10_digestedFindings_76 rfl ?_
      refine zx_callV (y1 := iX6_dryMinuteOfStorm) dX10_digestedFindings_77 lX10_246 vX6_dryMinuteOfStorm rc_31 (mX6_dryMinuteOfStorm (zI_f hf hI (by decide)) (zT_f hf hT (by decide)) (q := 4) (by omega)) rfl rfl (Nat.le_of_ble_eq_true rfl) ?_
      intro v M2 he
      obtain ⟨rfl, hf2⟩ := he
      refine zx_callS (y1 := iX10_digested) dX10_digestedFindings_80 lX10_276 sX10_digested (mX10_digested) rfl rfl (Nat.le_of_ble_eq_true rfl) ?_
      refine zk_l ?_
      refine zx_lret (st := []) dX10_digestedFindings_83 rfl ?_
      exact ⟨by rw [show s = 3 by omega]; rfl, zf_tr hf (zf_mono hf2 (by decide))⟩
    · refine zx_lload_n dX10_digestedFindings_51 rfl ?_
      refine zx_aload_n dX10_digestedFindings_52 rfl ?_
      refine zx_getr dX10_digestedFindings_53 fX10_74 ?_
      refine zx_iload dX10_digestedFindings_56 rfl ?_
      refine zx_callV (y1 := iX2_found) dX10_digestedFindings_58 lX10_245 vX2_found rc_27 (mX2_found hfd (j := s) (by omega)) rfl rfl (Nat.le_of_ble_eq_true rfl) ?_
      refine zk_i ?_
      refine zx_callS (y1 := iX10_digested) dX10_digestedFindings_61 lX10_276 sX10_digested (mX10_digested) rfl rfl (Nat.le_of_ble_eq_true rfl) ?_
      refine zk_l ?_
      refine zx_lstore_n dX10_digestedFindings_64 rfl (Nat.le_of_ble_eq_true rfl) ?_
      refine zy_iinc dX10_digestedFindings_65 rfl rfl ?_
      refine zx_goto (tgt := 45) dX10_digestedFindings_68 (by decide) ?_
      exact ih (by omega) M1 hf hfd
  refine zx_lload_n dX10_digestedFindings_0 rfl ?_
  refine zx_aload_n dX10_digestedFindings_1 rfl ?_
  refine zx_getr dX10_digestedFindings_2 fX10_42 ?_
  refine zx_bipush (v := zn_I 10) dX10_digestedFindings_5 (by decide) ?_
  refine zx_callV (y1 := iX0_driestSquareFor) dX10_digestedFindings_7 lX10_237 vX0_driestSquareFor rc_13 (mX0_driestSquareFor hI hT (w := 10) (by omega)) rfl rfl (Nat.le_of_ble_eq_true rfl) ?_
  intro v M1 he
  obtain ⟨rfl, hf⟩ := he
  refine zx_callS (y1 := iX10_digested) dX10_digestedFindings_10 lX10_276 sX10_digested (mX10_digested) rfl rfl (Nat.le_of_ble_eq_true rfl) ?_
  refine zk_l ?_
  refine zx_lstore_n dX10_digestedFindings_13 rfl (Nat.le_of_ble_eq_true rfl) ?_
  refine zx_lload_n dX10_digestedFindings_14 rfl ?_
  refine zx_aload_n dX10_digestedFindings_15 rfl ?_
  refine zx_getr dX10_digestedFindings_16 fX10_67 ?_
  refine zx_callV (y1 := iX7_wetYear) dX10_digestedFindings_19 lX10_249 vX7_wetYear rc_24 (mX7_wetYear (zI_f hf hI (by decide)) (zT_f hf hT (by decide))) rfl rfl (Nat.le_of_ble_eq_true rfl) ?_
  intro v M2 he
  obtain ⟨rfl, hf2⟩ := he
  have hf3 : zw_fr [14, 15, 24, 25, 26, 28, 29, 30, 32] M M2 := zf_tr (zf_mono hf (by decide)) (zf_mono hf2 (by decide))
  refine zx_callS (y1 := iX10_digested) dX10_digestedFindings_22 lX10_276 sX10_digested (mX10_digested) rfl rfl (Nat.le_of_ble_eq_true rfl) ?_
  refine zk_l ?_
  refine zx_lstore_n dX10_digestedFindings_25 rfl (Nat.le_of_ble_eq_true rfl) ?_
  refine zx_aload_n dX10_digestedFindings_26 rfl ?_
  refine zx_getr dX10_digestedFindings_27 fX10_74 ?_
  refine zx_iconst (v := zn_I 4) dX10_digestedFindings_30 rfl ?_
  refine zx_aload_n dX10_digestedFindings_31 rfl ?_
  refine zx_getr dX10_digestedFindings_32 fX10_42 ?_
  refine zx_iconst (v := zn_I 4) dX10_digestedFindings_35 rfl ?_
  refine zx_callV (y1 := iX0_wetIn) dX10_digestedFindings_36 lX10_192 vX0_wetIn rc_13 (mX0_wetIn (zI_f hf3 hI (by decide)) (zT_f hf3 hT (by decide)) (q := 4) (by omega)) rfl rfl (Nat.le_of_ble_eq_true rfl) ?_
  refine zk_i ?_
  refine zx_callV (y1 := iX2_search) dX10_digestedFindings_39 lX10_243 vX2_search rc_27 (mX2_search (zI_f hf3 hI (by decide)) (zT_f hf3 hT (by decide)) (q := 4) (by omega) (doors := (zwet π τ 4 : Nat)) (by omega)) rfl rfl (Nat.le_of_ble_eq_true rfl) ?_
  intro v M3 he
  obtain ⟨rfl, hf4, hfd⟩ := he
  refine zx_iconst (v := zn_I 0) dX10_digestedFindings_42 rfl ?_
  refine zx_istore dX10_digestedFindings_43 rfl (Nat.le_of_ble_eq_true rfl) ?_
  exact loop 0 (by omega) M3 (zf_tr hf3 (zf_mono hf4 (by decide))) hfd
set_option maxRecDepth 100000 in
set_option maxHeartbeats 600000 in
theorem mX10_digest {l : Launch} {d : Nat} {M : zw_M} {σ : zZ} (hC : zC_ M σ) : zw_C l (d + 11) iX10_digest [.ref 0] M (fun v M1 => v = some (.long (zk_digest σ)) ∧ zw_fr zcl M M1 ∧ zC_ M1 σ) := by
  have hp := hC.1.1
  have h30 := zp_30 hp
  have h8 := hC.2.1.1
  have h40 : σ.2.2.1.1 ≤ 40 := hC.2.2.1.1
  refine zw_of (by decide +kernel) (Nat.le_of_ble_eq_true rfl) ?_
  refine zy_loc (L1 := [.ref 0, .retAddr 0, .retAddr 0, .retAddr 0]) rfl ?_
  have l5 : ∀ s : Nat, s ≤ 8 → ∀ M1 : zw_M, zw_fr zcl M M1 → zC_ M1 σ → zw_X l (d + 11) iX10_digest (fun v M1 => v = some (.long (zk_digest σ)) ∧ zw_fr zcl M M1 ∧ zC_ M1 σ) 165 [.ref 0, .long (zh_f (fun w => zn_I (zk_count σ (w : Int))) (zk_h5 σ) s), .retAddr 0, .int (zn_I (s : Int))] [] M1 := by
    refine zw_loop (8) (P := fun s => ∀ M1 : zw_M, zw_fr zcl M M1 → zC_ M1 σ → zw_X l (d + 11) iX10_digest (fun v M1 => v = some (.long (zk_digest σ)) ∧ zw_fr zcl M M1 ∧ zC_ M1 σ) 165 [.ref 0, .long (zh_f (fun w => zn_I (zk_count σ (w : Int))) (zk_h5 σ) s), .retAddr 0, .int (zn_I (s : Int))] [] M1) (fun s hs ih M1 hf hC1 => ?_)
    obtain ⟨hI1, hT1, hG1, hct1, hk1⟩ := id hC1
    refine zx_iload_n dX10_digest_165 rfl ?_
    refine zx_bipush (v := zn_I 8) dX10_digest_166 (by decide) ?_
    refine zy_icmp_ge (tgt := 187) dX10_digest_168 (by decide) (by omega) (fun h_168 => ?_) (fun h_168 => ?_)
    · refine zx_lload_n dX10_digest_187 rfl ?_
      refine zx_lret (st := []) dX10_digest_188 rfl ?_
      exact ⟨by rw [show s = 8 by omega]; rfl, hf, hC1⟩
    · refine zx_lload_n dX10_digest_171 rfl ?_
      refine zx_aload_n dX10_digest_172 rfl ?_
      refine zx_iload_n dX10_digest_173 rfl ?_
      refine zx_callV (y1 := iX10_count) dX10_digest_174 lX10_290 vX10_count rc_0 (mX10_count hC1 (w := (s : Int)) (by omega)) rfl rfl (Nat.le_of_ble_eq_true rfl) ?_
      refine zk_i ?_
      refine zx_callS (y1 := iX10_digested) dX10_digest_177 lX10_276 sX10_digested (mX10_digested) rfl rfl (Nat.le_of_ble_eq_true rfl) ?_
      refine zk_l ?_
      refine zx_lstore_n dX10_digest_180 rfl (Nat.le_of_ble_eq_true rfl) ?_
      refine zy_iinc dX10_digest_181 rfl rfl ?_
      refine zx_goto (tgt := 165) dX10_digest_184 (by decide) ?_
      exact ih (by omega) M1 hf hC1
  have l4 : ∀ s : Nat, s ≤ σ.2.2.1.1 → ∀ M1 : zw_M, zw_fr zcl M M1 → zC_ M1 σ → zw_X l (d + 11) iX10_digest (fun v M1 => v = some (.long (zk_digest σ)) ∧ zw_fr zcl M M1 ∧ zC_ M1 σ) 133 [.ref 0, .long (zh_f (fun i => zn_I (σ.2.2.1.2 i : Nat)) (zk_h4 σ) s), .retAddr 0, .int (zn_I (s : Int))] [] M1 := by
    refine zw_loop (σ.2.2.1.1) (P := fun s => ∀ M1 : zw_M, zw_fr zcl M M1 → zC_ M1 σ → zw_X l (d + 11) iX10_digest (fun v M1 => v = some (.long (zk_digest σ)) ∧ zw_fr zcl M M1 ∧ zC_ M1 σ) 133 [.ref 0, .long (zh_f (fun i => zn_I (σ.2.2.1.2 i : Nat)) (zk_h4 σ) s), .retAddr 0, .int (zn_I (s : Int))] [] M1) (fun s hs ih M1 hf hC1 => ?_)
    obtain ⟨hI1, hT1, hG1, hct1, hk1⟩ := id hC1
    refine zx_iload_n dX10_digest_133 rfl ?_
    refine zx_aload_n dX10_digest_134 rfl ?_
    refine zx_getr dX10_digest_135 fX10_10 ?_
    refine zx_callV (y1 := iX3_length) dX10_digest_138 lX10_89 vX3_length rc_1 (mX3_length hG1) rfl rfl (Nat.le_of_ble_eq_true rfl) ?_
    refine zk_i ?_
    refine zy_icmp_ge (tgt := 163) dX10_digest_141 (by decide) (by omega) (fun h_141 => ?_) (fun h_141 => ?_)
    · have es : s = σ.2.2.1.1 := by omega
      subst es
      refine zx_iconst (v := zn_I 0) dX10_digest_163 rfl ?_
      refine zx_istore_n dX10_digest_164 rfl (Nat.le_of_ble_eq_true rfl) ?_
      exact l5 0 (by omega) M1 hf hC1
    · refine zx_lload_n dX10_digest_144 rfl ?_
      refine zx_aload_n dX10_digest_145 rfl ?_
      refine zx_getr dX10_digest_146 fX10_10 ?_
      refine zx_iload_n dX10_digest_149 rfl ?_
      refine zx_callV (y1 := iX3_letter) dX10_digest_150 lX10_287 vX3_letter rc_1 (mX3_letter hG1 (z := (s : Int)) (by omega)) rfl rfl (Nat.le_of_ble_eq_true rfl) ?_
      refine zk_i ?_
      rw [zg_at_in (by omega)]
      refine zx_callS (y1 := iX10_digested) dX10_digest_153 lX10_276 sX10_digested (mX10_digested) rfl rfl (Nat.le_of_ble_eq_true rfl) ?_
      refine zk_l ?_
      refine zx_lstore_n dX10_digest_156 rfl (Nat.le_of_ble_eq_true rfl) ?_
      refine zy_iinc dX10_digest_157 rfl rfl ?_
      refine zx_goto (tgt := 133) dX10_digest_160 (by decide) ?_
      exact ih (by omega) M1 hf hC1
  have l3 : ∀ s : Nat, s ≤ 8 → ∀ M1 : zw_M, zw_fr zcl M M1 → zC_ M1 σ → zw_X l (d + 11) iX10_digest (fun v M1 => v = some (.long (zk_digest σ)) ∧ zw_fr zcl M M1 ∧ zC_ M1 σ) 64 [.ref 0, .long (zh_g (zh_q σ.1 σ.2.1) (zk_h2 σ) s), .retAddr 0, .int (zn_I (s : Int))] [] M1 := by
    refine zw_loop (8) (P := fun s => ∀ M1 : zw_M, zw_fr zcl M M1 → zC_ M1 σ → zw_X l (d + 11) iX10_digest (fun v M1 => v = some (.long (zk_digest σ)) ∧ zw_fr zcl M M1 ∧ zC_ M1 σ) 64 [.ref 0, .long (zh_g (zh_q σ.1 σ.2.1) (zk_h2 σ) s), .retAddr 0, .int (zn_I (s : Int))] [] M1) (fun s hs ih M1 hf hC1 => ?_)
    obtain ⟨hI1, hT1, hG1, hct1, hk1⟩ := id hC1
    refine zx_iload_n dX10_digest_64 rfl ?_
    refine zx_bipush (v := zn_I 8) dX10_digest_65 (by decide) ?_
    refine zy_icmp_ge (tgt := 115) dX10_digest_67 (by decide) (by omega) (fun h_67 => ?_) (fun h_67 => ?_)
    · have es : s = 8 := by omega
      subst es
      refine zx_aload_n dX10_digest_115 rfl ?_
      refine zx_getr dX10_digest_116 fX10_26 ?_
      refine zx_callV (y1 := iX1_isThere) dX10_digest_119 lX10_195 vX1_isThere rc_4 (mX1_isThere hI1) rfl rfl (Nat.le_of_ble_eq_true rfl) ?_
      refine zk_i ?_
      refine zy_ifB_eq (tgt := 131) dX10_digest_122 (by decide) (fun h_122 => ?_) (fun h_122 => ?_)
      · refine zx_iconst (v := zn_I 0) dX10_digest_131 rfl ?_
        refine zx_istore_n dX10_digest_132 rfl (Nat.le_of_ble_eq_true rfl) ?_
        have h9 := l4 0 (by omega) M1 hf hC1
        rw [zh_f, zk_h4, if_neg h_122] at h9
        exact h9
      · refine zx_aload_n dX10_digest_125 rfl ?_
        refine zx_lload_n dX10_digest_126 rfl ?_
        refine zx_callV (y1 := iX10_digestedFindings) dX10_digest_127 lX10_283 vX10_digestedFindings rc_0 (mX10_digestedFindings hI1 hT1) rfl rfl (Nat.le_of_ble_eq_true rfl) ?_
        intro v M2 he
        obtain ⟨rfl, hf2⟩ := he
        refine zx_lstore_n dX10_digest_130 rfl (Nat.le_of_ble_eq_true rfl) ?_
        refine zx_iconst (v := zn_I 0) dX10_digest_131 rfl ?_
        refine zx_istore_n dX10_digest_132 rfl (Nat.le_of_ble_eq_true rfl) ?_
        have h9 := l4 0 (by omega) M2 (zf_tr hf (zf_mono hf2 (by decide))) (zC_f hf2 hC1 (by decide))
        rw [zh_f, zk_h4, if_pos h_122] at h9
        exact h9
    · refine zx_lload_n dX10_digest_70 rfl ?_
      refine zx_aload_n dX10_digest_71 rfl ?_
      refine zx_getr dX10_digest_72 fX10_42 ?_
      refine zx_iload_n dX10_digest_75 rfl ?_
      refine zx_callV (y1 := iX0_leanEast) dX10_digest_76 lX10_182 vX0_leanEast rc_13 (mX0_leanEast hI1 hT1 (q := s) (by omega)) rfl rfl (Nat.le_of_ble_eq_true rfl) ?_
      refine zk_i ?_
      refine zx_callS (y1 := iX10_digested) dX10_digest_79 lX10_276 sX10_digested (mX10_digested) rfl rfl (Nat.le_of_ble_eq_true rfl) ?_
      refine zk_l ?_
      refine zx_lstore_n dX10_digest_82 rfl (Nat.le_of_ble_eq_true rfl) ?_
      refine zx_lload_n dX10_digest_83 rfl ?_
      refine zx_aload_n dX10_digest_84 rfl ?_
      refine zx_getr dX10_digest_85 fX10_42 ?_
      refine zx_iload_n dX10_digest_88 rfl ?_
      refine zx_callV (y1 := iX0_leanSouth) dX10_digest_89 lX10_185 vX0_leanSouth rc_13 (mX0_leanSouth hI1 hT1 (q := s) (by omega)) rfl rfl (Nat.le_of_ble_eq_true rfl) ?_
      refine zk_i ?_
      refine zx_callS (y1 := iX10_digested) dX10_digest_92 lX10_276 sX10_digested (mX10_digested) rfl rfl (Nat.le_of_ble_eq_true rfl) ?_
      refine zk_l ?_
      refine zx_lstore_n dX10_digest_95 rfl (Nat.le_of_ble_eq_true rfl) ?_
      refine zx_lload_n dX10_digest_96 rfl ?_
      refine zx_aload_n dX10_digest_97 rfl ?_
      refine zx_getr dX10_digest_98 fX10_42 ?_
      refine zx_iload_n dX10_digest_101 rfl ?_
      refine zx_callV (y1 := iX0_wetIn) dX10_digest_102 lX10_192 vX0_wetIn rc_13 (mX0_wetIn hI1 hT1 (q := s) (by omega)) rfl rfl (Nat.le_of_ble_eq_true rfl) ?_
      refine zk_i ?_
      refine zx_callS (y1 := iX10_digested) dX10_digest_105 lX10_276 sX10_digested (mX10_digested) rfl rfl (Nat.le_of_ble_eq_true rfl) ?_
      refine zk_l ?_
      refine zx_lstore_n dX10_digest_108 rfl (Nat.le_of_ble_eq_true rfl) ?_
      refine zy_iinc dX10_digest_109 rfl rfl ?_
      refine zx_goto (tgt := 64) dX10_digest_112 (by decide) ?_
      exact ih (by omega) M1 hf hC1
  have l2 : ∀ s : Nat, s ≤ σ.2.1.1 → ∀ M1 : zw_M, zw_fr zcl M M1 → zC_ M1 σ → zw_X l (d + 11) iX10_digest (fun v M1 => v = some (.long (zk_digest σ)) ∧ zw_fr zcl M M1 ∧ zC_ M1 σ) 38 [.ref 0, .long (zh_g (zh_t σ.2.1) (zk_h1 σ) s), .retAddr 0, .int (zn_I (s : Int))] [] M1 := by
    refine zw_loop (σ.2.1.1) (P := fun s => ∀ M1 : zw_M, zw_fr zcl M M1 → zC_ M1 σ → zw_X l (d + 11) iX10_digest (fun v M1 => v = some (.long (zk_digest σ)) ∧ zw_fr zcl M M1 ∧ zC_ M1 σ) 38 [.ref 0, .long (zh_g (zh_t σ.2.1) (zk_h1 σ) s), .retAddr 0, .int (zn_I (s : Int))] [] M1) (fun s hs ih M1 hf hC1 => ?_)
    obtain ⟨hI1, hT1, hG1, hct1, hk1⟩ := id hC1
    refine zx_iload_n dX10_digest_38 rfl ?_
    refine zx_aload_n dX10_digest_39 rfl ?_
    refine zx_getr dX10_digest_40 fX10_33 ?_
    refine zx_callV (y1 := iX8_size) dX10_digest_43 lX10_262 vX8_size rc_8 (mX8_size hT1) rfl rfl (Nat.le_of_ble_eq_true rfl) ?_
    refine zk_i ?_
    refine zy_icmp_ge (tgt := 62) dX10_digest_46 (by decide) (by omega) (fun h_46 => ?_) (fun h_46 => ?_)
    · have es : s = σ.2.1.1 := by omega
      subst es
      refine zx_iconst (v := zn_I 0) dX10_digest_62 rfl ?_
      refine zx_istore_n dX10_digest_63 rfl (Nat.le_of_ble_eq_true rfl) ?_
      exact l3 0 (by omega) M1 hf hC1
    · refine zx_aload_n dX10_digest_49 rfl ?_
      refine zx_lload_n dX10_digest_50 rfl ?_
      refine zx_iload_n dX10_digest_51 rfl ?_
      refine zx_callV (y1 := iX10_digestedThing) dX10_digest_52 lX10_280 vX10_digestedThing rc_0 (mX10_digestedThing hI1 hT1 (t := s) (by omega)) rfl rfl (Nat.le_of_ble_eq_true rfl) ?_
      refine zk_l ?_
      refine zx_lstore_n dX10_digest_55 rfl (Nat.le_of_ble_eq_true rfl) ?_
      refine zy_iinc dX10_digest_56 rfl rfl ?_
      refine zx_goto (tgt := 38) dX10_digest_59 (by decide) ?_
      exact ih (by omega) M1 hf hC1
  have l1 : ∀ s : Nat, s ≤ zp_n σ.1 → ∀ M1 : zw_M, zw_fr zcl M M1 → zC_ M1 σ → zw_X l (d + 11) iX10_digest (fun v M1 => v = some (.long (zk_digest σ)) ∧ zw_fr zcl M M1 ∧ zC_ M1 σ) 6 [.ref 0, .long (zh_f (fun s => zn_I (σ.1.2.2 s)) 613 s), .retAddr 0, .int (zn_I (s : Int))] [] M1 := by
    refine zw_loop (zp_n σ.1) (P := fun s => ∀ M1 : zw_M, zw_fr zcl M M1 → zC_ M1 σ → zw_X l (d + 11) iX10_digest (fun v M1 => v = some (.long (zk_digest σ)) ∧ zw_fr zcl M M1 ∧ zC_ M1 σ) 6 [.ref 0, .long (zh_f (fun s => zn_I (σ.1.2.2 s)) 613 s), .retAddr 0, .int (zn_I (s : Int))] [] M1) (fun s hs ih M1 hf hC1 => ?_)
    obtain ⟨hI1, hT1, hG1, hct1, hk1⟩ := id hC1
    refine zx_iload_n dX10_digest_6 rfl ?_
    refine zx_aload_n dX10_digest_7 rfl ?_
    refine zx_getr dX10_digest_8 fX10_26 ?_
    refine zx_callV (y1 := iX1_squares) dX10_digest_11 lX10_122 vX1_squares rc_4 (mX1_squares hI1) rfl rfl (Nat.le_of_ble_eq_true rfl) ?_
    refine zk_i ?_
    refine zy_icmp_ge (tgt := 36) dX10_digest_14 (by decide) (by omega) (fun h_14 => ?_) (fun h_14 => ?_)
    · have es : s = zp_n σ.1 := by omega
      subst es
      refine zx_iconst (v := zn_I 0) dX10_digest_36 rfl ?_
      refine zx_istore_n dX10_digest_37 rfl (Nat.le_of_ble_eq_true rfl) ?_
      exact l2 0 (by omega) M1 hf hC1
    · refine zx_lload_n dX10_digest_17 rfl ?_
      refine zx_aload_n dX10_digest_18 rfl ?_
      refine zx_getr dX10_digest_19 fX10_26 ?_
      refine zx_iload_n dX10_digest_22 rfl ?_
      refine zx_callV (y1 := iX1_height) dX10_digest_23 lX10_130 vX1_height rc_4 (mX1_height_in hI1 (s := s) (by omega)) rfl rfl (Nat.le_of_ble_eq_true rfl) ?_
      refine zk_i ?_
      refine zx_callS (y1 := iX10_digested) dX10_digest_26 lX10_276 sX10_digested (mX10_digested) rfl rfl (Nat.le_of_ble_eq_true rfl) ?_
      refine zk_l ?_
      refine zx_lstore_n dX10_digest_29 rfl (Nat.le_of_ble_eq_true rfl) ?_
      refine zy_iinc dX10_digest_30 rfl rfl ?_
      refine zx_goto (tgt := 6) dX10_digest_33 (by decide) ?_
      exact ih (by omega) M1 hf hC1
  refine zx_ldc2 dX10_digest_0 kX10_274 ?_
  refine zx_lstore_n dX10_digest_3 rfl (Nat.le_of_ble_eq_true rfl) ?_
  refine zx_iconst (v := zn_I 0) dX10_digest_4 rfl ?_
  refine zx_istore_n dX10_digest_5 rfl (Nat.le_of_ble_eq_true rfl) ?_
  exact l1 0 (by omega) M zf_rf hC
