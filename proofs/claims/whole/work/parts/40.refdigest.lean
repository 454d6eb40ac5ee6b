/-! THE REFERENCE'S DIGEST -/
theorem zJ_re {S F : List Nat} {M M1 : zw_M} {σ : zZ} (h : mfr S F M M1) (hJ : zJ_ M σ) (hT : mT M1 (zp_n σ.1) σ.2.1) (hM : mM M1 0 0 0) (hS : (34 ∉ S ∧ 0 ∉ F ∧ 1 ∉ F ∧ 2 ∉ F) ∧ (38 ∉ S ∧ 11 ∉ F) ∧ (3 ∉ F ∧ 9 ∉ F ∧ 10 ∉ F) ∧ (46 ∉ S ∧ 35 ∉ F ∧ 36 ∉ F ∧ 37 ∉ F)) : zJ_ M1 σ :=
  ⟨mI_f h hJ.1 hS.1, hT, mG_f h hJ.2.2.1 hS.2.1, ⟨by rw [(h.2 3 hS.2.2.1.1).1]; exact hJ.2.2.2.1.1, by rw [(h.2 9 hS.2.2.1.2.1).1]; exact hJ.2.2.2.1.2.1, by rw [(h.2 10 hS.2.2.1.2.2).1]; exact hJ.2.2.2.1.2.2⟩, hM, mK_f h hJ.2.2.2.2.2 hS.2.2.2⟩
set_option maxRecDepth 100000 in
set_option maxHeartbeats 600000 in
theorem mX11_mix {l : Launch} {d : Nat} {M : zw_M} {h : Int64} {x : Int32} (hh : M.2 33 39 = h) : zw_C l d iX11_mix [.ref 33, .long x.toInt64] M (fun v M1 => v = none ∧ mfr [] [39] M M1 ∧ M1.2 33 39 = zh h x) := by
  subst hh
  refine zw_of (by decide +kernel) (Nat.le_of_ble_eq_true rfl) ?_
  refine zy_loc (L1 := [.ref 33, .long x.toInt64, .retAddr 0]) rfl ?_
  refine zx_aload_n dX11_mix_0 rfl ?_
  refine zx_ldc2 dX11_mix_1 kX11_284 ?_
  refine zx_aload_n dX11_mix_4 rfl ?_
  refine zx_getl dX11_mix_5 fX11_286 ?_
  refine zx_lmul dX11_mix_8 ?_
  refine zx_lload_n dX11_mix_9 rfl ?_
  refine zx_ladd dX11_mix_10 ?_
  refine zx_putl dX11_mix_11 fX11_286 ?_
  refine zx_vret (st := []) dX11_mix_14 rfl ?_
  exact ⟨rfl, mf_l mf_rf (by decide), by simp [zw_sl, zh]⟩
set_option maxRecDepth 100000 in
set_option maxHeartbeats 600000 in
theorem mX11_mixThing {l : Launch} {d : Nat} {M : zw_M} {n : Nat} {τ : zQ} (hT : mT M n τ) {t : Nat} (ht : t < τ.1) {h : Int64} (hh : M.2 33 39 = h) : zw_C l (d + 1) iX11_mixThing [.ref 33, .int (zn_I (t : Int))] M (fun v M1 => v = none ∧ mfr [] [39] M M1 ∧ M1.2 33 39 = zh_t τ t h) := by
  have h8 := hT.1
  have ht5 : M.1 33 5 = zn_I τ.1 := hT.2.1
  refine zw_of (by decide +kernel) (Nat.le_of_ble_eq_true rfl) ?_
  refine zy_loc (L1 := [.ref 33, .int (zn_I (t : Int)), .retAddr 0]) rfl ?_
  have loop : ∀ s : Nat, s ≤ 8 → ∀ M1 : zw_M, mfr [] [39] M M1 → M1.2 33 39 = zh_f (fun q => zn_I (τ.2.2.2 t q : Nat)) (zh (zh (zh h (zn_I (τ.2.1 t))) (zn_I (τ.2.2.1 t))) (zn_I (zt_w τ t))) s → zw_X l (d + 1) iX11_mixThing (fun v M1 => v = none ∧ mfr [] [39] M M1 ∧ M1.2 33 39 = zh_t τ t h) 34 [.ref 33, .int (zn_I (t : Int)), .int (zn_I (s : Int))] [] M1 := by
    refine zw_loop 8 (P := fun s => ∀ M1 : zw_M, mfr [] [39] M M1 → M1.2 33 39 = zh_f (fun q => zn_I (τ.2.2.2 t q : Nat)) (zh (zh (zh h (zn_I (τ.2.1 t))) (zn_I (τ.2.2.1 t))) (zn_I (zt_w τ t))) s → zw_X l (d + 1) iX11_mixThing (fun v M1 => v = none ∧ mfr [] [39] M M1 ∧ M1.2 33 39 = zh_t τ t h) 34 [.ref 33, .int (zn_I (t : Int)), .int (zn_I (s : Int))] [] M1) (fun s hs ih M1 hf hh1 => ?_)
    refine zx_iload_n dX11_mixThing_34 rfl ?_
    refine zx_bipush (v := zn_I 8) dX11_mixThing_35 (by decide) ?_
    refine zy_icmp_ge (tgt := 62) dX11_mixThing_37 (by decide) (by omega) (fun h_37 => ?_) (fun h_37 => ?_)
    · refine zx_vret (st := []) dX11_mixThing_62 rfl ?_
      exact ⟨rfl, hf, by rw [hh1, show s = 8 by omega]; rfl⟩
    · refine zx_aload_n dX11_mixThing_40 rfl ?_
      refine zx_aload_n dX11_mixThing_41 rfl ?_
      refine zx_getr dX11_mixThing_42 fX11_19 ?_
      refine zx_bipush (v := zn_I 8) dX11_mixThing_45 (by decide) ?_
      refine zx_iload_n dX11_mixThing_47 rfl ?_
      refine zy_imul dX11_mixThing_48 ?_
      refine zx_iload_n dX11_mixThing_49 rfl ?_
      refine zy_iadd dX11_mixThing_50 ?_
      refine zy_iald (i := 8 * t + s) dX11_mixThing_51 rfl (by decide) (by omega) (by omega) ((mT_f hf hT (by decide)).2.2.2.2.1 t ht s (by omega)) ?_
      refine zx_i2l dX11_mixThing_52 ?_
      refine zx_callV (y1 := iX11_mix) dX11_mixThing_53 lX11_289 vX11_mix rc_33 (mX11_mix (hh1)) rfl rfl (Nat.le_of_ble_eq_true rfl) ?_
      intro v M2 he
      obtain ⟨rfl, hg2, hh2⟩ := he
      refine zy_iinc dX11_mixThing_56 rfl rfl ?_
      refine zx_goto (tgt := 34) dX11_mixThing_59 (by decide) ?_
      exact ih (by omega) M2 (mf_tr hf hg2) hh2
  refine zx_aload_n dX11_mixThing_0 rfl ?_
  refine zx_aload_n dX11_mixThing_1 rfl ?_
  refine zx_getr dX11_mixThing_2 fX11_13 ?_
  refine zx_iload_n dX11_mixThing_5 rfl ?_
  refine zy_iald (i := t) dX11_mixThing_6 rfl (by decide) (by omega) (by omega) (hT.2.2.1 t ht) ?_
  refine zx_i2l dX11_mixThing_7 ?_
  refine zx_callV (y1 := iX11_mix) dX11_mixThing_8 lX11_289 vX11_mix rc_33 (mX11_mix (hh)) rfl rfl (Nat.le_of_ble_eq_true rfl) ?_
  intro v M1 he
  obtain ⟨rfl, hg1, hh1⟩ := he
  refine zx_aload_n dX11_mixThing_11 rfl ?_
  refine zx_aload_n dX11_mixThing_12 rfl ?_
  refine zx_getr dX11_mixThing_13 fX11_16 ?_
  refine zx_iload_n dX11_mixThing_16 rfl ?_
  refine zy_iald (i := t) dX11_mixThing_17 rfl (by decide) (by omega) (by omega) ((mT_f hg1 hT (by decide)).2.2.2.1 t ht) ?_
  refine zx_i2l dX11_mixThing_18 ?_
  refine zx_callV (y1 := iX11_mix) dX11_mixThing_19 lX11_289 vX11_mix rc_33 (mX11_mix (hh1)) rfl rfl (Nat.le_of_ble_eq_true rfl) ?_
  intro v M2 he
  obtain ⟨rfl, hg2, hh2⟩ := he
  refine zx_aload_n dX11_mixThing_22 rfl ?_
  refine zx_aload_n dX11_mixThing_23 rfl ?_
  refine zx_iload_n dX11_mixThing_24 rfl ?_
  refine zx_callV (y1 := iX11_weighs) dX11_mixThing_25 lX11_116 vX11_weighs rc_33 (mX11_weighs (mT_f (mf_tr hg1 hg2) hT (by decide)) ht) rfl rfl (Nat.le_of_ble_eq_true rfl) ?_
  refine zk_i ?_
  refine zx_i2l dX11_mixThing_28 ?_
  refine zx_callV (y1 := iX11_mix) dX11_mixThing_29 lX11_289 vX11_mix rc_33 (mX11_mix (hh2)) rfl rfl (Nat.le_of_ble_eq_true rfl) ?_
  intro v M3 he
  obtain ⟨rfl, hg3, hh3⟩ := he
  refine zx_iconst (v := zn_I 0) dX11_mixThing_32 rfl ?_
  refine zx_istore_n dX11_mixThing_33 rfl (Nat.le_of_ble_eq_true rfl) ?_
  exact loop 0 (Nat.zero_le _) M3 (mf_tr (mf_tr hg1 hg2) hg3) hh3
set_option maxRecDepth 100000 in
set_option maxHeartbeats 600000 in
theorem mX11_digest {l : Launch} {d : Nat} {M : zw_M} {σ : zZ} (hJ : zJ_ M σ) (hok : zok σ) : zw_C l (d + 5) iX11_digest [.ref 33] M (fun v M1 => v = some (.long (zk_digest σ)) ∧ mfr zml zmf M M1 ∧ zJ_ M1 σ) := by
  have hp := hJ.1.1
  have h30 := zp_30 hp
  have h8 := hJ.2.1.1
  have h40 : σ.2.2.1.1 ≤ 40 := hJ.2.2.1.1
  have hw := zwet_30 hp σ.2.1 4
  refine zw_of (by decide +kernel) (Nat.le_of_ble_eq_true rfl) ?_
  refine zy_loc (L1 := [.ref 33, .retAddr 0, .retAddr 0]) rfl ?_
  have l5 : ∀ s : Nat, s ≤ 8 → ∀ (M1 : zw_M) (v2 : Value), mfr zml zmf M M1 → zJ_ M1 σ → M1.2 33 39 = zh_f (fun w => zn_I (zk_count σ (w : Int))) (zk_h5 σ) s → zw_X l (d + 5) iX11_digest (fun v M1 => v = some (.long (zk_digest σ)) ∧ mfr zml zmf M M1 ∧ zJ_ M1 σ) 198 [.ref 33, .int (zn_I (s : Int)), v2] [] M1 := by
    refine zw_loop (8) (P := fun s => ∀ (M1 : zw_M) (v2 : Value), mfr zml zmf M M1 → zJ_ M1 σ → M1.2 33 39 = zh_f (fun w => zn_I (zk_count σ (w : Int))) (zk_h5 σ) s → zw_X l (d + 5) iX11_digest (fun v M1 => v = some (.long (zk_digest σ)) ∧ mfr zml zmf M M1 ∧ zJ_ M1 σ) 198 [.ref 33, .int (zn_I (s : Int)), v2] [] M1) (fun s hs ih M1 v2 hf hJ1 hh => ?_)
    obtain ⟨hI1, hT1, hG1, ⟨ha1, hb1, hc1⟩, hM1, hK1⟩ := id hJ1
    refine zx_iload_n dX11_digest_198 rfl ?_
    refine zx_bipush (v := zn_I 8) dX11_digest_199 (by decide) ?_
    refine zy_icmp_ge (tgt := 220) dX11_digest_201 (by decide) (by omega) (fun h_201 => ?_) (fun h_201 => ?_)
    · refine zx_aload_n dX11_digest_220 rfl ?_
      refine zx_getl dX11_digest_221 fX11_286 ?_
      refine zx_lret (st := []) dX11_digest_224 rfl ?_
      exact ⟨by rw [hh, show s = 8 by omega]; rfl, hf, hJ1⟩
    · refine zx_aload_n dX11_digest_204 rfl ?_
      refine zx_aload_n dX11_digest_205 rfl ?_
      refine zx_iload_n dX11_digest_206 rfl ?_
      refine zx_callV (y1 := iX11_howMany) dX11_digest_207 lX11_281 vX11_howMany rc_33 (mX11_howMany hJ1 (w := (s : Int)) (by omega)) rfl rfl (Nat.le_of_ble_eq_true rfl) ?_
      refine zk_i ?_
      refine zx_i2l dX11_digest_210 ?_
      refine zx_callV (y1 := iX11_mix) dX11_digest_211 lX11_289 vX11_mix rc_33 (mX11_mix hh) rfl rfl (Nat.le_of_ble_eq_true rfl) ?_
      intro v M9 he
      obtain ⟨rfl, hg9, hh9⟩ := he
      have hf9 := mf_tr hf (mf_mono (S1 := zml) (F1 := zmf) hg9 (by decide))
      have hJ9 := zJ_f hg9 hJ1 (by decide)
      obtain ⟨hI9, hT9, hG9, ⟨ha9, hb9, hc9⟩, hM9, hK9⟩ := id hJ9
      refine zy_iinc dX11_digest_214 rfl rfl ?_
      refine zx_goto (tgt := 198) dX11_digest_217 (by decide) ?_
      exact ih (by omega) M9 _ hf9 hJ9 hh9
  have l4 : ∀ s : Nat, s ≤ σ.2.2.1.1 → ∀ (M1 : zw_M) (v2 : Value), mfr zml zmf M M1 → zJ_ M1 σ → M1.2 33 39 = zh_f (fun i => zn_I (σ.2.2.1.2 i : Nat)) (zk_h4 σ) s → zw_X l (d + 5) iX11_digest (fun v M1 => v = some (.long (zk_digest σ)) ∧ mfr zml zmf M M1 ∧ zJ_ M1 σ) 171 [.ref 33, .int (zn_I (s : Int)), v2] [] M1 := by
    refine zw_loop (σ.2.2.1.1) (P := fun s => ∀ (M1 : zw_M) (v2 : Value), mfr zml zmf M M1 → zJ_ M1 σ → M1.2 33 39 = zh_f (fun i => zn_I (σ.2.2.1.2 i : Nat)) (zk_h4 σ) s → zw_X l (d + 5) iX11_digest (fun v M1 => v = some (.long (zk_digest σ)) ∧ mfr zml zmf M M1 ∧ zJ_ M1 σ) 171 [.ref 33, .int (zn_I (s : Int)), v2] [] M1) (fun s hs ih M1 v2 hf hJ1 hh => ?_)
    obtain ⟨hI1, hT1, hG1, ⟨ha1, hb1, hc1⟩, hM1, hK1⟩ := id hJ1
    refine zx_iload_n dX11_digest_171 rfl ?_
    refine zx_aload_n dX11_digest_172 rfl ?_
    refine zy_geti dX11_digest_173 fX11_52 (hG1.2.1) ?_
    refine zy_icmp_ge (tgt := 196) dX11_digest_176 (by decide) (by omega) (fun h_176 => ?_) (fun h_176 => ?_)
    · have es : s = σ.2.2.1.1 := by omega
      subst es
      refine zx_iconst (v := zn_I 0) dX11_digest_196 rfl ?_
      refine zx_istore_n dX11_digest_197 rfl (Nat.le_of_ble_eq_true rfl) ?_
      exact l5 0 (Nat.zero_le _) M1 _ hf hJ1 hh
    · refine zx_aload_n dX11_digest_179 rfl ?_
      refine zx_aload_n dX11_digest_180 rfl ?_
      refine zx_getr dX11_digest_181 fX11_22 ?_
      refine zx_iload_n dX11_digest_184 rfl ?_
      refine zy_bald (i := s) dX11_digest_185 rfl (by decide) (by omega) (by omega) (hG1.2.2.1 s (by omega)) ?_
      refine zx_i2l dX11_digest_186 ?_
      refine zx_callV (y1 := iX11_mix) dX11_digest_187 lX11_289 vX11_mix rc_33 (mX11_mix hh) rfl rfl (Nat.le_of_ble_eq_true rfl) ?_
      intro v M9 he
      obtain ⟨rfl, hg9, hh9⟩ := he
      have hf9 := mf_tr hf (mf_mono (S1 := zml) (F1 := zmf) hg9 (by decide))
      have hJ9 := zJ_f hg9 hJ1 (by decide)
      obtain ⟨hI9, hT9, hG9, ⟨ha9, hb9, hc9⟩, hM9, hK9⟩ := id hJ9
      refine zy_iinc dX11_digest_190 rfl rfl ?_
      refine zx_goto (tgt := 171) dX11_digest_193 (by decide) ?_
      exact ih (by omega) M9 _ hf9 hJ9 hh9
  have l3b : 0 < zp_n σ.1 → ∀ s : Nat, s ≤ 3 → ∀ (M1 : zw_M) (v2 : Value), mfr zml zmf M M1 → zJ_ M1 σ → M1.2 33 39 = zh_f (fun x => zn_I (zl_ans σ.1 σ.2.1 4 (zwet σ.1 σ.2.1 4 : Nat) x : Nat)) (zh (zh (zk_h3 σ) (zn_I (zsite σ.1 σ.2.1 10))) (zn_I (zmoss σ.1 σ.2.1))) s → zw_X l (d + 5) iX11_digest (fun v M1 => v = some (.long (zk_digest σ)) ∧ mfr zml zmf M M1 ∧ zJ_ M1 σ) 136 [.ref 33, .int (zn_I ((zwet σ.1 σ.2.1 4 : Nat) : Int)), .int (zn_I (s : Int))] [] M1 := by
    intro h0
    refine zw_loop (3) (P := fun s => ∀ (M1 : zw_M) (v2 : Value), mfr zml zmf M M1 → zJ_ M1 σ → M1.2 33 39 = zh_f (fun x => zn_I (zl_ans σ.1 σ.2.1 4 (zwet σ.1 σ.2.1 4 : Nat) x : Nat)) (zh (zh (zk_h3 σ) (zn_I (zsite σ.1 σ.2.1 10))) (zn_I (zmoss σ.1 σ.2.1))) s → zw_X l (d + 5) iX11_digest (fun v M1 => v = some (.long (zk_digest σ)) ∧ mfr zml zmf M M1 ∧ zJ_ M1 σ) 136 [.ref 33, .int (zn_I ((zwet σ.1 σ.2.1 4 : Nat) : Int)), .int (zn_I (s : Int))] [] M1) (fun s hs ih M1 v2 hf hJ1 hh => ?_)
    obtain ⟨hI1, hT1, hG1, ⟨ha1, hb1, hc1⟩, hM1, hK1⟩ := id hJ1
    refine zx_iload_n dX11_digest_136 rfl ?_
    refine zx_iconst (v := zn_I 3) dX11_digest_137 rfl ?_
    refine zy_icmp_ge (tgt := 159) dX11_digest_138 (by decide) (by omega) (fun h_138 => ?_) (fun h_138 => ?_)
    · have es : s = 3 := by omega
      subst es
      refine zx_aload_n dX11_digest_159 rfl ?_
      refine zx_aload_n dX11_digest_160 rfl ?_
      refine zx_iconst (v := zn_I 4) dX11_digest_161 rfl ?_
      refine zx_callV (y1 := iX11_stormNow) dX11_digest_162 lX11_241 vX11_stormNow rc_33 (mX11_stormNow hI1 hT1 hM1 (q := 4) (by omega)) rfl rfl (Nat.le_of_ble_eq_true rfl) ?_
      intro v M8 he
      obtain ⟨rfl, hq8, hT8q⟩ := he
      have hfa8 := mf_tr hf (mf_mono (S1 := zml) (F1 := zmf) hq8 (by decide))
      have hJ8 := zJ_re hq8 hJ1 hT8q (mM_f hq8 hM1 (by decide)) (by decide)
      have hk8 := ((hq8.2 39 (by decide)).2).trans hh
      obtain ⟨hI8, hT8, hG8, ⟨ha8, hb8, hc8⟩, hM8, hK8⟩ := id hJ8
      refine zx_i2l dX11_digest_165 ?_
      refine zx_callV (y1 := iX11_mix) dX11_digest_166 lX11_289 vX11_mix rc_33 (mX11_mix hk8) rfl rfl (Nat.le_of_ble_eq_true rfl) ?_
      intro v M9 he
      obtain ⟨rfl, hg9, hh9⟩ := he
      have hf9 := mf_tr hfa8 (mf_mono (S1 := zml) (F1 := zmf) hg9 (by decide))
      have hJ9 := zJ_f hg9 hJ8 (by decide)
      obtain ⟨hI9, hT9, hG9, ⟨ha9, hb9, hc9⟩, hM9, hK9⟩ := id hJ9
      refine zx_iconst (v := zn_I 0) dX11_digest_169 rfl ?_
      refine zx_istore_n dX11_digest_170 rfl (Nat.le_of_ble_eq_true rfl) ?_
      refine l4 0 (Nat.zero_le _) M9 _ hf9 hJ9 ?_
      rw [zh_f, zk_h4, if_pos h0]
      exact hh9
    · refine zx_aload_n dX11_digest_141 rfl ?_
      refine zx_aload_n dX11_digest_142 rfl ?_
      refine zx_iconst (v := zn_I 4) dX11_digest_143 rfl ?_
      refine zx_iload_n dX11_digest_144 rfl ?_
      refine zx_iload_n dX11_digest_145 rfl ?_
      refine zx_callV (y1 := iX11_lateNow) dX11_digest_146 lX11_228 vX11_lateNow rc_33 (mX11_lateNow hI1 hT1 hM1 (q := 4) (o := ((zwet σ.1 σ.2.1 4 : Nat) : Int)) (x := s) (by omega) (by omega) (by omega)) rfl rfl (Nat.le_of_ble_eq_true rfl) ?_
      intro v M8 he
      obtain ⟨rfl, hq8, hT8q⟩ := he
      have hfa8 := mf_tr hf (mf_mono (S1 := zml) (F1 := zmf) hq8 (by decide))
      have hJ8 := zJ_re hq8 hJ1 hT8q (mM_f hq8 hM1 (by decide)) (by decide)
      have hk8 := ((hq8.2 39 (by decide)).2).trans hh
      obtain ⟨hI8, hT8, hG8, ⟨ha8, hb8, hc8⟩, hM8, hK8⟩ := id hJ8
      refine zx_i2l dX11_digest_149 ?_
      refine zx_callV (y1 := iX11_mix) dX11_digest_150 lX11_289 vX11_mix rc_33 (mX11_mix hk8) rfl rfl (Nat.le_of_ble_eq_true rfl) ?_
      intro v M9 he
      obtain ⟨rfl, hg9, hh9⟩ := he
      have hf9 := mf_tr hfa8 (mf_mono (S1 := zml) (F1 := zmf) hg9 (by decide))
      have hJ9 := zJ_f hg9 hJ8 (by decide)
      obtain ⟨hI9, hT9, hG9, ⟨ha9, hb9, hc9⟩, hM9, hK9⟩ := id hJ9
      refine zy_iinc dX11_digest_153 rfl rfl ?_
      refine zx_goto (tgt := 136) dX11_digest_156 (by decide) ?_
      exact ih (by omega) M9 v2 hf9 hJ9 hh9
  have l3 : ∀ s : Nat, s ≤ 8 → ∀ (M1 : zw_M) (v2 : Value), mfr zml zmf M M1 → zJ_ M1 σ → M1.2 33 39 = zh_g (zh_q σ.1 σ.2.1) (zk_h2 σ) s → zw_X l (d + 5) iX11_digest (fun v M1 => v = some (.long (zk_digest σ)) ∧ mfr zml zmf M M1 ∧ zJ_ M1 σ) 57 [.ref 33, .int (zn_I (s : Int)), v2] [] M1 := by
    refine zw_loop (8) (P := fun s => ∀ (M1 : zw_M) (v2 : Value), mfr zml zmf M M1 → zJ_ M1 σ → M1.2 33 39 = zh_g (zh_q σ.1 σ.2.1) (zk_h2 σ) s → zw_X l (d + 5) iX11_digest (fun v M1 => v = some (.long (zk_digest σ)) ∧ mfr zml zmf M M1 ∧ zJ_ M1 σ) 57 [.ref 33, .int (zn_I (s : Int)), v2] [] M1) (fun s hs ih M1 v2 hf hJ1 hh => ?_)
    obtain ⟨hI1, hT1, hG1, ⟨ha1, hb1, hc1⟩, hM1, hK1⟩ := id hJ1
    refine zx_iload_n dX11_digest_57 rfl ?_
    refine zx_bipush (v := zn_I 8) dX11_digest_58 (by decide) ?_
    refine zy_icmp_ge (tgt := 101) dX11_digest_60 (by decide) (by omega) (fun h_60 => ?_) (fun h_60 => ?_)
    · have es : s = 8 := by omega
      subst es
      refine zx_aload_n dX11_digest_101 rfl ?_
      refine zy_geti dX11_digest_102 fX11_92 (hI1.2.2.2.1) ?_
      refine zy_if_le (tgt := 169) dX11_digest_105 (by decide) (by omega) (fun h_105 => ?_) (fun h_105 => ?_)
      · refine zx_iconst (v := zn_I 0) dX11_digest_169 rfl ?_
        refine zx_istore_n dX11_digest_170 rfl (Nat.le_of_ble_eq_true rfl) ?_
        refine l4 0 (Nat.zero_le _) M1 _ hf hJ1 ?_
        rw [zh_f, zk_h4, if_neg (by omega)]
        exact hh
      · refine zx_aload_n dX11_digest_108 rfl ?_
        refine zx_aload_n dX11_digest_109 rfl ?_
        refine zx_bipush (v := zn_I 10) dX11_digest_110 (by decide) ?_
        refine zx_callV (y1 := iX11_siteNow) dX11_digest_112 lX11_221 vX11_siteNow rc_33 (mX11_siteNow hI1 hT1 hM1 (w := 10) (by omega)) rfl rfl (Nat.le_of_ble_eq_true rfl) ?_
        intro v M2 he
        obtain ⟨rfl, hq2, hM2q⟩ := he
        have hfa2 := mf_tr hf (mf_mono (S1 := zml) (F1 := zmf) hq2 (by decide))
        have hJ2 := zJ_re hq2 hJ1 (mT_f hq2 hT1 (by decide)) hM2q (by decide)
        have hk2 := ((hq2.2 39 (by decide)).2).trans hh
        obtain ⟨hI2, hT2, hG2, ⟨ha2, hb2, hc2⟩, hM2, hK2⟩ := id hJ2
        refine zx_i2l dX11_digest_115 ?_
        refine zx_callV (y1 := iX11_mix) dX11_digest_116 lX11_289 vX11_mix rc_33 (mX11_mix hk2) rfl rfl (Nat.le_of_ble_eq_true rfl) ?_
        intro v M3 he
        obtain ⟨rfl, hg3, hh3⟩ := he
        have hf3 := mf_tr hfa2 (mf_mono (S1 := zml) (F1 := zmf) hg3 (by decide))
        have hJ3 := zJ_f hg3 hJ2 (by decide)
        obtain ⟨hI3, hT3, hG3, ⟨ha3, hb3, hc3⟩, hM3, hK3⟩ := id hJ3
        refine zx_aload_n dX11_digest_119 rfl ?_
        refine zx_aload_n dX11_digest_120 rfl ?_
        refine zx_callV (y1 := iX11_mossNow) dX11_digest_121 lX11_244 vX11_mossNow rc_33 (mX11_mossNow hI3 hT3 hM3 (mst_ok hok)) rfl rfl (Nat.le_of_ble_eq_true rfl) ?_
        intro v M4 he
        obtain ⟨rfl, hq4, hM4q⟩ := he
        have hfa4 := mf_tr hf3 (mf_mono (S1 := zml) (F1 := zmf) hq4 (by decide))
        have hJ4 := zJ_re hq4 hJ3 (mT_f hq4 hT3 (by decide)) hM4q (by decide)
        have hk4 := ((hq4.2 39 (by decide)).2).trans hh3
        obtain ⟨hI4, hT4, hG4, ⟨ha4, hb4, hc4⟩, hM4, hK4⟩ := id hJ4
        refine zx_i2l dX11_digest_124 ?_
        refine zx_callV (y1 := iX11_mix) dX11_digest_125 lX11_289 vX11_mix rc_33 (mX11_mix hk4) rfl rfl (Nat.le_of_ble_eq_true rfl) ?_
        intro v M5 he
        obtain ⟨rfl, hg5, hh5⟩ := he
        have hf5 := mf_tr hfa4 (mf_mono (S1 := zml) (F1 := zmf) hg5 (by decide))
        have hJ5 := zJ_f hg5 hJ4 (by decide)
        obtain ⟨hI5, hT5, hG5, ⟨ha5, hb5, hc5⟩, hM5, hK5⟩ := id hJ5
        refine zx_aload_n dX11_digest_128 rfl ?_
        refine zx_iconst (v := zn_I 4) dX11_digest_129 rfl ?_
        refine zx_callV (y1 := iX11_wetIn) dX11_digest_130 lX11_143 vX11_wetIn rc_33 (mX11_wetIn hI5 hT5 hM5 (q := 4) (by omega)) rfl rfl (Nat.le_of_ble_eq_true rfl) ?_
        refine zk_i ?_
        rw [mwet_0]
        refine zx_istore_n dX11_digest_133 rfl (Nat.le_of_ble_eq_true rfl) ?_
        refine zx_iconst (v := zn_I 0) dX11_digest_134 rfl ?_
        refine zx_istore_n dX11_digest_135 rfl (Nat.le_of_ble_eq_true rfl) ?_
        exact l3b (by omega) 0 (Nat.zero_le _) M5 (.retAddr 0) hf5 hJ5 hh5
    · refine zx_aload_n dX11_digest_63 rfl ?_
      refine zx_aload_n dX11_digest_64 rfl ?_
      refine zx_iload_n dX11_digest_65 rfl ?_
      refine zx_iconst (v := zn_I 0) dX11_digest_66 rfl ?_
      refine zx_callV (y1 := iX11_leanOf) dX11_digest_67 lX11_138 vX11_leanOf rc_33 (mX11_leanOf_e hI1 hT1 hM1 (q := s) (by omega)) rfl rfl (Nat.le_of_ble_eq_true rfl) ?_
      refine zk_i ?_
      rw [(ml_0 σ.1 σ.2.1 s σ.2.1.1).1, Int.zero_add]
      refine zx_i2l dX11_digest_70 ?_
      refine zx_callV (y1 := iX11_mix) dX11_digest_71 lX11_289 vX11_mix rc_33 (mX11_mix hh) rfl rfl (Nat.le_of_ble_eq_true rfl) ?_
      intro v M5 he
      obtain ⟨rfl, hg5, hh5⟩ := he
      have hf5 := mf_tr hf (mf_mono (S1 := zml) (F1 := zmf) hg5 (by decide))
      have hJ5 := zJ_f hg5 hJ1 (by decide)
      obtain ⟨hI5, hT5, hG5, ⟨ha5, hb5, hc5⟩, hM5, hK5⟩ := id hJ5
      refine zx_aload_n dX11_digest_74 rfl ?_
      refine zx_aload_n dX11_digest_75 rfl ?_
      refine zx_iload_n dX11_digest_76 rfl ?_
      refine zx_iconst (v := zn_I 1) dX11_digest_77 rfl ?_
      refine zx_callV (y1 := iX11_leanOf) dX11_digest_78 lX11_138 vX11_leanOf rc_33 (mX11_leanOf_s hI5 hT5 hM5 (q := s) (by omega)) rfl rfl (Nat.le_of_ble_eq_true rfl) ?_
      refine zk_i ?_
      rw [(ml_0 σ.1 σ.2.1 s σ.2.1.1).2, Int.zero_add]
      refine zx_i2l dX11_digest_81 ?_
      refine zx_callV (y1 := iX11_mix) dX11_digest_82 lX11_289 vX11_mix rc_33 (mX11_mix (hh5)) rfl rfl (Nat.le_of_ble_eq_true rfl) ?_
      intro v M6 he
      obtain ⟨rfl, hg6, hh6⟩ := he
      have hf6 := mf_tr hf5 (mf_mono (S1 := zml) (F1 := zmf) hg6 (by decide))
      have hJ6 := zJ_f hg6 hJ5 (by decide)
      obtain ⟨hI6, hT6, hG6, ⟨ha6, hb6, hc6⟩, hM6, hK6⟩ := id hJ6
      refine zx_aload_n dX11_digest_85 rfl ?_
      refine zx_aload_n dX11_digest_86 rfl ?_
      refine zx_iload_n dX11_digest_87 rfl ?_
      refine zx_callV (y1 := iX11_wetIn) dX11_digest_88 lX11_143 vX11_wetIn rc_33 (mX11_wetIn hI6 hT6 hM6 (q := s) (by omega)) rfl rfl (Nat.le_of_ble_eq_true rfl) ?_
      refine zk_i ?_
      rw [mwet_0]
      refine zx_i2l dX11_digest_91 ?_
      refine zx_callV (y1 := iX11_mix) dX11_digest_92 lX11_289 vX11_mix rc_33 (mX11_mix (hh6)) rfl rfl (Nat.le_of_ble_eq_true rfl) ?_
      intro v M9 he
      obtain ⟨rfl, hg9, hh9⟩ := he
      have hf9 := mf_tr hf6 (mf_mono (S1 := zml) (F1 := zmf) hg9 (by decide))
      have hJ9 := zJ_f hg9 hJ6 (by decide)
      obtain ⟨hI9, hT9, hG9, ⟨ha9, hb9, hc9⟩, hM9, hK9⟩ := id hJ9
      refine zy_iinc dX11_digest_95 rfl rfl ?_
      refine zx_goto (tgt := 57) dX11_digest_98 (by decide) ?_
      exact ih (by omega) M9 _ hf9 hJ9 hh9
  have l2 : ∀ s : Nat, s ≤ σ.2.1.1 → ∀ (M1 : zw_M) (v2 : Value), mfr zml zmf M M1 → zJ_ M1 σ → M1.2 33 39 = zh_g (zh_t σ.2.1) (zk_h1 σ) s → zw_X l (d + 5) iX11_digest (fun v M1 => v = some (.long (zk_digest σ)) ∧ mfr zml zmf M M1 ∧ zJ_ M1 σ) 36 [.ref 33, .int (zn_I (s : Int)), v2] [] M1 := by
    refine zw_loop (σ.2.1.1) (P := fun s => ∀ (M1 : zw_M) (v2 : Value), mfr zml zmf M M1 → zJ_ M1 σ → M1.2 33 39 = zh_g (zh_t σ.2.1) (zk_h1 σ) s → zw_X l (d + 5) iX11_digest (fun v M1 => v = some (.long (zk_digest σ)) ∧ mfr zml zmf M M1 ∧ zJ_ M1 σ) 36 [.ref 33, .int (zn_I (s : Int)), v2] [] M1) (fun s hs ih M1 v2 hf hJ1 hh => ?_)
    obtain ⟨hI1, hT1, hG1, ⟨ha1, hb1, hc1⟩, hM1, hK1⟩ := id hJ1
    refine zx_iload_n dX11_digest_36 rfl ?_
    refine zx_aload_n dX11_digest_37 rfl ?_
    refine zy_geti dX11_digest_38 fX11_95 (hT1.2.1) ?_
    refine zy_icmp_ge (tgt := 55) dX11_digest_41 (by decide) (by omega) (fun h_41 => ?_) (fun h_41 => ?_)
    · have es : s = σ.2.1.1 := by omega
      subst es
      refine zx_iconst (v := zn_I 0) dX11_digest_55 rfl ?_
      refine zx_istore_n dX11_digest_56 rfl (Nat.le_of_ble_eq_true rfl) ?_
      exact l3 0 (Nat.zero_le _) M1 _ hf hJ1 hh
    · refine zx_aload_n dX11_digest_44 rfl ?_
      refine zx_iload_n dX11_digest_45 rfl ?_
      refine zx_callV (y1 := iX11_mixThing) dX11_digest_46 lX11_295 vX11_mixThing rc_33 (mX11_mixThing hT1 (t := s) (by omega) hh) rfl rfl (Nat.le_of_ble_eq_true rfl) ?_
      intro v M9 he
      obtain ⟨rfl, hg9, hh9⟩ := he
      have hf9 := mf_tr hf (mf_mono (S1 := zml) (F1 := zmf) hg9 (by decide))
      have hJ9 := zJ_f hg9 hJ1 (by decide)
      obtain ⟨hI9, hT9, hG9, ⟨ha9, hb9, hc9⟩, hM9, hK9⟩ := id hJ9
      refine zy_iinc dX11_digest_49 rfl rfl ?_
      refine zx_goto (tgt := 36) dX11_digest_52 (by decide) ?_
      exact ih (by omega) M9 _ hf9 hJ9 hh9
  have l1 : ∀ s : Nat, s ≤ zp_n σ.1 → ∀ (M1 : zw_M) (v2 : Value), mfr zml zmf M M1 → zJ_ M1 σ → M1.2 33 39 = zh_f (fun s => zn_I (σ.1.2.2 s)) 613 s → zw_X l (d + 5) iX11_digest (fun v M1 => v = some (.long (zk_digest σ)) ∧ mfr zml zmf M M1 ∧ zJ_ M1 σ) 9 [.ref 33, .int (zn_I (s : Int)), v2] [] M1 := by
    refine zw_loop (zp_n σ.1) (P := fun s => ∀ (M1 : zw_M) (v2 : Value), mfr zml zmf M M1 → zJ_ M1 σ → M1.2 33 39 = zh_f (fun s => zn_I (σ.1.2.2 s)) 613 s → zw_X l (d + 5) iX11_digest (fun v M1 => v = some (.long (zk_digest σ)) ∧ mfr zml zmf M M1 ∧ zJ_ M1 σ) 9 [.ref 33, .int (zn_I (s : Int)), v2] [] M1) (fun s hs ih M1 v2 hf hJ1 hh => ?_)
    obtain ⟨hI1, hT1, hG1, ⟨ha1, hb1, hc1⟩, hM1, hK1⟩ := id hJ1
    refine zx_iload_n dX11_digest_9 rfl ?_
    refine zx_aload_n dX11_digest_10 rfl ?_
    refine zy_geti dX11_digest_11 fX11_92 (hI1.2.2.2.1) ?_
    refine zy_icmp_ge (tgt := 34) dX11_digest_14 (by decide) (by omega) (fun h_14 => ?_) (fun h_14 => ?_)
    · have es : s = zp_n σ.1 := by omega
      subst es
      refine zx_iconst (v := zn_I 0) dX11_digest_34 rfl ?_
      refine zx_istore_n dX11_digest_35 rfl (Nat.le_of_ble_eq_true rfl) ?_
      exact l2 0 (Nat.zero_le _) M1 _ hf hJ1 hh
    · refine zx_aload_n dX11_digest_17 rfl ?_
      refine zx_aload_n dX11_digest_18 rfl ?_
      refine zx_getr dX11_digest_19 fX11_7 ?_
      refine zx_iload_n dX11_digest_22 rfl ?_
      refine zy_iald (i := s) dX11_digest_23 rfl (by decide) (by omega) (by omega) (hI1.2.2.2.2.1 s (by omega)) ?_
      refine zx_i2l dX11_digest_24 ?_
      refine zx_callV (y1 := iX11_mix) dX11_digest_25 lX11_289 vX11_mix rc_33 (mX11_mix hh) rfl rfl (Nat.le_of_ble_eq_true rfl) ?_
      intro v M9 he
      obtain ⟨rfl, hg9, hh9⟩ := he
      have hf9 := mf_tr hf (mf_mono (S1 := zml) (F1 := zmf) hg9 (by decide))
      have hJ9 := zJ_f hg9 hJ1 (by decide)
      obtain ⟨hI9, hT9, hG9, ⟨ha9, hb9, hc9⟩, hM9, hK9⟩ := id hJ9
      refine zy_iinc dX11_digest_28 rfl rfl ?_
      refine zx_goto (tgt := 9) dX11_digest_31 (by decide) ?_
      exact ih (by omega) M9 _ hf9 hJ9 hh9
  refine zx_aload_n dX11_digest_0 rfl ?_
  refine zx_ldc2 dX11_digest_1 kX11_293 ?_
  refine zx_putl dX11_digest_4 fX11_286 ?_
  refine zx_iconst (v := zn_I 0) dX11_digest_7 rfl ?_
  refine zx_istore_n dX11_digest_8 rfl (Nat.le_of_ble_eq_true rfl) ?_
  exact l1 0 (Nat.zero_le _) _ _ (mf_l mf_rf (by decide)) (zJ_f (S := []) (F := [39]) (mf_l mf_rf (by decide)) hJ (by decide)) (by simp [zw_sl, zh_f])
