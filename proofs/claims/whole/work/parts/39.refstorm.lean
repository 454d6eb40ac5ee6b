/-! THE REFERENCE'S STORM AND COWS -/
theorem zc_to_0 {π : zP} {s n : Nat} (h : zc_dv n = 0) : zc_to π s n = s := by
  have e : zp_step π s ((0 : Nat) : Int) = (s : Int) := by unfold zp_step; simp
  rw [zc_to, h, e, if_neg (by omega), Int.toNat_natCast]
theorem zc_rt_out {π : zP} {τ : zQ} {p : Nat → Nat} {n : Nat} : ∀ j, zc_rt π τ p n (τ.1 + j) = zc_rt π τ p n τ.1
  | 0 => rfl
  | j + 1 => by
    rw [← Nat.add_assoc, zc_rt, if_neg (by omega)]
    exact zc_rt_out j
theorem zc_rt_8 {π : zP} {τ : zQ} {p : Nat → Nat} {n : Nat} (h8 : τ.1 ≤ 8) : zc_rt π τ p n 8 = zc_rt π τ p n τ.1 := by
  have e := zc_rt_out (π := π) (τ := τ) (p := p) (n := n) (8 - τ.1)
  rwa [show τ.1 + (8 - τ.1) = 8 by omega] at e
set_option maxRecDepth 100000 in
set_option maxHeartbeats 600000 in
theorem mX11_toMiddle {l : Launch} {d : Nat} {M : zw_M} {π : zP} (hI : mI M π) {s : Nat} (hs : s < zp_n π) : zw_C l d iX11_toMiddle [.ref 33, .int (zn_I (s : Int))] M (zw_i (zn_I (zp_mid π s : Nat)) M) := by
  have hp := hI.1
  have h30 := zp_30 hp
  have hr0 : M.1 33 0 = zn_I π.1 := hI.2.1
  have hr1 : M.1 33 1 = zn_I π.2.1 := hI.2.2.1
  have hr2 : M.1 33 2 = zn_I (zp_n π) := hI.2.2.2.1
  obtain ⟨hw0, hrr0, hm, hq⟩ := zp_w0 hs
  have hup := zp_up hs
  have hd0 : (0 : Int) ≤ ((s / π.2.1 : Nat) : Int) := Int.natCast_nonneg _
  have hml := Nat.mod_le s π.2.1
  have hdn := zp_down hs
  refine zw_of (by decide +kernel) (Nat.le_of_ble_eq_true rfl) ?_
  refine zy_loc (L1 := [.ref 33, .int (zn_I (s : Int)), .retAddr 0, .retAddr 0]) rfl ?_
  refine zx_iload_n dX11_toMiddle_0 rfl ?_
  refine zx_aload_n dX11_toMiddle_1 rfl ?_
  refine zy_geti dX11_toMiddle_2 fX11_89 (hr1) ?_
  refine zy_idiv dX11_toMiddle_5 (by omega) ?_
  refine zx_istore_n dX11_toMiddle_6 rfl (Nat.le_of_ble_eq_true rfl) ?_
  refine zx_iload_n dX11_toMiddle_7 rfl ?_
  refine zx_aload_n dX11_toMiddle_8 rfl ?_
  refine zy_geti dX11_toMiddle_9 fX11_89 (hr1) ?_
  refine zy_irem dX11_toMiddle_12 (by omega) ?_
  refine zx_istore_n dX11_toMiddle_13 rfl (Nat.le_of_ble_eq_true rfl) ?_
  refine zx_iload_n dX11_toMiddle_14 rfl ?_
  refine zx_aload_n dX11_toMiddle_15 rfl ?_
  refine zy_geti dX11_toMiddle_16 fX11_86 (hr0) ?_
  refine zx_iconst (v := zn_I 2) dX11_toMiddle_19 rfl ?_
  refine zy_idiv (b := 2) dX11_toMiddle_20 (by omega) ?_
  refine zy_icmp_eq (tgt := 50) dX11_toMiddle_21 (by decide) (by omega) (fun h_21 => ?_) (fun h_21 => ?_)
  · refine zx_iload_n dX11_toMiddle_50 rfl ?_
    refine zx_aload_n dX11_toMiddle_51 rfl ?_
    refine zy_geti dX11_toMiddle_52 fX11_89 (hr1) ?_
    refine zx_iconst (v := zn_I 2) dX11_toMiddle_55 rfl ?_
    refine zy_idiv (b := 2) dX11_toMiddle_56 (by omega) ?_
    refine zy_icmp_ne (tgt := 64) dX11_toMiddle_57 (by decide) (by omega) (fun h_57 => ?_) (fun h_57 => ?_)
    · refine zx_iload_n dX11_toMiddle_64 rfl ?_
      refine zx_aload_n dX11_toMiddle_65 rfl ?_
      refine zy_geti dX11_toMiddle_66 fX11_89 (hr1) ?_
      refine zx_iconst (v := zn_I 2) dX11_toMiddle_69 rfl ?_
      refine zy_idiv (b := 2) dX11_toMiddle_70 (by omega) ?_
      refine zy_icmp_ge (tgt := 80) dX11_toMiddle_71 (by decide) (by omega) (fun h_71 => ?_) (fun h_71 => ?_)
      · refine zx_iload_n dX11_toMiddle_80 rfl ?_
        refine zx_iconst (v := zn_I 1) dX11_toMiddle_81 rfl ?_
        refine zy_isub dX11_toMiddle_82 ?_
        refine zx_iret (st := []) dX11_toMiddle_83 rfl rfl ?_
        exact zk_I (by rw [zp_mid, if_pos (by omega), if_neg (by omega), if_neg (by omega)]; omega)
      · refine zx_iload_n dX11_toMiddle_74 rfl ?_
        refine zx_iconst (v := zn_I 1) dX11_toMiddle_75 rfl ?_
        refine zy_iadd dX11_toMiddle_76 ?_
        refine zx_goto (tgt := 83) dX11_toMiddle_77 (by decide) ?_
        refine zx_iret (st := []) dX11_toMiddle_83 rfl rfl ?_
        exact zk_I (by rw [zp_mid, if_pos (by omega), if_neg (by omega), if_pos (by omega)]; omega)
    · refine zx_iload_n dX11_toMiddle_60 rfl ?_
      refine zx_goto (tgt := 83) dX11_toMiddle_61 (by decide) ?_
      refine zx_iret (st := []) dX11_toMiddle_83 rfl rfl ?_
      exact zk_I (by rw [zp_mid, if_pos (by omega), if_pos (by omega)])
  · refine zx_iload_n dX11_toMiddle_24 rfl ?_
    refine zx_aload_n dX11_toMiddle_25 rfl ?_
    refine zy_geti dX11_toMiddle_26 fX11_86 (hr0) ?_
    refine zx_iconst (v := zn_I 2) dX11_toMiddle_29 rfl ?_
    refine zy_idiv (b := 2) dX11_toMiddle_30 (by omega) ?_
    refine zy_icmp_ge (tgt := 43) dX11_toMiddle_31 (by decide) (by omega) (fun h_31 => ?_) (fun h_31 => ?_)
    · refine zx_iload_n dX11_toMiddle_43 rfl ?_
      refine zx_aload_n dX11_toMiddle_44 rfl ?_
      refine zy_geti dX11_toMiddle_45 fX11_89 (hr1) ?_
      refine zy_isub dX11_toMiddle_48 ?_
      refine zx_iret (st := []) dX11_toMiddle_49 rfl rfl ?_
      exact zk_I (by rw [zp_mid, if_neg (by omega), if_neg (by omega)]; have := hup (by omega); omega)
    · refine zx_iload_n dX11_toMiddle_34 rfl ?_
      refine zx_aload_n dX11_toMiddle_35 rfl ?_
      refine zy_geti dX11_toMiddle_36 fX11_89 (hr1) ?_
      refine zy_iadd dX11_toMiddle_39 ?_
      refine zx_goto (tgt := 49) dX11_toMiddle_40 (by decide) ?_
      refine zx_iret (st := []) dX11_toMiddle_49 rfl rfl ?_
      exact zk_I (by rw [zp_mid, if_neg (by omega), if_pos (by omega)]; omega)
set_option maxRecDepth 100000 in
set_option maxHeartbeats 600000 in
theorem mX11_keepStands {l : Launch} {d : Nat} {M : zw_M} {n : Nat} {τ : zQ} (hT : mT M n τ) {q : Nat} (hq : q < 8) : zw_C l d iX11_keepStands [.ref 33, .int (zn_I (q : Int))] M (fun v M1 => v = none ∧ mfr [41] [] M M1 ∧ ∀ i, i < τ.1 → M1.1 41 i = zn_I (τ.2.2.2 i q : Nat)) := by
  have h8 := hT.1
  have ht5 : M.1 33 5 = zn_I τ.1 := hT.2.1
  refine zw_of (by decide +kernel) (Nat.le_of_ble_eq_true rfl) ?_
  refine zy_loc (L1 := [.ref 33, .int (zn_I (q : Int)), .retAddr 0]) rfl ?_
  have loop : ∀ t : Nat, t ≤ τ.1 → ∀ M1 : zw_M, mfr [41] [] M M1 → (∀ i, i < t → M1.1 41 i = zn_I (τ.2.2.2 i q : Nat)) → zw_X l d iX11_keepStands (fun v M1 => v = none ∧ mfr [41] [] M M1 ∧ ∀ i, i < τ.1 → M1.1 41 i = zn_I (τ.2.2.2 i q : Nat)) 2 [.ref 33, .int (zn_I (q : Int)), .int (zn_I (t : Int))] [] M1 := by
    refine zw_loop τ.1 (P := fun t => ∀ M1 : zw_M, mfr [41] [] M M1 → (∀ i, i < t → M1.1 41 i = zn_I (τ.2.2.2 i q : Nat)) → zw_X l d iX11_keepStands (fun v M1 => v = none ∧ mfr [41] [] M M1 ∧ ∀ i, i < τ.1 → M1.1 41 i = zn_I (τ.2.2.2 i q : Nat)) 2 [.ref 33, .int (zn_I (q : Int)), .int (zn_I (t : Int))] [] M1) (fun t ht ih M1 hf hc => ?_)
    have hT1 := mT_f hf hT (by decide)
    refine zx_iload_n dX11_keepStands_2 rfl ?_
    refine zx_aload_n dX11_keepStands_3 rfl ?_
    refine zy_geti dX11_keepStands_4 fX11_95 ((show _ = zn_I (τ.1 : Int) from hT1.2.1)) ?_
    refine zy_icmp_ge (tgt := 33) dX11_keepStands_7 (by decide) (by omega) (fun h_7 => ?_) (fun h_7 => ?_)
    · refine zx_vret (st := []) dX11_keepStands_33 rfl ?_
      exact ⟨rfl, hf, fun i hi => hc i (by omega)⟩
    · refine zx_aload_n dX11_keepStands_10 rfl ?_
      refine zx_getr dX11_keepStands_11 fX11_32 ?_
      refine zx_iload_n dX11_keepStands_14 rfl ?_
      refine zx_aload_n dX11_keepStands_15 rfl ?_
      refine zx_getr dX11_keepStands_16 fX11_19 ?_
      refine zx_bipush (v := zn_I 8) dX11_keepStands_19 (by decide) ?_
      refine zx_iload_n dX11_keepStands_21 rfl ?_
      refine zy_imul dX11_keepStands_22 ?_
      refine zx_iload_n dX11_keepStands_23 rfl ?_
      refine zy_iadd dX11_keepStands_24 ?_
      refine zy_iald (i := 8 * t + q) dX11_keepStands_25 rfl (by decide) (by omega) (by omega) (hT1.2.2.2.2.1 t (by omega) q hq) ?_
      refine zy_iast (i := t) dX11_keepStands_26 rfl (by decide) (by omega) (by omega) ?_
      refine zy_iinc dX11_keepStands_27 rfl rfl ?_
      refine zx_goto (tgt := 2) dX11_keepStands_30 (by decide) ?_
      refine ih (by omega) _ (mf_s hf (by decide) (by decide)) (fun i hi => ?_)
      by_cases e : i = t
      · subst e; simp [zw_s]
      · have := hc i (by omega)
        simp [zw_s, e, this]
  refine zx_iconst (v := zn_I 0) dX11_keepStands_0 rfl ?_
  refine zx_istore_n dX11_keepStands_1 rfl (Nat.le_of_ble_eq_true rfl) ?_
  exact loop 0 (Nat.zero_le _) M mf_rf (fun i hi => absurd hi (Nat.not_lt_zero _))
set_option maxRecDepth 100000 in
set_option maxHeartbeats 600000 in
theorem mX11_putStands {l : Launch} {d : Nat} {M : zw_M} {n : Nat} {τ : zQ} {q : Nat} {g p : Nat → Nat} (hT : mT M n (mcol τ q g)) (hq : q < 8) (h41 : ∀ i, i < τ.1 → M.1 41 i = zn_I (p i : Nat)) (hp : ∀ i, i < τ.1 → p i < n) : zw_C l d iX11_putStands [.ref 33, .int (zn_I (q : Int))] M (fun v M1 => v = none ∧ mfr [37] [] M M1 ∧ mT M1 n (mcol τ q p)) := by
  have h8 : τ.1 ≤ 8 := hT.1
  refine zw_of (by decide +kernel) (Nat.le_of_ble_eq_true rfl) ?_
  refine zy_loc (L1 := [.ref 33, .int (zn_I (q : Int)), .retAddr 0]) rfl ?_
  have loop : ∀ t : Nat, t ≤ τ.1 → ∀ M1 : zw_M, mfr [37] [] M M1 → mT M1 n (mcol τ q (mt_F p g t)) → zw_X l d iX11_putStands (fun v M1 => v = none ∧ mfr [37] [] M M1 ∧ mT M1 n (mcol τ q p)) 2 [.ref 33, .int (zn_I (q : Int)), .int (zn_I (t : Int))] [] M1 := by
    refine zw_loop τ.1 (P := fun t => ∀ M1 : zw_M, mfr [37] [] M M1 → mT M1 n (mcol τ q (mt_F p g t)) → zw_X l d iX11_putStands (fun v M1 => v = none ∧ mfr [37] [] M M1 ∧ mT M1 n (mcol τ q p)) 2 [.ref 33, .int (zn_I (q : Int)), .int (zn_I (t : Int))] [] M1) (fun t ht ih M1 hf hT1 => ?_)
    refine zx_iload_n dX11_putStands_2 rfl ?_
    refine zx_aload_n dX11_putStands_3 rfl ?_
    refine zy_geti dX11_putStands_4 fX11_95 ((show _ = zn_I (τ.1 : Int) from hT1.2.1)) ?_
    refine zy_icmp_ge (tgt := 33) dX11_putStands_7 (by decide) (by omega) (fun h_7 => ?_) (fun h_7 => ?_)
    · refine zx_vret (st := []) dX11_putStands_33 rfl ?_
      exact ⟨rfl, hf, mcol_cong (fun i hi => by rw [mt_F, if_pos (by omega)]) hT1⟩
    · refine zx_aload_n dX11_putStands_10 rfl ?_
      refine zx_getr dX11_putStands_11 fX11_19 ?_
      refine zx_bipush (v := zn_I 8) dX11_putStands_14 (by decide) ?_
      refine zx_iload_n dX11_putStands_16 rfl ?_
      refine zy_imul dX11_putStands_17 ?_
      refine zx_iload_n dX11_putStands_18 rfl ?_
      refine zy_iadd dX11_putStands_19 ?_
      refine zx_aload_n dX11_putStands_20 rfl ?_
      refine zx_getr dX11_putStands_21 fX11_32 ?_
      refine zx_iload_n dX11_putStands_24 rfl ?_
      refine zy_iald (i := t) dX11_putStands_25 rfl (by decide) (by omega) (by omega) ((show _ = zn_I (p t : Nat) from by rw [(hf.1 41 (by decide) (by decide)).1]; exact h41 t (by omega))) ?_
      refine zy_iast (i := 8 * t + q) dX11_putStands_26 rfl (by decide) (by omega) (by omega) ?_
      refine zy_iinc dX11_putStands_27 rfl rfl ?_
      refine zx_goto (tgt := 2) dX11_putStands_30 (by decide) ?_
      exact ih (by omega) _ (mf_s hf (by decide) (by decide)) (mcol_step hT1 (by omega) hq (hp t (by omega)))
  refine zx_iconst (v := zn_I 0) dX11_putStands_0 rfl ?_
  refine zx_istore_n dX11_putStands_1 rfl (Nat.le_of_ble_eq_true rfl) ?_
  exact loop 0 (Nat.zero_le _) M mf_rf (mcol_cong (fun i _ => by rw [mt_F, if_neg (Nat.not_lt_zero _)]) hT)
set_option maxRecDepth 100000 in
set_option maxHeartbeats 600000 in
theorem mX11_stormNow {l : Launch} {d : Nat} {M : zw_M} {π : zP} {τ : zQ} (hI : mI M π) (hT : mT M (zp_n π) τ) (hM : mM M 0 0 0) {q : Nat} (hq : q < 8) : zw_C l (d + 3) iX11_stormNow [.ref 33, .int (zn_I (q : Int))] M (fun v M1 => v = some (.int (zn_I (zm_storm π τ q))) ∧ mfr [37, 41] [] M M1 ∧ mT M1 (zp_n π) τ) := by
  have hp := hI.1
  have h30 := zp_30 hp
  have hr0 : M.1 33 0 = zn_I π.1 := hI.2.1
  have hr1 : M.1 33 1 = zn_I π.2.1 := hI.2.2.1
  have hr2 : M.1 33 2 = zn_I (zp_n π) := hI.2.2.2.1
  have h8 := hT.1
  refine zw_of (by decide +kernel) (Nat.le_of_ble_eq_true rfl) ?_
  refine zy_loc (L1 := [.ref 33, .int (zn_I (q : Int)), .retAddr 0, .retAddr 0, .retAddr 0]) rfl ?_
  have hpn := fun i => zm_at_lt (π := π) (τ := τ) (p := fun t => τ.2.2.2 t q) (fun t ht => hT.2.2.2.2.2.2.2 t ht q hq) i
  have LM : ∀ (g : Nat → Nat) (i : Nat) (vf : Int32) (M1 : zw_M), mfr [37, 41] [] M M1 → (∀ i, i < τ.1 → M1.1 41 i = zn_I (τ.2.2.2 i q : Nat)) → (∀ t, t < τ.1 → g t < zp_n π) → (∀ (M2 : zw_M) (v4 : Value), mfr [37, 41] [] M M2 → (∀ i, i < τ.1 → M2.1 41 i = zn_I (τ.2.2.2 i q : Nat)) → mT M2 (zp_n π) (mcol τ q (zm_go π τ g)) → zw_X l (d + 3) iX11_stormNow (fun v M1 => v = some (.int (zn_I (zm_storm π τ q))) ∧ mfr [37, 41] [] M M1 ∧ mT M1 (zp_n π) τ) 9 [.ref 33, .int (zn_I (q : Int)), .int vf, .int (zn_I ((i : Int) + 1)), v4] [] M2) → ∀ k : Nat, k ≤ τ.1 → ∀ M2 : zw_M, mfr [37] [] M1 M2 → mT M2 (zp_n π) (mcol τ q (mt_F (zm_go π τ g) g k)) → zw_X l (d + 3) iX11_stormNow (fun v M1 => v = some (.int (zn_I (zm_storm π τ q))) ∧ mfr [37, 41] [] M M1 ∧ mT M1 (zp_n π) τ) 37 [.ref 33, .int (zn_I (q : Int)), .int vf, .int (zn_I (i : Int)), .int (zn_I (k : Int))] [] M2 := by
    intro g i vf M1 hf h41 hg hcont
    refine zw_loop τ.1 (P := fun k => ∀ M2 : zw_M, mfr [37] [] M1 M2 → mT M2 (zp_n π) (mcol τ q (mt_F (zm_go π τ g) g k)) → zw_X l (d + 3) iX11_stormNow (fun v M1 => v = some (.int (zn_I (zm_storm π τ q))) ∧ mfr [37, 41] [] M M1 ∧ mT M1 (zp_n π) τ) 37 [.ref 33, .int (zn_I (q : Int)), .int vf, .int (zn_I (i : Int)), .int (zn_I (k : Int))] [] M2) (fun k hk ih M2 hf2 hT2 => ?_)
    have hf3 : mfr [37, 41] [] M M2 := mf_tr hf (mf_mono hf2 (by decide))
    refine zx_iload dX11_stormNow_37 rfl ?_
    refine zx_aload_n dX11_stormNow_39 rfl ?_
    refine zy_geti dX11_stormNow_40 fX11_95 ((show _ = zn_I (τ.1 : Int) from hT2.2.1)) ?_
    refine zy_icmp_ge (tgt := 104) dX11_stormNow_43 (by decide) (by omega) (fun h_43 => ?_) (fun h_43 => ?_)
    · refine zy_iinc dX11_stormNow_104 rfl rfl ?_
      refine zx_goto (tgt := 9) dX11_stormNow_107 (by decide) ?_
      exact hcont M2 _ hf3 (fun i hi => by rw [(hf2.1 41 (by decide) (by decide)).1]; exact h41 i hi) (mcol_cong (fun t ht => by rw [mt_F, if_pos (by omega)]) hT2)
    · refine zx_aload_n dX11_stormNow_46 rfl ?_
      refine zx_getr dX11_stormNow_47 fX11_19 ?_
      refine zx_bipush (v := zn_I 8) dX11_stormNow_50 (by decide) ?_
      refine zx_iload dX11_stormNow_52 rfl ?_
      refine zy_imul dX11_stormNow_54 ?_
      refine zx_iload_n dX11_stormNow_55 rfl ?_
      refine zy_iadd dX11_stormNow_56 ?_
      refine zx_aload_n dX11_stormNow_57 rfl ?_
      refine zx_iload dX11_stormNow_58 rfl ?_
      refine zx_callV (y1 := iX11_isPerson) dX11_stormNow_60 lX11_122 vX11_isPerson rc_33 (mX11_isPerson hT2 (t := k) (by show k < τ.1; omega)) rfl rfl (Nat.le_of_ble_eq_true rfl) ?_
      refine zk_i ?_
      refine zy_ifB_eq (tgt := 85) dX11_stormNow_63 (by decide) (fun h_63 => ?_) (fun h_63 => ?_)
      · refine zx_aload_n dX11_stormNow_85 rfl ?_
        refine zx_getr dX11_stormNow_86 fX11_19 ?_
        refine zx_bipush (v := zn_I 8) dX11_stormNow_89 (by decide) ?_
        refine zx_iload dX11_stormNow_91 rfl ?_
        refine zy_imul dX11_stormNow_93 ?_
        refine zx_iload_n dX11_stormNow_94 rfl ?_
        refine zy_iadd dX11_stormNow_95 ?_
        refine zy_iald (i := 8 * k + q) dX11_stormNow_96 rfl (by decide) (by omega) (by omega) ((show _ = zn_I (zm_go π τ g k : Nat) from by rw [mcol_val hT2 (show k < τ.1 by omega) hq, if_pos rfl, mt_F, if_neg (Nat.lt_irrefl k), zm_go, if_neg (show ¬ zt_per τ k from h_63)])) ?_
        refine zy_iast (i := 8 * k + q) dX11_stormNow_97 rfl (by decide) (by omega) (by omega) ?_
        refine zy_iinc dX11_stormNow_98 rfl rfl ?_
        refine zx_goto (tgt := 37) dX11_stormNow_101 (by decide) ?_
        exact ih (by omega) _ (mf_s hf2 (by decide) (by decide)) (mcol_step hT2 (by omega) hq (by
          unfold zm_go
          split
          · exact zp_mid_lt (hg k (by omega))
          · exact hg k (by omega)))
      · refine zx_aload_n dX11_stormNow_66 rfl ?_
        refine zx_aload_n dX11_stormNow_67 rfl ?_
        refine zx_getr dX11_stormNow_68 fX11_19 ?_
        refine zx_bipush (v := zn_I 8) dX11_stormNow_71 (by decide) ?_
        refine zx_iload dX11_stormNow_73 rfl ?_
        refine zy_imul dX11_stormNow_75 ?_
        refine zx_iload_n dX11_stormNow_76 rfl ?_
        refine zy_iadd dX11_stormNow_77 ?_
        refine zy_iald (i := 8 * k + q) dX11_stormNow_78 rfl (by decide) (by omega) (by omega) ((show _ = zn_I (g k : Nat) from by rw [mcol_val hT2 (show k < τ.1 by omega) hq, if_pos rfl, mt_F, if_neg (Nat.lt_irrefl k)])) ?_
        refine zx_callV (y1 := iX11_toMiddle) dX11_stormNow_79 lX11_235 vX11_toMiddle rc_33 (mX11_toMiddle (mI_f hf3 hI (by decide)) (s := g k) (hg k (by omega))) rfl rfl (Nat.le_of_ble_eq_true rfl) ?_
        refine zk_i ?_
        rw [show zp_mid π (g k) = zm_go π τ g k by rw [zm_go, if_pos (show zt_per τ k from h_63)]]
        refine zx_goto (tgt := 97) dX11_stormNow_82 (by decide) ?_
        refine zy_iast (i := 8 * k + q) dX11_stormNow_97 rfl (by decide) (by omega) (by omega) ?_
        refine zy_iinc dX11_stormNow_98 rfl rfl ?_
        refine zx_goto (tgt := 37) dX11_stormNow_101 (by decide) ?_
        exact ih (by omega) _ (mf_s hf2 (by decide) (by decide)) (mcol_step hT2 (by omega) hq (by
          unfold zm_go
          split
          · exact zp_mid_lt (hg k (by omega))
          · exact hg k (by omega)))
  have LS : ∀ i : Nat, i ≤ 10 → ∀ (M1 : zw_M) (v4 : Value), mfr [37, 41] [] M M1 → (∀ i, i < τ.1 → M1.1 41 i = zn_I (τ.2.2.2 i q : Nat)) → mT M1 (zp_n π) (mcol τ q (zm_at π τ (fun t => τ.2.2.2 t q) i)) → zw_X l (d + 3) iX11_stormNow (fun v M1 => v = some (.int (zn_I (zm_storm π τ q))) ∧ mfr [37, 41] [] M M1 ∧ mT M1 (zp_n π) τ) 9 [.ref 33, .int (zn_I (q : Int)), .int (zn_I (zs_yr (fun i => decide (zm_wet π τ (zm_at π τ (fun t => τ.2.2.2 t q) i) = 0)) i)), .int (zn_I (i : Int)), v4] [] M1 := by
    refine zw_loop 10 (P := fun i => ∀ (M1 : zw_M) (v4 : Value), mfr [37, 41] [] M M1 → (∀ i, i < τ.1 → M1.1 41 i = zn_I (τ.2.2.2 i q : Nat)) → mT M1 (zp_n π) (mcol τ q (zm_at π τ (fun t => τ.2.2.2 t q) i)) → zw_X l (d + 3) iX11_stormNow (fun v M1 => v = some (.int (zn_I (zm_storm π τ q))) ∧ mfr [37, 41] [] M M1 ∧ mT M1 (zp_n π) τ) 9 [.ref 33, .int (zn_I (q : Int)), .int (zn_I (zs_yr (fun i => decide (zm_wet π τ (zm_at π τ (fun t => τ.2.2.2 t q) i) = 0)) i)), .int (zn_I (i : Int)), v4] [] M1) (fun i hi ih M1 v4 hf h41 hT1 => ?_)
    have hyr := zs_yr_rng (fun i => decide (zm_wet π τ (zm_at π τ (fun t => τ.2.2.2 t q) i) = 0)) i
    have hwl : zm_wet π τ (zm_at π τ (fun t => τ.2.2.2 t q) i) < 1073741824 := zp_bits_30 hp _ _
    refine zx_iload_n dX11_stormNow_9 rfl ?_
    refine zx_bipush (v := zn_I 10) dX11_stormNow_10 (by decide) ?_
    refine zy_icmp_ge (tgt := 110) dX11_stormNow_12 (by decide) (by omega) (fun h_12 => ?_) (fun h_12 => ?_)
    · refine zx_aload_n dX11_stormNow_110 rfl ?_
      refine zx_iload_n dX11_stormNow_111 rfl ?_
      refine zx_callV (y1 := iX11_putStands) dX11_stormNow_112 lX11_238 vX11_putStands rc_33 (mX11_putStands hT1 hq (p := fun t => τ.2.2.2 t q) h41 (fun t ht => hT.2.2.2.2.2.2.2 t ht q hq)) rfl rfl (Nat.le_of_ble_eq_true rfl) ?_
      intro v M2 he
      obtain ⟨rfl, hf2, hT2⟩ := he
      refine zx_iload_n dX11_stormNow_115 rfl ?_
      refine zx_iret (st := []) dX11_stormNow_116 rfl rfl ?_
      refine ⟨?_, mf_tr hf (mf_mono hf2 (by decide)), mcol_of hT2⟩
      rw [zm_storm, show (10 : Nat) = i by omega]
    · refine zx_iload_n dX11_stormNow_15 rfl ?_
      refine zx_iconst (v := zn_I (-1)) dX11_stormNow_16 rfl ?_
      refine zy_icmp_ne (tgt := 110) dX11_stormNow_17 (by decide) (by omega) (fun h_17 => ?_) (fun h_17 => ?_)
      · refine zx_aload_n dX11_stormNow_110 rfl ?_
        refine zx_iload_n dX11_stormNow_111 rfl ?_
        refine zx_callV (y1 := iX11_putStands) dX11_stormNow_112 lX11_238 vX11_putStands rc_33 (mX11_putStands hT1 hq (p := fun t => τ.2.2.2 t q) h41 (fun t ht => hT.2.2.2.2.2.2.2 t ht q hq)) rfl rfl (Nat.le_of_ble_eq_true rfl) ?_
        intro v M2 he
        obtain ⟨rfl, hf2, hT2⟩ := he
        refine zx_iload_n dX11_stormNow_115 rfl ?_
        refine zx_iret (st := []) dX11_stormNow_116 rfl rfl ?_
        refine ⟨?_, mf_tr hf (mf_mono hf2 (by decide)), mcol_of hT2⟩
        rw [zm_storm, zs_yr_keep h_17 10 (by omega)]
      · refine zx_aload_n dX11_stormNow_20 rfl ?_
        refine zx_iload_n dX11_stormNow_21 rfl ?_
        refine zx_callV (y1 := iX11_wetIn) dX11_stormNow_22 lX11_143 vX11_wetIn rc_33 (mX11_wetIn (mI_f hf hI (by decide)) hT1 (mM_f hf hM (by decide)) hq) rfl rfl (Nat.le_of_ble_eq_true rfl) ?_
        refine zk_i ?_
        rw [mcol_wet]
        refine zy_if_ne (tgt := 32) dX11_stormNow_25 (by decide) (by omega) (fun h_25 => ?_) (fun h_25 => ?_)
        · refine zx_iconst (v := zn_I (-1)) dX11_stormNow_32 rfl ?_
          refine zx_istore_n dX11_stormNow_33 rfl (Nat.le_of_ble_eq_true rfl) ?_
          refine zx_iconst (v := zn_I 0) dX11_stormNow_34 rfl ?_
          refine zx_istore dX11_stormNow_35 rfl (Nat.le_of_ble_eq_true rfl) ?_
          have hw0 : ¬ zm_wet π τ (zm_at π τ (fun t => τ.2.2.2 t q) i) = 0 := by omega
          have e9 : zs_yr (fun i => decide (zm_wet π τ (zm_at π τ (fun t => τ.2.2.2 t q) i) = 0)) (i + 1) = (-1) := by rw [zs_yr, if_neg (by omega), if_neg (by simpa using hw0)]
          exact LM (zm_at π τ (fun t => τ.2.2.2 t q) i) i (zn_I (-1)) M1 hf h41 (hpn i) (fun M2 v5 hf2 h2 hT2 => by
            have h9 := ih (by omega) M2 v5 hf2 h2 hT2
            rw [e9] at h9
            exact h9) 0 (Nat.zero_le _) M1 mf_rf (mcol_cong (fun t _ => by rw [mt_F, if_neg (Nat.not_lt_zero _)]) hT1)
        · refine zx_iload_n dX11_stormNow_28 rfl ?_
          refine zx_goto (tgt := 33) dX11_stormNow_29 (by decide) ?_
          refine zx_istore_n dX11_stormNow_33 rfl (Nat.le_of_ble_eq_true rfl) ?_
          refine zx_iconst (v := zn_I 0) dX11_stormNow_34 rfl ?_
          refine zx_istore dX11_stormNow_35 rfl (Nat.le_of_ble_eq_true rfl) ?_
          have hw0 : zm_wet π τ (zm_at π τ (fun t => τ.2.2.2 t q) i) = 0 := by omega
          have e9 : zs_yr (fun i => decide (zm_wet π τ (zm_at π τ (fun t => τ.2.2.2 t q) i) = 0)) (i + 1) = (i : Int) := by rw [zs_yr, if_neg (by omega), if_pos (by simpa using hw0)]
          exact LM (zm_at π τ (fun t => τ.2.2.2 t q) i) i (zn_I (i : Int)) M1 hf h41 (hpn i) (fun M2 v5 hf2 h2 hT2 => by
            have h9 := ih (by omega) M2 v5 hf2 h2 hT2
            rw [e9] at h9
            exact h9) 0 (Nat.zero_le _) M1 mf_rf (mcol_cong (fun t _ => by rw [mt_F, if_neg (Nat.not_lt_zero _)]) hT1)
  refine zx_aload_n dX11_stormNow_0 rfl ?_
  refine zx_iload_n dX11_stormNow_1 rfl ?_
  refine zx_callV (y1 := iX11_keepStands) dX11_stormNow_2 lX11_232 vX11_keepStands rc_33 (mX11_keepStands hT hq) rfl rfl (Nat.le_of_ble_eq_true rfl) ?_
  intro v M1 he
  obtain ⟨rfl, hf, h41⟩ := he
  refine zx_iconst (v := zn_I (-1)) dX11_stormNow_5 rfl ?_
  refine zx_istore_n dX11_stormNow_6 rfl (Nat.le_of_ble_eq_true rfl) ?_
  refine zx_iconst (v := zn_I 0) dX11_stormNow_7 rfl ?_
  refine zx_istore_n dX11_stormNow_8 rfl (Nat.le_of_ble_eq_true rfl) ?_
  exact LS 0 (Nat.zero_le _) M1 _ (mf_mono hf (by decide)) h41 (mcol_to (mT_f hf hT (by decide)))
set_option maxRecDepth 100000 in
set_option maxHeartbeats 600000 in
theorem mX11_storm {l : Launch} {d : Nat} {M : zw_M} {σ : zZ} (hJ : zJ_ M σ) {q : Int} (hqq : -2147483648 ≤ q ∧ q < 2147483648) : zw_C l (d + 4) iX11_storm [.ref 33, .int (zn_I q)] M (mO (zn_I (zk_storm σ q)) σ M) := by
  obtain ⟨hI, hT, hG, ⟨ha, hb, hc⟩, hM, hK⟩ := id hJ
  have hp := hI.1
  have h30 := zp_30 hp
  have h8 := hT.1
  have hr2 : M.1 33 2 = zn_I (zp_n σ.1) := hI.2.2.2.1
  have ht5 : M.1 33 5 = zn_I σ.2.1.1 := hT.2.1
  refine zw_of (by decide +kernel) (Nat.le_of_ble_eq_true rfl) ?_
  refine zy_loc (L1 := [.ref 33, .int (zn_I q)]) rfl ?_
  refine zx_iload_n dX11_storm_0 rfl ?_
  refine zx_callS (y1 := iX11_isQuarter) dX11_storm_1 lX11_119 sX11_isQuarter (mX11_isQuarter hqq) rfl rfl (Nat.le_of_ble_eq_true rfl) ?_
  refine zk_i ?_
  refine zy_ifB_ne (tgt := 10) dX11_storm_4 (by decide) (fun h_4 => ?_) (fun h_4 => ?_)
  · refine zx_aload_n dX11_storm_10 rfl ?_
    refine zy_geti dX11_storm_11 fX11_92 (hr2) ?_
    refine zy_if_ne (tgt := 22) dX11_storm_14 (by decide) (by omega) (fun h_14 => ?_) (fun h_14 => ?_)
    · obtain ⟨q, rfl⟩ : ∃ n : Nat, q = (n : Int) := ⟨q.toNat, by omega⟩
      refine zx_aload_n dX11_storm_22 rfl ?_
      refine zx_iload_n dX11_storm_23 rfl ?_
      refine zx_callV (y1 := iX11_stormNow) dX11_storm_24 lX11_241 vX11_stormNow rc_33 (mX11_stormNow hI hT hM (q := q) (by omega)) rfl rfl (Nat.le_of_ble_eq_true rfl) ?_
      intro v M1 he
      obtain ⟨rfl, hf, hT1⟩ := he
      refine zx_iret (st := []) dX11_storm_27 rfl rfl ?_
      refine mO_f (mf_mono hf (by decide)) ⟨mI_f hf hI (by decide), hT1, mG_f hf hG (by decide), ⟨by rw [(hf.2 3 (by decide)).1]; exact ha, by rw [(hf.2 9 (by decide)).1]; exact hb, by rw [(hf.2 10 (by decide)).1]; exact hc⟩, mM_f hf hM (by decide), mK_f hf hK (by decide)⟩ (by simp only [zk_storm, Int.toNat_natCast]; (repeat' split) <;> first | rfl | omega)
    · refine zx_bipush (v := zn_I (-103)) dX11_storm_17 (by decide) ?_
      refine zx_goto (tgt := 27) dX11_storm_19 (by decide) ?_
      refine zx_iret (st := []) dX11_storm_27 rfl rfl ?_
      exact mO_i hJ (by simp only [zk_storm, Int.toNat_natCast]; (repeat' split) <;> first | rfl | omega)
  · refine zx_bipush (v := zn_I (-101)) dX11_storm_7 (by decide) ?_
    refine zx_iret (st := []) dX11_storm_9 rfl rfl ?_
    exact mO_i hJ (by simp only [zk_storm, Int.toNat_natCast]; (repeat' split) <;> first | rfl | omega)
set_option maxRecDepth 100000 in
set_option maxHeartbeats 600000 in
theorem mX11_draw {l : Launch} {d : Nat} {M : zw_M} {n : Nat} (hn : n < 2147483648) (hs : M.2 33 34 = lN n) : zw_C l d iX11_draw [.ref 33, .int (zn_I 5)] M (fun v M1 => v = some (.int (zn_I (zc_dv (zc_sd n) : Nat))) ∧ mfr [] [34] M M1 ∧ M1.1 = M.1 ∧ M1.2 33 34 = lN (zc_sd n)) := by
  refine zw_of (by decide +kernel) (Nat.le_of_ble_eq_true rfl) ?_
  refine zy_loc (L1 := [.ref 33, .int (zn_I 5)]) rfl ?_
  refine zx_aload_n dX11_draw_0 rfl ?_
  refine zx_ldc2 dX11_draw_1 kX11_247 ?_
  refine zx_aload_n dX11_draw_4 rfl ?_
  refine zx_getl dX11_draw_5 fX11_249 ?_
  refine zx_lmul dX11_draw_8 ?_
  refine zx_ldc2 dX11_draw_9 kX11_253 ?_
  refine zx_ladd dX11_draw_12 ?_
  refine zx_ldc2 dX11_draw_13 kX11_255 ?_
  refine zx_land dX11_draw_16 ?_
  rw [hs, zc_l1 hn]
  refine zx_putl dX11_draw_17 fX11_249 ?_
  refine zx_aload_n dX11_draw_20 rfl ?_
  refine zx_getl dX11_draw_21 fX11_249 ?_
  rw [show (zw_sl M 33 34 (lN (zc_sd n))).2 33 34 = lN (zc_sd n) by simp [zw_sl]]
  refine zx_ldc2 dX11_draw_24 kX11_257 ?_
  refine zx_ldiv dX11_draw_27 (by decide) ?_
  refine zx_iload_n dX11_draw_28 rfl ?_
  refine zx_i2l dX11_draw_29 ?_
  rw [show (zn_I 5).toInt64 = 5 from by decide]
  refine zx_lrem dX11_draw_30 (by decide) ?_
  refine zx_l2i dX11_draw_31 ?_
  rw [zc_l2 (zc_sd_lt n)]
  refine zx_iret (st := []) dX11_draw_32 rfl rfl ?_
  exact ⟨rfl, mf_l mf_rf (by decide), rfl, by simp [zw_sl]⟩
set_option maxRecDepth 100000 in
set_option maxHeartbeats 600000 in
theorem mX11_stray {l : Launch} {d : Nat} {M : zw_M} {π : zP} {τ : zQ} {q : Nat} {p : Nat → Nat} {n : Nat} (hI : mI M π) (hT : mT M (zp_n π) (mcol τ q p)) (hq : q < 8) (hpn : ∀ t, t < τ.1 → p t < zp_n π) (hn : n < 2147483648) (hsd : M.2 33 34 = lN n) : zw_C l (d + 1) iX11_stray [.ref 33, .int (zn_I (q : Int))] M (fun v M1 => v = none ∧ mfr [37] [34] M M1 ∧ mT M1 (zp_n π) (mcol τ q (zc_rt π τ p n 8).1) ∧ M1.2 33 34 = lN (zc_rt π τ p n 8).2) := by
  have hp := hI.1
  have h30 := zp_30 hp
  have hr0 : M.1 33 0 = zn_I π.1 := hI.2.1
  have hr1 : M.1 33 1 = zn_I π.2.1 := hI.2.2.1
  have hr2 : M.1 33 2 = zn_I (zp_n π) := hI.2.2.2.1
  have h8 : τ.1 ≤ 8 := hT.1
  have hrl := zc_rt_lt (π := π) (τ := τ) hpn hn
  refine zw_of (by decide +kernel) (Nat.le_of_ble_eq_true rfl) ?_
  refine zy_loc (L1 := [.ref 33, .int (zn_I (q : Int)), .retAddr 0, .retAddr 0, .retAddr 0]) rfl ?_
  have loop : ∀ s : Nat, s ≤ τ.1 → ∀ (M1 : zw_M) (v3 v4 : Value), mfr [37] [34] M M1 → mT M1 (zp_n π) (mcol τ q (zc_rt π τ p n s).1) → M1.2 33 34 = lN (zc_rt π τ p n s).2 → zw_X l (d + 1) iX11_stray (fun v M1 => v = none ∧ mfr [37] [34] M M1 ∧ mT M1 (zp_n π) (mcol τ q (zc_rt π τ p n 8).1) ∧ M1.2 33 34 = lN (zc_rt π τ p n 8).2) 2 [.ref 33, .int (zn_I (q : Int)), .int (zn_I (s : Int)), v3, v4] [] M1 := by
    refine zw_loop τ.1 (P := fun s => ∀ (M1 : zw_M) (v3 v4 : Value), mfr [37] [34] M M1 → mT M1 (zp_n π) (mcol τ q (zc_rt π τ p n s).1) → M1.2 33 34 = lN (zc_rt π τ p n s).2 → zw_X l (d + 1) iX11_stray (fun v M1 => v = none ∧ mfr [37] [34] M M1 ∧ mT M1 (zp_n π) (mcol τ q (zc_rt π τ p n 8).1) ∧ M1.2 33 34 = lN (zc_rt π τ p n 8).2) 2 [.ref 33, .int (zn_I (q : Int)), .int (zn_I (s : Int)), v3, v4] [] M1) (fun s hs ih M1 v3 v4 hf hT1 hsd => ?_)
    refine zx_iload_n dX11_stray_2 rfl ?_
    refine zx_aload_n dX11_stray_3 rfl ?_
    refine zy_geti dX11_stray_4 fX11_95 ((show _ = zn_I (τ.1 : Int) from hT1.2.1)) ?_
    refine zy_icmp_ge (tgt := 93) dX11_stray_7 (by decide) (by omega) (fun h_7 => ?_) (fun h_7 => ?_)
    · refine zx_vret (st := []) dX11_stray_93 rfl ?_
      have es : s = τ.1 := by omega
      subst es
      rw [← zc_rt_8 h8] at hT1 hsd
      exact ⟨rfl, hf, hT1, hsd⟩
    · refine zx_aload_n dX11_stray_10 rfl ?_
      refine zx_getr dX11_stray_11 fX11_13 ?_
      refine zx_iload_n dX11_stray_14 rfl ?_
      refine zy_iald (i := s) dX11_stray_15 rfl (by decide) (by omega) (by omega) ((show _ = zn_I (τ.2.1 s) from hT1.2.2.1 s (show s < τ.1 by omega))) ?_
      refine zx_iconst (v := zn_I 2) dX11_stray_16 rfl ?_
      refine zy_icmp_ne (tgt := 87) dX11_stray_17 (by decide) (by have := hT1.2.2.2.2.2.1 s (show s < τ.1 by omega); have e : (mcol τ q (zc_rt π τ p n s).1).2.1 s = τ.2.1 s := rfl; omega) (fun h_17 => ?_) (fun h_17 => ?_)
      · refine zy_iinc dX11_stray_87 rfl rfl ?_
        refine zx_goto (tgt := 2) dX11_stray_90 (by decide) ?_
        have hst : zc_rt π τ p n (s + 1) = zc_rt π τ p n s := by rw [zc_rt, if_neg (fun r => h_17 r.2)]
        exact ih (by omega) M1 _ _ hf (by rw [hst]; exact hT1) (by rw [hst]; exact hsd)
      · refine zx_aload_n dX11_stray_20 rfl ?_
        refine zx_iconst (v := zn_I 5) dX11_stray_21 rfl ?_
        refine zx_callV (y1 := iX11_draw) dX11_stray_22 lX11_259 vX11_draw rc_33 (mX11_draw (hrl s).2 hsd) rfl rfl (Nat.le_of_ble_eq_true rfl) ?_
        intro v M2 he
        obtain ⟨rfl, hf12, h12, hsd2⟩ := he
        have hf2 : mfr [37] [34] M M2 := mf_tr hf (mf_mono hf12 (by decide))
        have hT2 := mT_f hf12 hT1 (by decide)
        have hdv := zc_dv_lt (zc_sd (zc_rt π τ p n s).2)
        have hst : zc_rt π τ p n (s + 1) = (zc_up (zc_rt π τ p n s).1 s (zc_to π ((zc_rt π τ p n s).1 s) (zc_sd (zc_rt π τ p n s).2)), (zc_sd (zc_rt π τ p n s).2)) := by rw [zc_rt, if_pos ⟨by omega, h_17⟩]
        have hsr := zp_step_rng ((hrl s).1 s (show s < τ.1 by omega)) (zc_dv (zc_sd (zc_rt π τ p n s).2) : Nat)
        refine zx_iconst (v := zn_I 1) dX11_stray_25 rfl ?_
        refine zy_isub dX11_stray_26 ?_
        refine zx_istore_n dX11_stray_27 rfl (Nat.le_of_ble_eq_true rfl) ?_
        refine zx_iload_n dX11_stray_28 rfl ?_
        refine zy_if_ge (tgt := 36) dX11_stray_29 (by decide) (by omega) (fun h_29 => ?_) (fun h_29 => ?_)
        · refine zx_aload_n dX11_stray_36 rfl ?_
          refine zx_aload_n dX11_stray_37 rfl ?_
          refine zx_getr dX11_stray_38 fX11_19 ?_
          refine zx_bipush (v := zn_I 8) dX11_stray_41 (by decide) ?_
          refine zx_iload_n dX11_stray_43 rfl ?_
          refine zy_imul dX11_stray_44 ?_
          refine zx_iload_n dX11_stray_45 rfl ?_
          refine zy_iadd dX11_stray_46 ?_
          refine zy_iald (i := 8 * s + q) dX11_stray_47 rfl (by decide) (by omega) (by omega) ((show _ = zn_I (((zc_rt π τ p n s).1 s) : Nat) from by rw [mcol_val hT2 (show s < τ.1 by omega) hq, if_pos rfl])) ?_
          refine zx_iload_n dX11_stray_48 rfl ?_
          refine zx_callV (y1 := iX11_besideOf) dX11_stray_49 lX11_180 vX11_besideOf rc_33 (mX11_besideOf (mI_f hf2 hI (by decide)) (s := ((zc_rt π τ p n s).1 s)) ((hrl s).1 s (by omega)) (v := ((zc_dv (zc_sd (zc_rt π τ p n s).2) : Nat) : Int) - 1) (by omega)) rfl rfl (Nat.le_of_ble_eq_true rfl) ?_
          refine zk_i ?_
          rw [show ((zc_dv (zc_sd (zc_rt π τ p n s).2) : Nat) : Int) - 1 + 1 = (zc_dv (zc_sd (zc_rt π τ p n s).2) : Nat) by omega]
          refine zx_istore dX11_stray_52 rfl (Nat.le_of_ble_eq_true rfl) ?_
          refine zx_aload_n dX11_stray_54 rfl ?_
          refine zx_getr dX11_stray_55 fX11_19 ?_
          refine zx_bipush (v := zn_I 8) dX11_stray_58 (by decide) ?_
          refine zx_iload_n dX11_stray_60 rfl ?_
          refine zy_imul dX11_stray_61 ?_
          refine zx_iload_n dX11_stray_62 rfl ?_
          refine zy_iadd dX11_stray_63 ?_
          refine zx_iload dX11_stray_64 rfl ?_
          refine zx_iconst (v := zn_I (-1)) dX11_stray_66 rfl ?_
          refine zy_icmp_ne (tgt := 84) dX11_stray_67 (by decide) (by omega) (fun h_67 => ?_) (fun h_67 => ?_)
          · refine zx_iload dX11_stray_84 rfl ?_
            refine zy_top (show _ = zn_I ((zc_to π ((zc_rt π τ p n s).1 s) (zc_sd (zc_rt π τ p n s).2)) : Nat) from congrArg zn_I (by rw [zc_to, if_neg h_67]; omega)) ?_
            refine zy_iast (i := 8 * s + q) dX11_stray_86 rfl (by decide) (by omega) (by omega) ?_
            refine zy_iinc dX11_stray_87 rfl rfl ?_
            refine zx_goto (tgt := 2) dX11_stray_90 (by decide) ?_
            refine ih (by omega) _ _ _ (mf_s hf2 (by decide) (by decide)) ?_ (by rw [hst]; exact hsd2)
            rw [hst]
            show mT _ _ (mcol τ q (zc_up (zc_rt π τ p n s).1 s (zc_to π ((zc_rt π τ p n s).1 s) (zc_sd (zc_rt π τ p n s).2))))
            rw [← mcol_up]
            exact mT_at hT2 hq (show s < τ.1 by omega) (zc_to_lt ((hrl s).1 s (by omega)))
          · have hto : (zc_to π ((zc_rt π τ p n s).1 s) (zc_sd (zc_rt π τ p n s).2)) = ((zc_rt π τ p n s).1 s) := by rw [zc_to, if_pos h_67]
            refine zx_aload_n dX11_stray_70 rfl ?_
            refine zx_getr dX11_stray_71 fX11_19 ?_
            refine zx_bipush (v := zn_I 8) dX11_stray_74 (by decide) ?_
            refine zx_iload_n dX11_stray_76 rfl ?_
            refine zy_imul dX11_stray_77 ?_
            refine zx_iload_n dX11_stray_78 rfl ?_
            refine zy_iadd dX11_stray_79 ?_
            refine zy_iald (i := 8 * s + q) dX11_stray_80 rfl (by decide) (by omega) (by omega) ((show _ = zn_I ((zc_to π ((zc_rt π τ p n s).1 s) (zc_sd (zc_rt π τ p n s).2)) : Nat) from by rw [mcol_val hT2 (show s < τ.1 by omega) hq, if_pos rfl, hto])) ?_
            refine zx_goto (tgt := 86) dX11_stray_81 (by decide) ?_
            refine zy_iast (i := 8 * s + q) dX11_stray_86 rfl (by decide) (by omega) (by omega) ?_
            refine zy_iinc dX11_stray_87 rfl rfl ?_
            refine zx_goto (tgt := 2) dX11_stray_90 (by decide) ?_
            refine ih (by omega) _ _ _ (mf_s hf2 (by decide) (by decide)) ?_ (by rw [hst]; exact hsd2)
            rw [hst]
            show mT _ _ (mcol τ q (zc_up (zc_rt π τ p n s).1 s (zc_to π ((zc_rt π τ p n s).1 s) (zc_sd (zc_rt π τ p n s).2))))
            rw [← mcol_up]
            exact mT_at hT2 hq (show s < τ.1 by omega) (zc_to_lt ((hrl s).1 s (by omega)))
        · refine zx_iconst (v := zn_I (-1)) dX11_stray_32 rfl ?_
          refine zx_goto (tgt := 52) dX11_stray_33 (by decide) ?_
          have hto : (zc_to π ((zc_rt π τ p n s).1 s) (zc_sd (zc_rt π τ p n s).2)) = ((zc_rt π τ p n s).1 s) := zc_to_0 (by omega)
          refine zx_istore dX11_stray_52 rfl (Nat.le_of_ble_eq_true rfl) ?_
          refine zx_aload_n dX11_stray_54 rfl ?_
          refine zx_getr dX11_stray_55 fX11_19 ?_
          refine zx_bipush (v := zn_I 8) dX11_stray_58 (by decide) ?_
          refine zx_iload_n dX11_stray_60 rfl ?_
          refine zy_imul dX11_stray_61 ?_
          refine zx_iload_n dX11_stray_62 rfl ?_
          refine zy_iadd dX11_stray_63 ?_
          refine zx_iload dX11_stray_64 rfl ?_
          refine zx_iconst (v := zn_I (-1)) dX11_stray_66 rfl ?_
          refine zy_icmp_ne (tgt := 84) dX11_stray_67 (by decide) (by omega) (fun h_67 => ?_) (fun h_67 => ?_)
          · exact absurd rfl h_67
          · refine zx_aload_n dX11_stray_70 rfl ?_
            refine zx_getr dX11_stray_71 fX11_19 ?_
            refine zx_bipush (v := zn_I 8) dX11_stray_74 (by decide) ?_
            refine zx_iload_n dX11_stray_76 rfl ?_
            refine zy_imul dX11_stray_77 ?_
            refine zx_iload_n dX11_stray_78 rfl ?_
            refine zy_iadd dX11_stray_79 ?_
            refine zy_iald (i := 8 * s + q) dX11_stray_80 rfl (by decide) (by omega) (by omega) ((show _ = zn_I ((zc_to π ((zc_rt π τ p n s).1 s) (zc_sd (zc_rt π τ p n s).2)) : Nat) from by rw [mcol_val hT2 (show s < τ.1 by omega) hq, if_pos rfl, hto])) ?_
            refine zx_goto (tgt := 86) dX11_stray_81 (by decide) ?_
            refine zy_iast (i := 8 * s + q) dX11_stray_86 rfl (by decide) (by omega) (by omega) ?_
            refine zy_iinc dX11_stray_87 rfl rfl ?_
            refine zx_goto (tgt := 2) dX11_stray_90 (by decide) ?_
            refine ih (by omega) _ _ _ (mf_s hf2 (by decide) (by decide)) ?_ (by rw [hst]; exact hsd2)
            rw [hst]
            show mT _ _ (mcol τ q (zc_up (zc_rt π τ p n s).1 s (zc_to π ((zc_rt π τ p n s).1 s) (zc_sd (zc_rt π τ p n s).2))))
            rw [← mcol_up]
            exact mT_at hT2 hq (show s < τ.1 by omega) (zc_to_lt ((hrl s).1 s (by omega)))
  refine zx_iconst (v := zn_I 0) dX11_stray_0 rfl ?_
  refine zx_istore_n dX11_stray_1 rfl (Nat.le_of_ble_eq_true rfl) ?_
  exact loop 0 (Nat.zero_le _) M _ _ mf_rf hT hsd
set_option maxRecDepth 100000 in
set_option maxHeartbeats 600000 in
theorem mX11_cowsNow {l : Launch} {d : Nat} {M : zw_M} {π : zP} {τ : zQ} (hI : mI M π) (hT : mT M (zp_n π) τ) (hM : mM M 0 0 0) {q : Nat} (hq : q < 8) {mi n : Nat} (hmi : mi ≤ 60) (hn : n < 2147483648) {w : Int} (hw : zasks w) : zw_C l (d + 3) iX11_cowsNow [.ref 33, .int (zn_I (q : Int)), .int (zn_I (mi : Int)), .int (zn_I (n : Int)), .int (zn_I w)] M (fun v M1 => v = some (.int (zn_I (if w = 0 then ((zc_wm π τ (fun t => τ.2.2.2 t q) n mi) : Int) else if w = 1 then ((zc_ms π τ (fun t => τ.2.2.2 t q) n mi).2 : Int) else zv τ (zc_ms π τ (fun t => τ.2.2.2 t q) n mi).1 (w - 10).toNat))) ∧ mfr [37, 41] [34] M M1 ∧ mT M1 (zp_n π) τ) := by
  have hp := hI.1
  have h30 := zp_30 hp
  have hr0 : M.1 33 0 = zn_I π.1 := hI.2.1
  have hr1 : M.1 33 1 = zn_I π.2.1 := hI.2.2.1
  have hr2 : M.1 33 2 = zn_I (zp_n π) := hI.2.2.2.1
  have h8 := hT.1
  have hml := zc_ms_lt (π := π) (τ := τ) (p := fun t => τ.2.2.2 t q) (n := n) (fun t ht => hT.2.2.2.2.2.2.2 t ht q hq) hn
  refine zw_of (by decide +kernel) (Nat.le_of_ble_eq_true rfl) ?_
  refine zy_loc (L1 := [.ref 33, .int (zn_I (q : Int)), .int (zn_I (mi : Int)), .int (zn_I (n : Int)), .int (zn_I w), .retAddr 0, .retAddr 0]) rfl ?_
  have loop : ∀ i : Nat, i ≤ mi → ∀ M1 : zw_M, mfr [37, 41] [34] M M1 → (∀ i, i < τ.1 → M1.1 41 i = zn_I (τ.2.2.2 i q : Nat)) → mT M1 (zp_n π) (mcol τ q (zc_ms π τ (fun t => τ.2.2.2 t q) n i).1) → M1.2 33 34 = lN (zc_ms π τ (fun t => τ.2.2.2 t q) n i).2 → zw_X l (d + 3) iX11_cowsNow (fun v M1 => v = some (.int (zn_I (if w = 0 then ((zc_wm π τ (fun t => τ.2.2.2 t q) n mi) : Int) else if w = 1 then ((zc_ms π τ (fun t => τ.2.2.2 t q) n mi).2 : Int) else zv τ (zc_ms π τ (fun t => τ.2.2.2 t q) n mi).1 (w - 10).toNat))) ∧ mfr [37, 41] [34] M M1 ∧ mT M1 (zp_n π) τ) 17 [.ref 33, .int (zn_I (q : Int)), .int (zn_I (mi : Int)), .int (zn_I (n : Int)), .int (zn_I w), .int (zn_I ((zc_wm π τ (fun t => τ.2.2.2 t q) n i) : Nat)), .int (zn_I (i : Int))] [] M1 := by
    refine zw_loop mi (P := fun i => ∀ M1 : zw_M, mfr [37, 41] [34] M M1 → (∀ i, i < τ.1 → M1.1 41 i = zn_I (τ.2.2.2 i q : Nat)) → mT M1 (zp_n π) (mcol τ q (zc_ms π τ (fun t => τ.2.2.2 t q) n i).1) → M1.2 33 34 = lN (zc_ms π τ (fun t => τ.2.2.2 t q) n i).2 → zw_X l (d + 3) iX11_cowsNow (fun v M1 => v = some (.int (zn_I (if w = 0 then ((zc_wm π τ (fun t => τ.2.2.2 t q) n mi) : Int) else if w = 1 then ((zc_ms π τ (fun t => τ.2.2.2 t q) n mi).2 : Int) else zv τ (zc_ms π τ (fun t => τ.2.2.2 t q) n mi).1 (w - 10).toNat))) ∧ mfr [37, 41] [34] M M1 ∧ mT M1 (zp_n π) τ) 17 [.ref 33, .int (zn_I (q : Int)), .int (zn_I (mi : Int)), .int (zn_I (n : Int)), .int (zn_I w), .int (zn_I ((zc_wm π τ (fun t => τ.2.2.2 t q) n i) : Nat)), .int (zn_I (i : Int))] [] M1) (fun i hi ih M1 hf h41 hT1 hsd => ?_)
    have hwml := zc_wm_le π τ (fun t => τ.2.2.2 t q) n i
    refine zx_iload dX11_cowsNow_17 rfl ?_
    refine zx_iload_n dX11_cowsNow_19 rfl ?_
    refine zy_icmp_ge (tgt := 52) dX11_cowsNow_20 (by decide) (by omega) (fun h_20 => ?_) (fun h_20 => ?_)
    · have him : i = mi := by omega
      subst him
      refine zx_iload dX11_cowsNow_52 rfl ?_
      refine zx_iconst (v := zn_I 1) dX11_cowsNow_54 rfl ?_
      refine zy_icmp_le (tgt := 88) dX11_cowsNow_55 (by decide) (by omega) (fun h_55 => ?_) (fun h_55 => ?_)
      · refine zx_iconst (v := zn_I (-1)) dX11_cowsNow_88 rfl ?_
        refine zx_istore dX11_cowsNow_89 rfl (Nat.le_of_ble_eq_true rfl) ?_
        refine zx_aload_n dX11_cowsNow_91 rfl ?_
        refine zx_iload_n dX11_cowsNow_92 rfl ?_
        refine zx_callV (y1 := iX11_putStands) dX11_cowsNow_93 lX11_238 vX11_putStands rc_33 (mX11_putStands hT1 hq (p := fun t => τ.2.2.2 t q) h41 (fun t ht => hT.2.2.2.2.2.2.2 t ht q hq)) rfl rfl (Nat.le_of_ble_eq_true rfl) ?_
        intro v M2 he
        obtain ⟨rfl, hf2, hT2⟩ := he
        refine zx_iload dX11_cowsNow_96 rfl ?_
        refine zy_if_ne (tgt := 106) dX11_cowsNow_98 (by decide) (by omega) (fun h_98 => ?_) (fun h_98 => ?_)
        · refine zx_iload dX11_cowsNow_106 rfl ?_
          refine zx_iconst (v := zn_I 1) dX11_cowsNow_108 rfl ?_
          refine zy_icmp_ne (tgt := 120) dX11_cowsNow_109 (by decide) (by omega) (fun h_109 => ?_) (fun h_109 => ?_)
          · exact absurd (show w = 1 by omega) h_109
          · refine zx_aload_n dX11_cowsNow_112 rfl ?_
            refine zx_getl dX11_cowsNow_113 fX11_249 ?_
            refine zx_l2i dX11_cowsNow_116 ?_
            rw [(hf2.2 34 (by decide)).2, hsd, zc_l4]
            refine zx_goto (tgt := 122) dX11_cowsNow_117 (by decide) ?_
            refine zx_iret (st := []) dX11_cowsNow_122 rfl rfl ?_
            refine ⟨?_, mf_tr hf (mf_mono hf2 (by decide)), mcol_of hT2⟩
            rw [if_neg (by omega), if_pos (by omega)]
        · refine zx_iload dX11_cowsNow_101 rfl ?_
          refine zx_goto (tgt := 122) dX11_cowsNow_103 (by decide) ?_
          refine zx_iret (st := []) dX11_cowsNow_122 rfl rfl ?_
          refine ⟨?_, mf_tr hf (mf_mono hf2 (by decide)), mcol_of hT2⟩
          rw [if_pos (by omega)]
      · refine zx_aload_n dX11_cowsNow_58 rfl ?_
        refine zx_iload dX11_cowsNow_59 rfl ?_
        refine zx_bipush (v := zn_I 10) dX11_cowsNow_61 (by decide) ?_
        refine zy_isub dX11_cowsNow_63 ?_
        refine zx_callV (y1 := iX11_isThing) dX11_cowsNow_64 lX11_113 vX11_isThing rc_33 (mX11_isThing hT1 (z := w - 10) (by omega)) rfl rfl (Nat.le_of_ble_eq_true rfl) ?_
        refine zk_i ?_
        refine zy_ifB_eq (tgt := 88) dX11_cowsNow_67 (by decide) (fun h_67 => ?_) (fun h_67 => ?_)
        · refine zx_iconst (v := zn_I (-1)) dX11_cowsNow_88 rfl ?_
          refine zx_istore dX11_cowsNow_89 rfl (Nat.le_of_ble_eq_true rfl) ?_
          refine zx_aload_n dX11_cowsNow_91 rfl ?_
          refine zx_iload_n dX11_cowsNow_92 rfl ?_
          refine zx_callV (y1 := iX11_putStands) dX11_cowsNow_93 lX11_238 vX11_putStands rc_33 (mX11_putStands hT1 hq (p := fun t => τ.2.2.2 t q) h41 (fun t ht => hT.2.2.2.2.2.2.2 t ht q hq)) rfl rfl (Nat.le_of_ble_eq_true rfl) ?_
          intro v M2 he
          obtain ⟨rfl, hf2, hT2⟩ := he
          refine zx_iload dX11_cowsNow_96 rfl ?_
          refine zy_if_ne (tgt := 106) dX11_cowsNow_98 (by decide) (by omega) (fun h_98 => ?_) (fun h_98 => ?_)
          · refine zx_iload dX11_cowsNow_106 rfl ?_
            refine zx_iconst (v := zn_I 1) dX11_cowsNow_108 rfl ?_
            refine zy_icmp_ne (tgt := 120) dX11_cowsNow_109 (by decide) (by omega) (fun h_109 => ?_) (fun h_109 => ?_)
            · refine zx_iload dX11_cowsNow_120 rfl ?_
              refine zx_iret (st := []) dX11_cowsNow_122 rfl rfl ?_
              refine ⟨?_, mf_tr hf (mf_mono hf2 (by decide)), mcol_of hT2⟩
              rw [if_neg (by omega), if_neg (by omega), zv, if_neg (fun r => h_67 (show 0 ≤ w - 10 ∧ w - 10 < (τ.1 : Int) by omega))]
            · exact absurd h_109 (by omega)
          · exact absurd h_98 (by omega)
        · refine zx_aload_n dX11_cowsNow_70 rfl ?_
          refine zx_getr dX11_cowsNow_71 fX11_19 ?_
          refine zx_bipush (v := zn_I 8) dX11_cowsNow_74 (by decide) ?_
          refine zx_iload dX11_cowsNow_76 rfl ?_
          refine zx_bipush (v := zn_I 10) dX11_cowsNow_78 (by decide) ?_
          refine zy_isub dX11_cowsNow_80 ?_
          refine zy_imul dX11_cowsNow_81 ?_
          refine zx_iload_n dX11_cowsNow_82 rfl ?_
          refine zy_iadd dX11_cowsNow_83 ?_
          refine zy_iald (i := 8 * (w - 10).toNat + q) dX11_cowsNow_84 rfl (by decide) (by omega) (by have h6 : 0 ≤ w - 10 ∧ w - 10 < (τ.1 : Int) := h_67; omega) ((show _ = zn_I ((zc_ms π τ (fun t => τ.2.2.2 t q) n i).1 (w - 10).toNat : Nat) from by rw [mcol_val hT1 (show (w - 10).toNat < τ.1 by have h6 : 0 ≤ w - 10 ∧ w - 10 < (τ.1 : Int) := h_67; omega) hq, if_pos rfl])) ?_
          refine zx_goto (tgt := 89) dX11_cowsNow_85 (by decide) ?_
          refine zx_istore dX11_cowsNow_89 rfl (Nat.le_of_ble_eq_true rfl) ?_
          refine zx_aload_n dX11_cowsNow_91 rfl ?_
          refine zx_iload_n dX11_cowsNow_92 rfl ?_
          refine zx_callV (y1 := iX11_putStands) dX11_cowsNow_93 lX11_238 vX11_putStands rc_33 (mX11_putStands hT1 hq (p := fun t => τ.2.2.2 t q) h41 (fun t ht => hT.2.2.2.2.2.2.2 t ht q hq)) rfl rfl (Nat.le_of_ble_eq_true rfl) ?_
          intro v M2 he
          obtain ⟨rfl, hf2, hT2⟩ := he
          refine zx_iload dX11_cowsNow_96 rfl ?_
          refine zy_if_ne (tgt := 106) dX11_cowsNow_98 (by decide) (by omega) (fun h_98 => ?_) (fun h_98 => ?_)
          · refine zx_iload dX11_cowsNow_106 rfl ?_
            refine zx_iconst (v := zn_I 1) dX11_cowsNow_108 rfl ?_
            refine zy_icmp_ne (tgt := 120) dX11_cowsNow_109 (by decide) (by omega) (fun h_109 => ?_) (fun h_109 => ?_)
            · refine zx_iload dX11_cowsNow_120 rfl ?_
              refine zx_iret (st := []) dX11_cowsNow_122 rfl rfl ?_
              refine ⟨?_, mf_tr hf (mf_mono hf2 (by decide)), mcol_of hT2⟩
              rw [if_neg (by omega), if_neg (by omega), zv, if_pos (by have h6 : 0 ≤ w - 10 ∧ w - 10 < (τ.1 : Int) := h_67; omega)]
            · exact absurd h_109 (by omega)
          · exact absurd h_98 (by omega)
    · refine zx_aload_n dX11_cowsNow_23 rfl ?_
      refine zx_iload_n dX11_cowsNow_24 rfl ?_
      refine zx_callV (y1 := iX11_stray) dX11_cowsNow_25 lX11_262 vX11_stray rc_33 (mX11_stray (mI_f hf hI (by decide)) hT1 hq (hml i).1 (hml i).2 hsd) rfl rfl (Nat.le_of_ble_eq_true rfl) ?_
      intro v M2 he
      obtain ⟨rfl, hf2, hT2, hsd2⟩ := he
      have hf3 : mfr [37, 41] [34] M M2 := mf_tr hf (mf_mono hf2 (by decide))
      have h413 : ∀ i, i < τ.1 → M2.1 41 i = zn_I (τ.2.2.2 i q : Nat) := fun i hi => by rw [(hf2.1 41 (by decide) (by decide)).1]; exact h41 i hi
      have hwl : zm_wet π τ (zc_rt π τ (zc_ms π τ (fun t => τ.2.2.2 t q) n i).1 (zc_ms π τ (fun t => τ.2.2.2 t q) n i).2 8).1 < 1073741824 := zp_bits_30 hp _ _
      refine zx_iload dX11_cowsNow_28 rfl ?_
      refine zx_aload_n dX11_cowsNow_30 rfl ?_
      refine zx_iload_n dX11_cowsNow_31 rfl ?_
      refine zx_callV (y1 := iX11_wetIn) dX11_cowsNow_32 lX11_143 vX11_wetIn rc_33 (mX11_wetIn (mI_f hf3 hI (by decide)) hT2 (mM_f hf3 hM (by decide)) hq) rfl rfl (Nat.le_of_ble_eq_true rfl) ?_
      refine zk_i ?_
      rw [mcol_wet]
      refine zy_if_ne (tgt := 42) dX11_cowsNow_35 (by decide) (by omega) (fun h_35 => ?_) (fun h_35 => ?_)
      · refine zx_iconst (v := zn_I 1) dX11_cowsNow_42 rfl ?_
        refine zy_iadd dX11_cowsNow_43 ?_
        refine zx_istore dX11_cowsNow_44 rfl (Nat.le_of_ble_eq_true rfl) ?_
        refine zy_iinc dX11_cowsNow_46 rfl rfl ?_
        refine zx_goto (tgt := 17) dX11_cowsNow_49 (by decide) ?_
        have hw0 : ¬ zm_wet π τ (zc_ms π τ (fun t => τ.2.2.2 t q) n (i + 1)).1 = 0 := fun r => h_35 (by have r2 : zm_wet π τ (zc_rt π τ (zc_ms π τ (fun t => τ.2.2.2 t q) n i).1 (zc_ms π τ (fun t => τ.2.2.2 t q) n i).2 8).1 = 0 := r; omega)
        have h9 := ih (by omega) M2 hf3 h413 hT2 hsd2
        rw [show (zc_wm π τ (fun t => τ.2.2.2 t q) n (i + 1)) = (zc_wm π τ (fun t => τ.2.2.2 t q) n i) + 1 by rw [zc_wm, if_neg hw0]] at h9
        exact h9
      · refine zx_iconst (v := zn_I 0) dX11_cowsNow_38 rfl ?_
        refine zx_goto (tgt := 43) dX11_cowsNow_39 (by decide) ?_
        refine zy_iadd dX11_cowsNow_43 ?_
        refine zx_istore dX11_cowsNow_44 rfl (Nat.le_of_ble_eq_true rfl) ?_
        refine zy_iinc dX11_cowsNow_46 rfl rfl ?_
        refine zx_goto (tgt := 17) dX11_cowsNow_49 (by decide) ?_
        have hw0 : zm_wet π τ (zc_ms π τ (fun t => τ.2.2.2 t q) n (i + 1)).1 = 0 := (show zm_wet π τ (zc_rt π τ (zc_ms π τ (fun t => τ.2.2.2 t q) n i).1 (zc_ms π τ (fun t => τ.2.2.2 t q) n i).2 8).1 = 0 by omega)
        have h9 := ih (by omega) M2 hf3 h413 hT2 hsd2
        rw [show (zc_wm π τ (fun t => τ.2.2.2 t q) n (i + 1)) = (zc_wm π τ (fun t => τ.2.2.2 t q) n i) by rw [zc_wm, if_pos hw0, Nat.add_zero]] at h9
        exact h9
  refine zx_aload_n dX11_cowsNow_0 rfl ?_
  refine zx_iload_n dX11_cowsNow_1 rfl ?_
  refine zx_callV (y1 := iX11_keepStands) dX11_cowsNow_2 lX11_232 vX11_keepStands rc_33 (mX11_keepStands hT hq) rfl rfl (Nat.le_of_ble_eq_true rfl) ?_
  intro v M1 he
  obtain ⟨rfl, hf, h41⟩ := he
  refine zx_aload_n dX11_cowsNow_5 rfl ?_
  refine zx_iload_n dX11_cowsNow_6 rfl ?_
  refine zx_i2l dX11_cowsNow_7 ?_
  rw [zc_l3 (z := (n : Int)) (by omega), Int.toNat_natCast]
  refine zx_putl dX11_cowsNow_8 fX11_249 ?_
  refine zx_iconst (v := zn_I 0) dX11_cowsNow_11 rfl ?_
  refine zx_istore dX11_cowsNow_12 rfl (Nat.le_of_ble_eq_true rfl) ?_
  refine zx_iconst (v := zn_I 0) dX11_cowsNow_14 rfl ?_
  refine zx_istore dX11_cowsNow_15 rfl (Nat.le_of_ble_eq_true rfl) ?_
  refine loop 0 (Nat.zero_le _) _ (mf_l (mf_mono hf (by decide)) (by decide)) (fun i hi => h41 i hi) ?_ (by simp [zw_sl, zc_ms])
  exact mcol_to (mT_f (mf_l (S := [41]) (F := [34]) (mf_mono hf (by decide)) (by decide)) hT (by decide))
set_option maxRecDepth 100000 in
set_option maxHeartbeats 600000 in
theorem mX11_cows {l : Launch} {d : Nat} {M : zw_M} {σ : zZ} (hJ : zJ_ M σ) {q : Int} (hqq : -2147483648 ≤ q ∧ q < 2147483648) {m : Int} (hmm : -2147483648 ≤ m ∧ m < 2147483648) {s : Int} (hss : -2147483648 ≤ s ∧ s < 2147483648) {w : Int} (hww : -2147483648 ≤ w ∧ w < 2147483648) : zw_C l (d + 4) iX11_cows [.ref 33, .int (zn_I q), .int (zn_I m), .int (zn_I s), .int (zn_I w)] M (mO (zn_I (zk_cows σ q m s w)) σ M) := by
  obtain ⟨hI, hT, hG, ⟨ha, hb, hc⟩, hM, hK⟩ := id hJ
  have hp := hI.1
  have h30 := zp_30 hp
  have h8 := hT.1
  have hr2 : M.1 33 2 = zn_I (zp_n σ.1) := hI.2.2.2.1
  have ht5 : M.1 33 5 = zn_I σ.2.1.1 := hT.2.1
  refine zw_of (by decide +kernel) (Nat.le_of_ble_eq_true rfl) ?_
  refine zy_loc (L1 := [.ref 33, .int (zn_I q), .int (zn_I m), .int (zn_I s), .int (zn_I w)]) rfl ?_
  refine zx_iload_n dX11_cows_0 rfl ?_
  refine zx_callS (y1 := iX11_isQuarter) dX11_cows_1 lX11_119 sX11_isQuarter (mX11_isQuarter hqq) rfl rfl (Nat.le_of_ble_eq_true rfl) ?_
  refine zk_i ?_
  refine zy_ifB_ne (tgt := 10) dX11_cows_4 (by decide) (fun h_4 => ?_) (fun h_4 => ?_)
  · refine zx_iload_n dX11_cows_10 rfl ?_
    refine zx_iconst (v := zn_I 1) dX11_cows_11 rfl ?_
    refine zx_bipush (v := zn_I 60) dX11_cows_12 (by decide) ?_
    refine zx_callS (y1 := iX11_within) dX11_cows_14 lX11_65 sX11_within (mX11_within (v := m) (a := 1) (b := 60) (by omega) (by omega) (by omega)) rfl rfl (Nat.le_of_ble_eq_true rfl) ?_
    refine zk_i ?_
    refine zy_ifB_eq (tgt := 46) dX11_cows_17 (by decide) (fun h_17 => ?_) (fun h_17 => ?_)
    · refine zx_bipush (v := zn_I (-102)) dX11_cows_46 (by decide) ?_
      refine zx_iret (st := []) dX11_cows_48 rfl rfl ?_
      exact mO_i hJ (by simp only [zk_cows, Int.toNat_natCast]; (repeat' split) <;> first | rfl | omega)
    · refine zx_iload_n dX11_cows_20 rfl ?_
      refine zy_if_lt (tgt := 46) dX11_cows_21 (by decide) (by omega) (fun h_21 => ?_) (fun h_21 => ?_)
      · refine zx_bipush (v := zn_I (-102)) dX11_cows_46 (by decide) ?_
        refine zx_iret (st := []) dX11_cows_48 rfl rfl ?_
        exact mO_i hJ (by simp only [zk_cows, Int.toNat_natCast]; (repeat' split) <;> first | rfl | omega)
      · refine zx_iload dX11_cows_24 rfl ?_
        refine zx_iconst (v := zn_I 0) dX11_cows_26 rfl ?_
        refine zx_iconst (v := zn_I 1) dX11_cows_27 rfl ?_
        refine zx_callS (y1 := iX11_within) dX11_cows_28 lX11_65 sX11_within (mX11_within (v := w) (a := 0) (b := 1) (by omega) (by omega) (by omega)) rfl rfl (Nat.le_of_ble_eq_true rfl) ?_
        refine zk_i ?_
        refine zy_ifB_ne (tgt := 49) dX11_cows_31 (by decide) (fun h_31 => ?_) (fun h_31 => ?_)
        · refine zx_aload_n dX11_cows_49 rfl ?_
          refine zy_geti dX11_cows_50 fX11_92 (hr2) ?_
          refine zy_if_ne (tgt := 61) dX11_cows_53 (by decide) (by omega) (fun h_53 => ?_) (fun h_53 => ?_)
          · obtain ⟨q, rfl⟩ : ∃ n : Nat, q = (n : Int) := ⟨q.toNat, by omega⟩
            obtain ⟨m, rfl⟩ : ∃ n : Nat, m = (n : Int) := ⟨m.toNat, by omega⟩
            obtain ⟨s, rfl⟩ : ∃ n : Nat, s = (n : Int) := ⟨s.toNat, by omega⟩
            refine zx_aload_n dX11_cows_61 rfl ?_
            refine zx_iload_n dX11_cows_62 rfl ?_
            refine zx_iload_n dX11_cows_63 rfl ?_
            refine zx_iload_n dX11_cows_64 rfl ?_
            refine zx_iload dX11_cows_65 rfl ?_
            refine zx_callV (y1 := iX11_cowsNow) dX11_cows_67 lX11_265 vX11_cowsNow rc_33 (mX11_cowsNow hI hT hM (q := q) (by omega) (mi := m) (n := s) (by omega) (by omega) (w := w) (by omega)) rfl rfl (Nat.le_of_ble_eq_true rfl) ?_
            intro v M1 he
            obtain ⟨rfl, hf, hT1⟩ := he
            refine zx_iret (st := []) dX11_cows_70 rfl rfl ?_
            refine mO_f (mf_mono hf (by decide)) ⟨mI_f hf hI (by decide), hT1, mG_f hf hG (by decide), ⟨by rw [(hf.2 3 (by decide)).1]; exact ha, by rw [(hf.2 9 (by decide)).1]; exact hb, by rw [(hf.2 10 (by decide)).1]; exact hc⟩, mM_f hf hM (by decide), mK_f hf hK (by decide)⟩ (by simp only [zk_cows, Int.toNat_natCast]; (repeat' split) <;> first | rfl | omega)
          · refine zx_bipush (v := zn_I (-103)) dX11_cows_56 (by decide) ?_
            refine zx_goto (tgt := 70) dX11_cows_58 (by decide) ?_
            refine zx_iret (st := []) dX11_cows_70 rfl rfl ?_
            exact mO_i hJ (by simp only [zk_cows, Int.toNat_natCast]; (repeat' split) <;> first | rfl | omega)
        · refine zx_iload dX11_cows_34 rfl ?_
          refine zx_bipush (v := zn_I 10) dX11_cows_36 (by decide) ?_
          refine zx_bipush (v := zn_I 17) dX11_cows_38 (by decide) ?_
          refine zx_callS (y1 := iX11_within) dX11_cows_40 lX11_65 sX11_within (mX11_within (v := w) (a := 10) (b := 17) (by omega) (by omega) (by omega)) rfl rfl (Nat.le_of_ble_eq_true rfl) ?_
          refine zk_i ?_
          refine zy_ifB_ne (tgt := 49) dX11_cows_43 (by decide) (fun h_43 => ?_) (fun h_43 => ?_)
          · refine zx_aload_n dX11_cows_49 rfl ?_
            refine zy_geti dX11_cows_50 fX11_92 (hr2) ?_
            refine zy_if_ne (tgt := 61) dX11_cows_53 (by decide) (by omega) (fun h_53 => ?_) (fun h_53 => ?_)
            · obtain ⟨q, rfl⟩ : ∃ n : Nat, q = (n : Int) := ⟨q.toNat, by omega⟩
              obtain ⟨m, rfl⟩ : ∃ n : Nat, m = (n : Int) := ⟨m.toNat, by omega⟩
              obtain ⟨s, rfl⟩ : ∃ n : Nat, s = (n : Int) := ⟨s.toNat, by omega⟩
              refine zx_aload_n dX11_cows_61 rfl ?_
              refine zx_iload_n dX11_cows_62 rfl ?_
              refine zx_iload_n dX11_cows_63 rfl ?_
              refine zx_iload_n dX11_cows_64 rfl ?_
              refine zx_iload dX11_cows_65 rfl ?_
              refine zx_callV (y1 := iX11_cowsNow) dX11_cows_67 lX11_265 vX11_cowsNow rc_33 (mX11_cowsNow hI hT hM (q := q) (by omega) (mi := m) (n := s) (by omega) (by omega) (w := w) (by omega)) rfl rfl (Nat.le_of_ble_eq_true rfl) ?_
              intro v M1 he
              obtain ⟨rfl, hf, hT1⟩ := he
              refine zx_iret (st := []) dX11_cows_70 rfl rfl ?_
              refine mO_f (mf_mono hf (by decide)) ⟨mI_f hf hI (by decide), hT1, mG_f hf hG (by decide), ⟨by rw [(hf.2 3 (by decide)).1]; exact ha, by rw [(hf.2 9 (by decide)).1]; exact hb, by rw [(hf.2 10 (by decide)).1]; exact hc⟩, mM_f hf hM (by decide), mK_f hf hK (by decide)⟩ (by simp only [zk_cows, Int.toNat_natCast]; (repeat' split) <;> first | rfl | omega)
            · refine zx_bipush (v := zn_I (-103)) dX11_cows_56 (by decide) ?_
              refine zx_goto (tgt := 70) dX11_cows_58 (by decide) ?_
              refine zx_iret (st := []) dX11_cows_70 rfl rfl ?_
              exact mO_i hJ (by simp only [zk_cows, Int.toNat_natCast]; (repeat' split) <;> first | rfl | omega)
          · refine zx_bipush (v := zn_I (-102)) dX11_cows_46 (by decide) ?_
            refine zx_iret (st := []) dX11_cows_48 rfl rfl ?_
            exact mO_i hJ (by simp only [zk_cows, Int.toNat_natCast]; (repeat' split) <;> first | rfl | omega)
  · refine zx_bipush (v := zn_I (-101)) dX11_cows_7 (by decide) ?_
    refine zx_iret (st := []) dX11_cows_9 rfl rfl ?_
    exact mO_i hJ (by simp only [zk_cows, Int.toNat_natCast]; (repeat' split) <;> first | rfl | omega)
