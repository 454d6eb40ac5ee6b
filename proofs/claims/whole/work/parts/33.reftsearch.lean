/-! THE REFERENCE'S TRADES: the search -/
def mt_F (h g : Nat → Nat) (k : Nat) : Nat → Nat := fun i => if i < k then h i else g i
theorem mt_F_at {h g : Nat → Nat} {k : Nat} : mt_F h g (k + 1) k = h k := by rw [mt_F, if_pos (Nat.lt_succ_self _)]
theorem mt_F_ne {h g : Nat → Nat} {k i : Nat} (hi : i ≠ k) : mt_F h g (k + 1) i = mt_F h g k i := by
  unfold mt_F
  by_cases r : i < k
  · rw [if_pos r, if_pos (by omega)]
  · rw [if_neg r, if_neg (by omega)]
theorem mt_F_step {M : zw_M} {n : Nat} {τ : zQ} {q k : Nat} {h g : Nat → Nat} (hT : mT M n (mt_arr τ q (mt_F h g k))) (hk : k < zt_m τ) (hq : q < 8) (hn : h k < n) : mT (zw_s M 37 (8 * zt_pe τ k + q) (zn_I (h k : Nat))) n (mt_arr τ q (mt_F h g (k + 1))) := by
  have e := mt_arr_at (τ := τ) (q := q) (f := mt_F h g k) (g := mt_F h g (k + 1)) hk (fun i hi => mt_F_ne hi)
  rw [mt_F_at] at e
  rw [← e]
  exact mT_at hT hq (zt_pe_in hk).1 hn
theorem mt_arr_cong {M : zw_M} {n : Nat} {τ : zQ} {q : Nat} {f g : Nat → Nat} (h : ∀ i, i < zt_m τ → f i = g i) (hT : mT M n (mt_arr τ q f)) : mT M n (mt_arr τ q g) := by
  obtain ⟨h1, h2, h3, h4, h5, h6, h7, h8⟩ := hT
  have e : ∀ t, t < τ.1 → ∀ u, (mt_arr τ q f).2.2.2 t u = (mt_arr τ q g).2.2.2 t u := fun t ht u => by
    show (if u = q ∧ zt_per τ t then f (zt_pl τ t).length else τ.2.2.2 t u) = (if u = q ∧ zt_per τ t then g (zt_pl τ t).length else τ.2.2.2 t u)
    split
    · next c => exact h _ (zt_pe_at c.2 ht).1
    · rfl
  exact ⟨h1, h2, h3, h4, fun t ht u hu => by rw [← e t ht u]; exact h5 t ht u hu, h6, h7, fun t ht u hu => by rw [← e t ht u]; exact h8 t ht u hu⟩
abbrev zev (π : zP) (τ : zQ) (q : Nat) : List Nat → Nat × Nat := ze_ev π τ (zt_m τ) (zt_pe τ) (zt_sq τ q) (zt_E0 π τ q) (zt_S0 π τ q)
set_option maxRecDepth 100000 in
set_option maxHeartbeats 600000 in
theorem mX11_tryTrade {l : Launch} {d : Nat} {M : zw_M} {π : zP} {τ : zQ} {q : Nat} {a : List Nat} {g : Nat → Nat} {acc : zE} (hI : mI M π) (hT : mT M (zp_n π) (mt_arr τ q g)) (hM : mM M 0 0 0) (hq : q < 8) (hm : zt_m τ ≤ 6) (hR : ∀ i, i < zt_m τ → (M.1 40 i = zn_I (zt_pe τ i : Nat) ∧ M.1 41 i = zn_I (zt_sq τ q i : Nat)) ∧ M.1 42 i = zn_I (a.getD i 0 : Nat) ∧ a.getD i 0 < zt_m τ) (hsq : ∀ i, i < zt_m τ → zt_sq τ q i < zp_n π) (hB : mB M (zt_m τ) (zt_sq τ q) acc) : zw_C l (d + 3) iX11_tryTrade [.ref 33, .int (zn_I (q : Int)), .int (zn_I (zt_m τ : Nat))] M (fun v M1 => v = none ∧ mfr [37, 43] [26, 27] M M1 ∧ mT M1 (zp_n π) (mt_arr τ q (fun i => zt_sq τ q (a.getD i 0))) ∧ mB M1 (zt_m τ) (zt_sq τ q) (ze_upd (zev π τ q) acc a)) := by
  refine zw_of (by decide +kernel) (Nat.le_of_ble_eq_true rfl) ?_
  refine zy_loc (L1 := [.ref 33, .int (zn_I (q : Int)), .int (zn_I (zt_m τ : Nat)), .retAddr 0, .retAddr 0, .retAddr 0]) rfl ?_
  have JB : ∀ (M1 : zw_M) (v3 : Value) (v4 : Int32), mfr [37] [] M M1 → mT M1 (zp_n π) (mt_arr τ q (fun i => zt_sq τ q (a.getD i 0))) → ((zev π τ q a).1 < mb_w acc ∨ ((zev π τ q a).1 = mb_w acc ∧ (zev π τ q a).2 < mb_m acc)) → ∀ j : Nat, j ≤ zt_m τ → ∀ M2 : zw_M, mfr [43] [26, 27] M1 M2 → M2.1 33 26 = zn_I ((zev π τ q a).1 : Nat) ∧ M2.1 33 27 = zn_I ((zev π τ q a).2 : Nat) → (∀ i, i < j → M2.1 43 i = zn_I (zt_sq τ q (a.getD i 0) : Nat)) → zw_X l (d + 3) iX11_tryTrade (fun v M1 => v = none ∧ mfr [37, 43] [26, 27] M M1 ∧ mT M1 (zp_n π) (mt_arr τ q (fun i => zt_sq τ q (a.getD i 0))) ∧ mB M1 (zt_m τ) (zt_sq τ q) (ze_upd (zev π τ q) acc a)) 126 [.ref 33, .int (zn_I (q : Int)), .int (zn_I (zt_m τ : Nat)), v3, .int v4, .int (zn_I (j : Int))] [] M2 := by
    intro M1 v3 v4 hf hT1 hbt
    refine zw_loop (zt_m τ) (P := fun j => ∀ M2 : zw_M, mfr [43] [26, 27] M1 M2 → M2.1 33 26 = zn_I ((zev π τ q a).1 : Nat) ∧ M2.1 33 27 = zn_I ((zev π τ q a).2 : Nat) → (∀ i, i < j → M2.1 43 i = zn_I (zt_sq τ q (a.getD i 0) : Nat)) → zw_X l (d + 3) iX11_tryTrade (fun v M1 => v = none ∧ mfr [37, 43] [26, 27] M M1 ∧ mT M1 (zp_n π) (mt_arr τ q (fun i => zt_sq τ q (a.getD i 0))) ∧ mB M1 (zt_m τ) (zt_sq τ q) (ze_upd (zev π τ q) acc a)) 126 [.ref 33, .int (zn_I (q : Int)), .int (zn_I (zt_m τ : Nat)), v3, .int v4, .int (zn_I (j : Int))] [] M2) (fun j hj ih M2 hf2 h67 hbi => ?_)
    have e41 : M2.1 41 = M.1 41 := (hf2.1 41 (by decide) (by decide)).1.trans (hf.1 41 (by decide) (by decide)).1
    have e42 : M2.1 42 = M.1 42 := (hf2.1 42 (by decide) (by decide)).1.trans (hf.1 42 (by decide) (by decide)).1
    refine zx_iload dX11_tryTrade_126 rfl ?_
    refine zx_iload_n dX11_tryTrade_128 rfl ?_
    refine zy_icmp_ge (tgt := 157) dX11_tryTrade_129 (by decide) (by omega) (fun h_129 => ?_) (fun h_129 => ?_)
    · refine zx_vret (st := []) dX11_tryTrade_157 rfl ?_
      have hjm : j = zt_m τ := by omega
      subst hjm
      refine ⟨rfl, mf_tr (mf_mono hf (by decide)) (mf_mono hf2 (by decide)), mT_f hf2 hT1 (by decide), ?_⟩
      have hle : (zev π τ q a).1 ≤ 32 := zp_wc_le π _ _
      have hle2 : (zev π τ q a).2 ≤ 6 := Nat.le_trans (zx_m_le _ _ _) hm
      rw [mb_upd hle, if_pos hbt]
      refine ⟨h67.1, h67.2, by show (zev π τ q a).1 ≤ 1048576; omega, by show (zev π τ q a).2 ≤ 1048576; omega, fun w e b hb i hi => ?_⟩
      have hb2 : a = b := congrArg (fun o => o.2.2) (Option.some.inj hb)
      rw [← hb2]
      exact hbi i hi
    · refine zx_aload_n dX11_tryTrade_132 rfl ?_
      refine zx_getr dX11_tryTrade_133 fX11_38 ?_
      refine zx_iload dX11_tryTrade_136 rfl ?_
      refine zx_aload_n dX11_tryTrade_138 rfl ?_
      refine zx_getr dX11_tryTrade_139 fX11_32 ?_
      refine zx_aload_n dX11_tryTrade_142 rfl ?_
      refine zx_getr dX11_tryTrade_143 fX11_35 ?_
      refine zx_iload dX11_tryTrade_146 rfl ?_
      refine zy_iald (i := j) dX11_tryTrade_148 rfl (by decide) (by omega) (by omega) ((show _ = zn_I (a.getD j 0 : Nat) from by rw [e42]; exact (hR j (by omega)).2.1)) ?_
      refine zy_iald (i := a.getD j 0) dX11_tryTrade_149 rfl (by decide) (by omega) (by have := (hR j (by omega)).2.2; omega) ((show _ = zn_I (zt_sq τ q (a.getD j 0) : Nat) from by rw [e41]; exact (hR _ (hR j (by omega)).2.2).1.2)) ?_
      refine zy_iast (i := j) dX11_tryTrade_150 rfl (by decide) (by omega) (by omega) ?_
      refine zy_iinc dX11_tryTrade_151 rfl rfl ?_
      refine zx_goto (tgt := 126) dX11_tryTrade_154 (by decide) ?_
      refine ih (by omega) _ (mf_s hf2 (by decide) (by decide)) (by simpa [zw_s] using h67) (fun i hi => ?_)
      by_cases e : i = j
      · subst e; simp [zw_s]
      · have := hbi i (by omega)
        simp [zw_s, e, this]
  have hA : ∀ k : Nat, k ≤ zt_m τ → ∀ (M1 : zw_M) (v5 : Value), mfr [37] [] M M1 → mT M1 (zp_n π) (mt_arr τ q (mt_F (fun i => zt_sq τ q (a.getD i 0)) g k)) → zw_X l (d + 3) iX11_tryTrade (fun v M1 => v = none ∧ mfr [37, 43] [26, 27] M M1 ∧ mT M1 (zp_n π) (mt_arr τ q (fun i => zt_sq τ q (a.getD i 0))) ∧ mB M1 (zt_m τ) (zt_sq τ q) (ze_upd (zev π τ q) acc a)) 5 [.ref 33, .int (zn_I (q : Int)), .int (zn_I (zt_m τ : Nat)), .int (zn_I (zx_m (zt_sq τ q) a k : Nat)), .int (zn_I (k : Int)), v5] [] M1 := by
    refine zw_loop (zt_m τ) (P := fun k => ∀ (M1 : zw_M) (v5 : Value), mfr [37] [] M M1 → mT M1 (zp_n π) (mt_arr τ q (mt_F (fun i => zt_sq τ q (a.getD i 0)) g k)) → zw_X l (d + 3) iX11_tryTrade (fun v M1 => v = none ∧ mfr [37, 43] [26, 27] M M1 ∧ mT M1 (zp_n π) (mt_arr τ q (fun i => zt_sq τ q (a.getD i 0))) ∧ mB M1 (zt_m τ) (zt_sq τ q) (ze_upd (zev π τ q) acc a)) 5 [.ref 33, .int (zn_I (q : Int)), .int (zn_I (zt_m τ : Nat)), .int (zn_I (zx_m (zt_sq τ q) a k : Nat)), .int (zn_I (k : Int)), v5] [] M1) (fun k hk ih M1 v5 hf hT1 => ?_)
    have e40 : M1.1 40 = M.1 40 := (hf.1 40 (by decide) (by decide)).1
    have e41 : M1.1 41 = M.1 41 := (hf.1 41 (by decide) (by decide)).1
    have e42 : M1.1 42 = M.1 42 := (hf.1 42 (by decide) (by decide)).1
    have e26 : M1.1 33 26 = M.1 33 26 := (hf.2 26 (by decide)).1
    have e27 : M1.1 33 27 = M.1 33 27 := (hf.2 27 (by decide)).1
    have hmle := zx_m_le (zt_sq τ q) a k
    refine zx_iload dX11_tryTrade_5 rfl ?_
    refine zx_iload_n dX11_tryTrade_7 rfl ?_
    refine zy_icmp_ge (tgt := 76) dX11_tryTrade_8 (by decide) (by omega) (fun h_8 => ?_) (fun h_8 => ?_)
    · have hkm : k = zt_m τ := by omega
      subst hkm
      have hT2 : mT M1 (zp_n π) (mt_arr τ q (fun i => zt_sq τ q (a.getD i 0))) := mt_arr_cong (fun i hi => by rw [mt_F, if_pos hi]) hT1
      have heva : zb_pop 32 (mwet π (mt_arr τ q (fun i => zt_sq τ q (a.getD i 0))) 0 0 0 q) = (zev π τ q a).1 := mt_arr_ev
      have hevm : zx_m (zt_sq τ q) a (zt_m τ) = (zev π τ q a).2 := rfl
      have hpl := zb_pop_le 32 (mwet π (mt_arr τ q (fun i => zt_sq τ q (a.getD i 0))) 0 0 0 q)
      have hb1 := hB.2.2.1
      have hb2 := hB.2.2.2.1
      refine zx_aload_n dX11_tryTrade_76 rfl ?_
      refine zx_iload_n dX11_tryTrade_77 rfl ?_
      refine zx_callV (y1 := iX11_wetIn) dX11_tryTrade_78 lX11_143 vX11_wetIn rc_33 (mX11_wetIn (mI_f hf hI (by decide)) hT2 (mM_f hf hM (by decide)) hq) rfl rfl (Nat.le_of_ble_eq_true rfl) ?_
      refine zk_i ?_
      refine zx_callS (y1 := iX11_size) dX11_tryTrade_81 lX11_146 sX11_size (mX11_size (mwet_30 hI.1 _ 0 0 0 q)) rfl rfl (Nat.le_of_ble_eq_true rfl) ?_
      refine zk_i ?_
      refine zx_istore dX11_tryTrade_84 rfl (Nat.le_of_ble_eq_true rfl) ?_
      refine zx_iload dX11_tryTrade_86 rfl ?_
      refine zx_aload_n dX11_tryTrade_88 rfl ?_
      refine zy_geti dX11_tryTrade_89 fX11_152 ((show _ = zn_I (mb_w acc : Nat) from by rw [e26]; exact hB.1)) ?_
      refine zy_icmp_lt (tgt := 112) dX11_tryTrade_92 (by decide) (by omega) (fun h_92 => ?_) (fun h_92 => ?_)
      · refine zx_aload_n dX11_tryTrade_112 rfl ?_
        refine zx_iload dX11_tryTrade_113 rfl ?_
        refine zx_puti dX11_tryTrade_115 fX11_152 ?_
        refine zx_aload_n dX11_tryTrade_118 rfl ?_
        refine zx_iload_n dX11_tryTrade_119 rfl ?_
        refine zx_puti dX11_tryTrade_120 fX11_155 ?_
        refine zx_iconst (v := zn_I 0) dX11_tryTrade_123 rfl ?_
        refine zx_istore dX11_tryTrade_124 rfl (Nat.le_of_ble_eq_true rfl) ?_
        exact JB M1 _ _ hf hT2 (by rw [← heva, ← hevm]; omega) 0 (Nat.zero_le _) _ (mf_f (mf_f mf_rf (by decide)) (by decide)) (by rw [← heva, ← hevm]; simp [zw_s]) (fun i hi => absurd hi (Nat.not_lt_zero _))
      · refine zx_iload dX11_tryTrade_95 rfl ?_
        refine zx_aload_n dX11_tryTrade_97 rfl ?_
        refine zy_geti dX11_tryTrade_98 fX11_152 ((show _ = zn_I (mb_w acc : Nat) from by rw [e26]; exact hB.1)) ?_
        refine zy_icmp_ne (tgt := 157) dX11_tryTrade_101 (by decide) (by omega) (fun h_101 => ?_) (fun h_101 => ?_)
        · refine zx_vret (st := []) dX11_tryTrade_157 rfl ?_
          refine ⟨rfl, mf_mono hf (by decide), hT2, ?_⟩
          have hle : (zev π τ q a).1 ≤ 32 := zp_wc_le π _ _
          rw [mb_upd hle, if_neg (by rw [← heva, ← hevm]; omega)]
          exact ⟨by rw [e26]; exact hB.1, by rw [e27]; exact hB.2.1, hB.2.2.1, hB.2.2.2.1, fun w e b hb i hi => by rw [(hf.1 43 (by decide) (by decide)).1]; exact hB.2.2.2.2 w e b hb i hi⟩
        · refine zx_iload_n dX11_tryTrade_104 rfl ?_
          refine zx_aload_n dX11_tryTrade_105 rfl ?_
          refine zy_geti dX11_tryTrade_106 fX11_155 ((show _ = zn_I (mb_m acc : Nat) from by rw [e27]; exact hB.2.1)) ?_
          refine zy_icmp_ge (tgt := 157) dX11_tryTrade_109 (by decide) (by omega) (fun h_109 => ?_) (fun h_109 => ?_)
          · refine zx_vret (st := []) dX11_tryTrade_157 rfl ?_
            refine ⟨rfl, mf_mono hf (by decide), hT2, ?_⟩
            have hle : (zev π τ q a).1 ≤ 32 := zp_wc_le π _ _
            rw [mb_upd hle, if_neg (by rw [← heva, ← hevm]; omega)]
            exact ⟨by rw [e26]; exact hB.1, by rw [e27]; exact hB.2.1, hB.2.2.1, hB.2.2.2.1, fun w e b hb i hi => by rw [(hf.1 43 (by decide) (by decide)).1]; exact hB.2.2.2.2 w e b hb i hi⟩
          · refine zx_aload_n dX11_tryTrade_112 rfl ?_
            refine zx_iload dX11_tryTrade_113 rfl ?_
            refine zx_puti dX11_tryTrade_115 fX11_152 ?_
            refine zx_aload_n dX11_tryTrade_118 rfl ?_
            refine zx_iload_n dX11_tryTrade_119 rfl ?_
            refine zx_puti dX11_tryTrade_120 fX11_155 ?_
            refine zx_iconst (v := zn_I 0) dX11_tryTrade_123 rfl ?_
            refine zx_istore dX11_tryTrade_124 rfl (Nat.le_of_ble_eq_true rfl) ?_
            exact JB M1 _ _ hf hT2 (by rw [← heva, ← hevm]; omega) 0 (Nat.zero_le _) _ (mf_f (mf_f mf_rf (by decide)) (by decide)) (by rw [← heva, ← hevm]; simp [zw_s]) (fun i hi => absurd hi (Nat.not_lt_zero _))
    · refine zx_aload_n dX11_tryTrade_11 rfl ?_
      refine zx_getr dX11_tryTrade_12 fX11_19 ?_
      refine zx_bipush (v := zn_I 8) dX11_tryTrade_15 (by decide) ?_
      refine zx_aload_n dX11_tryTrade_17 rfl ?_
      refine zx_getr dX11_tryTrade_18 fX11_29 ?_
      refine zx_iload dX11_tryTrade_21 rfl ?_
      refine zy_iald (i := k) dX11_tryTrade_23 rfl (by decide) (by omega) (by omega) ((show _ = zn_I (zt_pe τ k : Nat) from by rw [e40]; exact (hR k (by omega)).1.1)) ?_
      refine zy_imul dX11_tryTrade_24 ?_
      refine zx_iload_n dX11_tryTrade_25 rfl ?_
      refine zy_iadd dX11_tryTrade_26 ?_
      refine zx_aload_n dX11_tryTrade_27 rfl ?_
      refine zx_getr dX11_tryTrade_28 fX11_32 ?_
      refine zx_aload_n dX11_tryTrade_31 rfl ?_
      refine zx_getr dX11_tryTrade_32 fX11_35 ?_
      refine zx_iload dX11_tryTrade_35 rfl ?_
      refine zy_iald (i := k) dX11_tryTrade_37 rfl (by decide) (by omega) (by omega) ((show _ = zn_I (a.getD k 0 : Nat) from by rw [e42]; exact (hR k (by omega)).2.1)) ?_
      refine zy_iald (i := a.getD k 0) dX11_tryTrade_38 rfl (by decide) (by omega) (by have := (hR k (by omega)).2.2; omega) ((show _ = zn_I (zt_sq τ q (a.getD k 0) : Nat) from by rw [e41]; exact (hR _ (hR k (by omega)).2.2).1.2)) ?_
      refine zy_iast (i := 8 * zt_pe τ k + q) dX11_tryTrade_39 rfl (by decide) (by omega) (by have := (zt_pe_in (τ := τ) (i := k) (by omega)).1; have := hT.1; have : (mt_arr τ q g).1 = τ.1 := rfl; omega) ?_
      refine zx_iload_n dX11_tryTrade_40 rfl ?_
      refine zx_aload_n dX11_tryTrade_41 rfl ?_
      refine zx_getr dX11_tryTrade_42 fX11_32 ?_
      refine zx_aload_n dX11_tryTrade_45 rfl ?_
      refine zx_getr dX11_tryTrade_46 fX11_35 ?_
      refine zx_iload dX11_tryTrade_49 rfl ?_
      refine zy_iald (i := k) dX11_tryTrade_51 rfl (by decide) (by omega) (by omega) ((show _ = zn_I (a.getD k 0 : Nat) from by simp only [zw_s, show ¬ (42 = 37) by decide, false_and, if_false]; rw [e42]; exact (hR k (by omega)).2.1)) ?_
      refine zy_iald (i := a.getD k 0) dX11_tryTrade_52 rfl (by decide) (by omega) (by have := (hR k (by omega)).2.2; omega) ((show _ = zn_I (zt_sq τ q (a.getD k 0) : Nat) from by simp only [zw_s, show ¬ (41 = 37) by decide, false_and, if_false]; rw [e41]; exact (hR _ (hR k (by omega)).2.2).1.2)) ?_
      refine zx_aload_n dX11_tryTrade_53 rfl ?_
      refine zx_getr dX11_tryTrade_54 fX11_32 ?_
      refine zx_iload dX11_tryTrade_57 rfl ?_
      refine zy_iald (i := k) dX11_tryTrade_59 rfl (by decide) (by omega) (by omega) ((show _ = zn_I (zt_sq τ q k : Nat) from by simp only [zw_s, show ¬ (41 = 37) by decide, false_and, if_false]; rw [e41]; exact (hR k (by omega)).1.2)) ?_
      refine zy_icmp_ne (tgt := 67) dX11_tryTrade_60 (by decide) (by have := hsq _ (hR k (by omega)).2.2; have := hsq k (by omega); have := zp_30 hI.1; omega) (fun h_60 => ?_) (fun h_60 => ?_)
      · refine zx_iconst (v := zn_I 1) dX11_tryTrade_67 rfl ?_
        refine zy_iadd dX11_tryTrade_68 ?_
        refine zx_istore_n dX11_tryTrade_69 rfl (Nat.le_of_ble_eq_true rfl) ?_
        refine zy_iinc dX11_tryTrade_70 rfl rfl ?_
        refine zx_goto (tgt := 5) dX11_tryTrade_73 (by decide) ?_
        have hmx : ((zx_m (zt_sq τ q) a k : Nat) : Int) + 1 = ((zx_m (zt_sq τ q) a (k + 1) : Nat) : Int) := by rw [zx_m, if_neg (by omega)]; omega
        rw [hmx]
        exact ih (by omega) _ _ (mf_s hf (by decide) (by decide)) (mt_F_step hT1 (by omega) hq (hsq _ (hR k (by omega)).2.2))
      · refine zx_iconst (v := zn_I 0) dX11_tryTrade_63 rfl ?_
        refine zx_goto (tgt := 68) dX11_tryTrade_64 (by decide) ?_
        refine zy_iadd dX11_tryTrade_68 ?_
        refine zx_istore_n dX11_tryTrade_69 rfl (Nat.le_of_ble_eq_true rfl) ?_
        refine zy_iinc dX11_tryTrade_70 rfl rfl ?_
        refine zx_goto (tgt := 5) dX11_tryTrade_73 (by decide) ?_
        have hmx : ((zx_m (zt_sq τ q) a k : Nat) : Int) + 0 = ((zx_m (zt_sq τ q) a (k + 1) : Nat) : Int) := by rw [zx_m, if_pos (by omega)]; omega
        rw [hmx]
        exact ih (by omega) _ _ (mf_s hf (by decide) (by decide)) (mt_F_step hT1 (by omega) hq (hsq _ (hR k (by omega)).2.2))
  refine zx_iconst (v := zn_I 0) dX11_tryTrade_0 rfl ?_
  refine zx_istore_n dX11_tryTrade_1 rfl (Nat.le_of_ble_eq_true rfl) ?_
  refine zx_iconst (v := zn_I 0) dX11_tryTrade_2 rfl ?_
  refine zx_istore dX11_tryTrade_3 rfl (Nat.le_of_ble_eq_true rfl) ?_
  exact hA 0 (Nat.zero_le _) M _ mf_rf (mt_arr_cong (fun i _ => by rw [mt_F, if_neg (Nat.not_lt_zero _)]) hT)
set_option maxRecDepth 100000 in
set_option maxHeartbeats 600000 in
theorem mX11_tradesNow {l : Launch} {d : Nat} {M : zw_M} {π : zP} {τ : zQ} {q : Nat} (hI : mI M π) (hT : mT M (zp_n π) τ) (hM : mM M 0 0 0) (hq : q < 8) (hm : zt_m τ ≤ 6) {w : Int} (hw : zasks w) : zw_C l (d + 4) iX11_tradesNow [.ref 33, .int (zn_I (q : Int)), .int (zn_I w)] M (fun v M1 => v = some (.int (zn_I (zt_tell τ q w (zt_best π τ q)))) ∧ mfr [37, 40, 41, 42, 43] [26, 27] M M1 ∧ mT M1 (zp_n π) τ) := by
  have h8 := hT.1
  have hsq : ∀ i, i < zt_m τ → zt_sq τ q i < zp_n π := fun i hi => hT.2.2.2.2.2.2.2 _ (zt_pe_in hi).1 q hq
  refine zw_of (by decide +kernel) (Nat.le_of_ble_eq_true rfl) ?_
  refine zy_loc (L1 := [.ref 33, .int (zn_I (q : Int)), .int (zn_I w), .retAddr 0, .retAddr 0, .retAddr 0, .retAddr 0]) rfl ?_
  have JE : ∀ (M1 : zw_M) (g : Nat → Nat) (x e : Nat) (b : List Nat) (v4 : Int32), zt_best π τ q = some (x, e, b) → mfr [37, 40, 41, 42, 43] [26, 27] M M1 → (∀ i, i < zt_m τ → M1.1 40 i = zn_I (zt_pe τ i : Nat) ∧ M1.1 41 i = zn_I (zt_sq τ q i : Nat)) → mT M1 (zp_n π) (mt_arr τ q g) → mB M1 (zt_m τ) (zt_sq τ q) (some (x, e, b)) → ∀ k : Nat, k ≤ zt_m τ → ∀ M2 : zw_M, mfr [37] [] M1 M2 → mT M2 (zp_n π) (mt_arr τ q (mt_F (zt_sq τ q) g k)) → zw_X l (d + 4) iX11_tradesNow (fun v M1 => v = some (.int (zn_I (zt_tell τ q w (zt_best π τ q)))) ∧ mfr [37, 40, 41, 42, 43] [26, 27] M M1 ∧ mT M1 (zp_n π) τ) 52 [.ref 33, .int (zn_I (q : Int)), .int (zn_I w), .int (zn_I (zt_m τ : Nat)), .int v4, .int (zn_I (mc_f (zt_pe τ) (fun i => zt_sq τ q (b.getD i 0)) (w - 10) k)), .int (zn_I (k : Int))] [] M2 := by
    intro M1 g x e b v4 hbst hf h40 hT1 hB
    refine zw_loop (zt_m τ) (P := fun k => ∀ M2 : zw_M, mfr [37] [] M1 M2 → mT M2 (zp_n π) (mt_arr τ q (mt_F (zt_sq τ q) g k)) → zw_X l (d + 4) iX11_tradesNow (fun v M1 => v = some (.int (zn_I (zt_tell τ q w (zt_best π τ q)))) ∧ mfr [37, 40, 41, 42, 43] [26, 27] M M1 ∧ mT M1 (zp_n π) τ) 52 [.ref 33, .int (zn_I (q : Int)), .int (zn_I w), .int (zn_I (zt_m τ : Nat)), .int v4, .int (zn_I (mc_f (zt_pe τ) (fun i => zt_sq τ q (b.getD i 0)) (w - 10) k)), .int (zn_I (k : Int))] [] M2) (fun k hk ih M2 hf2 hT2 => ?_)
    have e40 : M2.1 40 = M1.1 40 := (hf2.1 40 (by decide) (by decide)).1
    have e41 : M2.1 41 = M1.1 41 := (hf2.1 41 (by decide) (by decide)).1
    have e43 : M2.1 43 = M1.1 43 := (hf2.1 43 (by decide) (by decide)).1
    have e26 : M2.1 33 26 = M1.1 33 26 := (hf2.2 26 (by decide)).1
    have e27 : M2.1 33 27 = M1.1 33 27 := (hf2.2 27 (by decide)).1
    refine zx_iload dX11_tradesNow_52 rfl ?_
    refine zx_iload_n dX11_tradesNow_54 rfl ?_
    refine zy_icmp_ge (tgt := 116) dX11_tradesNow_55 (by decide) (by omega) (fun h_55 => ?_) (fun h_55 => ?_)
    · have hkm2 : k = zt_m τ := by omega
      refine zx_iload_n dX11_tradesNow_116 rfl ?_
      refine zy_if_ne (tgt := 127) dX11_tradesNow_117 (by decide) (by omega) (fun h_117 => ?_) (fun h_117 => ?_)
      · refine zx_iload_n dX11_tradesNow_127 rfl ?_
        refine zx_iconst (v := zn_I 1) dX11_tradesNow_128 rfl ?_
        refine zy_icmp_ne (tgt := 139) dX11_tradesNow_129 (by decide) (by omega) (fun h_129 => ?_) (fun h_129 => ?_)
        · refine zx_iload dX11_tradesNow_139 rfl ?_
          refine zx_iret (st := []) dX11_tradesNow_141 rfl rfl ?_
          have hkm : k = zt_m τ := by omega
          subst hkm
          refine ⟨?_, mf_tr hf (mf_mono hf2 (by decide)), mt_arr_id (mt_arr_cong (fun i hi => by rw [mt_F, if_pos hi]) hT2)⟩
          rw [hbst, zt_tell]
          first
            | rw [if_pos (by omega)]
            | rw [if_neg (by omega), if_pos (by omega)]
            | rw [if_neg (by omega), if_neg (by omega), (mc_f_eq (fun i j hi hj => zt_pe_inj hi hj) (zt_m τ) (Nat.le_refl _)).1]
        · refine zx_aload_n dX11_tradesNow_132 rfl ?_
          refine zy_geti dX11_tradesNow_133 fX11_155 ((show _ = zn_I (e : Int) from by rw [e27]; exact hB.2.1)) ?_
          refine zx_goto (tgt := 141) dX11_tradesNow_136 (by decide) ?_
          refine zx_iret (st := []) dX11_tradesNow_141 rfl rfl ?_
          have hkm : k = zt_m τ := by omega
          subst hkm
          refine ⟨?_, mf_tr hf (mf_mono hf2 (by decide)), mt_arr_id (mt_arr_cong (fun i hi => by rw [mt_F, if_pos hi]) hT2)⟩
          rw [hbst, zt_tell]
          first
            | rw [if_pos (by omega)]
            | rw [if_neg (by omega), if_pos (by omega)]
            | rw [if_neg (by omega), if_neg (by omega), (mc_f_eq (fun i j hi hj => zt_pe_inj hi hj) (zt_m τ) (Nat.le_refl _)).1]
      · refine zx_aload_n dX11_tradesNow_120 rfl ?_
        refine zy_geti dX11_tradesNow_121 fX11_152 ((show _ = zn_I (x : Int) from by rw [e26]; exact hB.1)) ?_
        refine zx_goto (tgt := 141) dX11_tradesNow_124 (by decide) ?_
        refine zx_iret (st := []) dX11_tradesNow_141 rfl rfl ?_
        have hkm : k = zt_m τ := by omega
        subst hkm
        refine ⟨?_, mf_tr hf (mf_mono hf2 (by decide)), mt_arr_id (mt_arr_cong (fun i hi => by rw [mt_F, if_pos hi]) hT2)⟩
        rw [hbst, zt_tell]
        first
          | rw [if_pos (by omega)]
          | rw [if_neg (by omega), if_pos (by omega)]
          | rw [if_neg (by omega), if_neg (by omega), (mc_f_eq (fun i j hi hj => zt_pe_inj hi hj) (zt_m τ) (Nat.le_refl _)).1]
    · refine zx_aload_n dX11_tradesNow_58 rfl ?_
      refine zx_getr dX11_tradesNow_59 fX11_19 ?_
      refine zx_bipush (v := zn_I 8) dX11_tradesNow_62 (by decide) ?_
      refine zx_aload_n dX11_tradesNow_64 rfl ?_
      refine zx_getr dX11_tradesNow_65 fX11_29 ?_
      refine zx_iload dX11_tradesNow_68 rfl ?_
      refine zy_iald (i := k) dX11_tradesNow_70 rfl (by decide) (by omega) (by omega) ((show _ = zn_I (zt_pe τ k : Nat) from by rw [e40]; exact (h40 k (by omega)).1)) ?_
      refine zy_imul dX11_tradesNow_71 ?_
      refine zx_iload_n dX11_tradesNow_72 rfl ?_
      refine zy_iadd dX11_tradesNow_73 ?_
      refine zx_aload_n dX11_tradesNow_74 rfl ?_
      refine zx_getr dX11_tradesNow_75 fX11_32 ?_
      refine zx_iload dX11_tradesNow_78 rfl ?_
      refine zy_iald (i := k) dX11_tradesNow_80 rfl (by decide) (by omega) (by omega) ((show _ = zn_I (zt_sq τ q k : Nat) from by rw [e41]; exact (h40 k (by omega)).2)) ?_
      refine zy_iast (i := 8 * zt_pe τ k + q) dX11_tradesNow_81 rfl (by decide) (by omega) (by have := (zt_pe_in (τ := τ) (i := k) (by omega)).1; omega) ?_
      refine zx_aload_n dX11_tradesNow_82 rfl ?_
      refine zx_getr dX11_tradesNow_83 fX11_29 ?_
      refine zx_iload dX11_tradesNow_86 rfl ?_
      refine zy_iald (i := k) dX11_tradesNow_88 rfl (by decide) (by omega) (by omega) ((show _ = zn_I (zt_pe τ k : Nat) from by simp only [zw_s, show ¬ (40 = 37) by decide, false_and, if_false]; rw [e40]; exact (h40 k (by omega)).1)) ?_
      refine zx_iload_n dX11_tradesNow_89 rfl ?_
      refine zx_bipush (v := zn_I 10) dX11_tradesNow_90 (by decide) ?_
      refine zy_isub dX11_tradesNow_92 ?_
      refine zy_icmp_ne (tgt := 106) dX11_tradesNow_93 (by decide) (by have := (zt_pe_in (τ := τ) (i := k) (by omega)).1; omega) (fun h_93 => ?_) (fun h_93 => ?_)
      · refine zx_iload dX11_tradesNow_106 rfl ?_
        refine zx_istore dX11_tradesNow_108 rfl (Nat.le_of_ble_eq_true rfl) ?_
        refine zy_iinc dX11_tradesNow_110 rfl rfl ?_
        refine zx_goto (tgt := 52) dX11_tradesNow_113 (by decide) ?_
        rw [show mc_f (zt_pe τ) (fun i => zt_sq τ q (b.getD i 0)) (w - 10) k = mc_f (zt_pe τ) (fun i => zt_sq τ q (b.getD i 0)) (w - 10) (k + 1) by rw [mc_f, if_neg (by omega)]]
        exact ih (by omega) _ (mf_s hf2 (by decide) (by decide)) (mt_F_step hT2 (by omega) hq (hsq k (by omega)))
      · refine zx_aload_n dX11_tradesNow_96 rfl ?_
        refine zx_getr dX11_tradesNow_97 fX11_38 ?_
        refine zx_iload dX11_tradesNow_100 rfl ?_
        refine zy_iald (i := k) dX11_tradesNow_102 rfl (by decide) (by omega) (by omega) ((show _ = zn_I (zt_sq τ q (b.getD k 0) : Nat) from by simp only [zw_s, show ¬ (43 = 37) by decide, false_and, if_false]; rw [e43]; exact hB.2.2.2.2 x e b rfl k (by omega))) ?_
        refine zx_goto (tgt := 108) dX11_tradesNow_103 (by decide) ?_
        refine zx_istore dX11_tradesNow_108 rfl (Nat.le_of_ble_eq_true rfl) ?_
        refine zy_iinc dX11_tradesNow_110 rfl rfl ?_
        refine zx_goto (tgt := 52) dX11_tradesNow_113 (by decide) ?_
        rw [show ((zt_sq τ q (b.getD k 0) : Nat) : Int) = mc_f (zt_pe τ) (fun i => zt_sq τ q (b.getD i 0)) (w - 10) (k + 1) by rw [mc_f, if_pos (by omega)]]
        exact ih (by omega) _ (mf_s hf2 (by decide) (by decide)) (mt_F_step hT2 (by omega) hq (hsq k (by omega)))
  obtain ⟨⟨hch, hhd⟩, hmem⟩ := mn_all (zt_m τ) hm
  have LP : ∀ r : Nat, ∀ (i : Nat) (a : List Nat) (M1 : zw_M) (g : Nat → Nat) (v5 v6 : Value), i + r = (ze_ext (zt_m τ) (zt_m τ) []).length → (ze_ext (zt_m τ) (zt_m τ) [])[i]? = some a → (∀ k, k < zt_m τ → M1.1 42 k = zn_I (a.getD k 0 : Nat)) → mfr [37, 40, 41, 42, 43] [26, 27] M M1 → (∀ i, i < zt_m τ → M1.1 40 i = zn_I (zt_pe τ i : Nat) ∧ M1.1 41 i = zn_I (zt_sq τ q i : Nat)) → mT M1 (zp_n π) (mt_arr τ q g) → mB M1 (zt_m τ) (zt_sq τ q) (ze_fold (zev π τ q) none ((ze_ext (zt_m τ) (zt_m τ) []).take i)) → zw_X l (d + 4) iX11_tradesNow (fun v M1 => v = some (.int (zn_I (zt_tell τ q w (zt_best π τ q)))) ∧ mfr [37, 40, 41, 42, 43] [26, 27] M M1 ∧ mT M1 (zp_n π) τ) 25 [.ref 33, .int (zn_I (q : Int)), .int (zn_I w), .int (zn_I (zt_m τ : Nat)), .int (zn_I 1), v5, v6] [] M1 := by
    intro r
    induction r with
    | zero =>
      intro i a M1 g v5 v6 hir hLi
      have := (List.getElem?_eq_some_iff.mp hLi).1
      omega
    | succ r ih =>
      intro i a M1 g v5 v6 hir hLi h42 hf h40 hT1 hB
      have hma := hmem a (List.mem_of_getElem? hLi)
      have hal : ∀ k, k < zt_m τ → a.getD k 0 < zt_m τ := fun k hk => by
        rw [List.getD_eq_getElem?_getD, List.getElem?_eq_getElem (by omega)]
        exact hma.2 _ (List.getElem_mem _)
      refine zx_iload dX11_tradesNow_25 rfl ?_
      refine zy_if_eq (tgt := 46) dX11_tradesNow_27 (by decide) (by omega) (fun h_27 => ?_) (fun h_27 => ?_)
      · exact absurd h_27 (by decide)
      · refine zx_aload_n dX11_tradesNow_30 rfl ?_
        refine zx_iload_n dX11_tradesNow_31 rfl ?_
        refine zx_iload_n dX11_tradesNow_32 rfl ?_
        refine zx_callV (y1 := iX11_tryTrade) dX11_tradesNow_33 lX11_167 vX11_tryTrade rc_33 (mX11_tryTrade (a := a) (g := g) (mI_f hf hI (by decide)) hT1 (mM_f hf hM (by decide)) hq hm (fun i hi => ⟨h40 i hi, h42 i hi, hal i hi⟩) hsq hB) rfl rfl (Nat.le_of_ble_eq_true rfl) ?_
        intro v M2 he
        obtain ⟨rfl, hf2, hT2, hB2⟩ := he
        have hfa : mfr [37, 40, 41, 42, 43] [26, 27] M M2 := mf_tr hf (mf_mono hf2 (by decide))
        refine zx_aload_n dX11_tradesNow_36 rfl ?_
        refine zx_iload_n dX11_tradesNow_37 rfl ?_
        refine zx_callV (y1 := iX11_nextTakes) dX11_tradesNow_38 lX11_170 vX11_nextTakes rc_33 (mX11_nextTakes (f := fun k => a.getD k 0) (by omega) (fun k hk => by rw [(hf2.1 42 (by decide) (by decide)).1]; exact h42 k hk) (fun k hk => by have := hal k hk; omega)) rfl rfl (Nat.le_of_ble_eq_true rfl) ?_
        intro v M3 he
        have hB3 : mB M2 (zt_m τ) (zt_sq τ q) (ze_fold (zev π τ q) none ((ze_ext (zt_m τ) (zt_m τ) []).take (i + 1))) := by
          rw [List.take_add_one, ze_fold_app, hLi]
          exact hB2
        rcases he with ⟨hn1, rfl, rfl⟩ | ⟨g2, hn1, rfl, hf3, h423, -⟩
        · have hend : (ze_ext (zt_m τ) (zt_m τ) [])[i + 1]? = none := by
            rcases mn_chain_at hch hLi with h | ⟨b, h, h2⟩
            · exact h.1
            · rw [mn_l, hn1] at h2; cases h2
          obtain ⟨x, e, b, hbst⟩ := zt_best_some (π := π) (τ := τ) (q := q) hm
          have hfold : ze_fold (zev π τ q) none ((ze_ext (zt_m τ) (zt_m τ) []).take (i + 1)) = zt_best π τ q := by
            rw [List.take_of_length_le (by have := List.getElem?_eq_none_iff.mp hend; omega)]
            rfl
          rw [hfold, hbst] at hB3
          refine zx_istore dX11_tradesNow_41 rfl (Nat.le_of_ble_eq_true rfl) ?_
          refine zx_goto (tgt := 25) dX11_tradesNow_43 (by decide) ?_
          refine zx_iload dX11_tradesNow_25 rfl ?_
          refine zy_if_eq (tgt := 46) dX11_tradesNow_27 (by decide) (by omega) (fun h_27 => ?_) (fun h_27 => ?_)
          · refine zx_iconst (v := zn_I (-1)) dX11_tradesNow_46 rfl ?_
            refine zx_istore dX11_tradesNow_47 rfl (Nat.le_of_ble_eq_true rfl) ?_
            refine zx_iconst (v := zn_I 0) dX11_tradesNow_49 rfl ?_
            refine zx_istore dX11_tradesNow_50 rfl (Nat.le_of_ble_eq_true rfl) ?_
            exact JE M3 _ x e b _ hbst hfa (fun i hi => by rw [(hf2.1 40 (by decide) (by decide)).1, (hf2.1 41 (by decide) (by decide)).1]; exact h40 i hi) hT2 hB3 0 (Nat.zero_le _) _ mf_rf (mt_arr_cong (fun i _ => by rw [mt_F, if_neg (Nat.not_lt_zero _)]) hT2)
          · exact absurd rfl h_27
        · obtain ⟨b, hLb, h2⟩ : ∃ b, (ze_ext (zt_m τ) (zt_m τ) [])[i + 1]? = some b ∧ mn_l (zt_m τ) a = some b := by
            rcases mn_chain_at hch hLi with h | h
            · have h3 := h.2; rw [mn_l, hn1] at h3; cases h3
            · exact h
          rw [mn_l, hn1] at h2
          have hbg : ∀ k, k < zt_m τ → b.getD k 0 = g2 k := fun k hk => by
            cases h2
            rw [List.getD_eq_getElem?_getD, List.getElem?_map, List.getElem?_range hk]
            rfl
          refine zx_istore dX11_tradesNow_41 rfl (Nat.le_of_ble_eq_true rfl) ?_
          refine zx_goto (tgt := 25) dX11_tradesNow_43 (by decide) ?_
          refine ih (i + 1) b M3 _ _ _ (by omega) hLb (fun k hk => by rw [hbg k hk]; exact h423 k hk) (mf_tr hfa (mf_mono hf3 (by decide))) (fun i hi => ?_) (mT_f hf3 hT2 (by decide)) ?_
          · rw [(hf3.1 40 (by decide) (by decide)).1, (hf3.1 41 (by decide) (by decide)).1, (hf2.1 40 (by decide) (by decide)).1, (hf2.1 41 (by decide) (by decide)).1]; exact h40 i hi
          · exact ⟨by rw [(hf3.2 26 (by decide)).1]; exact hB3.1, by rw [(hf3.2 27 (by decide)).1]; exact hB3.2.1, hB3.2.2.1, hB3.2.2.2.1, fun w e b hb i hi => by rw [(hf3.1 43 (by decide) (by decide)).1]; exact hB3.2.2.2.2 w e b hb i hi⟩
  refine zx_aload_n dX11_tradesNow_0 rfl ?_
  refine zx_callV (y1 := iX11_peopleMany) dX11_tradesNow_1 lX11_158 vX11_peopleMany rc_33 (mX11_peopleMany hT) rfl rfl (Nat.le_of_ble_eq_true rfl) ?_
  refine zk_i ?_
  refine zx_istore_n dX11_tradesNow_4 rfl (Nat.le_of_ble_eq_true rfl) ?_
  refine zx_aload_n dX11_tradesNow_5 rfl ?_
  refine zx_iload_n dX11_tradesNow_6 rfl ?_
  refine zx_callV (y1 := iX11_layPeople) dX11_tradesNow_7 lX11_162 vX11_layPeople rc_33 (mX11_layPeople hT hq) rfl rfl (Nat.le_of_ble_eq_true rfl) ?_
  intro v M1 he
  obtain ⟨rfl, hf, h3⟩ := he
  refine zx_aload_n dX11_tradesNow_10 rfl ?_
  refine zx_ldc dX11_tradesNow_11 kX11_166 ?_
  refine zy_top (show (1048576 : Int32) = zn_I 1048576 from by decide) ?_
  refine zx_puti dX11_tradesNow_13 fX11_152 ?_
  refine zx_aload_n dX11_tradesNow_16 rfl ?_
  refine zx_ldc dX11_tradesNow_17 kX11_166 ?_
  refine zy_top (show (1048576 : Int32) = zn_I 1048576 from by decide) ?_
  refine zx_puti dX11_tradesNow_19 fX11_155 ?_
  refine zx_iconst (v := zn_I 1) dX11_tradesNow_22 rfl ?_
  refine zx_istore dX11_tradesNow_23 rfl (Nat.le_of_ble_eq_true rfl) ?_
  have hhd2 : (ze_ext (zt_m τ) (zt_m τ) [])[0]? = some (List.range (zt_m τ)) := by rw [← hhd, List.head?_eq_getElem?]
  refine LP (ze_ext (zt_m τ) (zt_m τ) []).length 0 _ _ (zt_sq τ q) _ _ (by omega) hhd2 (fun k hk => ?_) (mf_f (mf_f (mf_mono hf (by decide)) (by decide)) (by decide)) (fun i hi => ?_) (mt_arr_sq (mT_f (mf_f (mf_f (S := [40, 41, 42]) (F := [26, 27]) (mf_mono hf (by decide)) (by decide)) (by decide)) hT (by decide))) ?_
  · have := (h3 k hk).2.2
    rw [List.getD_eq_getElem?_getD, List.getElem?_range hk]
    simp [zw_s, this]
  · have := h3 i hi
    simp [zw_s, this.1, this.2.1]
  · exact ⟨by simp [zw_s, ze_fold, mb_w], by simp [zw_s, ze_fold, mb_m], Nat.le_refl _, Nat.le_refl _, fun w e b hb => by cases hb⟩
set_option maxRecDepth 100000 in
set_option maxHeartbeats 600000 in
theorem mX11_trades {l : Launch} {d : Nat} {M : zw_M} {σ : zZ} (hJ : zJ_ M σ) (hok : zok σ) {q : Int} (hqq : -2147483648 ≤ q ∧ q < 2147483648) {w : Int} (hww : -2147483648 ≤ w ∧ w < 2147483648) : zw_C l (d + 5) iX11_trades [.ref 33, .int (zn_I q), .int (zn_I w)] M (mO (zn_I (zk_trades σ q w)) (zk_tradesS σ q w) M) := by
  obtain ⟨hI, hT, hG, ⟨ha, hb, hc⟩, hM, hK⟩ := id hJ
  have hp := hI.1
  have h30 := zp_30 hp
  have h8 := hT.1
  have hr2 : M.1 33 2 = zn_I (zp_n σ.1) := hI.2.2.2.1
  have ht5 : M.1 33 5 = zn_I σ.2.1.1 := hT.2.1
  have hb30 := hok.1.1
  refine zw_of (by decide +kernel) (Nat.le_of_ble_eq_true rfl) ?_
  refine zy_loc (L1 := [.ref 33, .int (zn_I q), .int (zn_I w)]) rfl ?_
  refine zx_iload_n dX11_trades_0 rfl ?_
  refine zx_callS (y1 := iX11_isQuarter) dX11_trades_1 lX11_119 sX11_isQuarter (mX11_isQuarter hqq) rfl rfl (Nat.le_of_ble_eq_true rfl) ?_
  refine zk_i ?_
  refine zy_ifB_ne (tgt := 10) dX11_trades_4 (by decide) (fun h_4 => ?_) (fun h_4 => ?_)
  · refine zx_iload_n dX11_trades_10 rfl ?_
    refine zx_iconst (v := zn_I 0) dX11_trades_11 rfl ?_
    refine zx_iconst (v := zn_I 1) dX11_trades_12 rfl ?_
    refine zx_callS (y1 := iX11_within) dX11_trades_13 lX11_65 sX11_within (mX11_within (v := w) (a := 0) (b := 1) (by omega) (by omega) (by omega)) rfl rfl (Nat.le_of_ble_eq_true rfl) ?_
    refine zk_i ?_
    refine zy_ifB_ne (tgt := 33) dX11_trades_16 (by decide) (fun h_16 => ?_) (fun h_16 => ?_)
    · refine zx_aload_n dX11_trades_33 rfl ?_
      refine zy_geti dX11_trades_34 fX11_92 (hr2) ?_
      refine zy_if_eq (tgt := 58) dX11_trades_37 (by decide) (by omega) (fun h_37 => ?_) (fun h_37 => ?_)
      · refine zx_bipush (v := zn_I (-103)) dX11_trades_58 (by decide) ?_
        refine zx_iret (st := []) dX11_trades_60 rfl rfl ?_
        rw [zk_tradesS, if_neg (by omega)]
        exact mO_i hJ (by simp only [zk_trades, Int.toNat_natCast]; (repeat' split) <;> first | rfl | omega)
      · refine zx_aload_n dX11_trades_40 rfl ?_
        refine zx_callV (y1 := iX11_peopleMany) dX11_trades_41 lX11_158 vX11_peopleMany rc_33 (mX11_peopleMany hT) rfl rfl (Nat.le_of_ble_eq_true rfl) ?_
        refine zk_i ?_
        refine zx_bipush (v := zn_I 6) dX11_trades_44 (by decide) ?_
        refine zy_icmp_gt (tgt := 58) dX11_trades_46 (by decide) (by have := zt_pl_le σ.2.1 σ.2.1.1; have hpm : (zt_pl σ.2.1 σ.2.1.1).length = zt_m σ.2.1 := rfl; omega) (fun h_46 => ?_) (fun h_46 => ?_)
        · refine zx_bipush (v := zn_I (-103)) dX11_trades_58 (by decide) ?_
          refine zx_iret (st := []) dX11_trades_60 rfl rfl ?_
          rw [zk_tradesS, if_neg (by omega)]
          exact mO_i hJ (by simp only [zk_trades, Int.toNat_natCast]; (repeat' split) <;> first | rfl | omega)
        · refine zx_aload_n dX11_trades_49 rfl ?_
          refine zy_geti dX11_trades_50 fX11_173 (hb) ?_
          refine zx_bipush (v := zn_I 30) dX11_trades_53 (by decide) ?_
          refine zy_icmp_ne (tgt := 61) dX11_trades_55 (by decide) (by omega) (fun h_55 => ?_) (fun h_55 => ?_)
          · obtain ⟨q, rfl⟩ : ∃ n : Nat, q = (n : Int) := ⟨q.toNat, by omega⟩
            refine zx_aload_n dX11_trades_61 rfl ?_
            refine zx_dup dX11_trades_62 rfl ?_
            refine zy_geti dX11_trades_63 fX11_173 (hb) ?_
            refine zx_iconst (v := zn_I 1) dX11_trades_66 rfl ?_
            refine zy_iadd dX11_trades_67 ?_
            refine zx_puti dX11_trades_68 fX11_173 ?_
            refine zx_aload_n dX11_trades_71 rfl ?_
            refine zx_iload_n dX11_trades_72 rfl ?_
            refine zx_iload_n dX11_trades_73 rfl ?_
            refine zx_callV (y1 := iX11_tradesNow) dX11_trades_74 lX11_176 vX11_tradesNow rc_33 (mX11_tradesNow (M := zw_s M 33 9 (zn_I ((σ.2.2.2.1.2.1 : Int) + 1))) (mI_f (mf_f (S := []) (F := [9]) mf_rf (by decide)) hI (by decide)) (mT_f (mf_f (S := []) (F := [9]) mf_rf (by decide)) hT (by decide)) (mM_f (mf_f (S := []) (F := [9]) mf_rf (by decide)) hM (by decide)) (q := q) (by omega) (by omega) (w := w) (by omega)) rfl rfl (Nat.le_of_ble_eq_true rfl) ?_
            intro v M1 he
            obtain ⟨rfl, hf, hT1⟩ := he
            refine zx_iret (st := []) dX11_trades_77 rfl rfl ?_
            have hfa : mfr [37, 40, 41, 42, 43] [9, 26, 27] M M1 := mf_tr (mf_f mf_rf (by decide)) (mf_mono hf (by decide))
            rw [zk_tradesS, if_pos ⟨⟨by omega, by omega⟩, by omega, by omega, by omega⟩]
            refine mO_f (mf_mono hfa (by decide)) ⟨mI_f hfa hI (by decide), hT1, mG_f hfa hG (by decide), ⟨by rw [(hfa.2 3 (by decide)).1]; exact ha, ?_, by rw [(hfa.2 10 (by decide)).1]; exact hc⟩, mM_f hfa hM (by decide), mK_f hfa hK (by decide)⟩ (by rw [zk_trades, if_neg (by omega), if_neg (by omega), if_neg (fun r => r ⟨by omega, by omega, by omega⟩), Int.toNat_natCast])
            rw [(hf.2 9 (by decide)).1]
            simp [zw_s]
          · refine zx_bipush (v := zn_I (-103)) dX11_trades_58 (by decide) ?_
            refine zx_iret (st := []) dX11_trades_60 rfl rfl ?_
            rw [zk_tradesS, if_neg (by omega)]
            exact mO_i hJ (by simp only [zk_trades, Int.toNat_natCast]; (repeat' split) <;> first | rfl | omega)
    · refine zx_iload_n dX11_trades_19 rfl ?_
      refine zx_bipush (v := zn_I 10) dX11_trades_20 (by decide) ?_
      refine zx_bipush (v := zn_I 17) dX11_trades_22 (by decide) ?_
      refine zx_callS (y1 := iX11_within) dX11_trades_24 lX11_65 sX11_within (mX11_within (v := w) (a := 10) (b := 17) (by omega) (by omega) (by omega)) rfl rfl (Nat.le_of_ble_eq_true rfl) ?_
      refine zk_i ?_
      refine zy_ifB_ne (tgt := 33) dX11_trades_27 (by decide) (fun h_27 => ?_) (fun h_27 => ?_)
      · refine zx_aload_n dX11_trades_33 rfl ?_
        refine zy_geti dX11_trades_34 fX11_92 (hr2) ?_
        refine zy_if_eq (tgt := 58) dX11_trades_37 (by decide) (by omega) (fun h_37 => ?_) (fun h_37 => ?_)
        · refine zx_bipush (v := zn_I (-103)) dX11_trades_58 (by decide) ?_
          refine zx_iret (st := []) dX11_trades_60 rfl rfl ?_
          rw [zk_tradesS, if_neg (by omega)]
          exact mO_i hJ (by simp only [zk_trades, Int.toNat_natCast]; (repeat' split) <;> first | rfl | omega)
        · refine zx_aload_n dX11_trades_40 rfl ?_
          refine zx_callV (y1 := iX11_peopleMany) dX11_trades_41 lX11_158 vX11_peopleMany rc_33 (mX11_peopleMany hT) rfl rfl (Nat.le_of_ble_eq_true rfl) ?_
          refine zk_i ?_
          refine zx_bipush (v := zn_I 6) dX11_trades_44 (by decide) ?_
          refine zy_icmp_gt (tgt := 58) dX11_trades_46 (by decide) (by have := zt_pl_le σ.2.1 σ.2.1.1; have hpm : (zt_pl σ.2.1 σ.2.1.1).length = zt_m σ.2.1 := rfl; omega) (fun h_46 => ?_) (fun h_46 => ?_)
          · refine zx_bipush (v := zn_I (-103)) dX11_trades_58 (by decide) ?_
            refine zx_iret (st := []) dX11_trades_60 rfl rfl ?_
            rw [zk_tradesS, if_neg (by omega)]
            exact mO_i hJ (by simp only [zk_trades, Int.toNat_natCast]; (repeat' split) <;> first | rfl | omega)
          · refine zx_aload_n dX11_trades_49 rfl ?_
            refine zy_geti dX11_trades_50 fX11_173 (hb) ?_
            refine zx_bipush (v := zn_I 30) dX11_trades_53 (by decide) ?_
            refine zy_icmp_ne (tgt := 61) dX11_trades_55 (by decide) (by omega) (fun h_55 => ?_) (fun h_55 => ?_)
            · obtain ⟨q, rfl⟩ : ∃ n : Nat, q = (n : Int) := ⟨q.toNat, by omega⟩
              refine zx_aload_n dX11_trades_61 rfl ?_
              refine zx_dup dX11_trades_62 rfl ?_
              refine zy_geti dX11_trades_63 fX11_173 (hb) ?_
              refine zx_iconst (v := zn_I 1) dX11_trades_66 rfl ?_
              refine zy_iadd dX11_trades_67 ?_
              refine zx_puti dX11_trades_68 fX11_173 ?_
              refine zx_aload_n dX11_trades_71 rfl ?_
              refine zx_iload_n dX11_trades_72 rfl ?_
              refine zx_iload_n dX11_trades_73 rfl ?_
              refine zx_callV (y1 := iX11_tradesNow) dX11_trades_74 lX11_176 vX11_tradesNow rc_33 (mX11_tradesNow (M := zw_s M 33 9 (zn_I ((σ.2.2.2.1.2.1 : Int) + 1))) (mI_f (mf_f (S := []) (F := [9]) mf_rf (by decide)) hI (by decide)) (mT_f (mf_f (S := []) (F := [9]) mf_rf (by decide)) hT (by decide)) (mM_f (mf_f (S := []) (F := [9]) mf_rf (by decide)) hM (by decide)) (q := q) (by omega) (by omega) (w := w) (by omega)) rfl rfl (Nat.le_of_ble_eq_true rfl) ?_
              intro v M1 he
              obtain ⟨rfl, hf, hT1⟩ := he
              refine zx_iret (st := []) dX11_trades_77 rfl rfl ?_
              have hfa : mfr [37, 40, 41, 42, 43] [9, 26, 27] M M1 := mf_tr (mf_f mf_rf (by decide)) (mf_mono hf (by decide))
              rw [zk_tradesS, if_pos ⟨⟨by omega, by omega⟩, by omega, by omega, by omega⟩]
              refine mO_f (mf_mono hfa (by decide)) ⟨mI_f hfa hI (by decide), hT1, mG_f hfa hG (by decide), ⟨by rw [(hfa.2 3 (by decide)).1]; exact ha, ?_, by rw [(hfa.2 10 (by decide)).1]; exact hc⟩, mM_f hfa hM (by decide), mK_f hfa hK (by decide)⟩ (by rw [zk_trades, if_neg (by omega), if_neg (by omega), if_neg (fun r => r ⟨by omega, by omega, by omega⟩), Int.toNat_natCast])
              rw [(hf.2 9 (by decide)).1]
              simp [zw_s]
            · refine zx_bipush (v := zn_I (-103)) dX11_trades_58 (by decide) ?_
              refine zx_iret (st := []) dX11_trades_60 rfl rfl ?_
              rw [zk_tradesS, if_neg (by omega)]
              exact mO_i hJ (by simp only [zk_trades, Int.toNat_natCast]; (repeat' split) <;> first | rfl | omega)
      · refine zx_bipush (v := zn_I (-102)) dX11_trades_30 (by decide) ?_
        refine zx_iret (st := []) dX11_trades_32 rfl rfl ?_
        rw [zk_tradesS, if_neg (by omega)]
        exact mO_i hJ (by simp only [zk_trades, Int.toNat_natCast]; (repeat' split) <;> first | rfl | omega)
  · refine zx_bipush (v := zn_I (-101)) dX11_trades_7 (by decide) ?_
    refine zx_iret (st := []) dX11_trades_9 rfl rfl ?_
    rw [zk_tradesS, if_neg (by omega)]
    exact mO_i hJ (by simp only [zk_trades, Int.toNat_natCast]; (repeat' split) <;> first | rfl | omega)
