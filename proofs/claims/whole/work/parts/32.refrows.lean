/-! THE REFERENCE'S TRADES: the walks -/
theorem mn_x_row {M : zw_M} {f : Nat → Nat} {m i j : Nat} (hf : ∀ k, k < m → M.1 42 k = zn_I (f k : Nat)) (hi : i < m) (hj : j < m) : ∀ k, k < m → (zw_s (zw_s M 42 i (zn_I (f j : Nat))) 42 j (zn_I (f i : Nat))).1 42 k = zn_I (mn_x f i j k : Nat) := fun k hk => by
  simp only [zw_s, mn_x, true_and]
  by_cases e : k = j
  · rw [if_pos e, if_pos e]
  · rw [if_neg e, if_neg e]
    by_cases e2 : k = i
    · rw [if_pos e2, if_pos e2]
    · rw [if_neg e2, if_neg e2]; exact hf k hk
theorem mn_x_lt {f : Nat → Nat} {m i j : Nat} (hf : ∀ k, k < m → f k < 8) (hi : i < m) (hj : j < m) : ∀ k, k < m → mn_x f i j k < 8 := fun k hk => by
  unfold mn_x
  split
  · exact hf i hi
  · split
    · exact hf j hj
    · exact hf k hk
set_option maxRecDepth 100000 in
set_option maxHeartbeats 600000 in
theorem mX11_exchange {l : Launch} {d : Nat} {M : zw_M} {m : Nat} {f : Nat → Nat} (hm : m ≤ 8) (hf : ∀ k, k < m → M.1 42 k = zn_I (f k : Nat)) (hfl : ∀ k, k < m → f k < 8) {i j : Nat} (hi : i < m) (hj : j < m) : zw_C l d iX11_exchange [.ref 33, .int (zn_I (i : Int)), .int (zn_I (j : Int))] M (zw_u (zw_s (zw_s M 42 i (zn_I (f j : Nat))) 42 j (zn_I (f i : Nat)))) := by
  refine zw_of (by decide +kernel) (Nat.le_of_ble_eq_true rfl) ?_
  refine zy_loc (L1 := [.ref 33, .int (zn_I (i : Int)), .int (zn_I (j : Int)), .retAddr 0]) rfl ?_
  refine zx_aload_n dX11_exchange_0 rfl ?_
  refine zx_getr dX11_exchange_1 fX11_35 ?_
  refine zx_iload_n dX11_exchange_4 rfl ?_
  refine zy_iald (i := i) dX11_exchange_5 rfl (by decide) (by omega) (by omega) (hf i hi) ?_
  refine zx_istore_n dX11_exchange_6 rfl (Nat.le_of_ble_eq_true rfl) ?_
  refine zx_aload_n dX11_exchange_7 rfl ?_
  refine zx_getr dX11_exchange_8 fX11_35 ?_
  refine zx_iload_n dX11_exchange_11 rfl ?_
  refine zx_aload_n dX11_exchange_12 rfl ?_
  refine zx_getr dX11_exchange_13 fX11_35 ?_
  refine zx_iload_n dX11_exchange_16 rfl ?_
  refine zy_iald (i := j) dX11_exchange_17 rfl (by decide) (by omega) (by omega) (hf j hj) ?_
  refine zy_iast (i := i) dX11_exchange_18 rfl (by decide) (by omega) (by omega) ?_
  refine zx_aload_n dX11_exchange_19 rfl ?_
  refine zx_getr dX11_exchange_20 fX11_35 ?_
  refine zx_iload_n dX11_exchange_23 rfl ?_
  refine zx_iload_n dX11_exchange_24 rfl ?_
  refine zy_iast (i := j) dX11_exchange_25 rfl (by decide) (by omega) (by omega) ?_
  refine zx_vret (st := []) dX11_exchange_26 rfl ?_
  exact ⟨rfl, rfl⟩
set_option maxRecDepth 100000 in
set_option maxHeartbeats 600000 in
theorem mX11_nextTakes {l : Launch} {d : Nat} {M : zw_M} {m : Nat} {f : Nat → Nat} (hm : m ≤ 8) (hf : ∀ k, k < m → M.1 42 k = zn_I (f k : Nat)) (hfl : ∀ k, k < m → f k < 8) : zw_C l (d + 1) iX11_nextTakes [.ref 33, .int (zn_I (m : Int))] M (fun v M1 => (mn_next m f = none ∧ v = some (.int (zn_I 0)) ∧ M1 = M) ∨ ∃ g, mn_next m f = some g ∧ v = some (.int (zn_I 1)) ∧ mfr [42] [] M M1 ∧ (∀ k, k < m → M1.1 42 k = zn_I (g k : Nat)) ∧ ∀ k, k < m → g k < 8) := by
  refine zw_of (by decide +kernel) (Nat.le_of_ble_eq_true rfl) ?_
  refine zy_loc (L1 := [.ref 33, .int (zn_I (m : Int)), .retAddr 0, .retAddr 0, .retAddr 0]) rfl ?_
  have LR : 0 < mn_k f (m - 1) → ∀ (n A : Nat) (M1 : zw_M) (g : Nat → Nat), 8 ≤ A + n ∧ A + n ≤ 16 → (mn_k f (m - 1) - 1) + 1 ≤ A → mfr [42] [] M M1 → (∀ k, k < m → M1.1 42 k = zn_I (g k : Nat)) → (∀ k, k < m → g k < 8) → mn_next m f = some (mn_r m (mn_k f (m - 1) - 1) n A g) → ∀ v3 : Int32, zw_X l (d + 1) iX11_nextTakes (fun v M1 => (mn_next m f = none ∧ v = some (.int (zn_I 0)) ∧ M1 = M) ∨ ∃ g, mn_next m f = some g ∧ v = some (.int (zn_I 1)) ∧ mfr [42] [] M M1 ∧ (∀ k, k < m → M1.1 42 k = zn_I (g k : Nat)) ∧ ∀ k, k < m → g k < 8) 73 [.ref 33, .int (zn_I (m : Int)), .int (zn_I ((mn_k f (m - 1) - 1) : Nat)), .int v3, .int (zn_I (A : Int))] [] M1 := by
    intro h0 n
    have hkl := mn_k_le f (m - 1)
    have hKi : (((mn_k f (m - 1) - 1) : Nat) : Int) = (mn_k f (m - 1) : Int) - 1 := by omega
    induction n with
    | zero =>
      intro A M1 g hA hA2 hfr hg hgl hn v3
      refine zx_iload dX11_nextTakes_73 rfl ?_
      refine zx_iload_n dX11_nextTakes_75 rfl ?_
      refine zx_iload dX11_nextTakes_76 rfl ?_
      refine zy_isub dX11_nextTakes_78 ?_
      refine zx_iload_n dX11_nextTakes_79 rfl ?_
      refine zy_iadd dX11_nextTakes_80 ?_
      refine zy_icmp_ge (tgt := 102) dX11_nextTakes_81 (by decide) (by omega) (fun h_81 => ?_) (fun h_81 => ?_)
      · refine zx_iconst (v := zn_I 1) dX11_nextTakes_102 rfl ?_
        refine zx_iret (st := []) dX11_nextTakes_103 rfl rfl ?_
        exact Or.inr ⟨_, hn, rfl, hfr, hg, hgl⟩
      · exact absurd h_81 (by omega)
    | succ n ih =>
      intro A M1 g hA hA2 hfr hg hgl hn v3
      refine zx_iload dX11_nextTakes_73 rfl ?_
      refine zx_iload_n dX11_nextTakes_75 rfl ?_
      refine zx_iload dX11_nextTakes_76 rfl ?_
      refine zy_isub dX11_nextTakes_78 ?_
      refine zx_iload_n dX11_nextTakes_79 rfl ?_
      refine zy_iadd dX11_nextTakes_80 ?_
      refine zy_icmp_ge (tgt := 102) dX11_nextTakes_81 (by decide) (by omega) (fun h_81 => ?_) (fun h_81 => ?_)
      · rw [mn_r, if_neg (by omega)] at hn
        refine zx_iconst (v := zn_I 1) dX11_nextTakes_102 rfl ?_
        refine zx_iret (st := []) dX11_nextTakes_103 rfl rfl ?_
        exact Or.inr ⟨_, hn, rfl, hfr, hg, hgl⟩
      · rw [mn_r, if_pos (by omega)] at hn
        have hi1 : A < m := by omega
        have hj1 : m + (mn_k f (m - 1) - 1) - A < m := by omega
        refine zx_aload_n dX11_nextTakes_84 rfl ?_
        refine zx_iload dX11_nextTakes_85 rfl ?_
        refine zx_iload_n dX11_nextTakes_87 rfl ?_
        refine zx_iload dX11_nextTakes_88 rfl ?_
        refine zy_isub dX11_nextTakes_90 ?_
        refine zx_iload_n dX11_nextTakes_91 rfl ?_
        refine zy_iadd dX11_nextTakes_92 ?_
        rw [show (m : Int) - (A : Int) + (((mn_k f (m - 1) - 1) : Nat) : Int) = ((m + (mn_k f (m - 1) - 1) - A : Nat) : Int) by omega]
        refine zx_callV (y1 := iX11_exchange) dX11_nextTakes_93 lX11_149 vX11_exchange rc_33 (mX11_exchange hm hg hgl hi1 hj1) rfl rfl (Nat.le_of_ble_eq_true rfl) ?_
        refine zk_u ?_
        refine zy_iinc dX11_nextTakes_96 rfl rfl ?_
        refine zx_goto (tgt := 73) dX11_nextTakes_99 (by decide) ?_
        exact ih (A + 1) _ _ (by omega) (by omega) (mf_s (mf_s hfr (by decide) (by decide)) (by decide) (by decide)) (mn_x_row hg hi1 hj1) (mn_x_lt hgl hi1 hj1) hn _
  have LM : 0 < mn_k f (m - 1) → ∀ j : Nat, mn_k f (m - 1) ≤ j → j < m → mn_m f (f (mn_k f (m - 1) - 1)) j = mn_m f (f (mn_k f (m - 1) - 1)) (m - 1) → ∀ v4 : Value, zw_X l (d + 1) iX11_nextTakes (fun v M1 => (mn_next m f = none ∧ v = some (.int (zn_I 0)) ∧ M1 = M) ∨ ∃ g, mn_next m f = some g ∧ v = some (.int (zn_I 1)) ∧ mfr [42] [] M M1 ∧ (∀ k, k < m → M1.1 42 k = zn_I (g k : Nat)) ∧ ∀ k, k < m → g k < 8) 41 [.ref 33, .int (zn_I (m : Int)), .int (zn_I ((mn_k f (m - 1) - 1) : Nat)), .int (zn_I (j : Int)), v4] [] M := by
    intro h0 j
    have hkl := mn_k_le f (m - 1)
    have hup := mn_k_up f (m - 1) h0
    induction j with
    | zero => intro hj; exact absurd hj (by omega)
    | succ j ih =>
      intro hj hjm he v4
      refine zx_aload_n dX11_nextTakes_41 rfl ?_
      refine zx_getr dX11_nextTakes_42 fX11_35 ?_
      refine zx_iload_n dX11_nextTakes_45 rfl ?_
      refine zy_iald (i := j + 1) dX11_nextTakes_46 rfl (by decide) (by omega) (by omega) (hf (j + 1) (by omega)) ?_
      refine zx_aload_n dX11_nextTakes_47 rfl ?_
      refine zx_getr dX11_nextTakes_48 fX11_35 ?_
      refine zx_iload_n dX11_nextTakes_51 rfl ?_
      refine zy_iald (i := (mn_k f (m - 1) - 1)) dX11_nextTakes_52 rfl (by decide) (by omega) (by omega) (hf (mn_k f (m - 1) - 1) (by omega)) ?_
      refine zy_icmp_ge (tgt := 62) dX11_nextTakes_53 (by decide) (by have := hfl (j + 1) hjm; have := hfl (mn_k f (m - 1) - 1) (by omega); omega) (fun h_53 => ?_) (fun h_53 => ?_)
      · rw [mn_m, if_neg (by omega)] at he
        refine zx_aload_n dX11_nextTakes_62 rfl ?_
        refine zx_iload_n dX11_nextTakes_63 rfl ?_
        refine zx_iload_n dX11_nextTakes_64 rfl ?_
        refine zx_callV (y1 := iX11_exchange) dX11_nextTakes_65 lX11_149 vX11_exchange rc_33 (mX11_exchange hm hf hfl (i := (mn_k f (m - 1) - 1)) (j := j + 1) (by omega) hjm) rfl rfl (Nat.le_of_ble_eq_true rfl) ?_
        refine zk_u ?_
        refine zx_iload_n dX11_nextTakes_68 rfl ?_
        refine zx_iconst (v := zn_I 1) dX11_nextTakes_69 rfl ?_
        refine zy_iadd dX11_nextTakes_70 ?_
        refine zx_istore dX11_nextTakes_71 rfl (Nat.le_of_ble_eq_true rfl) ?_
        exact LR h0 8 ((mn_k f (m - 1) - 1) + 1) _ _ (by omega) (Nat.le_refl _) (mf_s (mf_s mf_rf (by decide) (by decide)) (by decide) (by decide)) (mn_x_row hf (i := (mn_k f (m - 1) - 1)) (j := j + 1) (by omega) hjm) (mn_x_lt hfl (i := (mn_k f (m - 1) - 1)) (j := j + 1) (by omega) hjm) (by rw [mn_next, if_neg (by omega), ← he, show (mn_k f (m - 1) - 1) + 1 = mn_k f (m - 1) by omega]) _
      · have hjk : mn_k f (m - 1) ≠ j + 1 := fun e => by rw [e] at hup h_53; omega
        rw [mn_m, if_pos (by omega)] at he
        refine zy_iinc dX11_nextTakes_56 rfl rfl ?_
        refine zx_goto (tgt := 41) dX11_nextTakes_59 (by decide) ?_
        rw [show ((j + 1 : Nat) : Int) + -1 = (j : Int) by omega]
        exact ih (by omega) (by omega) he _
  have LK : ∀ j : Nat, j ≤ m - 1 → mn_k f j = mn_k f (m - 1) → ∀ v3 v4 : Value, zw_X l (d + 1) iX11_nextTakes (fun v M1 => (mn_next m f = none ∧ v = some (.int (zn_I 0)) ∧ M1 = M) ∨ ∃ g, mn_next m f = some g ∧ v = some (.int (zn_I 1)) ∧ mfr [42] [] M M1 ∧ (∀ k, k < m → M1.1 42 k = zn_I (g k : Nat)) ∧ ∀ k, k < m → g k < 8) 4 [.ref 33, .int (zn_I (m : Int)), .int (zn_I ((j : Int) - 1)), v3, v4] [] M := by
    intro j
    induction j with
    | zero =>
      intro hj he v3 v4
      refine zx_iload_n dX11_nextTakes_4 rfl ?_
      refine zy_if_lt (tgt := 31) dX11_nextTakes_5 (by decide) (by omega) (fun h_5 => ?_) (fun h_5 => ?_)
      · refine zx_iload_n dX11_nextTakes_31 rfl ?_
        refine zy_if_ge (tgt := 37) dX11_nextTakes_32 (by decide) (by omega) (fun h_32 => ?_) (fun h_32 => ?_)
        · exact absurd h_32 (by decide)
        · refine zx_iconst (v := zn_I 0) dX11_nextTakes_35 rfl ?_
          refine zx_iret (st := []) dX11_nextTakes_36 rfl rfl ?_
          exact Or.inl ⟨by rw [mn_next, if_pos (by rw [← he]; rfl)], rfl, rfl⟩
      · exact absurd h_5 (by decide)
    | succ j ih =>
      intro hj he v3 v4
      rw [show ((j + 1 : Nat) : Int) - 1 = (j : Int) by omega]
      refine zx_iload_n dX11_nextTakes_4 rfl ?_
      refine zy_if_lt (tgt := 31) dX11_nextTakes_5 (by decide) (by omega) (fun h_5 => ?_) (fun h_5 => ?_)
      · exact absurd h_5 (by omega)
      · refine zx_aload_n dX11_nextTakes_8 rfl ?_
        refine zx_getr dX11_nextTakes_9 fX11_35 ?_
        refine zx_iload_n dX11_nextTakes_12 rfl ?_
        refine zy_iald (i := j) dX11_nextTakes_13 rfl (by decide) (by omega) (by omega) (hf j (by omega)) ?_
        refine zx_aload_n dX11_nextTakes_14 rfl ?_
        refine zx_getr dX11_nextTakes_15 fX11_35 ?_
        refine zx_iload_n dX11_nextTakes_18 rfl ?_
        refine zx_iconst (v := zn_I 1) dX11_nextTakes_19 rfl ?_
        refine zy_iadd dX11_nextTakes_20 ?_
        refine zy_iald (i := j + 1) dX11_nextTakes_21 rfl (by decide) (by omega) (by omega) (hf (j + 1) (by omega)) ?_
        refine zy_icmp_le (tgt := 31) dX11_nextTakes_22 (by decide) (by have := hfl j (by omega); have := hfl (j + 1) (by omega); omega) (fun h_22 => ?_) (fun h_22 => ?_)
        · rw [mn_k, if_neg (by omega)] at he
          refine zx_iload_n dX11_nextTakes_31 rfl ?_
          refine zy_if_ge (tgt := 37) dX11_nextTakes_32 (by decide) (by omega) (fun h_32 => ?_) (fun h_32 => ?_)
          · refine zx_iload_n dX11_nextTakes_37 rfl ?_
            refine zx_iconst (v := zn_I 1) dX11_nextTakes_38 rfl ?_
            refine zy_isub dX11_nextTakes_39 ?_
            refine zx_istore_n dX11_nextTakes_40 rfl (Nat.le_of_ble_eq_true rfl) ?_
            have h9 := LM (by omega) (m - 1) (by omega) (by omega) rfl v4
            rw [← he, Nat.add_sub_cancel, show ((m - 1 : Nat) : Int) = (m : Int) - 1 by omega] at h9
            exact h9
          · exact absurd h_32 (by omega)
        · rw [mn_k, if_pos (by omega)] at he
          refine zy_iinc dX11_nextTakes_25 rfl rfl ?_
          refine zx_goto (tgt := 4) dX11_nextTakes_28 (by decide) ?_
          rw [show (j : Int) + -1 = (j : Int) - 1 by omega]
          exact ih (by omega) he _ _
  refine zx_iload_n dX11_nextTakes_0 rfl ?_
  refine zx_iconst (v := zn_I 2) dX11_nextTakes_1 rfl ?_
  refine zy_isub dX11_nextTakes_2 ?_
  refine zx_istore_n dX11_nextTakes_3 rfl (Nat.le_of_ble_eq_true rfl) ?_
  rcases Nat.lt_or_ge m 1 with hm0 | hm0
  · have hm00 : m = 0 := by omega
    subst hm00
    refine zx_iload_n dX11_nextTakes_4 rfl ?_
    refine zy_if_lt (tgt := 31) dX11_nextTakes_5 (by decide) (by omega) (fun h_5 => ?_) (fun h_5 => ?_)
    · refine zx_iload_n dX11_nextTakes_31 rfl ?_
      refine zy_if_ge (tgt := 37) dX11_nextTakes_32 (by decide) (by omega) (fun h_32 => ?_) (fun h_32 => ?_)
      · exact absurd h_32 (by decide)
      · refine zx_iconst (v := zn_I 0) dX11_nextTakes_35 rfl ?_
        refine zx_iret (st := []) dX11_nextTakes_36 rfl rfl ?_
        exact Or.inl ⟨if_pos rfl, rfl, rfl⟩
    · exact absurd h_5 (by decide)
  · rw [show (m : Int) - 2 = ((m - 1 : Nat) : Int) - 1 by omega]
    exact LK (m - 1) (Nat.le_refl _) rfl _ _
set_option maxRecDepth 100000 in
set_option maxHeartbeats 600000 in
theorem mX11_layPeople {l : Launch} {d : Nat} {M : zw_M} {n : Nat} {τ : zQ} (hT : mT M n τ) {q : Nat} (hq : q < 8) : zw_C l (d + 1) iX11_layPeople [.ref 33, .int (zn_I (q : Int))] M (fun v M1 => v = none ∧ mfr [40, 41, 42] [] M M1 ∧ ∀ i, i < zt_m τ → M1.1 40 i = zn_I (zt_pe τ i : Nat) ∧ M1.1 41 i = zn_I (zt_sq τ q i : Nat) ∧ M1.1 42 i = zn_I (i : Nat)) := by
  have h8 := hT.1
  have ht5 : M.1 33 5 = zn_I τ.1 := hT.2.1
  refine zw_of (by decide +kernel) (Nat.le_of_ble_eq_true rfl) ?_
  refine zy_loc (L1 := [.ref 33, .int (zn_I (q : Int)), .retAddr 0, .retAddr 0]) rfl ?_
  have loop : ∀ t : Nat, t ≤ τ.1 → ∀ M1 : zw_M, mfr [40, 41, 42] [] M M1 → (∀ i, i < (zt_pl τ t).length → M1.1 40 i = zn_I (zt_pe τ i : Nat) ∧ M1.1 41 i = zn_I (zt_sq τ q i : Nat) ∧ M1.1 42 i = zn_I (i : Nat)) → zw_X l (d + 1) iX11_layPeople (fun v M1 => v = none ∧ mfr [40, 41, 42] [] M M1 ∧ ∀ i, i < zt_m τ → M1.1 40 i = zn_I (zt_pe τ i : Nat) ∧ M1.1 41 i = zn_I (zt_sq τ q i : Nat) ∧ M1.1 42 i = zn_I (i : Nat)) 4 [.ref 33, .int (zn_I (q : Int)), .int (zn_I ((zt_pl τ t).length : Nat)), .int (zn_I (t : Int))] [] M1 := by
    refine zw_loop τ.1 (P := fun t => ∀ M1 : zw_M, mfr [40, 41, 42] [] M M1 → (∀ i, i < (zt_pl τ t).length → M1.1 40 i = zn_I (zt_pe τ i : Nat) ∧ M1.1 41 i = zn_I (zt_sq τ q i : Nat) ∧ M1.1 42 i = zn_I (i : Nat)) → zw_X l (d + 1) iX11_layPeople (fun v M1 => v = none ∧ mfr [40, 41, 42] [] M M1 ∧ ∀ i, i < zt_m τ → M1.1 40 i = zn_I (zt_pe τ i : Nat) ∧ M1.1 41 i = zn_I (zt_sq τ q i : Nat) ∧ M1.1 42 i = zn_I (i : Nat)) 4 [.ref 33, .int (zn_I (q : Int)), .int (zn_I ((zt_pl τ t).length : Nat)), .int (zn_I (t : Int))] [] M1) (fun t ht ih M1 hf hc => ?_)
    have hle := zt_pl_le τ t
    refine zx_iload_n dX11_layPeople_4 rfl ?_
    refine zx_aload_n dX11_layPeople_5 rfl ?_
    refine zy_geti dX11_layPeople_6 fX11_95 ((show _ = zn_I (τ.1 : Int) from by rw [(hf.2 5 (by decide)).1]; exact ht5)) ?_
    refine zy_icmp_ge (tgt := 60) dX11_layPeople_9 (by decide) (by omega) (fun h_9 => ?_) (fun h_9 => ?_)
    · refine zx_vret (st := []) dX11_layPeople_60 rfl ?_
      exact ⟨rfl, hf, fun i hi => hc i (by rw [show t = τ.1 by omega]; exact hi)⟩
    · refine zx_aload_n dX11_layPeople_12 rfl ?_
      refine zx_iload_n dX11_layPeople_13 rfl ?_
      refine zx_callV (y1 := iX11_isPerson) dX11_layPeople_14 lX11_122 vX11_isPerson rc_33 (mX11_isPerson (mT_f hf hT (by decide)) (t := t) (by omega)) rfl rfl (Nat.le_of_ble_eq_true rfl) ?_
      refine zk_i ?_
      refine zy_ifB_eq (tgt := 54) dX11_layPeople_17 (by decide) (fun h_17 => ?_) (fun h_17 => ?_)
      · refine zy_iinc dX11_layPeople_54 rfl rfl ?_
        refine zx_goto (tgt := 4) dX11_layPeople_57 (by decide) ?_
        have hpl : zt_pl τ (t + 1) = zt_pl τ t := by rw [zt_pl, if_neg h_17]
        have h9 := ih (by omega) M1 hf (by rw [hpl]; exact hc)
        rw [hpl] at h9
        exact h9
      · refine zx_aload_n dX11_layPeople_20 rfl ?_
        refine zx_getr dX11_layPeople_21 fX11_29 ?_
        refine zx_iload_n dX11_layPeople_24 rfl ?_
        refine zx_iload_n dX11_layPeople_25 rfl ?_
        refine zy_iast (i := (zt_pl τ t).length) dX11_layPeople_26 rfl (by decide) (by omega) (by omega) ?_
        refine zx_aload_n dX11_layPeople_27 rfl ?_
        refine zx_getr dX11_layPeople_28 fX11_32 ?_
        refine zx_iload_n dX11_layPeople_31 rfl ?_
        refine zx_aload_n dX11_layPeople_32 rfl ?_
        refine zx_getr dX11_layPeople_33 fX11_19 ?_
        refine zx_bipush (v := zn_I 8) dX11_layPeople_36 (by decide) ?_
        refine zx_iload_n dX11_layPeople_38 rfl ?_
        refine zy_imul dX11_layPeople_39 ?_
        refine zx_iload_n dX11_layPeople_40 rfl ?_
        refine zy_iadd dX11_layPeople_41 ?_
        refine zy_iald (i := 8 * t + q) dX11_layPeople_42 rfl (by decide) (by omega) (by omega) ((show _ = zn_I (τ.2.2.2 t q : Nat) from by simp only [zw_s, show ¬ (37 = 40) by decide, false_and, if_false]; rw [(hf.1 37 (by decide) (by decide)).1]; exact hT.2.2.2.2.1 t (by omega) q hq)) ?_
        refine zy_iast (i := (zt_pl τ t).length) dX11_layPeople_43 rfl (by decide) (by omega) (by omega) ?_
        refine zx_aload_n dX11_layPeople_44 rfl ?_
        refine zx_getr dX11_layPeople_45 fX11_35 ?_
        refine zx_iload_n dX11_layPeople_48 rfl ?_
        refine zx_iload_n dX11_layPeople_49 rfl ?_
        refine zy_iast (i := (zt_pl τ t).length) dX11_layPeople_50 rfl (by decide) (by omega) (by omega) ?_
        refine zy_iinc dX11_layPeople_51 rfl rfl ?_
        refine zy_iinc dX11_layPeople_54 rfl rfl ?_
        refine zx_goto (tgt := 4) dX11_layPeople_57 (by decide) ?_
        have hpx := zt_pe_at h_17 (show t < τ.1 by omega)
        have hlen : (zt_pl τ (t + 1)).length = (zt_pl τ t).length + 1 := by rw [zt_pl_len, if_pos h_17]
        have h9 := ih (by omega) _ (mf_s (mf_s (mf_s hf (q := 40) (k := (zt_pl τ t).length) (x := zn_I (t : Int)) (by decide) (by decide)) (q := 41) (k := (zt_pl τ t).length) (x := zn_I (τ.2.2.2 t q : Nat)) (by decide) (by decide)) (q := 42) (k := (zt_pl τ t).length) (x := zn_I ((zt_pl τ t).length : Nat)) (by decide) (by decide)) (fun i hi => by
          rw [hlen] at hi
          by_cases e : i = (zt_pl τ t).length
          · subst e
            refine ⟨?_, ?_, ?_⟩ <;> simp [zw_s, zt_sq, hpx.2]
          · have := hc i (by omega)
            refine ⟨?_, ?_, ?_⟩ <;> simp [zw_s, e, this.1, this.2.1, this.2.2])
        rw [hlen] at h9
        exact h9
  refine zx_iconst (v := zn_I 0) dX11_layPeople_0 rfl ?_
  refine zx_istore_n dX11_layPeople_1 rfl (Nat.le_of_ble_eq_true rfl) ?_
  refine zx_iconst (v := zn_I 0) dX11_layPeople_2 rfl ?_
  refine zx_istore_n dX11_layPeople_3 rfl (Nat.le_of_ble_eq_true rfl) ?_
  exact loop 0 (by omega) M mf_rf (fun i hi => absurd hi (by simp [zt_pl]))
