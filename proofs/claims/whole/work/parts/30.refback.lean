/-! the reference goes back to an image -/
set_option maxRecDepth 100000 in
set_option maxHeartbeats 600000 in
theorem mX11_restore {l : Launch} {d : Nat} {M : zw_M} {σ : zZ} (hJ : zJ_ M σ) (hok : zok σ) (hba : σ.2.2.2.1.1 < 1000000) : zw_C l d iX11_restore [.ref 33] M (mO (zn_I (zk_restore σ)) (zk_restoreS σ) M) := by
  obtain ⟨hI, hT, hG, ⟨ha, hb, hc⟩, hM, hK⟩ := id hJ
  have h8 := hT.1
  have hok2 := hok.2.2
  obtain ⟨π, τ, ρ, ⟨a, b, c⟩, κ⟩ := σ
  dsimp only at hI hT hG ha hb hc hM hK hok2 h8 hba
  cases κ with
  | none =>
    obtain ⟨w, p, w1, w2, w3, w4⟩ := hK
    refine zw_of (by decide +kernel) (Nat.le_of_ble_eq_true rfl) ?_
    refine zy_loc (L1 := [.ref 33, .retAddr 0]) rfl ?_
    refine zx_aload_n dX11_restore_0 rfl ?_
    refine zy_geti dX11_restore_1 fX11_269 (w1) ?_
    refine zy_if_eq (tgt := 18) dX11_restore_4 (by decide) (by omega) (fun h_4 => ?_) (fun h_4 => ?_)
    · refine zx_bipush (v := zn_I (-103)) dX11_restore_18 (by decide) ?_
      refine zx_iret (st := []) dX11_restore_20 rfl rfl ?_
      exact mO_i hJ rfl
    · refine zx_aload_n dX11_restore_7 rfl ?_
      refine zy_geti dX11_restore_8 fX11_272 (w3) ?_
      refine zx_aload_n dX11_restore_11 rfl ?_
      refine zy_geti dX11_restore_12 fX11_98 (ha) ?_
      refine zy_icmp_eq (tgt := 21) dX11_restore_15 (by decide) (by omega) (fun h_15 => ?_) (fun h_15 => ?_)
      · exact absurd h_15 (by omega)
      · refine zx_bipush (v := zn_I (-103)) dX11_restore_18 (by decide) ?_
        refine zx_iret (st := []) dX11_restore_20 rfl rfl ?_
        exact mO_i hJ rfl
  | some x =>
    obtain ⟨K, P⟩ := x
    obtain ⟨w1, w3, w5, hkP⟩ := hK
    obtain ⟨hKt, hKn, hKp⟩ : K ≤ τ.1 ∧ (∀ t, t < K → ∀ q, q < 8 → P t q < zp_n π) ∧ ∀ t, t < K → ¬ zt_per τ t → ∀ q, q < 8 → P t q = P t 0 := hok2
    have loop : ∀ k : Nat, k ≤ 64 → ∀ M1 : zw_M, mfr [37] [5] M M1 → M1.1 33 5 = zn_I (K : Int) → (∀ j, j < k → M1.1 37 j = M.1 46 j) → zw_X l d iX11_restore (mO (zn_I (zk_restore (π, τ, ρ, (a, b, c), some (K, P)))) (zk_restoreS (π, τ, ρ, (a, b, c), some (K, P))) M) 31 [.ref 33, .int (zn_I (k : Int))] [] M1 := by
      refine zw_loop 64 (P := fun k => ∀ M1 : zw_M, mfr [37] [5] M M1 → M1.1 33 5 = zn_I (K : Int) → (∀ j, j < k → M1.1 37 j = M.1 46 j) → zw_X l d iX11_restore (mO (zn_I (zk_restore (π, τ, ρ, (a, b, c), some (K, P)))) (zk_restoreS (π, τ, ρ, (a, b, c), some (K, P))) M) 31 [.ref 33, .int (zn_I (k : Int))] [] M1) (fun k hk ih M1 hf h5 hcp => ?_)
      refine zx_iload_n dX11_restore_31 rfl ?_
      refine zx_bipush (v := zn_I 64) dX11_restore_32 (by decide) ?_
      refine zy_icmp_ge (tgt := 55) dX11_restore_34 (by decide) (by omega) (fun h_34 => ?_) (fun h_34 => ?_)
      · refine zx_aload_n dX11_restore_55 rfl ?_
        refine zy_geti dX11_restore_56 fX11_95 (h5) ?_
        refine zx_iret (st := []) dX11_restore_59 rfl rfl ?_
        have hk6 : k = 64 := by omega
        subst hk6
        refine ⟨rfl, mf_mono hf (by decide), mI_f hf hI (by decide), ⟨by show K ≤ 8; omega, h5, fun t ht => ?_, fun t ht => ?_, fun t ht q hq => ?_, fun t ht => hT.2.2.2.2.2.1 t (Nat.lt_of_lt_of_le ht hKt), fun t ht => hT.2.2.2.2.2.2.1 t (Nat.lt_of_lt_of_le ht hKt), fun t ht q hq => hKn t ht q hq⟩, mG_f hf hG (by decide), ⟨by rw [(hf.2 3 (by decide)).1]; exact ha, by rw [(hf.2 9 (by decide)).1]; exact hb, by rw [(hf.2 10 (by decide)).1]; exact hc⟩, mM_f hf hM (by decide), by rw [(hf.2 35 (by decide)).1]; exact w1, by rw [(hf.2 36 (by decide)).1]; exact w3, by rw [(hf.2 37 (by decide)).1]; exact w5, fun t ht q hq => by rw [(hf.1 46 (by decide) (by decide)).1]; exact hkP t ht q hq⟩
        · rw [(hf.1 35 (by decide) (by decide)).1]; exact hT.2.2.1 t (Nat.lt_of_lt_of_le ht hKt)
        · rw [(hf.1 36 (by decide) (by decide)).1]; exact hT.2.2.2.1 t (Nat.lt_of_lt_of_le ht hKt)
        · have ht2 : t < K := ht
          exact (hcp (8 * t + q) (by omega)).trans (hkP t ht q hq)
      · refine zx_aload_n dX11_restore_37 rfl ?_
        refine zx_getr dX11_restore_38 fX11_19 ?_
        refine zx_iload_n dX11_restore_41 rfl ?_
        refine zx_aload_n dX11_restore_42 rfl ?_
        refine zx_getr dX11_restore_43 fX11_47 ?_
        refine zx_iload_n dX11_restore_46 rfl ?_
        refine zy_iald (i := k) dX11_restore_47 rfl (by decide) (by omega) (by omega) ((show _ = M.1 46 k from by rw [(hf.1 46 (by decide) (by decide)).1])) ?_
        refine zy_iast (i := k) dX11_restore_48 rfl (by decide) (by omega) (by omega) ?_
        refine zy_iinc dX11_restore_49 rfl rfl ?_
        refine zx_goto (tgt := 31) dX11_restore_52 (by decide) ?_
        refine ih (by omega) _ (mf_s hf (by decide) (by decide)) (by simpa [zw_s] using h5) (fun j hj => ?_)
        by_cases e : j = k
        · subst e; simp [zw_s]
        · have := hcp j (by omega)
          simp [zw_s, e, this]
    refine zw_of (by decide +kernel) (Nat.le_of_ble_eq_true rfl) ?_
    refine zy_loc (L1 := [.ref 33, .retAddr 0]) rfl ?_
    refine zx_aload_n dX11_restore_0 rfl ?_
    refine zy_geti dX11_restore_1 fX11_269 (w1) ?_
    refine zy_if_eq (tgt := 18) dX11_restore_4 (by decide) (by omega) (fun h_4 => ?_) (fun h_4 => ?_)
    · exact absurd h_4 (by decide)
    · refine zx_aload_n dX11_restore_7 rfl ?_
      refine zy_geti dX11_restore_8 fX11_272 (w3) ?_
      refine zx_aload_n dX11_restore_11 rfl ?_
      refine zy_geti dX11_restore_12 fX11_98 (ha) ?_
      refine zy_icmp_eq (tgt := 21) dX11_restore_15 (by decide) (by omega) (fun h_15 => ?_) (fun h_15 => ?_)
      · refine zx_aload_n dX11_restore_21 rfl ?_
        refine zx_aload_n dX11_restore_22 rfl ?_
        refine zy_geti dX11_restore_23 fX11_275 (w5) ?_
        refine zx_puti dX11_restore_26 fX11_95 ?_
        refine zx_iconst (v := zn_I 0) dX11_restore_29 rfl ?_
        refine zx_istore_n dX11_restore_30 rfl (Nat.le_of_ble_eq_true rfl) ?_
        exact loop 0 (by omega) _ (mf_f mf_rf (by decide)) (by simp [zw_s]) (fun j hj => absurd hj (Nat.not_lt_zero _))
      · exact absurd rfl h_15
