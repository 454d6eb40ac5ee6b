/-! THE REFERENCE'S STONES: the walks -/
theorem mT_cong {M : zw_M} {n : Nat} {τ τ' : zQ} (h1 : τ'.1 = τ.1) (hk : τ'.2.1 = τ.2.1) (hw : τ'.2.2.1 = τ.2.2.1) (hP : ∀ t, t < τ.1 → ∀ q, q < 8 → τ'.2.2.2 t q = τ.2.2.2 t q) (hT : mT M n τ') : mT M n τ := by
  obtain ⟨g1, g2, g3, g4, g5, g6, g7, g8⟩ := hT
  rw [h1] at g1 g2 g3 g4 g5 g6 g7 g8
  rw [hk] at g3 g6
  rw [hw] at g4 g7
  exact ⟨g1, g2, g3, g4, fun t ht q hq => by rw [← hP t ht q hq]; exact g5 t ht q hq, g6, g7, fun t ht q hq => by rw [← hP t ht q hq]; exact g8 t ht q hq⟩
theorem mT_back {M : zw_M} {n : Nat} {τ : zQ} {t : Nat} {f : Nat → Nat} (hs : ∀ q, q < 8 → τ.2.2.2 t q = τ.2.2.2 t 0) (hT : mT M n (zt_mv (zt_mv τ t f) t (fun _ => τ.2.2.2 t 0))) : mT M n τ := by
  refine mT_cong (τ' := zt_mv (zt_mv τ t f) t (fun _ => τ.2.2.2 t 0)) rfl rfl rfl (fun u hu q hq => ?_) hT
  by_cases e : u = t
  · subst e; simp [zt_mv, hs q hq]
  · simp [zt_mv, e]
theorem mst_mv {τ : zQ} {t s : Nat} (h : mst τ) : mst (zt_mv τ t (fun _ => s)) := fun u hu hk q hq => by
  by_cases e : u = t
  · subst e; simp [zt_mv]
  · have h1 := h u hu hk q hq
    simp [zt_mv, e, h1]
theorem mst_ok {σ : zZ} (h : zok σ) : mst σ.2.1 := fun t ht hk q hq => h.2.1 t ht (fun r => by rw [zt_per, hk] at r; omega) q hq
set_option maxRecDepth 100000 in
set_option maxHeartbeats 600000 in
theorem mX11_isDry {l : Launch} {d : Nat} {M : zw_M} {π : zP} {τ : zQ} (hI : mI M π) (hT : mT M (zp_n π) τ) {mo : Int} (hM : mM M 0 0 mo) : zw_C l (d + 3) iX11_isDry [.ref 33] M (zw_i (zn_B (mdry π τ mo)) M) := by
  have hp := hI.1
  have h30 := zp_30 hp
  have hr0 : M.1 33 0 = zn_I π.1 := hI.2.1
  have hr1 : M.1 33 1 = zn_I π.2.1 := hI.2.2.1
  have hr2 : M.1 33 2 = zn_I (zp_n π) := hI.2.2.2.1
  refine zw_of (by decide +kernel) (Nat.le_of_ble_eq_true rfl) ?_
  refine zy_loc (L1 := [.ref 33, .retAddr 0, .retAddr 0]) rfl ?_
  have loop : ∀ q : Nat, q ≤ 8 → (∀ j, j < q → mwet π τ 0 0 mo j = 0) → zw_X l (d + 3) iX11_isDry (zw_i (zn_B (mdry π τ mo)) M) 4 [.ref 33, .int (zn_I 1), .int (zn_I (q : Int))] [] M := by
    refine zw_loop 8 (P := fun q => (∀ j, j < q → mwet π τ 0 0 mo j = 0) → zw_X l (d + 3) iX11_isDry (zw_i (zn_B (mdry π τ mo)) M) 4 [.ref 33, .int (zn_I 1), .int (zn_I (q : Int))] [] M) (fun q hq ih hd => ?_)
    have hwb := mwet_30 hp τ 0 0 mo q
    refine zx_iload_n dX11_isDry_4 rfl ?_
    refine zx_bipush (v := zn_I 8) dX11_isDry_5 (by decide) ?_
    refine zy_icmp_ge (tgt := 34) dX11_isDry_7 (by decide) (by omega) (fun h_7 => ?_) (fun h_7 => ?_)
    · refine zx_iload_n dX11_isDry_34 rfl ?_
      refine zx_iret (st := []) dX11_isDry_35 rfl rfl ?_
      exact zk_B (zn_Bt (fun j hj => hd j (by omega)))
    · refine zx_iload_n dX11_isDry_10 rfl ?_
      refine zy_if_eq (tgt := 34) dX11_isDry_11 (by decide) (by omega) (fun h_11 => ?_) (fun h_11 => ?_)
      · exact absurd h_11 (by decide)
      · refine zx_aload_n dX11_isDry_14 rfl ?_
        refine zx_iload_n dX11_isDry_15 rfl ?_
        refine zx_callV (y1 := iX11_wetIn) dX11_isDry_16 lX11_143 vX11_wetIn rc_33 (mX11_wetIn hI hT hM (q := q) (by omega)) rfl rfl (Nat.le_of_ble_eq_true rfl) ?_
        refine zk_i ?_
        refine zy_if_ne (tgt := 26) dX11_isDry_19 (by decide) (by omega) (fun h_19 => ?_) (fun h_19 => ?_)
        · refine zx_iconst (v := zn_I 0) dX11_isDry_26 rfl ?_
          refine zx_istore_n dX11_isDry_27 rfl (Nat.le_of_ble_eq_true rfl) ?_
          refine zy_iinc dX11_isDry_28 rfl rfl ?_
          refine zx_goto (tgt := 4) dX11_isDry_31 (by decide) ?_
          refine zx_iload_n dX11_isDry_4 rfl ?_
          refine zx_bipush (v := zn_I 8) dX11_isDry_5 (by decide) ?_
          refine zy_icmp_ge (tgt := 34) dX11_isDry_7 (by decide) (by omega) (fun h_7 => ?_) (fun h_7 => ?_)
          · refine zx_iload_n dX11_isDry_34 rfl ?_
            refine zx_iret (st := []) dX11_isDry_35 rfl rfl ?_
            exact zk_B (zn_Bf (fun r => h_19 (by have := r q (by omega); omega)))
          · refine zx_iload_n dX11_isDry_10 rfl ?_
            refine zy_if_eq (tgt := 34) dX11_isDry_11 (by decide) (by omega) (fun h_11 => ?_) (fun h_11 => ?_)
            · refine zx_iload_n dX11_isDry_34 rfl ?_
              refine zx_iret (st := []) dX11_isDry_35 rfl rfl ?_
              exact zk_B (zn_Bf (fun r => h_19 (by have := r q (by omega); omega)))
            · exact absurd rfl h_11
        · refine zx_iconst (v := zn_I 1) dX11_isDry_22 rfl ?_
          refine zx_goto (tgt := 27) dX11_isDry_23 (by decide) ?_
          refine zx_istore_n dX11_isDry_27 rfl (Nat.le_of_ble_eq_true rfl) ?_
          refine zy_iinc dX11_isDry_28 rfl rfl ?_
          refine zx_goto (tgt := 4) dX11_isDry_31 (by decide) ?_
          refine ih (by omega) (fun j hj => ?_)
          by_cases e : j = q
          · rw [e]; omega
          · exact hd j (by omega)
  refine zx_iconst (v := zn_I 1) dX11_isDry_0 rfl ?_
  refine zx_istore_n dX11_isDry_1 rfl (Nat.le_of_ble_eq_true rfl) ?_
  refine zx_iconst (v := zn_I 0) dX11_isDry_2 rfl ?_
  refine zx_istore_n dX11_isDry_3 rfl (Nat.le_of_ble_eq_true rfl) ?_
  exact loop 0 (by omega) (fun j hj => absurd hj (Nat.not_lt_zero _))
/-- what helpsFrom leaves -/
def mhq (π : zP) (τ : zQ) (fr : Nat) (M : zw_M) : Option Value → zw_M → Prop := fun v M1 => v = some (.int (zn_B ((mh π τ fr).isSome = true))) ∧ mfr [37] [32, 33] M M1 ∧ mT M1 (zp_n π) τ ∧ match mh π τ fr with
    | none => M1.1 33 32 = M.1 33 32 ∧ M1.1 33 33 = M.1 33 33
    | some l => ∃ t s, l = [(t, s)] ∧ M1.1 33 32 = zn_I (t : Nat) ∧ M1.1 33 33 = zn_I (s : Nat)
set_option maxRecDepth 100000 in
set_option maxHeartbeats 600000 in
theorem mX11_helpsFrom {l : Launch} {d : Nat} {M : zw_M} {π : zP} {τ : zQ} (hI : mI M π) (hT : mT M (zp_n π) τ) (hM : mM M 0 0 0) (hst : mst τ) {fr : Nat} (hfr : fr ≤ τ.1) : zw_C l (d + 4) iX11_helpsFrom [.ref 33, .int (zn_I (fr : Int))] M (mhq π τ fr M) := by
  have hp := hI.1
  have h30 := zp_30 hp
  have hr0 : M.1 33 0 = zn_I π.1 := hI.2.1
  have hr1 : M.1 33 1 = zn_I π.2.1 := hI.2.2.1
  have hr2 : M.1 33 2 = zn_I (zp_n π) := hI.2.2.2.1
  have h8 := hT.1
  have ht5 : M.1 33 5 = zn_I τ.1 := hT.2.1
  refine zw_of (by decide +kernel) (Nat.le_of_ble_eq_true rfl) ?_
  refine zy_loc (L1 := [.ref 33, .int (zn_I (fr : Int)), .retAddr 0, .retAddr 0, .retAddr 0, .retAddr 0]) rfl ?_
  have JN : zs_fst (mh_f π τ fr) τ.1 = none → ∀ (M1 : zw_M), mfr [37] [] M M1 → mT M1 (zp_n π) τ → mhq π τ fr M (some (.int (zn_I 0))) M1 := fun hn M1 hf hT1 => by
    have hm : mh π τ fr = none := hn
    refine ⟨?_, mf_mono hf (by decide), hT1, ?_⟩
    · rw [← zn_Bf]; rw [hm]; simp
    · rw [hm]; exact ⟨(hf.2 32 (by decide)).1, (hf.2 33 (by decide)).1⟩
  have LO : ∀ t : Nat, t ≤ τ.1 → fr ≤ t → zs_fst (mh_f π τ fr) t = none → ∀ (M1 : zw_M) (v3 v4 v5 : Value), mfr [37] [] M M1 → mT M1 (zp_n π) τ → zw_X l (d + 4) iX11_helpsFrom (mhq π τ fr M) 2 [.ref 33, .int (zn_I (fr : Int)), .int (zn_I (t : Int)), v3, v4, v5] [] M1 := by
    refine zw_loop τ.1 (P := fun t => fr ≤ t → zs_fst (mh_f π τ fr) t = none → ∀ (M1 : zw_M) (v3 v4 v5 : Value), mfr [37] [] M M1 → mT M1 (zp_n π) τ → zw_X l (d + 4) iX11_helpsFrom (mhq π τ fr M) 2 [.ref 33, .int (zn_I (fr : Int)), .int (zn_I (t : Int)), v3, v4, v5] [] M1) (fun t ht ih hft hno M1 v3 v4 v5 hf hT1 => ?_)
    refine zx_iload_n dX11_helpsFrom_2 rfl ?_
    refine zx_aload_n dX11_helpsFrom_3 rfl ?_
    refine zy_geti dX11_helpsFrom_4 fX11_95 ((show _ = zn_I (τ.1 : Int) from by rw [(hf.2 5 (by decide)).1]; exact ht5)) ?_
    refine zy_icmp_ge (tgt := 91) dX11_helpsFrom_7 (by decide) (by omega) (fun h_7 => ?_) (fun h_7 => ?_)
    · refine zx_iconst (v := zn_I 0) dX11_helpsFrom_91 rfl ?_
      refine zx_iret (st := []) dX11_helpsFrom_92 rfl rfl ?_
      exact JN (by rw [show τ.1 = t by omega]; exact hno) M1 hf hT1
    · refine zx_aload_n dX11_helpsFrom_10 rfl ?_
      refine zx_getr dX11_helpsFrom_11 fX11_19 ?_
      refine zx_bipush (v := zn_I 8) dX11_helpsFrom_14 (by decide) ?_
      refine zx_iload_n dX11_helpsFrom_16 rfl ?_
      refine zy_imul dX11_helpsFrom_17 ?_
      refine zy_iald (i := 8 * t + 0) dX11_helpsFrom_18 rfl (by decide) (by omega) (by omega) (hT1.2.2.2.2.1 t (by omega) 0 (by omega)) ?_
      refine zx_istore_n dX11_helpsFrom_19 rfl (Nat.le_of_ble_eq_true rfl) ?_
      refine zx_iconst (v := zn_I 0) dX11_helpsFrom_20 rfl ?_
      refine zx_istore dX11_helpsFrom_21 rfl (Nat.le_of_ble_eq_true rfl) ?_
      have LI : ∀ s : Nat, s ≤ zp_n π → zs_fst (mh_g π τ t) s = none → ∀ (M1 : zw_M) (v5 : Value), mfr [37] [] M M1 → mT M1 (zp_n π) τ → zw_X l (d + 4) iX11_helpsFrom (mhq π τ fr M) 23 [.ref 33, .int (zn_I (fr : Int)), .int (zn_I (t : Int)), .int (zn_I (τ.2.2.2 t 0 : Nat)), .int (zn_I (s : Int)), v5] [] M1 := by
        refine zw_loop (zp_n π) (P := fun s => zs_fst (mh_g π τ t) s = none → ∀ (M1 : zw_M) (v5 : Value), mfr [37] [] M M1 → mT M1 (zp_n π) τ → zw_X l (d + 4) iX11_helpsFrom (mhq π τ fr M) 23 [.ref 33, .int (zn_I (fr : Int)), .int (zn_I (t : Int)), .int (zn_I (τ.2.2.2 t 0 : Nat)), .int (zn_I (s : Int)), v5] [] M1) (fun s hs ihs hns M2 v5 hf2 hT2 => ?_)
        refine zx_iload dX11_helpsFrom_23 rfl ?_
        refine zx_aload_n dX11_helpsFrom_25 rfl ?_
        refine zy_geti dX11_helpsFrom_26 fX11_92 ((show _ = zn_I (zp_n π : Nat) from by rw [(hf2.2 2 (by decide)).1]; exact hr2)) ?_
        refine zy_icmp_ge (tgt := 85) dX11_helpsFrom_29 (by decide) (by omega) (fun h_29 => ?_) (fun h_29 => ?_)
        · refine zy_iinc dX11_helpsFrom_85 rfl rfl ?_
          refine zx_goto (tgt := 2) dX11_helpsFrom_88 (by decide) ?_
          have hke : τ.2.1 t = 1 ∨ τ.2.1 t ≠ 1 := by omega
          refine ih (by omega) (by omega) ?_ M2 _ _ _ hf2 hT2
          rw [zs_fst, hno]
          dsimp only
          by_cases hk1 : τ.2.1 t = 1
          · rw [mh_f, if_neg (by omega), show zp_n π = s by omega]; exact hns
          · rw [mh_f, if_pos (Or.inr hk1)]
        · refine zx_aload_n dX11_helpsFrom_32 rfl ?_
          refine zx_getr dX11_helpsFrom_33 fX11_13 ?_
          refine zx_iload_n dX11_helpsFrom_36 rfl ?_
          refine zy_iald dX11_helpsFrom_37 rfl (by decide) rfl (by omega) (hT2.2.2.1 t (by omega)) ?_
          refine zx_iconst (v := zn_I 1) dX11_helpsFrom_38 rfl ?_
          refine zy_icmp_ne (tgt := 85) dX11_helpsFrom_39 (by decide) (by have := hT.2.2.2.2.2.1 t (by omega); omega) (fun h_39 => ?_) (fun h_39 => ?_)
          · refine zy_iinc dX11_helpsFrom_85 rfl rfl ?_
            refine zx_goto (tgt := 2) dX11_helpsFrom_88 (by decide) ?_
            exact ih (by omega) (by omega) (by rw [zs_fst, hno]; dsimp only; rw [mh_f, if_pos (Or.inr (by omega))]) M2 _ _ _ hf2 hT2
          · refine zx_aload_n dX11_helpsFrom_42 rfl ?_
            refine zx_iload_n dX11_helpsFrom_43 rfl ?_
            refine zx_iload dX11_helpsFrom_44 rfl ?_
            refine zx_callV (y1 := iX11_putAt) dX11_helpsFrom_46 lX11_125 vX11_putAt rc_33 (mX11_putAt_T hT2 (t := t) (s := s) (by omega) (by omega)) rfl rfl (Nat.le_of_ble_eq_true rfl) ?_
            intro v M3 he
            obtain ⟨rfl, hf3, hT3⟩ := he
            have hf3m : mfr [37] [] M M3 := mf_tr hf2 hf3
            refine zx_aload_n dX11_helpsFrom_49 rfl ?_
            refine zx_callV (y1 := iX11_isDry) dX11_helpsFrom_50 lX11_190 vX11_isDry rc_33 (mX11_isDry (mI_f hf3m hI (by decide)) hT3 (mM_f hf3m hM (by decide))) rfl rfl (Nat.le_of_ble_eq_true rfl) ?_
            refine zk_i ?_
            refine zx_istore dX11_helpsFrom_53 rfl (Nat.le_of_ble_eq_true rfl) ?_
            refine zx_aload_n dX11_helpsFrom_55 rfl ?_
            refine zx_iload_n dX11_helpsFrom_56 rfl ?_
            refine zx_iload_n dX11_helpsFrom_57 rfl ?_
            refine zx_callV (y1 := iX11_putAt) dX11_helpsFrom_58 lX11_125 vX11_putAt rc_33 (mX11_putAt_T hT3 (t := t) (s := τ.2.2.2 t 0) (by show t < τ.1; omega) (hT.2.2.2.2.2.2.2 t (by omega) 0 (by omega))) rfl rfl (Nat.le_of_ble_eq_true rfl) ?_
            intro v M4 he
            obtain ⟨rfl, hf4, hT4⟩ := he
            have hfA : mfr [37] [] M M4 := mf_tr hf3m hf4
            have hTA : mT M4 (zp_n π) τ := mT_back (hst t (by omega) h_39) hT4
            refine zx_iload dX11_helpsFrom_61 rfl ?_
            refine zy_ifB_eq (tgt := 79) dX11_helpsFrom_63 (by decide) (fun h_63 => ?_) (fun h_63 => ?_)
            · refine zy_iinc dX11_helpsFrom_79 rfl rfl ?_
              refine zx_goto (tgt := 23) dX11_helpsFrom_82 (by decide) ?_
              exact ihs (by omega) (by rw [zs_fst, hns]; dsimp only; rw [mh_g, if_neg h_63]) M4 _ hfA hTA
            · refine zx_aload_n dX11_helpsFrom_66 rfl ?_
              refine zx_iload_n dX11_helpsFrom_67 rfl ?_
              refine zx_puti dX11_helpsFrom_68 fX11_194 ?_
              refine zx_aload_n dX11_helpsFrom_71 rfl ?_
              refine zx_iload dX11_helpsFrom_72 rfl ?_
              refine zx_puti dX11_helpsFrom_74 fX11_197 ?_
              refine zx_iconst (v := zn_I 1) dX11_helpsFrom_77 rfl ?_
              refine zx_iret (st := []) dX11_helpsFrom_78 rfl rfl ?_
              have hfi : mh_g π τ t s = some [(t, s)] := by rw [mh_g, if_pos h_63]
              have hF : mh_f π τ fr t = some [(t, s)] := by rw [mh_f, if_neg (by omega)]; exact zs_fst_stop hns hfi _ (by omega)
              have hm : mh π τ fr = some [(t, s)] := zs_fst_stop hno hF _ (by omega)
              refine ⟨?_, mf_f (mf_f (mf_mono hfA (by decide)) (by decide)) (by decide), mT_f (mf_f (S := []) (F := [32, 33]) (mf_f mf_rf (by decide)) (by decide)) hTA (by decide), ?_⟩
              · rw [← zn_Bt]; rw [hm]; rfl
              · rw [hm]; exact ⟨t, s, rfl, by simp [zw_s], by simp [zw_s]⟩
      exact LI 0 (Nat.zero_le _) rfl M1 _ hf hT1
  refine zx_iload_n dX11_helpsFrom_0 rfl ?_
  refine zx_istore_n dX11_helpsFrom_1 rfl (Nat.le_of_ble_eq_true rfl) ?_
  exact LO fr hfr (Nat.le_refl _) ((zs_fst_none fr).mpr (fun i hi => by rw [mh_f, if_pos (Or.inl hi)])) M _ _ _ mf_rf hT
/-- what helpTwo leaves -/
def mh2q (π : zP) (τ : zQ) (M : zw_M) : Option Value → zw_M → Prop := fun v M1 => v = some (.int (zn_B ((mh2 π τ).isSome = true))) ∧ mfr [37] [30, 31, 32, 33] M M1 ∧ mT M1 (zp_n π) τ ∧ match mh2 π τ with
    | none => M1.1 33 30 = M.1 33 30 ∧ M1.1 33 31 = M.1 33 31 ∧ M1.1 33 32 = M.1 33 32 ∧ M1.1 33 33 = M.1 33 33
    | some l => ∃ t s u r, l = [(t, s), (u, r)] ∧ M1.1 33 30 = zn_I (t : Nat) ∧ M1.1 33 31 = zn_I (s : Nat) ∧ M1.1 33 32 = zn_I (u : Nat) ∧ M1.1 33 33 = zn_I (r : Nat)
set_option maxRecDepth 100000 in
set_option maxHeartbeats 600000 in
theorem mX11_helpTwo {l : Launch} {d : Nat} {M : zw_M} {π : zP} {τ : zQ} (hI : mI M π) (hT : mT M (zp_n π) τ) (hM : mM M 0 0 0) (hst : mst τ) : zw_C l (d + 5) iX11_helpTwo [.ref 33] M (mh2q π τ M) := by
  have hp := hI.1
  have h30 := zp_30 hp
  have hr0 : M.1 33 0 = zn_I π.1 := hI.2.1
  have hr1 : M.1 33 1 = zn_I π.2.1 := hI.2.2.1
  have hr2 : M.1 33 2 = zn_I (zp_n π) := hI.2.2.2.1
  have h8 := hT.1
  have ht5 : M.1 33 5 = zn_I τ.1 := hT.2.1
  refine zw_of (by decide +kernel) (Nat.le_of_ble_eq_true rfl) ?_
  refine zy_loc (L1 := [.ref 33, .retAddr 0, .retAddr 0, .retAddr 0, .retAddr 0]) rfl ?_
  have LO : ∀ t : Nat, t ≤ τ.1 → zs_fst (mh2_f π τ) t = none → ∀ (M1 : zw_M) (v2 v3 v4 : Value), mfr [37] [32, 33] M M1 → (M1.1 33 32 = M.1 33 32 ∧ M1.1 33 33 = M.1 33 33) → mT M1 (zp_n π) τ → zw_X l (d + 5) iX11_helpTwo (mh2q π τ M) 2 [.ref 33, .int (zn_I (t : Int)), v2, v3, v4] [] M1 := by
    refine zw_loop τ.1 (P := fun t => zs_fst (mh2_f π τ) t = none → ∀ (M1 : zw_M) (v2 v3 v4 : Value), mfr [37] [32, 33] M M1 → (M1.1 33 32 = M.1 33 32 ∧ M1.1 33 33 = M.1 33 33) → mT M1 (zp_n π) τ → zw_X l (d + 5) iX11_helpTwo (mh2q π τ M) 2 [.ref 33, .int (zn_I (t : Int)), v2, v3, v4] [] M1) (fun t ht ih hno M1 v2 v3 v4 hf hkp hT1 => ?_)
    refine zx_iload_n dX11_helpTwo_2 rfl ?_
    refine zx_aload_n dX11_helpTwo_3 rfl ?_
    refine zy_geti dX11_helpTwo_4 fX11_95 ((show _ = zn_I (τ.1 : Int) from by rw [(hf.2 5 (by decide)).1]; exact ht5)) ?_
    refine zy_icmp_ge (tgt := 90) dX11_helpTwo_7 (by decide) (by omega) (fun h_7 => ?_) (fun h_7 => ?_)
    · refine zx_iconst (v := zn_I 0) dX11_helpTwo_90 rfl ?_
      refine zx_iret (st := []) dX11_helpTwo_91 rfl rfl ?_
      have hm : mh2 π τ = none := by rw [mh2, show τ.1 = t by omega]; exact hno
      refine ⟨?_, mf_mono hf (by decide), hT1, ?_⟩
      · rw [← zn_Bf]; rw [hm]; simp
      · rw [hm]; exact ⟨(hf.2 30 (by decide)).1, (hf.2 31 (by decide)).1, hkp⟩
    · refine zx_aload_n dX11_helpTwo_10 rfl ?_
      refine zx_getr dX11_helpTwo_11 fX11_19 ?_
      refine zx_bipush (v := zn_I 8) dX11_helpTwo_14 (by decide) ?_
      refine zx_iload_n dX11_helpTwo_16 rfl ?_
      refine zy_imul dX11_helpTwo_17 ?_
      refine zy_iald (i := 8 * t + 0) dX11_helpTwo_18 rfl (by decide) (by omega) (by omega) (hT1.2.2.2.2.1 t (by omega) 0 (by omega)) ?_
      refine zx_istore_n dX11_helpTwo_19 rfl (Nat.le_of_ble_eq_true rfl) ?_
      refine zx_iconst (v := zn_I 0) dX11_helpTwo_20 rfl ?_
      refine zx_istore_n dX11_helpTwo_21 rfl (Nat.le_of_ble_eq_true rfl) ?_
      have LI : ∀ s : Nat, s ≤ zp_n π → zs_fst (mh2_g π τ t) s = none → ∀ (M1 : zw_M) (v4 : Value), mfr [37] [32, 33] M M1 → (M1.1 33 32 = M.1 33 32 ∧ M1.1 33 33 = M.1 33 33) → mT M1 (zp_n π) τ → zw_X l (d + 5) iX11_helpTwo (mh2q π τ M) 22 [.ref 33, .int (zn_I (t : Int)), .int (zn_I (τ.2.2.2 t 0 : Nat)), .int (zn_I (s : Int)), v4] [] M1 := by
        refine zw_loop (zp_n π) (P := fun s => zs_fst (mh2_g π τ t) s = none → ∀ (M1 : zw_M) (v4 : Value), mfr [37] [32, 33] M M1 → (M1.1 33 32 = M.1 33 32 ∧ M1.1 33 33 = M.1 33 33) → mT M1 (zp_n π) τ → zw_X l (d + 5) iX11_helpTwo (mh2q π τ M) 22 [.ref 33, .int (zn_I (t : Int)), .int (zn_I (τ.2.2.2 t 0 : Nat)), .int (zn_I (s : Int)), v4] [] M1) (fun s hs ihs hns M2 v4 hf2 hkp2 hT2 => ?_)
        refine zx_iload_n dX11_helpTwo_22 rfl ?_
        refine zx_aload_n dX11_helpTwo_23 rfl ?_
        refine zy_geti dX11_helpTwo_24 fX11_92 ((show _ = zn_I (zp_n π : Nat) from by rw [(hf2.2 2 (by decide)).1]; exact hr2)) ?_
        refine zy_icmp_ge (tgt := 84) dX11_helpTwo_27 (by decide) (by omega) (fun h_27 => ?_) (fun h_27 => ?_)
        · refine zy_iinc dX11_helpTwo_84 rfl rfl ?_
          refine zx_goto (tgt := 2) dX11_helpTwo_87 (by decide) ?_
          refine ih (by omega) ?_ M2 _ _ _ hf2 hkp2 hT2
          rw [zs_fst, hno]
          dsimp only
          by_cases hk1 : τ.2.1 t = 1
          · rw [mh2_f, if_neg (by omega), show zp_n π = s by omega]; exact hns
          · rw [mh2_f, if_pos hk1]
        · refine zx_aload_n dX11_helpTwo_30 rfl ?_
          refine zx_getr dX11_helpTwo_31 fX11_13 ?_
          refine zx_iload_n dX11_helpTwo_34 rfl ?_
          refine zy_iald dX11_helpTwo_35 rfl (by decide) rfl (by omega) (hT2.2.2.1 t (by omega)) ?_
          refine zx_iconst (v := zn_I 1) dX11_helpTwo_36 rfl ?_
          refine zy_icmp_ne (tgt := 84) dX11_helpTwo_37 (by decide) (by have := hT.2.2.2.2.2.1 t (by omega); omega) (fun h_37 => ?_) (fun h_37 => ?_)
          · refine zy_iinc dX11_helpTwo_84 rfl rfl ?_
            refine zx_goto (tgt := 2) dX11_helpTwo_87 (by decide) ?_
            exact ih (by omega) (by rw [zs_fst, hno]; dsimp only; rw [mh2_f, if_pos (by omega)]) M2 _ _ _ hf2 hkp2 hT2
          · refine zx_aload_n dX11_helpTwo_40 rfl ?_
            refine zx_iload_n dX11_helpTwo_41 rfl ?_
            refine zx_iload_n dX11_helpTwo_42 rfl ?_
            refine zx_callV (y1 := iX11_putAt) dX11_helpTwo_43 lX11_125 vX11_putAt rc_33 (mX11_putAt_T hT2 (t := t) (s := s) (by omega) (by omega)) rfl rfl (Nat.le_of_ble_eq_true rfl) ?_
            intro v M3 he
            obtain ⟨rfl, hf3, hT3⟩ := he
            have hf3m : mfr [37] [32, 33] M M3 := mf_tr hf2 (mf_mono hf3 (by decide))
            refine zx_aload_n dX11_helpTwo_46 rfl ?_
            refine zx_iload_n dX11_helpTwo_47 rfl ?_
            refine zx_iconst (v := zn_I 1) dX11_helpTwo_48 rfl ?_
            refine zy_iadd dX11_helpTwo_49 ?_
            refine zx_callV (y1 := iX11_helpsFrom) dX11_helpTwo_50 lX11_200 vX11_helpsFrom rc_33 (mX11_helpsFrom (mI_f hf3m hI (by decide)) hT3 (mM_f hf3m hM (by decide)) (mst_mv hst) (fr := t + 1) (by show t + 1 ≤ τ.1; omega)) rfl rfl (Nat.le_of_ble_eq_true rfl) ?_
            intro v M4 he
            obtain ⟨rfl, hf4, hT4, hB3⟩ := he
            have hf4m : mfr [37] [32, 33] M M4 := mf_tr hf3m hf4
            refine zx_istore dX11_helpTwo_53 rfl (Nat.le_of_ble_eq_true rfl) ?_
            refine zx_aload_n dX11_helpTwo_55 rfl ?_
            refine zx_iload_n dX11_helpTwo_56 rfl ?_
            refine zx_iload_n dX11_helpTwo_57 rfl ?_
            refine zx_callV (y1 := iX11_putAt) dX11_helpTwo_58 lX11_125 vX11_putAt rc_33 (mX11_putAt_T hT4 (t := t) (s := τ.2.2.2 t 0) (by show t < τ.1; omega) (hT.2.2.2.2.2.2.2 t (by omega) 0 (by omega))) rfl rfl (Nat.le_of_ble_eq_true rfl) ?_
            intro v M5 he
            obtain ⟨rfl, hf5, hT5⟩ := he
            have hfA : mfr [37] [32, 33] M M5 := mf_tr hf4m (mf_mono hf5 (by decide))
            have hTA : mT M5 (zp_n π) τ := mT_back (hst t (by omega) h_37) hT5
            refine zx_iload dX11_helpTwo_61 rfl ?_
            refine zy_ifB_eq (tgt := 78) dX11_helpTwo_63 (by decide) (fun h_63 => ?_) (fun h_63 => ?_)
            · refine zy_iinc dX11_helpTwo_78 rfl rfl ?_
              refine zx_goto (tgt := 22) dX11_helpTwo_81 (by decide) ?_
              have hmn : mh π (zt_mv τ t (fun _ => s)) (t + 1) = none := Option.not_isSome_iff_eq_none.mp h_63
              rw [hmn] at hB3
              exact ihs (by omega) (by rw [zs_fst, hns]; dsimp only; rw [mh2_g, hmn]; rfl) M5 _ hfA ⟨by rw [(hf5.2 32 (by decide)).1, hB3.1, (hf3.2 32 (by decide)).1]; exact hkp2.1, by rw [(hf5.2 33 (by decide)).1, hB3.2, (hf3.2 33 (by decide)).1]; exact hkp2.2⟩ hTA
            · refine zx_aload_n dX11_helpTwo_66 rfl ?_
              refine zx_iload_n dX11_helpTwo_67 rfl ?_
              refine zx_puti dX11_helpTwo_68 fX11_203 ?_
              refine zx_aload_n dX11_helpTwo_71 rfl ?_
              refine zx_iload_n dX11_helpTwo_72 rfl ?_
              refine zx_puti dX11_helpTwo_73 fX11_206 ?_
              refine zx_iconst (v := zn_I 1) dX11_helpTwo_76 rfl ?_
              refine zx_iret (st := []) dX11_helpTwo_77 rfl rfl ?_
              obtain ⟨l1, hl1⟩ := Option.isSome_iff_exists.mp h_63
              rw [hl1] at hB3
              obtain ⟨u, r, rfl, hu, hr⟩ := hB3
              have hfi : mh2_g π τ t s = some [(t, s), (u, r)] := by rw [mh2_g, hl1]; rfl
              have hF : mh2_f π τ t = some [(t, s), (u, r)] := by rw [mh2_f, if_neg (by omega)]; exact zs_fst_stop hns hfi _ (by omega)
              have hm : mh2 π τ = some [(t, s), (u, r)] := zs_fst_stop hno hF _ (by omega)
              refine ⟨?_, mf_f (mf_f (mf_mono hfA (by decide)) (by decide)) (by decide), mT_f (mf_f (S := []) (F := [30, 31]) (mf_f mf_rf (by decide)) (by decide)) hTA (by decide), ?_⟩
              · rw [← zn_Bt]; rw [hm]; rfl
              · rw [hm]; exact ⟨t, s, u, r, rfl, by simp [zw_s], by simp [zw_s], by simp [zw_s, (hf5.2 32 (by decide)).1, hu], by simp [zw_s, (hf5.2 33 (by decide)).1, hr]⟩
      exact LI 0 (Nat.zero_le _) rfl M1 _ hf hkp hT1
  refine zx_iconst (v := zn_I 0) dX11_helpTwo_0 rfl ?_
  refine zx_istore_n dX11_helpTwo_1 rfl (Nat.le_of_ble_eq_true rfl) ?_
  exact LO 0 (Nat.zero_le _) rfl M _ _ _ mf_rf ⟨rfl, rfl⟩ hT
