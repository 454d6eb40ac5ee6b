/-! the people of a search for trades -/
def zt_pl (τ : zQ) : Nat → List Nat
  | 0 => []
  | t + 1 => if zt_per τ t then zt_pl τ t ++ [t] else zt_pl τ t
theorem zt_pl_mem {τ : zQ} : ∀ {t x : Nat}, x ∈ zt_pl τ t → x < t ∧ zt_per τ x
  | 0, x, h => by simp [zt_pl] at h
  | t + 1, x, h => by
    rw [zt_pl] at h
    split at h
    · next hp =>
      rcases List.mem_append.mp h with q | q
      · have := zt_pl_mem q; exact ⟨by omega, this.2⟩
      · rw [List.mem_singleton.mp q]; exact ⟨by omega, hp⟩
    · have := zt_pl_mem h; exact ⟨by omega, this.2⟩
theorem zt_pl_keep {τ : zQ} {t : Nat} : ∀ {u : Nat}, t ≤ u → (zt_pl τ t).length ≤ (zt_pl τ u).length ∧ ∀ i, i < (zt_pl τ t).length → (zt_pl τ u).getD i 0 = (zt_pl τ t).getD i 0
  | 0, h => by
    have : t = 0 := by omega
    subst this
    exact ⟨Nat.le_refl _, fun _ _ => rfl⟩
  | u + 1, h => by
    rcases Nat.lt_or_ge t (u + 1) with r | r
    · have ih := zt_pl_keep (τ := τ) (t := t) (u := u) (by omega)
      rw [zt_pl]
      split
      · refine ⟨by rw [List.length_append]; omega, fun i hi => ?_⟩
        rw [ze_getD (by omega)]
        exact ih.2 i hi
      · exact ih
    · have : t = u + 1 := by omega
      subst this
      exact ⟨Nat.le_refl _, fun _ _ => rfl⟩
theorem zt_pl_pop {τ : zQ} : ∀ t, t ≤ 8 → zb_pop 32 (zt_pb τ t) = (zt_pl τ t).length
  | 0, _ => by simp [zt_pb, zt_pl, zb_pop_0]
  | t + 1, h => by
    have ih := zt_pl_pop (τ := τ) t (by omega)
    rw [zt_pb, zt_pl]
    split
    · rw [zb_pop_put t 32 _ (zt_pb_lt τ t) (by omega), ih, List.length_append]
      rfl
    · rw [Nat.add_zero, ih]
def zt_m (τ : zQ) : Nat := (zt_pl τ τ.1).length
def zt_pe (τ : zQ) (i : Nat) : Nat := (zt_pl τ τ.1).getD i 0
def zt_sq (τ : zQ) (q i : Nat) : Nat := τ.2.2.2 (zt_pe τ i) q
theorem zt_pe_in {τ : zQ} {i : Nat} (h : i < zt_m τ) : zt_pe τ i < τ.1 ∧ zt_per τ (zt_pe τ i) := by
  have hm : zt_pe τ i ∈ zt_pl τ τ.1 := by
    unfold zt_pe
    rw [List.getD_eq_getElem?_getD, List.getElem?_eq_getElem h]
    exact List.getElem_mem _
  exact zt_pl_mem hm
def zs_sum (f : Nat → Int) : Nat → Int
  | 0 => 0
  | i + 1 => zs_sum f i + f i
theorem zs_sum_rng {f : Nat → Int} {B : Int} : ∀ n, (∀ i, i < n → -B ≤ f i ∧ f i ≤ B) → -(B * (n : Int)) ≤ zs_sum f n ∧ zs_sum f n ≤ B * (n : Int)
  | 0, _ => by simp [zs_sum]
  | n + 1, h => by
    have ih := zs_sum_rng n (fun i hi => h i (by omega))
    have h1 := h n (by omega)
    have e : B * ((n + 1 : Nat) : Int) = B * (n : Int) + B := by rw [Int.natCast_succ, Int.mul_add, Int.mul_one]
    rw [zs_sum, e]
    omega
/-- how far it leans without the people -/
def zt_E0 (π : zP) (τ : zQ) (q : Nat) : Int := zl_E π τ q - zs_sum (fun i => zt_w τ (zt_pe τ i) * zp_e π (zt_sq τ q i)) (zt_m τ)
def zt_S0 (π : zP) (τ : zQ) (q : Nat) : Int := zl_S π τ q - zs_sum (fun i => zt_w τ (zt_pe τ i) * zp_s π (zt_sq τ q i)) (zt_m τ)
/-- TRADES of a quarter -/
def zt_best (π : zP) (τ : zQ) (q : Nat) : zE := ze_fold (ze_ev π τ (zt_m τ) (zt_pe τ) (zt_sq τ q) (zt_E0 π τ q) (zt_S0 π τ q)) none (ze_ext (zt_m τ) (zt_m τ) [])
/-- the first of m that is z: what it has; -1: none is -/
def zc_f (pe vs : Nat → Nat) (z : Int) : Nat → Int
  | 0 => -1
  | i + 1 => if zc_f pe vs z i ≠ -1 then zc_f pe vs z i else if (pe i : Int) = z then (vs i : Int) else -1
theorem zc_f_stop {pe vs : Nat → Nat} {z : Int} {i : Nat} (h : zc_f pe vs z i = -1) (h2 : (pe i : Int) = z) : ∀ j, i < j → zc_f pe vs z j = (vs i : Int)
  | 0, q => absurd q (Nat.not_lt_zero _)
  | j + 1, q => by
    rw [zc_f]
    rcases Nat.lt_or_ge i j with r | r
    · rw [zc_f_stop h h2 j r, if_pos (by omega)]
    · have : j = i := by omega
      subst this
      rw [if_neg (by omega), if_pos h2]
theorem zt_E0_rng {M : zw_M} {π : zP} {τ : zQ} (hp : π.1 ≤ 5 ∧ π.2.1 ≤ 6) (hT : zT M (zp_n π) τ) {q : Nat} (hq : q < 8) (hm : zt_m τ ≤ 6) : (-20000 ≤ zt_E0 π τ q ∧ zt_E0 π τ q ≤ 20000) ∧ -20000 ≤ zt_S0 π τ q ∧ zt_S0 π τ q ≤ 20000 := by
  have h1 := zl_rng hp hT hq
  have key : ∀ i, i < zt_m τ → (-1000 ≤ zt_w τ (zt_pe τ i) * zp_e π (zt_sq τ q i) ∧ zt_w τ (zt_pe τ i) * zp_e π (zt_sq τ q i) ≤ 1000) ∧ -1000 ≤ zt_w τ (zt_pe τ i) * zp_s π (zt_sq τ q i) ∧ zt_w τ (zt_pe τ i) * zp_s π (zt_sq τ q i) ≤ 1000 := fun i hi => by
    have hi2 := (zt_pe_in hi).1
    have g1 := zt_w_rng hT hi2
    have hs := hT.2.2.2.2.2.2.2 _ hi2 q hq
    have g2 := zp_e_rng hp hs
    have g3 := zp_s_rng hp hs
    have g4 := zp_mul_rng (a := zt_w τ (zt_pe τ i)) (e := zp_e π (τ.2.2.2 (zt_pe τ i) q)) (B := 198) (by omega) (by omega) (by omega) (by omega)
    have g5 := zp_mul_rng (a := zt_w τ (zt_pe τ i)) (e := zp_s π (τ.2.2.2 (zt_pe τ i) q)) (B := 198) (by omega) (by omega) (by omega) (by omega)
    unfold zt_sq
    omega
  have h2 := zs_sum_rng (f := fun i => zt_w τ (zt_pe τ i) * zp_e π (zt_sq τ q i)) (B := 1000) (zt_m τ) (fun i hi => (key i hi).1)
  have h3 := zs_sum_rng (f := fun i => zt_w τ (zt_pe τ i) * zp_s π (zt_sq τ q i)) (B := 1000) (zt_m τ) (fun i hi => (key i hi).2)
  unfold zt_E0 zt_S0
  omega
set_option maxRecDepth 100000 in
set_option maxHeartbeats 600000 in
theorem mX9_take0 {l : Launch} {d : Nat} {M : zw_M} {π : zP} {τ : zQ} {m : Nat} {pe sq : Nat → Nat} {E0 S0 : Int} (h0 : -20000 ≤ E0 ∧ E0 ≤ 20000) (h1 : -20000 ≤ S0 ∧ S0 ≤ 20000) (hH : zHT M π τ m pe sq) (hA : zAcc M m sq none) : zw_C l (d + 15) iX9_takeSquares [.ref 19, .int (zn_I 0), .int (zn_I 0), .int (zn_I E0), .int (zn_I S0), .int (zn_I 0)] M (fun v M1 => v = none ∧ zw_fr [19, 22, 23] M M1 ∧ M1.1 19 7 = M.1 19 7 ∧ zAcc M1 m sq (ze_fold (ze_ev π τ m pe sq E0 S0) none (ze_ext m m []))) := by
  have h6 := hH.2.2.2.1
  have := mX9_take (l := l) (d := d + 2 * (6 - m)) h0 h1 m [] none M (by simp) hH (fun i hi => absurd hi (by simp)) (fun x hx => absurd hx (by simp)) hA
  rw [show d + 2 * (6 - m) + 2 * m + 3 = d + 15 by omega] at this
  exact zw_C_imp (fun v M1 h => ⟨h.1, h.2.1, h.2.2.1, h.2.2.2.2⟩) this
set_option maxRecDepth 100000 in
set_option maxHeartbeats 600000 in
theorem mX9_search {l : Launch} {d : Nat} {M : zw_M} {π : zP} {τ : zQ} (hI : zI M π) (hT : zT M (zp_n π) τ) {q : Nat} (hq : q < 8) (hm : zt_m τ ≤ 6) : zw_C l (d + 16) iX9_search [.ref 19, .int (zn_I (q : Int))] M (fun v M1 => v = none ∧ zw_fr [19, 20, 21, 22, 23] M M1 ∧ M1.1 19 7 = zn_I (zt_m τ : Nat) ∧ (∀ i, i < zt_m τ → M1.1 20 i = zn_I (zt_pe τ i : Nat)) ∧ zAcc M1 (zt_m τ) (zt_sq τ q) (zt_best π τ q)) := by
  have hp := hI.1
  have h30 := zp_30 hp
  have h8t := hT.1
  refine zw_of (by decide +kernel) (Nat.le_of_ble_eq_true rfl) ?_
  refine zy_loc (L1 := [.ref 19, .int (zn_I (q : Int)), .retAddr 0, .retAddr 0, .retAddr 0]) rfl ?_
  have loop : ∀ t : Nat, t ≤ τ.1 → ∀ M1 : zw_M, zw_fr [19, 20, 21] M M1 → M1.1 19 7 = zn_I ((zt_pl τ t).length : Nat) → M1.1 19 8 = zn_I 0 → (∀ i, i < (zt_pl τ t).length → M1.1 20 i = zn_I (zt_pe τ i : Nat) ∧ M1.1 21 i = zn_I (zt_sq τ q i : Nat)) → zw_X l (d + 16) iX9_search (fun v M1 => v = none ∧ zw_fr [19, 20, 21, 22, 23] M M1 ∧ M1.1 19 7 = zn_I (zt_m τ : Nat) ∧ (∀ i, i < zt_m τ → M1.1 20 i = zn_I (zt_pe τ i : Nat)) ∧ zAcc M1 (zt_m τ) (zt_sq τ q) (zt_best π τ q)) 31 [.ref 19, .int (zn_I (q : Int)), .int (zn_I (zl_E π τ q - zs_sum (fun i => zt_w τ (zt_pe τ i) * zp_e π (zt_sq τ q i)) (zt_pl τ t).length)), .int (zn_I (zl_S π τ q - zs_sum (fun i => zt_w τ (zt_pe τ i) * zp_s π (zt_sq τ q i)) (zt_pl τ t).length)), .int (zn_I (t : Int))] [] M1 := by
    refine zw_loop τ.1 (P := fun t => ∀ M1 : zw_M, zw_fr [19, 20, 21] M M1 → M1.1 19 7 = zn_I ((zt_pl τ t).length : Nat) → M1.1 19 8 = zn_I 0 → (∀ i, i < (zt_pl τ t).length → M1.1 20 i = zn_I (zt_pe τ i : Nat) ∧ M1.1 21 i = zn_I (zt_sq τ q i : Nat)) → zw_X l (d + 16) iX9_search (fun v M1 => v = none ∧ zw_fr [19, 20, 21, 22, 23] M M1 ∧ M1.1 19 7 = zn_I (zt_m τ : Nat) ∧ (∀ i, i < zt_m τ → M1.1 20 i = zn_I (zt_pe τ i : Nat)) ∧ zAcc M1 (zt_m τ) (zt_sq τ q) (zt_best π τ q)) 31 [.ref 19, .int (zn_I (q : Int)), .int (zn_I (zl_E π τ q - zs_sum (fun i => zt_w τ (zt_pe τ i) * zp_e π (zt_sq τ q i)) (zt_pl τ t).length)), .int (zn_I (zl_S π τ q - zs_sum (fun i => zt_w τ (zt_pe τ i) * zp_s π (zt_sq τ q i)) (zt_pl τ t).length)), .int (zn_I (t : Int))] [] M1) (fun t ht ih M1 hf h7 h8 hpq => ?_)
    have hI1 := zI_f hf hI (by decide)
    have hT1 := zT_f hf hT (by decide)
    refine zx_iload dX9_search_31 rfl ?_
    refine zx_aload_n dX9_search_33 rfl ?_
    refine zx_getr dX9_search_34 fX9_28 ?_
    refine zx_callV (y1 := iX8_size) dX9_search_37 lX9_59 vX8_size rc_8 (mX8_size hT1) rfl rfl (Nat.le_of_ble_eq_true rfl) ?_
    refine zk_i ?_
    refine zy_icmp_ge (tgt := 169) dX9_search_40 (by decide) (by omega) (fun h_40 => ?_) (fun h_40 => ?_)
    · have et : t = τ.1 := by omega
      subst et
      refine zx_aload_n dX9_search_169 rfl ?_
      refine zx_iconst (v := zn_I 0) dX9_search_170 rfl ?_
      refine zx_iconst (v := zn_I 0) dX9_search_171 rfl ?_
      refine zx_iload_n dX9_search_172 rfl ?_
      refine zx_iload_n dX9_search_173 rfl ?_
      refine zx_iconst (v := zn_I 0) dX9_search_174 rfl ?_
      refine zx_callV (y1 := iX9_takeSquares) dX9_search_175 lX9_83 vX9_takeSquares rc_19 (mX9_take0 (zt_E0_rng hp hT hq hm).1 (zt_E0_rng hp hT hq hm).2 (show zHT M1 π τ (zt_m τ) (zt_pe τ) (zt_sq τ q) from ⟨hI1, hT1, h7, hm, fun i hi => ⟨(hpq i hi).1, (hpq i hi).2, (zt_pe_in hi).1, hT.2.2.2.2.2.2.2 _ (zt_pe_in hi).1 q hq⟩⟩) h8) rfl rfl (Nat.le_of_ble_eq_true rfl) ?_
      intro v M2 he
      obtain ⟨rfl, hf2, h72, hA2⟩ := he
      refine zx_vret (st := []) dX9_search_178 rfl ?_
      exact ⟨rfl, zf_tr (zf_mono hf (by decide)) (zf_mono hf2 (by decide)), h72.trans h7, fun i hi => by rw [(hf2 20 (by decide)).1]; exact (hpq i hi).1, hA2⟩
    · refine zx_aload_n dX9_search_43 rfl ?_
      refine zx_getr dX9_search_44 fX9_28 ?_
      refine zx_iload dX9_search_47 rfl ?_
      refine zx_iconst (v := zn_I 3) dX9_search_49 rfl ?_
      refine zx_callV (y1 := iX8_isA) dX9_search_50 lX9_64 vX8_isA rc_8 (mX8_isA hT1 (z := (t : Int)) (a := 3) ⟨by omega, by omega⟩ ⟨by omega, by omega⟩) rfl rfl (Nat.le_of_ble_eq_true rfl) ?_
      refine zk_i ?_
      refine zy_ifB_eq (tgt := 163) dX9_search_53 (by decide) (fun h_53 => ?_) (fun h_53 => ?_)
      · refine zy_iinc dX9_search_163 rfl rfl ?_
        refine zx_goto (tgt := 31) dX9_search_166 (by decide) ?_
        rw [zt_isA, zt_kind_in (show t < τ.1 by omega)] at h_53
        have hpl : zt_pl τ (t + 1) = zt_pl τ t := by rw [zt_pl, if_neg (by omega)]
        have h9 := ih (by omega) M1 hf (by rw [hpl]; exact h7) h8 (by rw [hpl]; exact hpq)
        rw [hpl] at h9
        exact h9
      · rw [zt_isA, zt_kind_in (show t < τ.1 by omega)] at h_53
        have hper : zt_per τ t := by omega
        have hpl : zt_pl τ (t + 1) = zt_pl τ t ++ [t] := by rw [zt_pl, if_pos hper]
        have hkp := zt_pl_keep (τ := τ) (show t + 1 ≤ τ.1 by omega)
        have hll : (zt_pl τ t).length + 1 ≤ zt_m τ := by have := hkp.1; rw [hpl, List.length_append] at this; exact this
        have hpe : zt_pe τ (zt_pl τ t).length = t := by
          unfold zt_pe
          rw [hkp.2 _ (by rw [hpl, List.length_append]; exact Nat.lt_succ_self _), hpl, ze_getD_last]
        have hsq : (τ.2.2.2 t q) = zt_sq τ q (zt_pl τ t).length := by rw [zt_sq, hpe]
        have hsn : zt_sq τ q (zt_pl τ t).length < zp_n π := by rw [← hsq]; exact hT.2.2.2.2.2.2.2 t (by omega) q hq
        refine zx_aload_n dX9_search_56 rfl ?_
        refine zy_geti dX9_search_57 fX9_43 ((show _ = zn_I (((zt_pl τ t).length : Nat) : Int) from by simp [zw_s, h7])) ?_
        refine zx_bipush (v := zn_I 6) dX9_search_60 (by decide) ?_
        refine zy_icmp_ge (tgt := 163) dX9_search_62 (by decide) (by omega) (fun h_62 => ?_) (fun h_62 => ?_)
        · exact absurd h_62 (by omega)
        · refine zx_aload_n dX9_search_65 rfl ?_
          refine zx_getr dX9_search_66 fX9_9 ?_
          refine zx_aload_n dX9_search_69 rfl ?_
          refine zy_geti dX9_search_70 fX9_43 ((show _ = zn_I (((zt_pl τ t).length : Nat) : Int) from by simp [zw_s, h7])) ?_
          refine zx_iload dX9_search_73 rfl ?_
          refine zy_iast dX9_search_75 rfl (by decide) rfl (by omega) ?_
          refine zx_aload_n dX9_search_76 rfl ?_
          refine zx_getr dX9_search_77 fX9_15 ?_
          refine zx_aload_n dX9_search_80 rfl ?_
          refine zy_geti dX9_search_81 fX9_43 ((show _ = zn_I (((zt_pl τ t).length : Nat) : Int) from by simp [zw_s, h7])) ?_
          refine zx_aload_n dX9_search_84 rfl ?_
          refine zx_getr dX9_search_85 fX9_28 ?_
          refine zx_iload dX9_search_88 rfl ?_
          refine zx_iload_n dX9_search_90 rfl ?_
          refine zx_callV (y1 := iX8_place) dX9_search_91 lX9_68 vX8_place rc_8 (mX8_place_in (zT_f (zf_s hf (by decide)) hT (by decide)) (t := t) (q := q) (by omega) hq) rfl rfl (Nat.le_of_ble_eq_true rfl) ?_
          refine zk_i ?_
          rw [hsq]
          refine zy_iast dX9_search_94 rfl (by decide) rfl (by omega) ?_
          refine zx_iload_n dX9_search_95 rfl ?_
          refine zx_aload_n dX9_search_96 rfl ?_
          refine zx_getr dX9_search_97 fX9_28 ?_
          refine zx_iload dX9_search_100 rfl ?_
          refine zx_callV (y1 := iX8_weighs) dX9_search_102 lX9_72 vX8_weighs rc_8 (mX8_weighs_in (zT_f (zf_s (zf_s hf (by decide)) (by decide)) hT (by decide)) (t := t) (by omega)) rfl rfl (Nat.le_of_ble_eq_true rfl) ?_
          refine zk_i ?_
          refine zx_aload_n dX9_search_105 rfl ?_
          refine zx_getr dX9_search_106 fX9_24 ?_
          refine zx_aload_n dX9_search_109 rfl ?_
          refine zx_getr dX9_search_110 fX9_15 ?_
          refine zx_aload_n dX9_search_113 rfl ?_
          refine zy_geti dX9_search_114 fX9_43 ((show _ = zn_I (((zt_pl τ t).length : Nat) : Int) from by simp [zw_s, h7])) ?_
          refine zy_iald dX9_search_117 rfl (by decide) rfl (by omega) ((show _ = zn_I ((zt_sq τ q (zt_pl τ t).length : Nat) : Int) from by simp [zw_s, hsq])) ?_
          refine zx_callV (y1 := iX1_east) dX9_search_118 lX9_75 vX1_east rc_4 (mX1_east_in (zI_f (zf_s (zf_s hf (by decide)) (by decide)) hI (by decide)) (s := zt_sq τ q (zt_pl τ t).length) hsn) rfl rfl (Nat.le_of_ble_eq_true rfl) ?_
          refine zk_i ?_
          refine zy_imul dX9_search_121 ?_
          refine zy_isub dX9_search_122 ?_
          refine zx_istore_n dX9_search_123 rfl (Nat.le_of_ble_eq_true rfl) ?_
          refine zx_iload_n dX9_search_124 rfl ?_
          refine zx_aload_n dX9_search_125 rfl ?_
          refine zx_getr dX9_search_126 fX9_28 ?_
          refine zx_iload dX9_search_129 rfl ?_
          refine zx_callV (y1 := iX8_weighs) dX9_search_131 lX9_72 vX8_weighs rc_8 (mX8_weighs_in (zT_f (zf_s (zf_s hf (by decide)) (by decide)) hT (by decide)) (t := t) (by omega)) rfl rfl (Nat.le_of_ble_eq_true rfl) ?_
          refine zk_i ?_
          refine zx_aload_n dX9_search_134 rfl ?_
          refine zx_getr dX9_search_135 fX9_24 ?_
          refine zx_aload_n dX9_search_138 rfl ?_
          refine zx_getr dX9_search_139 fX9_15 ?_
          refine zx_aload_n dX9_search_142 rfl ?_
          refine zy_geti dX9_search_143 fX9_43 ((show _ = zn_I (((zt_pl τ t).length : Nat) : Int) from by simp [zw_s, h7])) ?_
          refine zy_iald dX9_search_146 rfl (by decide) rfl (by omega) ((show _ = zn_I ((zt_sq τ q (zt_pl τ t).length : Nat) : Int) from by simp [zw_s, hsq])) ?_
          refine zx_callV (y1 := iX1_south) dX9_search_147 lX9_80 vX1_south rc_4 (mX1_south_in (zI_f (zf_s (zf_s hf (by decide)) (by decide)) hI (by decide)) (s := zt_sq τ q (zt_pl τ t).length) hsn) rfl rfl (Nat.le_of_ble_eq_true rfl) ?_
          refine zk_i ?_
          refine zy_imul dX9_search_150 ?_
          refine zy_isub dX9_search_151 ?_
          refine zx_istore_n dX9_search_152 rfl (Nat.le_of_ble_eq_true rfl) ?_
          refine zx_aload_n dX9_search_153 rfl ?_
          refine zx_dup dX9_search_154 rfl ?_
          refine zy_geti dX9_search_155 fX9_43 ((show _ = zn_I (((zt_pl τ t).length : Nat) : Int) from by simp [zw_s, h7])) ?_
          refine zx_iconst (v := zn_I 1) dX9_search_158 rfl ?_
          refine zy_iadd dX9_search_159 ?_
          refine zx_puti dX9_search_160 fX9_43 ?_
          refine zy_iinc dX9_search_163 rfl rfl ?_
          refine zx_goto (tgt := 31) dX9_search_166 (by decide) ?_
          have hlen : (zt_pl τ (t + 1)).length = (zt_pl τ t).length + 1 := by rw [hpl, List.length_append]; rfl
          have h9 := ih (by omega) (zw_s (zw_s (zw_s M1 20 (zt_pl τ t).length (zn_I (t : Nat))) 21 (zt_pl τ t).length (zn_I (zt_sq τ q (zt_pl τ t).length : Nat))) 19 7 (zn_I (((zt_pl τ t).length : Nat) + 1 : Int))) (zf_s (zf_s (zf_s hf (by decide)) (by decide)) (by decide)) (by rw [hlen]; simp [zw_s]) (by simp [zw_s, h8]) (fun i hi => by
            rw [hlen] at hi
            by_cases e : i = (zt_pl τ t).length
            · subst e; refine ⟨?_, ?_⟩ <;> simp [zw_s, hpe]
            · have := hpq i (by omega)
              refine ⟨?_, ?_⟩ <;> simp [zw_s, e, this.1, this.2])
          rw [hlen, zs_sum, zs_sum, hpe, ← Int.sub_sub, ← Int.sub_sub] at h9
          exact h9
  refine zx_aload_n dX9_search_0 rfl ?_
  refine zx_iconst (v := zn_I 0) dX9_search_1 rfl ?_
  refine zx_puti dX9_search_2 fX9_43 ?_
  refine zx_aload_n dX9_search_5 rfl ?_
  refine zx_iconst (v := zn_I 0) dX9_search_6 rfl ?_
  refine zx_putz dX9_search_7 fX9_46 rfl rfl ?_
  refine zx_aload_n dX9_search_10 rfl ?_
  refine zx_getr dX9_search_11 fX9_32 ?_
  refine zx_iload_n dX9_search_14 rfl ?_
  refine zx_callV (y1 := iX0_leanEast) dX9_search_15 lX9_50 vX0_leanEast rc_13 (mX0_leanEast (zI_f (zf_s (zf_s (S := [19]) zf_rf (by decide)) (by decide)) hI (by decide)) (zT_f (zf_s (zf_s (S := [19]) zf_rf (by decide)) (by decide)) hT (by decide)) hq) rfl rfl (Nat.le_of_ble_eq_true rfl) ?_
  refine zk_i ?_
  refine zx_istore_n dX9_search_18 rfl (Nat.le_of_ble_eq_true rfl) ?_
  refine zx_aload_n dX9_search_19 rfl ?_
  refine zx_getr dX9_search_20 fX9_32 ?_
  refine zx_iload_n dX9_search_23 rfl ?_
  refine zx_callV (y1 := iX0_leanSouth) dX9_search_24 lX9_56 vX0_leanSouth rc_13 (mX0_leanSouth (zI_f (zf_s (zf_s (S := [19]) zf_rf (by decide)) (by decide)) hI (by decide)) (zT_f (zf_s (zf_s (S := [19]) zf_rf (by decide)) (by decide)) hT (by decide)) hq) rfl rfl (Nat.le_of_ble_eq_true rfl) ?_
  refine zk_i ?_
  refine zx_istore_n dX9_search_27 rfl (Nat.le_of_ble_eq_true rfl) ?_
  refine zx_iconst (v := zn_I 0) dX9_search_28 rfl ?_
  refine zx_istore dX9_search_29 rfl (Nat.le_of_ble_eq_true rfl) ?_
  have h9 := loop 0 (by omega) (zw_s (zw_s M 19 7 (zn_I 0)) 19 8 (zn_I 0)) (zf_s (zf_s zf_rf (by decide)) (by decide)) (by simp [zw_s, zt_pl]) (by simp [zw_s]) (fun i hi => absurd hi (by simp [zt_pl]))
  rw [show (zt_pl τ 0).length = 0 from rfl, zs_sum, zs_sum, Int.sub_zero, Int.sub_zero] at h9
  exact h9
set_option maxRecDepth 100000 in
set_option maxHeartbeats 600000 in
theorem mX9_placeOf {l : Launch} {d : Nat} {M : zw_M} {m : Nat} {pe vs : Nat → Nat} (h7 : M.1 19 7 = zn_I (m : Nat)) (hm : m ≤ 6) (hpe : ∀ i, i < m → M.1 20 i = zn_I (pe i : Nat) ∧ pe i ≤ 100) (hvs : ∀ i, i < m → M.1 23 i = zn_I (vs i : Nat)) {z : Int} (hz : 0 ≤ z ∧ z ≤ 7) : zw_C l d iX9_placeOf [.ref 19, .int (zn_I z)] M (zw_i (zn_I (zc_f pe vs z m)) M) := by
  refine zw_of (by decide +kernel) (Nat.le_of_ble_eq_true rfl) ?_
  refine zy_loc (L1 := [.ref 19, .int (zn_I z), .retAddr 0]) rfl ?_
  have loop : ∀ s : Nat, s ≤ m → zc_f pe vs z s = -1 → zw_X l d iX9_placeOf (zw_i (zn_I (zc_f pe vs z m)) M) 2 [.ref 19, .int (zn_I z), .int (zn_I (s : Int))] [] M := by
    refine zw_loop m (P := fun s => zc_f pe vs z s = -1 → zw_X l d iX9_placeOf (zw_i (zn_I (zc_f pe vs z m)) M) 2 [.ref 19, .int (zn_I z), .int (zn_I (s : Int))] [] M) (fun s hs ih hc => ?_)
    refine zx_iload_n dX9_placeOf_2 rfl ?_
    refine zx_aload_n dX9_placeOf_3 rfl ?_
    refine zy_geti dX9_placeOf_4 fX9_43 (h7) ?_
    refine zy_icmp_ge (tgt := 33) dX9_placeOf_7 (by decide) (by omega) (fun h_7 => ?_) (fun h_7 => ?_)
    · refine zx_iconst (v := zn_I (-1)) dX9_placeOf_33 rfl ?_
      refine zx_iret (st := []) dX9_placeOf_34 rfl rfl ?_
      exact zk_I (by rw [show m = s by omega, hc])
    · refine zx_aload_n dX9_placeOf_10 rfl ?_
      refine zx_getr dX9_placeOf_11 fX9_9 ?_
      refine zx_iload_n dX9_placeOf_14 rfl ?_
      refine zy_iald dX9_placeOf_15 rfl (by decide) rfl (by omega) ((hpe s (by omega)).1) ?_
      refine zx_iload_n dX9_placeOf_16 rfl ?_
      refine zy_icmp_ne (tgt := 27) dX9_placeOf_17 (by decide) (by have := (hpe s (by omega)).2; omega) (fun h_17 => ?_) (fun h_17 => ?_)
      · refine zy_iinc dX9_placeOf_27 rfl rfl ?_
        refine zx_goto (tgt := 2) dX9_placeOf_30 (by decide) ?_
        exact ih (by omega) (by rw [zc_f, if_neg (by omega), if_neg (by omega)])
      · refine zx_aload_n dX9_placeOf_20 rfl ?_
        refine zx_getr dX9_placeOf_21 fX9_21 ?_
        refine zx_iload_n dX9_placeOf_24 rfl ?_
        refine zy_iald dX9_placeOf_25 rfl (by decide) rfl (by omega) ((hvs s (by omega))) ?_
        refine zx_iret (st := []) dX9_placeOf_26 rfl rfl ?_
        exact zk_I (by rw [zc_f_stop hc (by omega) m (by omega)])
  refine zx_iconst (v := zn_I 0) dX9_placeOf_0 rfl ?_
  refine zx_istore_n dX9_placeOf_1 rfl (Nat.le_of_ble_eq_true rfl) ?_
  exact loop 0 (by omega) rfl
set_option maxRecDepth 100000 in
set_option maxHeartbeats 600000 in
theorem mX9_wetDoors {l : Launch} {d : Nat} {M : zw_M} {x : Int32} (hx : M.1 19 9 = x) : zw_C l d iX9_wetDoors [.ref 19] M (zw_i x M) := by
  refine zw_of (by decide +kernel) (Nat.le_of_ble_eq_true rfl) ?_
  refine zy_loc (L1 := [.ref 19]) rfl ?_
  refine zx_aload_n dX9_wetDoors_0 rfl ?_
  refine zy_geti dX9_wetDoors_1 fX9_36 (hx) ?_
  refine zx_iret (st := []) dX9_wetDoors_4 rfl rfl ?_
  exact ⟨rfl, rfl⟩
set_option maxRecDepth 100000 in
set_option maxHeartbeats 600000 in
theorem mX9_elsewhere {l : Launch} {d : Nat} {M : zw_M} {x : Int32} (hx : M.1 19 10 = x) : zw_C l d iX9_elsewhere [.ref 19] M (zw_i x M) := by
  refine zw_of (by decide +kernel) (Nat.le_of_ble_eq_true rfl) ?_
  refine zy_loc (L1 := [.ref 19]) rfl ?_
  refine zx_aload_n dX9_elsewhere_0 rfl ?_
  refine zy_geti dX9_elsewhere_1 fX9_40 (hx) ?_
  refine zx_iret (st := []) dX9_elsewhere_4 rfl rfl ?_
  exact ⟨rfl, rfl⟩
