/-! THE REFERENCE'S THINGS -/
theorem mT_mv {M M1 : zw_M} {n : Nat} {τ : zQ} (hT : mT M n τ) {t : Nat} {f : Nat → Nat} (hf : mfr [37] [] M M1) (h1 : ∀ q, q < 8 → M1.1 37 (8 * t + q) = zn_I (f q : Nat)) (h2 : ∀ k, (k < 8 * t ∨ 8 * t + 8 ≤ k) → M1.1 37 k = M.1 37 k) (h3 : ∀ q, q < 8 → f q < n) : mT M1 n (zt_mv τ t f) := by
  obtain ⟨h8, hk, hK, hW, hP, hKr, hWr, hPr⟩ := hT
  refine ⟨h8, by rw [(hf.2 5 (by decide)).1]; exact hk, fun u hu => by rw [(hf.1 35 (by decide) (by decide)).1]; exact hK u hu, fun u hu => by rw [(hf.1 36 (by decide) (by decide)).1]; exact hW u hu, fun u hu q hq => ?_, hKr, hWr, fun u hu q hq => ?_⟩
  · by_cases e : u = t
    · subst e
      rw [h1 q hq]; simp [zt_mv]
    · rw [h2 _ (by omega), hP u hu q hq]
      simp [zt_mv, e]
  · by_cases e : u = t
    · subst e; simpa [zt_mv] using h3 q hq
    · simpa [zt_mv, e] using hPr u hu q hq
theorem mT_new {M M1 : zw_M} {n : Nat} {τ : zQ} (hT : mT M n τ) {k w : Int} {s : Nat} (h8 : M1.1 33 5 = zn_I (τ.1 + 1)) (h9 : ∀ u, u ≤ τ.1 → M1.1 35 u = if u = τ.1 then zn_I k else M.1 35 u) (h10 : ∀ u, u ≤ τ.1 → M1.1 36 u = if u = τ.1 then zn_I w else M.1 36 u) (h11 : ∀ j, M1.1 37 j = if 8 * τ.1 ≤ j ∧ j < 8 * τ.1 + 8 then zn_I (s : Nat) else M.1 37 j) (ht : τ.1 < 8) (hk : 0 ≤ k ∧ k ≤ 4) (hw : 1 ≤ w ∧ w ≤ 99) (hs : s < n) : mT M1 n (zt_new τ k w s) := by
  obtain ⟨_, _, hK, hW, hP, hKr, hWr, hPr⟩ := hT
  refine ⟨by show τ.1 + 1 ≤ 8; omega, h8, fun u hu => ?_, fun u hu => ?_, fun u hu q hq => ?_, fun u hu => ?_, fun u hu => ?_, fun u hu q hq => ?_⟩
  all_goals have hu1 : u < τ.1 + 1 := hu
  all_goals by_cases e : u = τ.1
  · rw [h9 u (by omega)]; simp [zt_new, e]
  · rw [h9 u (by omega), if_neg e, hK u (by omega)]; simp [zt_new, e]
  · rw [h10 u (by omega)]; simp [zt_new, e]
  · rw [h10 u (by omega), if_neg e, hW u (by omega)]; simp [zt_new, e]
  · rw [h11, if_pos (by omega)]; simp [zt_new, e]
  · rw [h11, if_neg (by omega), hP u (by omega) q hq]; simp [zt_new, e]
  · simpa [zt_new, e] using hk
  · simpa [zt_new, e] using hKr u (by omega)
  · simpa [zt_new, e] using hw
  · simpa [zt_new, e] using hWr u (by omega)
  · simpa [zt_new, e] using hs
  · simpa [zt_new, e] using hPr u (by omega) q hq
theorem mT_at {M : zw_M} {n : Nat} {τ : zQ} (hT : mT M n τ) {t q s : Nat} (hq : q < 8) (ht : t < τ.1) (hs : s < n) : mT (zw_s M 37 (8 * t + q) (zn_I (s : Nat))) n (zt_at τ t q s) := by
  refine mT_mv hT (mf_s mf_rf (by decide) (by decide)) (fun u hu => ?_) (fun k hk => ?_) (fun u hu => ?_)
  · by_cases e : u = q
    · subst e; simp [zw_s]
    · have := hT.2.2.2.2.1 t ht u hu
      simp [zw_s, e, this]
  · have : k ≠ 8 * t + q := by omega
    simp [zw_s, this]
  · by_cases e : u = q
    · simpa [e] using hs
    · simpa [e] using hT.2.2.2.2.2.2.2 t ht u hu
theorem zJ_th {M M1 : zw_M} {σ : zZ} {τ : zQ} (h : mfr [35, 36, 37] [5] M M1) (hJ : zJ_ M σ) (hT : mT M1 (zp_n σ.1) τ) : zJ_ M1 (zst σ τ) :=
  ⟨mI_f h hJ.1 (by decide), hT, mG_f h hJ.2.2.1 (by decide), ⟨by rw [(h.2 3 (by decide)).1]; exact hJ.2.2.2.1.1, by rw [(h.2 9 (by decide)).1]; exact hJ.2.2.2.1.2.1, by rw [(h.2 10 (by decide)).1]; exact hJ.2.2.2.1.2.2⟩, mM_f h hJ.2.2.2.2.1 (by decide), mK_f h hJ.2.2.2.2.2 (by decide)⟩
set_option maxRecDepth 100000 in
set_option maxHeartbeats 600000 in
theorem mX11_square {l : Launch} {d : Nat} {M : zw_M} {σ : zZ} (hJ : zJ_ M σ) {z : Int} (hzz : -2147483648 ≤ z ∧ z < 2147483648) {w : Int} (hww : -2147483648 ≤ w ∧ w < 2147483648) : zw_C l (d + 2) iX11_square [.ref 33, .int (zn_I z), .int (zn_I w)] M (mO (zn_I (zk_square σ z w)) σ M) := by
  obtain ⟨hI, hT, hG, ⟨ha, hb, hc⟩, hM, hK⟩ := id hJ
  have hp := hI.1
  have h30 := zp_30 hp
  have h8 := hT.1
  have hr2 : M.1 33 2 = zn_I (zp_n σ.1) := hI.2.2.2.1
  have ht5 : M.1 33 5 = zn_I σ.2.1.1 := hT.2.1
  refine zw_of (by decide +kernel) (Nat.le_of_ble_eq_true rfl) ?_
  refine zy_loc (L1 := [.ref 33, .int (zn_I z), .int (zn_I w)]) rfl ?_
  refine zx_aload_n dX11_square_0 rfl ?_
  refine zx_iload_n dX11_square_1 rfl ?_
  refine zx_callV (y1 := iX11_isSquare) dX11_square_2 lX11_101 vX11_isSquare rc_33 (mX11_isSquare hI hzz) rfl rfl (Nat.le_of_ble_eq_true rfl) ?_
  refine zk_i ?_
  refine zy_ifB_ne (tgt := 11) dX11_square_5 (by decide) (fun h_5 => ?_) (fun h_5 => ?_)
  · obtain ⟨z, rfl⟩ : ∃ n : Nat, z = (n : Int) := ⟨z.toNat, by omega⟩
    refine zx_iload_n dX11_square_11 rfl ?_
    refine zx_iconst (v := zn_I 0) dX11_square_12 rfl ?_
    refine zx_iconst (v := zn_I 2) dX11_square_13 rfl ?_
    refine zx_callS (y1 := iX11_within) dX11_square_14 lX11_65 sX11_within (mX11_within (v := w) (a := 0) (b := 2) (by omega) (by omega) (by omega)) rfl rfl (Nat.le_of_ble_eq_true rfl) ?_
    refine zk_i ?_
    refine zy_ifB_ne (tgt := 23) dX11_square_17 (by decide) (fun h_17 => ?_) (fun h_17 => ?_)
    · refine zx_iload_n dX11_square_23 rfl ?_
      refine zy_if_ne (tgt := 36) dX11_square_24 (by decide) (by omega) (fun h_24 => ?_) (fun h_24 => ?_)
      · refine zx_iload_n dX11_square_36 rfl ?_
        refine zx_iconst (v := zn_I 1) dX11_square_37 rfl ?_
        refine zy_icmp_ne (tgt := 49) dX11_square_38 (by decide) (by omega) (fun h_38 => ?_) (fun h_38 => ?_)
        · refine zx_aload_n dX11_square_49 rfl ?_
          refine zx_iload_n dX11_square_50 rfl ?_
          refine zx_callV (y1 := iX11_southOf) dX11_square_51 lX11_110 vX11_southOf rc_33 (mX11_southOf hI (s := z) (by omega)) rfl rfl (Nat.le_of_ble_eq_true rfl) ?_
          refine zk_i ?_
          refine zx_iret (st := []) dX11_square_54 rfl rfl ?_
          exact mO_i hJ (by simp only [zk_square, Int.toNat_natCast]; (repeat' split) <;> first | rfl | omega)
        · refine zx_aload_n dX11_square_41 rfl ?_
          refine zx_iload_n dX11_square_42 rfl ?_
          refine zx_callV (y1 := iX11_eastOf) dX11_square_43 lX11_107 vX11_eastOf rc_33 (mX11_eastOf hI (s := z) (by omega)) rfl rfl (Nat.le_of_ble_eq_true rfl) ?_
          refine zk_i ?_
          refine zx_goto (tgt := 54) dX11_square_46 (by decide) ?_
          refine zx_iret (st := []) dX11_square_54 rfl rfl ?_
          exact mO_i hJ (by simp only [zk_square, Int.toNat_natCast]; (repeat' split) <;> first | rfl | omega)
      · refine zx_aload_n dX11_square_27 rfl ?_
        refine zx_getr dX11_square_28 fX11_7 ?_
        refine zx_iload_n dX11_square_31 rfl ?_
        refine zy_iald dX11_square_32 rfl (by decide) rfl (by omega) (hI.2.2.2.2.1 z (by omega)) ?_
        refine zx_goto (tgt := 54) dX11_square_33 (by decide) ?_
        refine zx_iret (st := []) dX11_square_54 rfl rfl ?_
        exact mO_i hJ (by simp only [zk_square, Int.toNat_natCast]; (repeat' split) <;> first | rfl | omega)
    · refine zx_ldc dX11_square_20 kX11_106 ?_
      refine zy_top (show (-100102 : Int32) = zn_I (-100102) from by decide) ?_
      refine zx_iret (st := []) dX11_square_22 rfl rfl ?_
      exact mO_i hJ (by simp only [zk_square, Int.toNat_natCast]; (repeat' split) <;> first | rfl | omega)
  · refine zx_ldc dX11_square_8 kX11_105 ?_
    refine zy_top (show (-100101 : Int32) = zn_I (-100101) from by decide) ?_
    refine zx_iret (st := []) dX11_square_10 rfl rfl ?_
    exact mO_i hJ (by simp only [zk_square, Int.toNat_natCast]; (repeat' split) <;> first | rfl | omega)
set_option maxRecDepth 100000 in
set_option maxHeartbeats 600000 in
theorem mX11_thing {l : Launch} {d : Nat} {M : zw_M} {σ : zZ} (hJ : zJ_ M σ) {k : Int} (hkk : -2147483648 ≤ k ∧ k < 2147483648) {w : Int} (hww : -2147483648 ≤ w ∧ w < 2147483648) {s : Int} (hss : -2147483648 ≤ s ∧ s < 2147483648) : zw_C l (d + 2) iX11_thing [.ref 33, .int (zn_I k), .int (zn_I w), .int (zn_I s)] M (mO (zn_I (zk_thing σ k w s)) (zk_thingS σ k w s) M) := by
  obtain ⟨hI, hT, hG, ⟨ha, hb, hc⟩, hM, hK⟩ := id hJ
  have hp := hI.1
  have h30 := zp_30 hp
  have h8 := hT.1
  have hr2 : M.1 33 2 = zn_I (zp_n σ.1) := hI.2.2.2.1
  have ht5 : M.1 33 5 = zn_I σ.2.1.1 := hT.2.1
  refine zw_of (by decide +kernel) (Nat.le_of_ble_eq_true rfl) ?_
  refine zy_loc (L1 := [.ref 33, .int (zn_I k), .int (zn_I w), .int (zn_I s), .retAddr 0]) rfl ?_
  refine zx_iload_n dX11_thing_0 rfl ?_
  refine zx_iconst (v := zn_I 0) dX11_thing_1 rfl ?_
  refine zx_iconst (v := zn_I 4) dX11_thing_2 rfl ?_
  refine zx_callS (y1 := iX11_within) dX11_thing_3 lX11_65 sX11_within (mX11_within (v := k) (a := 0) (b := 4) (by omega) (by omega) (by omega)) rfl rfl (Nat.le_of_ble_eq_true rfl) ?_
  refine zk_i ?_
  refine zy_ifB_eq (tgt := 19) dX11_thing_6 (by decide) (fun h_6 => ?_) (fun h_6 => ?_)
  · refine zx_bipush (v := zn_I (-102)) dX11_thing_19 (by decide) ?_
    refine zx_iret (st := []) dX11_thing_21 rfl rfl ?_
    rw [zk_thingS, if_neg (by omega)]
    exact mO_i hJ (by simp only [zk_thing, Int.toNat_natCast]; (repeat' split) <;> first | rfl | omega)
  · refine zx_iload_n dX11_thing_9 rfl ?_
    refine zx_iconst (v := zn_I 1) dX11_thing_10 rfl ?_
    refine zx_bipush (v := zn_I 99) dX11_thing_11 (by decide) ?_
    refine zx_callS (y1 := iX11_within) dX11_thing_13 lX11_65 sX11_within (mX11_within (v := w) (a := 1) (b := 99) (by omega) (by omega) (by omega)) rfl rfl (Nat.le_of_ble_eq_true rfl) ?_
    refine zk_i ?_
    refine zy_ifB_ne (tgt := 22) dX11_thing_16 (by decide) (fun h_16 => ?_) (fun h_16 => ?_)
    · refine zx_aload_n dX11_thing_22 rfl ?_
      refine zx_iload_n dX11_thing_23 rfl ?_
      refine zx_callV (y1 := iX11_isSquare) dX11_thing_24 lX11_101 vX11_isSquare rc_33 (mX11_isSquare hI hss) rfl rfl (Nat.le_of_ble_eq_true rfl) ?_
      refine zk_i ?_
      refine zy_ifB_ne (tgt := 33) dX11_thing_27 (by decide) (fun h_27 => ?_) (fun h_27 => ?_)
      · obtain ⟨s, rfl⟩ : ∃ n : Nat, s = (n : Int) := ⟨s.toNat, by omega⟩
        refine zx_aload_n dX11_thing_33 rfl ?_
        refine zy_geti dX11_thing_34 fX11_95 ((show _ = zn_I (σ.2.1.1 : Int) from by first | exact ht5 | simp [zw_s, ht5])) ?_
        refine zx_bipush (v := zn_I 8) dX11_thing_37 (by decide) ?_
        refine zy_icmp_ne (tgt := 45) dX11_thing_39 (by decide) (by omega) (fun h_39 => ?_) (fun h_39 => ?_)
        · refine zx_aload_n dX11_thing_45 rfl ?_
          refine zx_getr dX11_thing_46 fX11_13 ?_
          refine zx_aload_n dX11_thing_49 rfl ?_
          refine zy_geti dX11_thing_50 fX11_95 ((show _ = zn_I (σ.2.1.1 : Int) from by first | exact ht5 | simp [zw_s, ht5])) ?_
          refine zx_iload_n dX11_thing_53 rfl ?_
          refine zy_iast (i := σ.2.1.1) dX11_thing_54 rfl (by decide) (by omega) (by omega) ?_
          refine zx_aload_n dX11_thing_55 rfl ?_
          refine zx_getr dX11_thing_56 fX11_16 ?_
          refine zx_aload_n dX11_thing_59 rfl ?_
          refine zy_geti dX11_thing_60 fX11_95 ((show _ = zn_I (σ.2.1.1 : Int) from by first | exact ht5 | simp [zw_s, ht5])) ?_
          refine zx_iload_n dX11_thing_63 rfl ?_
          refine zy_iast (i := σ.2.1.1) dX11_thing_64 rfl (by decide) (by omega) (by omega) ?_
          refine zx_iconst (v := zn_I 0) dX11_thing_65 rfl ?_
          refine zx_istore dX11_thing_66 rfl (Nat.le_of_ble_eq_true rfl) ?_
          have loop : ∀ q : Nat, q ≤ 8 → ∀ M1 : zw_M, mfr [37] [] (zw_s (zw_s M 35 σ.2.1.1 (zn_I k)) 36 σ.2.1.1 (zn_I w)) M1 → (∀ j, M1.1 37 j = if 8 * σ.2.1.1 ≤ j ∧ j < 8 * σ.2.1.1 + q then zn_I (s : Nat) else M.1 37 j) → zw_X l (d + 2) iX11_thing (mO (zn_I (zk_thing σ k w s)) (zk_thingS σ k w s) M) 68 [.ref 33, .int (zn_I k), .int (zn_I w), .int (zn_I (s : Int)), .int (zn_I (q : Int))] [] M1 := by
            refine zw_loop 8 (P := fun q => ∀ M1 : zw_M, mfr [37] [] (zw_s (zw_s M 35 σ.2.1.1 (zn_I k)) 36 σ.2.1.1 (zn_I w)) M1 → (∀ j, M1.1 37 j = if 8 * σ.2.1.1 ≤ j ∧ j < 8 * σ.2.1.1 + q then zn_I (s : Nat) else M.1 37 j) → zw_X l (d + 2) iX11_thing (mO (zn_I (zk_thing σ k w s)) (zk_thingS σ k w s) M) 68 [.ref 33, .int (zn_I k), .int (zn_I w), .int (zn_I (s : Int)), .int (zn_I (q : Int))] [] M1) (fun q hq ih M1 hf hc2 => ?_)
            refine zx_iload dX11_thing_68 rfl ?_
            refine zx_bipush (v := zn_I 8) dX11_thing_70 (by decide) ?_
            refine zy_icmp_ge (tgt := 97) dX11_thing_72 (by decide) (by omega) (fun h_72 => ?_) (fun h_72 => ?_)
            · refine zx_aload_n dX11_thing_97 rfl ?_
              refine zx_dup dX11_thing_98 rfl ?_
              refine zy_geti dX11_thing_99 fX11_95 ((show _ = zn_I (σ.2.1.1 : Int) from by rw [(hf.2 5 (by decide)).1]; simp [zw_s, ht5])) ?_
              refine zx_iconst (v := zn_I 1) dX11_thing_102 rfl ?_
              refine zy_iadd dX11_thing_103 ?_
              refine zx_puti dX11_thing_104 fX11_95 ?_
              refine zx_aload_n dX11_thing_107 rfl ?_
              refine zy_geti dX11_thing_108 fX11_95 (show _ = zn_I ((σ.2.1.1 : Int) + 1) from by simp [zw_s]) ?_
              refine zx_iconst (v := zn_I 1) dX11_thing_111 rfl ?_
              refine zy_isub dX11_thing_112 ?_
              refine zx_iret (st := []) dX11_thing_113 rfl rfl ?_
              have hq8 : q = 8 := by omega
              subst hq8
              have hfa : mfr [35, 36, 37] [5] M (zw_s M1 33 5 (zn_I ((σ.2.1.1 : Int) + 1))) := mf_f (mf_tr (mf_s (mf_s mf_rf (by decide) (by decide)) (by decide) (by decide)) (mf_mono hf (by decide))) (by decide)
              rw [zk_thingS, if_pos ⟨⟨by omega, by omega⟩, ⟨by omega, by omega⟩, by omega⟩, Int.toNat_natCast]
              refine mO_f (mf_mono hfa (by decide)) (zJ_th hfa hJ (mT_new hT (by simp [zw_s]) (fun u hu => ?_) (fun u hu => ?_) (fun j => ?_) (by omega) (by omega) (by omega) (by omega))) (by simp only [zk_thing, Int.toNat_natCast]; (repeat' split) <;> first | rfl | omega)
              · simp only [zw_s, show ¬ (35 = 33) by decide, false_and, if_false]
                rw [(hf.1 35 (by decide) (by decide)).1]; simp [zw_s]
              · simp only [zw_s, show ¬ (36 = 33) by decide, false_and, if_false]
                rw [(hf.1 36 (by decide) (by decide)).1]; simp [zw_s]
              · simp only [zw_s, show ¬ (37 = 33) by decide, false_and, if_false]
                exact hc2 j
            · refine zx_aload_n dX11_thing_75 rfl ?_
              refine zx_getr dX11_thing_76 fX11_19 ?_
              refine zx_bipush (v := zn_I 8) dX11_thing_79 (by decide) ?_
              refine zx_aload_n dX11_thing_81 rfl ?_
              refine zy_geti dX11_thing_82 fX11_95 ((show _ = zn_I (σ.2.1.1 : Int) from by rw [(hf.2 5 (by decide)).1]; simp [zw_s, ht5])) ?_
              refine zy_imul dX11_thing_85 ?_
              refine zx_iload dX11_thing_86 rfl ?_
              refine zy_iadd dX11_thing_88 ?_
              refine zx_iload_n dX11_thing_89 rfl ?_
              refine zy_iast (i := 8 * σ.2.1.1 + q) dX11_thing_90 rfl (by decide) (by omega) (by omega) ?_
              refine zy_iinc dX11_thing_91 rfl rfl ?_
              refine zx_goto (tgt := 68) dX11_thing_94 (by decide) ?_
              refine ih (by omega) _ (mf_s hf (by decide) (by decide)) (fun j => ?_)
              by_cases e : j = 8 * σ.2.1.1 + q
              · subst e
                rw [if_pos (by omega)]
                simp [zw_s]
              · have h1 := hc2 j
                simp only [zw_s, e, and_false, if_false]
                rw [h1]
                by_cases r : 8 * σ.2.1.1 ≤ j ∧ j < 8 * σ.2.1.1 + q
                · rw [if_pos r, if_pos (by omega)]
                · rw [if_neg r, if_neg (by omega)]
          exact loop 0 (by omega) _ mf_rf (fun j => by rw [if_neg (by omega)]; simp [zw_s])
        · refine zx_bipush (v := zn_I (-104)) dX11_thing_42 (by decide) ?_
          refine zx_iret (st := []) dX11_thing_44 rfl rfl ?_
          rw [zk_thingS, if_neg (by omega)]
          exact mO_i hJ (by simp only [zk_thing, Int.toNat_natCast]; (repeat' split) <;> first | rfl | omega)
      · refine zx_bipush (v := zn_I (-101)) dX11_thing_30 (by decide) ?_
        refine zx_iret (st := []) dX11_thing_32 rfl rfl ?_
        rw [zk_thingS, if_neg (by omega)]
        exact mO_i hJ (by simp only [zk_thing, Int.toNat_natCast]; (repeat' split) <;> first | rfl | omega)
    · refine zx_bipush (v := zn_I (-102)) dX11_thing_19 (by decide) ?_
      refine zx_iret (st := []) dX11_thing_21 rfl rfl ?_
      rw [zk_thingS, if_neg (by omega)]
      exact mO_i hJ (by simp only [zk_thing, Int.toNat_natCast]; (repeat' split) <;> first | rfl | omega)
set_option maxRecDepth 100000 in
set_option maxHeartbeats 600000 in
theorem mX11_about {l : Launch} {d : Nat} {M : zw_M} {σ : zZ} (hJ : zJ_ M σ) {z : Int} (hzz : -2147483648 ≤ z ∧ z < 2147483648) {w : Int} (hww : -2147483648 ≤ w ∧ w < 2147483648) : zw_C l (d + 2) iX11_about [.ref 33, .int (zn_I z), .int (zn_I w)] M (mO (zn_I (zk_about σ z w)) σ M) := by
  obtain ⟨hI, hT, hG, ⟨ha, hb, hc⟩, hM, hK⟩ := id hJ
  have hp := hI.1
  have h30 := zp_30 hp
  have h8 := hT.1
  have hr2 : M.1 33 2 = zn_I (zp_n σ.1) := hI.2.2.2.1
  have ht5 : M.1 33 5 = zn_I σ.2.1.1 := hT.2.1
  refine zw_of (by decide +kernel) (Nat.le_of_ble_eq_true rfl) ?_
  refine zy_loc (L1 := [.ref 33, .int (zn_I z), .int (zn_I w)]) rfl ?_
  refine zx_aload_n dX11_about_0 rfl ?_
  refine zx_iload_n dX11_about_1 rfl ?_
  refine zx_callV (y1 := iX11_isThing) dX11_about_2 lX11_113 vX11_isThing rc_33 (mX11_isThing hT hzz) rfl rfl (Nat.le_of_ble_eq_true rfl) ?_
  refine zk_i ?_
  refine zy_ifB_ne (tgt := 11) dX11_about_5 (by decide) (fun h_5 => ?_) (fun h_5 => ?_)
  · refine zx_iload_n dX11_about_11 rfl ?_
    refine zx_iconst (v := zn_I 0) dX11_about_12 rfl ?_
    refine zx_iconst (v := zn_I 2) dX11_about_13 rfl ?_
    refine zx_callS (y1 := iX11_within) dX11_about_14 lX11_65 sX11_within (mX11_within (v := w) (a := 0) (b := 2) (by omega) (by omega) (by omega)) rfl rfl (Nat.le_of_ble_eq_true rfl) ?_
    refine zk_i ?_
    refine zy_ifB_ne (tgt := 34) dX11_about_17 (by decide) (fun h_17 => ?_) (fun h_17 => ?_)
    · obtain ⟨z, rfl⟩ : ∃ n : Nat, z = (n : Int) := ⟨z.toNat, by omega⟩
      refine zx_iload_n dX11_about_34 rfl ?_
      refine zy_if_ne (tgt := 47) dX11_about_35 (by decide) (by omega) (fun h_35 => ?_) (fun h_35 => ?_)
      · refine zx_iload_n dX11_about_47 rfl ?_
        refine zx_iconst (v := zn_I 1) dX11_about_48 rfl ?_
        refine zy_icmp_ne (tgt := 61) dX11_about_49 (by decide) (by omega) (fun h_49 => ?_) (fun h_49 => ?_)
        · refine zx_iload_n dX11_about_61 rfl ?_
          refine zx_iconst (v := zn_I 2) dX11_about_62 rfl ?_
          refine zy_icmp_ne (tgt := 74) dX11_about_63 (by decide) (by omega) (fun h_63 => ?_) (fun h_63 => ?_)
          · refine zx_aload_n dX11_about_74 rfl ?_
            refine zx_getr dX11_about_75 fX11_19 ?_
            refine zx_bipush (v := zn_I 8) dX11_about_78 (by decide) ?_
            refine zx_iload_n dX11_about_80 rfl ?_
            refine zy_imul dX11_about_81 ?_
            refine zx_iload_n dX11_about_82 rfl ?_
            refine zy_iadd dX11_about_83 ?_
            refine zx_bipush (v := zn_I 10) dX11_about_84 (by decide) ?_
            refine zy_isub dX11_about_86 ?_
            refine zy_iald (i := 8 * z + (w - 10).toNat) dX11_about_87 rfl (by decide) (by omega) (by omega) (hT.2.2.2.2.1 z (by omega) (w - 10).toNat (by omega)) ?_
            refine zx_iret (st := []) dX11_about_88 rfl rfl ?_
            exact mO_i hJ (by simp only [zk_about, zpl, Int.toNat_natCast]; (repeat' split) <;> first | rfl | omega)
          · refine zx_aload_n dX11_about_66 rfl ?_
            refine zx_iload_n dX11_about_67 rfl ?_
            refine zx_callV (y1 := iX11_weighs) dX11_about_68 lX11_116 vX11_weighs rc_33 (mX11_weighs hT (t := z) (by omega)) rfl rfl (Nat.le_of_ble_eq_true rfl) ?_
            refine zk_i ?_
            refine zx_goto (tgt := 88) dX11_about_71 (by decide) ?_
            refine zx_iret (st := []) dX11_about_88 rfl rfl ?_
            exact mO_i hJ (by simp only [zk_about, zpl, Int.toNat_natCast]; (repeat' split) <;> first | rfl | omega)
        · refine zx_aload_n dX11_about_52 rfl ?_
          refine zx_getr dX11_about_53 fX11_16 ?_
          refine zx_iload_n dX11_about_56 rfl ?_
          refine zy_iald dX11_about_57 rfl (by decide) rfl (by omega) (hT.2.2.2.1 z (by omega)) ?_
          refine zx_goto (tgt := 88) dX11_about_58 (by decide) ?_
          refine zx_iret (st := []) dX11_about_88 rfl rfl ?_
          exact mO_i hJ (by simp only [zk_about, zpl, Int.toNat_natCast]; (repeat' split) <;> first | rfl | omega)
      · refine zx_aload_n dX11_about_38 rfl ?_
        refine zx_getr dX11_about_39 fX11_13 ?_
        refine zx_iload_n dX11_about_42 rfl ?_
        refine zy_iald dX11_about_43 rfl (by decide) rfl (by omega) (hT.2.2.1 z (by omega)) ?_
        refine zx_goto (tgt := 88) dX11_about_44 (by decide) ?_
        refine zx_iret (st := []) dX11_about_88 rfl rfl ?_
        exact mO_i hJ (by simp only [zk_about, zpl, Int.toNat_natCast]; (repeat' split) <;> first | rfl | omega)
    · refine zx_iload_n dX11_about_20 rfl ?_
      refine zx_bipush (v := zn_I 10) dX11_about_21 (by decide) ?_
      refine zx_bipush (v := zn_I 17) dX11_about_23 (by decide) ?_
      refine zx_callS (y1 := iX11_within) dX11_about_25 lX11_65 sX11_within (mX11_within (v := w) (a := 10) (b := 17) (by omega) (by omega) (by omega)) rfl rfl (Nat.le_of_ble_eq_true rfl) ?_
      refine zk_i ?_
      refine zy_ifB_ne (tgt := 34) dX11_about_28 (by decide) (fun h_28 => ?_) (fun h_28 => ?_)
      · obtain ⟨z, rfl⟩ : ∃ n : Nat, z = (n : Int) := ⟨z.toNat, by omega⟩
        refine zx_iload_n dX11_about_34 rfl ?_
        refine zy_if_ne (tgt := 47) dX11_about_35 (by decide) (by omega) (fun h_35 => ?_) (fun h_35 => ?_)
        · refine zx_iload_n dX11_about_47 rfl ?_
          refine zx_iconst (v := zn_I 1) dX11_about_48 rfl ?_
          refine zy_icmp_ne (tgt := 61) dX11_about_49 (by decide) (by omega) (fun h_49 => ?_) (fun h_49 => ?_)
          · refine zx_iload_n dX11_about_61 rfl ?_
            refine zx_iconst (v := zn_I 2) dX11_about_62 rfl ?_
            refine zy_icmp_ne (tgt := 74) dX11_about_63 (by decide) (by omega) (fun h_63 => ?_) (fun h_63 => ?_)
            · refine zx_aload_n dX11_about_74 rfl ?_
              refine zx_getr dX11_about_75 fX11_19 ?_
              refine zx_bipush (v := zn_I 8) dX11_about_78 (by decide) ?_
              refine zx_iload_n dX11_about_80 rfl ?_
              refine zy_imul dX11_about_81 ?_
              refine zx_iload_n dX11_about_82 rfl ?_
              refine zy_iadd dX11_about_83 ?_
              refine zx_bipush (v := zn_I 10) dX11_about_84 (by decide) ?_
              refine zy_isub dX11_about_86 ?_
              refine zy_iald (i := 8 * z + (w - 10).toNat) dX11_about_87 rfl (by decide) (by omega) (by omega) (hT.2.2.2.2.1 z (by omega) (w - 10).toNat (by omega)) ?_
              refine zx_iret (st := []) dX11_about_88 rfl rfl ?_
              exact mO_i hJ (by simp only [zk_about, zpl, Int.toNat_natCast]; (repeat' split) <;> first | rfl | omega)
            · refine zx_aload_n dX11_about_66 rfl ?_
              refine zx_iload_n dX11_about_67 rfl ?_
              refine zx_callV (y1 := iX11_weighs) dX11_about_68 lX11_116 vX11_weighs rc_33 (mX11_weighs hT (t := z) (by omega)) rfl rfl (Nat.le_of_ble_eq_true rfl) ?_
              refine zk_i ?_
              refine zx_goto (tgt := 88) dX11_about_71 (by decide) ?_
              refine zx_iret (st := []) dX11_about_88 rfl rfl ?_
              exact mO_i hJ (by simp only [zk_about, zpl, Int.toNat_natCast]; (repeat' split) <;> first | rfl | omega)
          · refine zx_aload_n dX11_about_52 rfl ?_
            refine zx_getr dX11_about_53 fX11_16 ?_
            refine zx_iload_n dX11_about_56 rfl ?_
            refine zy_iald dX11_about_57 rfl (by decide) rfl (by omega) (hT.2.2.2.1 z (by omega)) ?_
            refine zx_goto (tgt := 88) dX11_about_58 (by decide) ?_
            refine zx_iret (st := []) dX11_about_88 rfl rfl ?_
            exact mO_i hJ (by simp only [zk_about, zpl, Int.toNat_natCast]; (repeat' split) <;> first | rfl | omega)
        · refine zx_aload_n dX11_about_38 rfl ?_
          refine zx_getr dX11_about_39 fX11_13 ?_
          refine zx_iload_n dX11_about_42 rfl ?_
          refine zy_iald dX11_about_43 rfl (by decide) rfl (by omega) (hT.2.2.1 z (by omega)) ?_
          refine zx_goto (tgt := 88) dX11_about_44 (by decide) ?_
          refine zx_iret (st := []) dX11_about_88 rfl rfl ?_
          exact mO_i hJ (by simp only [zk_about, zpl, Int.toNat_natCast]; (repeat' split) <;> first | rfl | omega)
      · refine zx_bipush (v := zn_I (-102)) dX11_about_31 (by decide) ?_
        refine zx_iret (st := []) dX11_about_33 rfl rfl ?_
        exact mO_i hJ (by simp only [zk_about, zpl, Int.toNat_natCast]; (repeat' split) <;> first | rfl | omega)
  · refine zx_bipush (v := zn_I (-101)) dX11_about_8 (by decide) ?_
    refine zx_iret (st := []) dX11_about_10 rfl rfl ?_
    exact mO_i hJ (by simp only [zk_about, zpl, Int.toNat_natCast]; (repeat' split) <;> first | rfl | omega)
set_option maxRecDepth 100000 in
set_option maxHeartbeats 600000 in
theorem mX11_as {l : Launch} {d : Nat} {M : zw_M} {σ : zZ} (hJ : zJ_ M σ) {z : Int} (hzz : -2147483648 ≤ z ∧ z < 2147483648) {k : Int} (hkk : -2147483648 ≤ k ∧ k < 2147483648) : zw_C l (d + 2) iX11_as [.ref 33, .int (zn_I z), .int (zn_I k)] M (mO (zn_I (zk_as σ z k)) σ M) := by
  obtain ⟨hI, hT, hG, ⟨ha, hb, hc⟩, hM, hK⟩ := id hJ
  have hp := hI.1
  have h30 := zp_30 hp
  have h8 := hT.1
  have hr2 : M.1 33 2 = zn_I (zp_n σ.1) := hI.2.2.2.1
  have ht5 : M.1 33 5 = zn_I σ.2.1.1 := hT.2.1
  refine zw_of (by decide +kernel) (Nat.le_of_ble_eq_true rfl) ?_
  refine zy_loc (L1 := [.ref 33, .int (zn_I z), .int (zn_I k), .retAddr 0]) rfl ?_
  refine zx_aload_n dX11_as_0 rfl ?_
  refine zx_iload_n dX11_as_1 rfl ?_
  refine zx_callV (y1 := iX11_isThing) dX11_as_2 lX11_113 vX11_isThing rc_33 (mX11_isThing hT hzz) rfl rfl (Nat.le_of_ble_eq_true rfl) ?_
  refine zk_i ?_
  refine zy_ifB_ne (tgt := 11) dX11_as_5 (by decide) (fun h_5 => ?_) (fun h_5 => ?_)
  · refine zx_iload_n dX11_as_11 rfl ?_
    refine zx_iconst (v := zn_I 0) dX11_as_12 rfl ?_
    refine zx_iconst (v := zn_I 4) dX11_as_13 rfl ?_
    refine zx_callS (y1 := iX11_within) dX11_as_14 lX11_65 sX11_within (mX11_within (v := k) (a := 0) (b := 4) (by omega) (by omega) (by omega)) rfl rfl (Nat.le_of_ble_eq_true rfl) ?_
    refine zk_i ?_
    refine zy_ifB_ne (tgt := 23) dX11_as_17 (by decide) (fun h_17 => ?_) (fun h_17 => ?_)
    · obtain ⟨z, rfl⟩ : ∃ n : Nat, z = (n : Int) := ⟨z.toNat, by omega⟩
      have hki := zt_kind_in (τ := σ.2.1) (t := z) (by omega)
      refine zx_aload_n dX11_as_23 rfl ?_
      refine zx_getr dX11_as_24 fX11_13 ?_
      refine zx_iload_n dX11_as_27 rfl ?_
      refine zy_iald dX11_as_28 rfl (by decide) rfl (by omega) (hT.2.2.1 z (by omega)) ?_
      refine zx_istore_n dX11_as_29 rfl (Nat.le_of_ble_eq_true rfl) ?_
      refine zx_iload_n dX11_as_30 rfl ?_
      refine zy_if_eq (tgt := 49) dX11_as_31 (by decide) (by omega) (fun h_31 => ?_) (fun h_31 => ?_)
      · refine zx_iload_n dX11_as_49 rfl ?_
        refine zx_goto (tgt := 54) dX11_as_50 (by decide) ?_
        refine zx_iret (st := []) dX11_as_54 rfl rfl ?_
        exact mO_i hJ (by rw [zk_as, if_neg (by omega), if_neg (by omega)]; unfold zt_isA; rw [hki]; split <;> first | rfl | omega)
      · refine zx_iload_n dX11_as_34 rfl ?_
        refine zx_iload_n dX11_as_35 rfl ?_
        refine zy_icmp_eq (tgt := 49) dX11_as_36 (by decide) (by have := hT.2.2.2.2.2.1 z (by omega); omega) (fun h_36 => ?_) (fun h_36 => ?_)
        · refine zx_iload_n dX11_as_49 rfl ?_
          refine zx_goto (tgt := 54) dX11_as_50 (by decide) ?_
          refine zx_iret (st := []) dX11_as_54 rfl rfl ?_
          exact mO_i hJ (by rw [zk_as, if_neg (by omega), if_neg (by omega)]; unfold zt_isA; rw [hki]; split <;> first | rfl | omega)
        · refine zx_iload_n dX11_as_39 rfl ?_
          refine zx_iconst (v := zn_I 3) dX11_as_40 rfl ?_
          refine zy_icmp_ne (tgt := 53) dX11_as_41 (by decide) (by omega) (fun h_41 => ?_) (fun h_41 => ?_)
          · refine zx_iconst (v := zn_I (-1)) dX11_as_53 rfl ?_
            refine zx_iret (st := []) dX11_as_54 rfl rfl ?_
            exact mO_i hJ (by rw [zk_as, if_neg (by omega), if_neg (by omega)]; unfold zt_isA; rw [hki]; split <;> first | rfl | omega)
          · refine zx_iload_n dX11_as_44 rfl ?_
            refine zx_iconst (v := zn_I 4) dX11_as_45 rfl ?_
            refine zy_icmp_ne (tgt := 53) dX11_as_46 (by decide) (by have := hT.2.2.2.2.2.1 z (by omega); omega) (fun h_46 => ?_) (fun h_46 => ?_)
            · refine zx_iconst (v := zn_I (-1)) dX11_as_53 rfl ?_
              refine zx_iret (st := []) dX11_as_54 rfl rfl ?_
              exact mO_i hJ (by rw [zk_as, if_neg (by omega), if_neg (by omega)]; unfold zt_isA; rw [hki]; split <;> first | rfl | omega)
            · refine zx_iload_n dX11_as_49 rfl ?_
              refine zx_goto (tgt := 54) dX11_as_50 (by decide) ?_
              refine zx_iret (st := []) dX11_as_54 rfl rfl ?_
              exact mO_i hJ (by rw [zk_as, if_neg (by omega), if_neg (by omega)]; unfold zt_isA; rw [hki]; split <;> first | rfl | omega)
    · refine zx_bipush (v := zn_I (-102)) dX11_as_20 (by decide) ?_
      refine zx_iret (st := []) dX11_as_22 rfl rfl ?_
      exact mO_i hJ (by simp only [zk_as, Int.toNat_natCast]; (repeat' split) <;> first | rfl | omega)
  · refine zx_bipush (v := zn_I (-101)) dX11_as_8 (by decide) ?_
    refine zx_iret (st := []) dX11_as_10 rfl rfl ?_
    exact mO_i hJ (by simp only [zk_as, Int.toNat_natCast]; (repeat' split) <;> first | rfl | omega)
set_option maxRecDepth 100000 in
set_option maxHeartbeats 600000 in
theorem mX11_stand {l : Launch} {d : Nat} {M : zw_M} {σ : zZ} (hJ : zJ_ M σ) {z : Int} (hzz : -2147483648 ≤ z ∧ z < 2147483648) {q : Int} (hqq : -2147483648 ≤ q ∧ q < 2147483648) {s : Int} (hss : -2147483648 ≤ s ∧ s < 2147483648) : zw_C l (d + 2) iX11_stand [.ref 33, .int (zn_I z), .int (zn_I q), .int (zn_I s)] M (mO (zn_I (zk_stand σ z q s)) (zk_standS σ z q s) M) := by
  obtain ⟨hI, hT, hG, ⟨ha, hb, hc⟩, hM, hK⟩ := id hJ
  have hp := hI.1
  have h30 := zp_30 hp
  have h8 := hT.1
  have hr2 : M.1 33 2 = zn_I (zp_n σ.1) := hI.2.2.2.1
  have ht5 : M.1 33 5 = zn_I σ.2.1.1 := hT.2.1
  refine zw_of (by decide +kernel) (Nat.le_of_ble_eq_true rfl) ?_
  refine zy_loc (L1 := [.ref 33, .int (zn_I z), .int (zn_I q), .int (zn_I s), .retAddr 0]) rfl ?_
  refine zx_aload_n dX11_stand_0 rfl ?_
  refine zx_iload_n dX11_stand_1 rfl ?_
  refine zx_callV (y1 := iX11_isThing) dX11_stand_2 lX11_113 vX11_isThing rc_33 (mX11_isThing hT hzz) rfl rfl (Nat.le_of_ble_eq_true rfl) ?_
  refine zk_i ?_
  refine zy_ifB_eq (tgt := 23) dX11_stand_5 (by decide) (fun h_5 => ?_) (fun h_5 => ?_)
  · refine zx_bipush (v := zn_I (-101)) dX11_stand_23 (by decide) ?_
    refine zx_iret (st := []) dX11_stand_25 rfl rfl ?_
    rw [zk_standS, if_neg (by omega)]
    exact mO_i hJ (by simp only [zk_stand, Int.toNat_natCast]; (repeat' split) <;> first | rfl | omega)
  · refine zx_iload_n dX11_stand_8 rfl ?_
    refine zx_callS (y1 := iX11_isQuarter) dX11_stand_9 lX11_119 sX11_isQuarter (mX11_isQuarter hqq) rfl rfl (Nat.le_of_ble_eq_true rfl) ?_
    refine zk_i ?_
    refine zy_ifB_eq (tgt := 23) dX11_stand_12 (by decide) (fun h_12 => ?_) (fun h_12 => ?_)
    · refine zx_bipush (v := zn_I (-101)) dX11_stand_23 (by decide) ?_
      refine zx_iret (st := []) dX11_stand_25 rfl rfl ?_
      rw [zk_standS, if_neg (by omega)]
      exact mO_i hJ (by simp only [zk_stand, Int.toNat_natCast]; (repeat' split) <;> first | rfl | omega)
    · refine zx_aload_n dX11_stand_15 rfl ?_
      refine zx_iload_n dX11_stand_16 rfl ?_
      refine zx_callV (y1 := iX11_isSquare) dX11_stand_17 lX11_101 vX11_isSquare rc_33 (mX11_isSquare hI hss) rfl rfl (Nat.le_of_ble_eq_true rfl) ?_
      refine zk_i ?_
      refine zy_ifB_ne (tgt := 26) dX11_stand_20 (by decide) (fun h_20 => ?_) (fun h_20 => ?_)
      · obtain ⟨z, rfl⟩ : ∃ n : Nat, z = (n : Int) := ⟨z.toNat, by omega⟩
        obtain ⟨q, rfl⟩ : ∃ n : Nat, q = (n : Int) := ⟨q.toNat, by omega⟩
        obtain ⟨s, rfl⟩ : ∃ n : Nat, s = (n : Int) := ⟨s.toNat, by omega⟩
        refine zx_aload_n dX11_stand_26 rfl ?_
        refine zx_iload_n dX11_stand_27 rfl ?_
        refine zx_callV (y1 := iX11_isPerson) dX11_stand_28 lX11_122 vX11_isPerson rc_33 (mX11_isPerson hT (t := z) (by omega)) rfl rfl (Nat.le_of_ble_eq_true rfl) ?_
        refine zk_i ?_
        refine zy_ifB_ne (tgt := 37) dX11_stand_31 (by decide) (fun h_31 => ?_) (fun h_31 => ?_)
        · refine zx_aload_n dX11_stand_37 rfl ?_
          refine zx_getr dX11_stand_38 fX11_19 ?_
          refine zx_bipush (v := zn_I 8) dX11_stand_41 (by decide) ?_
          refine zx_iload_n dX11_stand_43 rfl ?_
          refine zy_imul dX11_stand_44 ?_
          refine zx_iload_n dX11_stand_45 rfl ?_
          refine zy_iadd dX11_stand_46 ?_
          refine zy_iald (i := 8 * z + q) dX11_stand_47 rfl (by decide) (by omega) (by omega) (hT.2.2.2.2.1 z (by omega) q (by omega)) ?_
          refine zx_istore dX11_stand_48 rfl (Nat.le_of_ble_eq_true rfl) ?_
          refine zx_aload_n dX11_stand_50 rfl ?_
          refine zx_getr dX11_stand_51 fX11_19 ?_
          refine zx_bipush (v := zn_I 8) dX11_stand_54 (by decide) ?_
          refine zx_iload_n dX11_stand_56 rfl ?_
          refine zy_imul dX11_stand_57 ?_
          refine zx_iload_n dX11_stand_58 rfl ?_
          refine zy_iadd dX11_stand_59 ?_
          refine zx_iload_n dX11_stand_60 rfl ?_
          refine zy_iast (i := 8 * z + q) dX11_stand_61 rfl (by decide) (by omega) (by omega) ?_
          refine zx_iload dX11_stand_62 rfl ?_
          refine zx_iret (st := []) dX11_stand_64 rfl rfl ?_
          rw [zk_standS, if_pos ⟨⟨⟨by omega, by omega⟩, ⟨by omega, by omega⟩, by omega, by omega⟩, h_31⟩, Int.toNat_natCast, Int.toNat_natCast, Int.toNat_natCast]
          exact mO_f (mf_s mf_rf (by decide) (by decide)) (zJ_th (mf_s mf_rf (by decide) (by decide)) hJ (mT_at hT (by omega) (by omega) (by omega))) (by rw [zk_stand, if_neg (fun r => r ⟨⟨by omega, by omega⟩, ⟨by omega, by omega⟩, by omega, by omega⟩), if_neg (fun r => r h_31)]; rfl)
        · refine zx_bipush (v := zn_I (-103)) dX11_stand_34 (by decide) ?_
          refine zx_iret (st := []) dX11_stand_36 rfl rfl ?_
          rw [zk_standS, if_neg (fun r => h_31 r.2)]
          exact mO_i hJ (by rw [zk_stand, if_neg (by omega), if_pos (show ¬ zpers σ (z : Int) from h_31)])
      · refine zx_bipush (v := zn_I (-101)) dX11_stand_23 (by decide) ?_
        refine zx_iret (st := []) dX11_stand_25 rfl rfl ?_
        rw [zk_standS, if_neg (by omega)]
        exact mO_i hJ (by simp only [zk_stand, Int.toNat_natCast]; (repeat' split) <;> first | rfl | omega)
set_option maxRecDepth 100000 in
set_option maxHeartbeats 600000 in
theorem mX11_putAt {l : Launch} {d : Nat} {M : zw_M} {t : Nat} (ht : t < 8) {x : Int32} : zw_C l d iX11_putAt [.ref 33, .int (zn_I (t : Int)), .int x] M (fun v M1 => v = none ∧ mfr [37] [] M M1 ∧ ∀ j, M1.1 37 j = if 8 * t ≤ j ∧ j < 8 * t + 8 then x else M.1 37 j) := by
  refine zw_of (by decide +kernel) (Nat.le_of_ble_eq_true rfl) ?_
  refine zy_loc (L1 := [.ref 33, .int (zn_I (t : Int)), .int x, .retAddr 0]) rfl ?_
  have loop : ∀ s : Nat, s ≤ 8 → ∀ M1 : zw_M, mfr [37] [] M M1 → (∀ j, M1.1 37 j = if 8 * t ≤ j ∧ j < 8 * t + s then x else M.1 37 j) → zw_X l d iX11_putAt (fun v M1 => v = none ∧ mfr [37] [] M M1 ∧ ∀ j, M1.1 37 j = if 8 * t ≤ j ∧ j < 8 * t + 8 then x else M.1 37 j) 2 [.ref 33, .int (zn_I (t : Int)), .int x, .int (zn_I (s : Int))] [] M1 := by
    refine zw_loop 8 (P := fun s => ∀ M1 : zw_M, mfr [37] [] M M1 → (∀ j, M1.1 37 j = if 8 * t ≤ j ∧ j < 8 * t + s then x else M.1 37 j) → zw_X l d iX11_putAt (fun v M1 => v = none ∧ mfr [37] [] M M1 ∧ ∀ j, M1.1 37 j = if 8 * t ≤ j ∧ j < 8 * t + 8 then x else M.1 37 j) 2 [.ref 33, .int (zn_I (t : Int)), .int x, .int (zn_I (s : Int))] [] M1) (fun s hs ih M1 hf hc => ?_)
    refine zx_iload_n dX11_putAt_2 rfl ?_
    refine zx_bipush (v := zn_I 8) dX11_putAt_3 (by decide) ?_
    refine zy_icmp_ge (tgt := 26) dX11_putAt_5 (by decide) (by omega) (fun h_5 => ?_) (fun h_5 => ?_)
    · refine zx_vret (st := []) dX11_putAt_26 rfl ?_
      exact ⟨rfl, hf, fun j => by rw [hc j, show s = 8 by omega]⟩
    · refine zx_aload_n dX11_putAt_8 rfl ?_
      refine zx_getr dX11_putAt_9 fX11_19 ?_
      refine zx_bipush (v := zn_I 8) dX11_putAt_12 (by decide) ?_
      refine zx_iload_n dX11_putAt_14 rfl ?_
      refine zy_imul dX11_putAt_15 ?_
      refine zx_iload_n dX11_putAt_16 rfl ?_
      refine zy_iadd dX11_putAt_17 ?_
      refine zx_iload_n dX11_putAt_18 rfl ?_
      refine zy_iast (i := 8 * t + s) dX11_putAt_19 rfl (by decide) (by omega) (by omega) ?_
      refine zy_iinc dX11_putAt_20 rfl rfl ?_
      refine zx_goto (tgt := 2) dX11_putAt_23 (by decide) ?_
      refine ih (by omega) _ (mf_s hf (by decide) (by decide)) (fun j => ?_)
      by_cases e : j = 8 * t + s
      · subst e
        rw [if_pos (by omega)]
        simp [zw_s]
      · have h1 := hc j
        simp only [zw_s, e, and_false, if_false]
        rw [h1]
        by_cases r : 8 * t ≤ j ∧ j < 8 * t + s
        · rw [if_pos r, if_pos (by omega)]
        · rw [if_neg r, if_neg (by omega)]
  refine zx_iconst (v := zn_I 0) dX11_putAt_0 rfl ?_
  refine zx_istore_n dX11_putAt_1 rfl (Nat.le_of_ble_eq_true rfl) ?_
  exact loop 0 (by omega) M mf_rf (fun j => by rw [if_neg (by omega)])
theorem mX11_putAt_T {l : Launch} {d : Nat} {M : zw_M} {n : Nat} {τ : zQ} (hT : mT M n τ) {t s : Nat} (ht : t < τ.1) (hs : s < n) : zw_C l d iX11_putAt [.ref 33, .int (zn_I (t : Int)), .int (zn_I (s : Int))] M (fun v M1 => v = none ∧ mfr [37] [] M M1 ∧ mT M1 n (zt_mv τ t (fun _ => s))) :=
  zw_C_imp (fun v M1 h => ⟨h.1, h.2.1, mT_mv hT h.2.1 (fun q hq => by rw [h.2.2, if_pos (by omega)]) (fun k hk => by rw [h.2.2, if_neg (by omega)]) (fun _ _ => hs)⟩) (mX11_putAt (Nat.lt_of_lt_of_le ht hT.1))
set_option maxRecDepth 100000 in
set_option maxHeartbeats 600000 in
theorem mX11_put {l : Launch} {d : Nat} {M : zw_M} {σ : zZ} (hJ : zJ_ M σ) {z : Int} (hzz : -2147483648 ≤ z ∧ z < 2147483648) {s : Int} (hss : -2147483648 ≤ s ∧ s < 2147483648) : zw_C l (d + 2) iX11_put [.ref 33, .int (zn_I z), .int (zn_I s)] M (mO (zn_I (zk_put σ z s)) (zk_putS σ z s) M) := by
  obtain ⟨hI, hT, hG, ⟨ha, hb, hc⟩, hM, hK⟩ := id hJ
  have hp := hI.1
  have h30 := zp_30 hp
  have h8 := hT.1
  have hr2 : M.1 33 2 = zn_I (zp_n σ.1) := hI.2.2.2.1
  have ht5 : M.1 33 5 = zn_I σ.2.1.1 := hT.2.1
  refine zw_of (by decide +kernel) (Nat.le_of_ble_eq_true rfl) ?_
  refine zy_loc (L1 := [.ref 33, .int (zn_I z), .int (zn_I s), .retAddr 0]) rfl ?_
  refine zx_aload_n dX11_put_0 rfl ?_
  refine zx_iload_n dX11_put_1 rfl ?_
  refine zx_callV (y1 := iX11_isThing) dX11_put_2 lX11_113 vX11_isThing rc_33 (mX11_isThing hT hzz) rfl rfl (Nat.le_of_ble_eq_true rfl) ?_
  refine zk_i ?_
  refine zy_ifB_eq (tgt := 16) dX11_put_5 (by decide) (fun h_5 => ?_) (fun h_5 => ?_)
  · refine zx_bipush (v := zn_I (-101)) dX11_put_16 (by decide) ?_
    refine zx_iret (st := []) dX11_put_18 rfl rfl ?_
    rw [zk_putS, if_neg (by omega)]
    exact mO_i hJ (by simp only [zk_put, Int.toNat_natCast]; (repeat' split) <;> first | rfl | omega)
  · refine zx_aload_n dX11_put_8 rfl ?_
    refine zx_iload_n dX11_put_9 rfl ?_
    refine zx_callV (y1 := iX11_isSquare) dX11_put_10 lX11_101 vX11_isSquare rc_33 (mX11_isSquare hI hss) rfl rfl (Nat.le_of_ble_eq_true rfl) ?_
    refine zk_i ?_
    refine zy_ifB_ne (tgt := 19) dX11_put_13 (by decide) (fun h_13 => ?_) (fun h_13 => ?_)
    · obtain ⟨z, rfl⟩ : ∃ n : Nat, z = (n : Int) := ⟨z.toNat, by omega⟩
      obtain ⟨s, rfl⟩ : ∃ n : Nat, s = (n : Int) := ⟨s.toNat, by omega⟩
      refine zx_aload_n dX11_put_19 rfl ?_
      refine zx_iload_n dX11_put_20 rfl ?_
      refine zx_callV (y1 := iX11_isPerson) dX11_put_21 lX11_122 vX11_isPerson rc_33 (mX11_isPerson hT (t := z) (by omega)) rfl rfl (Nat.le_of_ble_eq_true rfl) ?_
      refine zk_i ?_
      refine zy_ifB_eq (tgt := 30) dX11_put_24 (by decide) (fun h_24 => ?_) (fun h_24 => ?_)
      · refine zx_aload_n dX11_put_30 rfl ?_
        refine zx_getr dX11_put_31 fX11_19 ?_
        refine zx_bipush (v := zn_I 8) dX11_put_34 (by decide) ?_
        refine zx_iload_n dX11_put_36 rfl ?_
        refine zy_imul dX11_put_37 ?_
        refine zy_iald (i := 8 * z + 0) dX11_put_38 rfl (by decide) (by omega) (by omega) (hT.2.2.2.2.1 z (by omega) 0 (by omega)) ?_
        refine zx_istore_n dX11_put_39 rfl (Nat.le_of_ble_eq_true rfl) ?_
        refine zx_aload_n dX11_put_40 rfl ?_
        refine zx_iload_n dX11_put_41 rfl ?_
        refine zx_iload_n dX11_put_42 rfl ?_
        refine zx_callV (y1 := iX11_putAt) dX11_put_43 lX11_125 vX11_putAt rc_33 (mX11_putAt_T hT (t := z) (s := s) (by omega) (by omega)) rfl rfl (Nat.le_of_ble_eq_true rfl) ?_
        intro v M1 he
        obtain ⟨rfl, hf, hT1⟩ := he
        refine zx_iload_n dX11_put_46 rfl ?_
        refine zx_iret (st := []) dX11_put_47 rfl rfl ?_
        rw [zk_putS, if_pos ⟨⟨⟨by omega, by omega⟩, by omega, by omega⟩, h_24⟩, Int.toNat_natCast, Int.toNat_natCast]
        exact mO_f (mf_mono hf (by decide)) (zJ_th (mf_mono hf (by decide)) hJ hT1) (by rw [zk_put, if_neg (fun r => r ⟨⟨by omega, by omega⟩, by omega, by omega⟩), if_neg (show ¬ zpers σ (z : Int) from h_24)]; rfl)
      · refine zx_bipush (v := zn_I (-103)) dX11_put_27 (by decide) ?_
        refine zx_iret (st := []) dX11_put_29 rfl rfl ?_
        rw [zk_putS, if_neg (fun r => r.2 h_24)]
        exact mO_i hJ (by rw [zk_put, if_neg (by omega), if_pos (show zpers σ (z : Int) from h_24)])
    · refine zx_bipush (v := zn_I (-101)) dX11_put_16 (by decide) ?_
      refine zx_iret (st := []) dX11_put_18 rfl rfl ?_
      rw [zk_putS, if_neg (by omega)]
      exact mO_i hJ (by simp only [zk_put, Int.toNat_natCast]; (repeat' split) <;> first | rfl | omega)
set_option maxRecDepth 100000 in
set_option maxHeartbeats 600000 in
theorem mX11_trade {l : Launch} {d : Nat} {M : zw_M} {σ : zZ} (hJ : zJ_ M σ) {a : Int} (haa : -2147483648 ≤ a ∧ a < 2147483648) {b : Int} (hbb : -2147483648 ≤ b ∧ b < 2147483648) {q : Int} (hqq : -2147483648 ≤ q ∧ q < 2147483648) : zw_C l (d + 2) iX11_trade [.ref 33, .int (zn_I a), .int (zn_I b), .int (zn_I q)] M (mO (zn_I (zk_trade σ a b q)) (zk_tradeS σ a b q) M) := by
  obtain ⟨hI, hT, hG, ⟨ha, hb, hc⟩, hM, hK⟩ := id hJ
  have hp := hI.1
  have h30 := zp_30 hp
  have h8 := hT.1
  have hr2 : M.1 33 2 = zn_I (zp_n σ.1) := hI.2.2.2.1
  have ht5 : M.1 33 5 = zn_I σ.2.1.1 := hT.2.1
  refine zw_of (by decide +kernel) (Nat.le_of_ble_eq_true rfl) ?_
  refine zy_loc (L1 := [.ref 33, .int (zn_I a), .int (zn_I b), .int (zn_I q), .retAddr 0, .retAddr 0]) rfl ?_
  refine zx_aload_n dX11_trade_0 rfl ?_
  refine zx_iload_n dX11_trade_1 rfl ?_
  refine zx_callV (y1 := iX11_isThing) dX11_trade_2 lX11_113 vX11_isThing rc_33 (mX11_isThing hT haa) rfl rfl (Nat.le_of_ble_eq_true rfl) ?_
  refine zk_i ?_
  refine zy_ifB_eq (tgt := 23) dX11_trade_5 (by decide) (fun h_5 => ?_) (fun h_5 => ?_)
  · refine zx_bipush (v := zn_I (-101)) dX11_trade_23 (by decide) ?_
    refine zx_iret (st := []) dX11_trade_25 rfl rfl ?_
    rw [zk_tradeS, if_neg (by omega)]
    exact mO_i hJ (by simp only [zk_trade, Int.toNat_natCast]; (repeat' split) <;> first | rfl | omega)
  · refine zx_aload_n dX11_trade_8 rfl ?_
    refine zx_iload_n dX11_trade_9 rfl ?_
    refine zx_callV (y1 := iX11_isThing) dX11_trade_10 lX11_113 vX11_isThing rc_33 (mX11_isThing hT hbb) rfl rfl (Nat.le_of_ble_eq_true rfl) ?_
    refine zk_i ?_
    refine zy_ifB_eq (tgt := 23) dX11_trade_13 (by decide) (fun h_13 => ?_) (fun h_13 => ?_)
    · refine zx_bipush (v := zn_I (-101)) dX11_trade_23 (by decide) ?_
      refine zx_iret (st := []) dX11_trade_25 rfl rfl ?_
      rw [zk_tradeS, if_neg (by omega)]
      exact mO_i hJ (by simp only [zk_trade, Int.toNat_natCast]; (repeat' split) <;> first | rfl | omega)
    · refine zx_iload_n dX11_trade_16 rfl ?_
      refine zx_callS (y1 := iX11_isQuarter) dX11_trade_17 lX11_119 sX11_isQuarter (mX11_isQuarter hqq) rfl rfl (Nat.le_of_ble_eq_true rfl) ?_
      refine zk_i ?_
      refine zy_ifB_ne (tgt := 26) dX11_trade_20 (by decide) (fun h_20 => ?_) (fun h_20 => ?_)
      · obtain ⟨a, rfl⟩ : ∃ n : Nat, a = (n : Int) := ⟨a.toNat, by omega⟩
        obtain ⟨b, rfl⟩ : ∃ n : Nat, b = (n : Int) := ⟨b.toNat, by omega⟩
        obtain ⟨q, rfl⟩ : ∃ n : Nat, q = (n : Int) := ⟨q.toNat, by omega⟩
        refine zx_aload_n dX11_trade_26 rfl ?_
        refine zx_iload_n dX11_trade_27 rfl ?_
        refine zx_callV (y1 := iX11_isPerson) dX11_trade_28 lX11_122 vX11_isPerson rc_33 (mX11_isPerson hT (t := a) (by omega)) rfl rfl (Nat.le_of_ble_eq_true rfl) ?_
        refine zk_i ?_
        refine zy_ifB_eq (tgt := 42) dX11_trade_31 (by decide) (fun h_31 => ?_) (fun h_31 => ?_)
        · refine zx_bipush (v := zn_I (-103)) dX11_trade_42 (by decide) ?_
          refine zx_iret (st := []) dX11_trade_44 rfl rfl ?_
          rw [zk_tradeS, if_neg (fun r => h_31 r.2.1)]
          exact mO_i hJ (by rw [zk_trade, if_neg (by omega), if_pos (fun r => h_31 r.1)])
        · refine zx_aload_n dX11_trade_34 rfl ?_
          refine zx_iload_n dX11_trade_35 rfl ?_
          refine zx_callV (y1 := iX11_isPerson) dX11_trade_36 lX11_122 vX11_isPerson rc_33 (mX11_isPerson hT (t := b) (by omega)) rfl rfl (Nat.le_of_ble_eq_true rfl) ?_
          refine zk_i ?_
          refine zy_ifB_ne (tgt := 45) dX11_trade_39 (by decide) (fun h_39 => ?_) (fun h_39 => ?_)
          · have hp1 : zpl σ a q < zp_n σ.1 := hT.2.2.2.2.2.2.2 _ (by rw [Int.toNat_natCast]; omega) _ (by rw [Int.toNat_natCast]; omega)
            have hp2 : zpl σ b q < zp_n σ.1 := hT.2.2.2.2.2.2.2 _ (by rw [Int.toNat_natCast]; omega) _ (by rw [Int.toNat_natCast]; omega)
            refine zx_aload_n dX11_trade_45 rfl ?_
            refine zx_getr dX11_trade_46 fX11_19 ?_
            refine zx_bipush (v := zn_I 8) dX11_trade_49 (by decide) ?_
            refine zx_iload_n dX11_trade_51 rfl ?_
            refine zy_imul dX11_trade_52 ?_
            refine zx_iload_n dX11_trade_53 rfl ?_
            refine zy_iadd dX11_trade_54 ?_
            refine zy_iald (i := 8 * a + q) dX11_trade_55 rfl (by decide) (by omega) (by omega) ((show _ = zn_I (zpl σ (a : Int) (q : Int) : Nat) from hT.2.2.2.2.1 a (by omega) q (by omega))) ?_
            refine zx_istore dX11_trade_56 rfl (Nat.le_of_ble_eq_true rfl) ?_
            refine zx_aload_n dX11_trade_58 rfl ?_
            refine zx_getr dX11_trade_59 fX11_19 ?_
            refine zx_bipush (v := zn_I 8) dX11_trade_62 (by decide) ?_
            refine zx_iload_n dX11_trade_64 rfl ?_
            refine zy_imul dX11_trade_65 ?_
            refine zx_iload_n dX11_trade_66 rfl ?_
            refine zy_iadd dX11_trade_67 ?_
            refine zy_iald (i := 8 * b + q) dX11_trade_68 rfl (by decide) (by omega) (by omega) ((show _ = zn_I (zpl σ (b : Int) (q : Int) : Nat) from hT.2.2.2.2.1 b (by omega) q (by omega))) ?_
            refine zx_istore dX11_trade_69 rfl (Nat.le_of_ble_eq_true rfl) ?_
            refine zx_aload_n dX11_trade_71 rfl ?_
            refine zx_getr dX11_trade_72 fX11_19 ?_
            refine zx_bipush (v := zn_I 8) dX11_trade_75 (by decide) ?_
            refine zx_iload_n dX11_trade_77 rfl ?_
            refine zy_imul dX11_trade_78 ?_
            refine zx_iload_n dX11_trade_79 rfl ?_
            refine zy_iadd dX11_trade_80 ?_
            refine zx_iload dX11_trade_81 rfl ?_
            refine zy_iast (i := 8 * a + q) dX11_trade_83 rfl (by decide) (by omega) (by omega) ?_
            refine zx_aload_n dX11_trade_84 rfl ?_
            refine zx_getr dX11_trade_85 fX11_19 ?_
            refine zx_bipush (v := zn_I 8) dX11_trade_88 (by decide) ?_
            refine zx_iload_n dX11_trade_90 rfl ?_
            refine zy_imul dX11_trade_91 ?_
            refine zx_iload_n dX11_trade_92 rfl ?_
            refine zy_iadd dX11_trade_93 ?_
            refine zx_iload dX11_trade_94 rfl ?_
            refine zy_iast (i := 8 * b + q) dX11_trade_96 rfl (by decide) (by omega) (by omega) ?_
            refine zx_iload dX11_trade_97 rfl ?_
            refine zx_iload dX11_trade_99 rfl ?_
            refine zy_icmp_ne (tgt := 108) dX11_trade_101 (by decide) (by omega) (fun h_101 => ?_) (fun h_101 => ?_)
            · refine zx_iconst (v := zn_I 1) dX11_trade_108 rfl ?_
              refine zx_iret (st := []) dX11_trade_109 rfl rfl ?_
              rw [zk_tradeS, if_pos ⟨⟨⟨by omega, by omega⟩, ⟨by omega, by omega⟩, by omega, by omega⟩, h_31, h_39⟩, Int.toNat_natCast, Int.toNat_natCast, Int.toNat_natCast]
              refine mO_f (mf_s (mf_s mf_rf (by decide) (by decide)) (by decide) (by decide)) (zJ_th (mf_s (mf_s mf_rf (by decide) (by decide)) (by decide) (by decide)) hJ (mT_at (mT_at hT (by omega) (by omega) hp2) (by omega) (by show b < σ.2.1.1; omega) hp1)) ?_
              rw [zk_trade, if_neg (fun r => r ⟨⟨by omega, by omega⟩, ⟨by omega, by omega⟩, by omega, by omega⟩), if_neg (fun r => r ⟨h_31, h_39⟩)]
              split <;> first | rfl | omega
            · refine zx_iconst (v := zn_I 0) dX11_trade_104 rfl ?_
              refine zx_goto (tgt := 109) dX11_trade_105 (by decide) ?_
              refine zx_iret (st := []) dX11_trade_109 rfl rfl ?_
              rw [zk_tradeS, if_pos ⟨⟨⟨by omega, by omega⟩, ⟨by omega, by omega⟩, by omega, by omega⟩, h_31, h_39⟩, Int.toNat_natCast, Int.toNat_natCast, Int.toNat_natCast]
              refine mO_f (mf_s (mf_s mf_rf (by decide) (by decide)) (by decide) (by decide)) (zJ_th (mf_s (mf_s mf_rf (by decide) (by decide)) (by decide) (by decide)) hJ (mT_at (mT_at hT (by omega) (by omega) hp2) (by omega) (by show b < σ.2.1.1; omega) hp1)) ?_
              rw [zk_trade, if_neg (fun r => r ⟨⟨by omega, by omega⟩, ⟨by omega, by omega⟩, by omega, by omega⟩), if_neg (fun r => r ⟨h_31, h_39⟩)]
              split <;> first | rfl | omega
          · refine zx_bipush (v := zn_I (-103)) dX11_trade_42 (by decide) ?_
            refine zx_iret (st := []) dX11_trade_44 rfl rfl ?_
            rw [zk_tradeS, if_neg (fun r => h_39 r.2.2)]
            exact mO_i hJ (by rw [zk_trade, if_neg (by omega), if_pos (fun r => h_39 r.2)])
      · refine zx_bipush (v := zn_I (-101)) dX11_trade_23 (by decide) ?_
        refine zx_iret (st := []) dX11_trade_25 rfl rfl ?_
        rw [zk_tradeS, if_neg (by omega)]
        exact mO_i hJ (by simp only [zk_trade, Int.toNat_natCast]; (repeat' split) <;> first | rfl | omega)
set_option maxRecDepth 100000 in
set_option maxHeartbeats 600000 in
theorem mX11_leans {l : Launch} {d : Nat} {M : zw_M} {σ : zZ} (hJ : zJ_ M σ) {q : Int} (hqq : -2147483648 ≤ q ∧ q < 2147483648) {w : Int} (hww : -2147483648 ≤ w ∧ w < 2147483648) : zw_C l (d + 3) iX11_leans [.ref 33, .int (zn_I q), .int (zn_I w)] M (mO (zn_I (zk_leans σ q w)) σ M) := by
  obtain ⟨hI, hT, hG, ⟨ha, hb, hc⟩, hM, hK⟩ := id hJ
  have hp := hI.1
  have h30 := zp_30 hp
  have h8 := hT.1
  have hr2 : M.1 33 2 = zn_I (zp_n σ.1) := hI.2.2.2.1
  have ht5 : M.1 33 5 = zn_I σ.2.1.1 := hT.2.1
  refine zw_of (by decide +kernel) (Nat.le_of_ble_eq_true rfl) ?_
  refine zy_loc (L1 := [.ref 33, .int (zn_I q), .int (zn_I w)]) rfl ?_
  refine zx_iload_n dX11_leans_0 rfl ?_
  refine zx_callS (y1 := iX11_isQuarter) dX11_leans_1 lX11_119 sX11_isQuarter (mX11_isQuarter hqq) rfl rfl (Nat.le_of_ble_eq_true rfl) ?_
  refine zk_i ?_
  refine zy_ifB_ne (tgt := 10) dX11_leans_4 (by decide) (fun h_4 => ?_) (fun h_4 => ?_)
  · obtain ⟨q, rfl⟩ : ∃ n : Nat, q = (n : Int) := ⟨q.toNat, by omega⟩
    have eE : 0 + ml_e σ.1 σ.2.1 0 q σ.2.1.1 = zl_E σ.1 σ.2.1 q := by rw [(ml_0 σ.1 σ.2.1 q σ.2.1.1).1, Int.zero_add]; rfl
    have eS : 0 + ml_s σ.1 σ.2.1 0 q σ.2.1.1 = zl_S σ.1 σ.2.1 q := by rw [(ml_0 σ.1 σ.2.1 q σ.2.1.1).2, Int.zero_add]; rfl
    refine zx_iload_n dX11_leans_10 rfl ?_
    refine zx_iconst (v := zn_I 0) dX11_leans_11 rfl ?_
    refine zx_iconst (v := zn_I 1) dX11_leans_12 rfl ?_
    refine zx_callS (y1 := iX11_within) dX11_leans_13 lX11_65 sX11_within (mX11_within (v := w) (a := 0) (b := 1) (by omega) (by omega) (by omega)) rfl rfl (Nat.le_of_ble_eq_true rfl) ?_
    refine zk_i ?_
    refine zy_ifB_eq (tgt := 37) dX11_leans_16 (by decide) (fun h_16 => ?_) (fun h_16 => ?_)
    · refine zx_ldc dX11_leans_37 kX11_106 ?_
      refine zy_top (show (-100102 : Int32) = zn_I (-100102) from by decide) ?_
      refine zx_iret (st := []) dX11_leans_39 rfl rfl ?_
      exact mO_i hJ (by simp only [zk_leans, Int.toNat_natCast]; (repeat' split) <;> first | rfl | omega)
    · refine zx_aload_n dX11_leans_19 rfl ?_
      refine zx_iload_n dX11_leans_20 rfl ?_
      refine zx_iload_n dX11_leans_21 rfl ?_
      refine zx_iconst (v := zn_I 1) dX11_leans_22 rfl ?_
      refine zy_icmp_ne (tgt := 30) dX11_leans_23 (by decide) (by omega) (fun h_23 => ?_) (fun h_23 => ?_)
      · refine zx_iconst (v := zn_I 0) dX11_leans_30 rfl ?_
        refine zx_callV (y1 := iX11_leanOf) dX11_leans_31 lX11_138 vX11_leanOf rc_33 (mX11_leanOf_e hI hT hM (q := q) (by omega)) rfl rfl (Nat.le_of_ble_eq_true rfl) ?_
        refine zk_i ?_
        rw [eE]
        refine zx_goto (tgt := 39) dX11_leans_34 (by decide) ?_
        refine zx_iret (st := []) dX11_leans_39 rfl rfl ?_
        exact mO_i hJ (by simp only [zk_leans, Int.toNat_natCast]; (repeat' split) <;> first | rfl | omega)
      · refine zx_iconst (v := zn_I 1) dX11_leans_26 rfl ?_
        refine zx_goto (tgt := 31) dX11_leans_27 (by decide) ?_
        refine zx_callV (y1 := iX11_leanOf) dX11_leans_31 lX11_138 vX11_leanOf rc_33 (mX11_leanOf_s hI hT hM (q := q) (by omega)) rfl rfl (Nat.le_of_ble_eq_true rfl) ?_
        refine zk_i ?_
        rw [eS]
        refine zx_goto (tgt := 39) dX11_leans_34 (by decide) ?_
        refine zx_iret (st := []) dX11_leans_39 rfl rfl ?_
        exact mO_i hJ (by simp only [zk_leans, Int.toNat_natCast]; (repeat' split) <;> first | rfl | omega)
  · refine zx_ldc dX11_leans_7 kX11_105 ?_
    refine zy_top (show (-100101 : Int32) = zn_I (-100101) from by decide) ?_
    refine zx_iret (st := []) dX11_leans_9 rfl rfl ?_
    exact mO_i hJ (by simp only [zk_leans, Int.toNat_natCast]; (repeat' split) <;> first | rfl | omega)
set_option maxRecDepth 100000 in
set_option maxHeartbeats 600000 in
theorem mX11_dip {l : Launch} {d : Nat} {M : zw_M} {σ : zZ} (hJ : zJ_ M σ) {s : Int} (hss : -2147483648 ≤ s ∧ s < 2147483648) {q : Int} (hqq : -2147483648 ≤ q ∧ q < 2147483648) : zw_C l (d + 3) iX11_dip [.ref 33, .int (zn_I s), .int (zn_I q)] M (mO (zn_I (zk_dip σ s q)) σ M) := by
  obtain ⟨hI, hT, hG, ⟨ha, hb, hc⟩, hM, hK⟩ := id hJ
  have hp := hI.1
  have h30 := zp_30 hp
  have h8 := hT.1
  have hr2 : M.1 33 2 = zn_I (zp_n σ.1) := hI.2.2.2.1
  have ht5 : M.1 33 5 = zn_I σ.2.1.1 := hT.2.1
  refine zw_of (by decide +kernel) (Nat.le_of_ble_eq_true rfl) ?_
  refine zy_loc (L1 := [.ref 33, .int (zn_I s), .int (zn_I q)]) rfl ?_
  refine zx_aload_n dX11_dip_0 rfl ?_
  refine zx_iload_n dX11_dip_1 rfl ?_
  refine zx_callV (y1 := iX11_isSquare) dX11_dip_2 lX11_101 vX11_isSquare rc_33 (mX11_isSquare hI hss) rfl rfl (Nat.le_of_ble_eq_true rfl) ?_
  refine zk_i ?_
  refine zy_ifB_eq (tgt := 15) dX11_dip_5 (by decide) (fun h_5 => ?_) (fun h_5 => ?_)
  · refine zx_ldc dX11_dip_15 kX11_142 ?_
    refine zy_top (show (-1000101 : Int32) = zn_I (-1000101) from by decide) ?_
    refine zx_iret (st := []) dX11_dip_17 rfl rfl ?_
    exact mO_i hJ (by simp only [zk_dip, Int.toNat_natCast]; (repeat' split) <;> first | rfl | omega)
  · refine zx_iload_n dX11_dip_8 rfl ?_
    refine zx_callS (y1 := iX11_isQuarter) dX11_dip_9 lX11_119 sX11_isQuarter (mX11_isQuarter hqq) rfl rfl (Nat.le_of_ble_eq_true rfl) ?_
    refine zk_i ?_
    refine zy_ifB_ne (tgt := 18) dX11_dip_12 (by decide) (fun h_12 => ?_) (fun h_12 => ?_)
    · obtain ⟨q, rfl⟩ : ∃ n : Nat, q = (n : Int) := ⟨q.toNat, by omega⟩
      obtain ⟨s, rfl⟩ : ∃ n : Nat, s = (n : Int) := ⟨s.toNat, by omega⟩
      have eE : 0 + ml_e σ.1 σ.2.1 0 q σ.2.1.1 = zl_E σ.1 σ.2.1 q := by rw [(ml_0 σ.1 σ.2.1 q σ.2.1.1).1, Int.zero_add]; rfl
      have eS : 0 + ml_s σ.1 σ.2.1 0 q σ.2.1.1 = zl_S σ.1 σ.2.1 q := by rw [(ml_0 σ.1 σ.2.1 q σ.2.1.1).2, Int.zero_add]; rfl
      refine zx_aload_n dX11_dip_18 rfl ?_
      refine zx_iload_n dX11_dip_19 rfl ?_
      refine zx_iconst (v := zn_I 0) dX11_dip_20 rfl ?_
      refine zx_callV (y1 := iX11_leanOf) dX11_dip_21 lX11_138 vX11_leanOf rc_33 (mX11_leanOf_e hI hT hM (q := q) (by omega)) rfl rfl (Nat.le_of_ble_eq_true rfl) ?_
      refine zk_i ?_
      rw [eE]
      refine zx_aload_n dX11_dip_24 rfl ?_
      refine zx_iload_n dX11_dip_25 rfl ?_
      refine zx_callV (y1 := iX11_eastOf) dX11_dip_26 lX11_107 vX11_eastOf rc_33 (mX11_eastOf hI (s := s) (by omega)) rfl rfl (Nat.le_of_ble_eq_true rfl) ?_
      refine zk_i ?_
      refine zy_imul dX11_dip_29 ?_
      refine zx_aload_n dX11_dip_30 rfl ?_
      refine zx_iload_n dX11_dip_31 rfl ?_
      refine zx_iconst (v := zn_I 1) dX11_dip_32 rfl ?_
      refine zx_callV (y1 := iX11_leanOf) dX11_dip_33 lX11_138 vX11_leanOf rc_33 (mX11_leanOf_s hI hT hM (q := q) (by omega)) rfl rfl (Nat.le_of_ble_eq_true rfl) ?_
      refine zk_i ?_
      rw [eS]
      refine zx_aload_n dX11_dip_36 rfl ?_
      refine zx_iload_n dX11_dip_37 rfl ?_
      refine zx_callV (y1 := iX11_southOf) dX11_dip_38 lX11_110 vX11_southOf rc_33 (mX11_southOf hI (s := s) (by omega)) rfl rfl (Nat.le_of_ble_eq_true rfl) ?_
      refine zk_i ?_
      refine zy_imul dX11_dip_41 ?_
      refine zy_iadd dX11_dip_42 ?_
      refine zx_iret (st := []) dX11_dip_43 rfl rfl ?_
      exact mO_i hJ (by rw [zk_dip, if_neg (fun r => r ⟨⟨by omega, by omega⟩, by omega, by omega⟩)]; rfl)
    · refine zx_ldc dX11_dip_15 kX11_142 ?_
      refine zy_top (show (-1000101 : Int32) = zn_I (-1000101) from by decide) ?_
      refine zx_iret (st := []) dX11_dip_17 rfl rfl ?_
      exact mO_i hJ (by simp only [zk_dip, Int.toNat_natCast]; (repeat' split) <;> first | rfl | omega)
set_option maxRecDepth 100000 in
set_option maxHeartbeats 600000 in
theorem mX11_wet {l : Launch} {d : Nat} {M : zw_M} {σ : zZ} (hJ : zJ_ M σ) {q : Int} (hqq : -2147483648 ≤ q ∧ q < 2147483648) : zw_C l (d + 3) iX11_wet [.ref 33, .int (zn_I q)] M (mO (zn_I (zk_wet σ q)) σ M) := by
  obtain ⟨hI, hT, hG, ⟨ha, hb, hc⟩, hM, hK⟩ := id hJ
  have hp := hI.1
  have h30 := zp_30 hp
  have h8 := hT.1
  have hr2 : M.1 33 2 = zn_I (zp_n σ.1) := hI.2.2.2.1
  have ht5 : M.1 33 5 = zn_I σ.2.1.1 := hT.2.1
  refine zw_of (by decide +kernel) (Nat.le_of_ble_eq_true rfl) ?_
  refine zy_loc (L1 := [.ref 33, .int (zn_I q)]) rfl ?_
  refine zx_iload_n dX11_wet_0 rfl ?_
  refine zx_callS (y1 := iX11_isQuarter) dX11_wet_1 lX11_119 sX11_isQuarter (mX11_isQuarter hqq) rfl rfl (Nat.le_of_ble_eq_true rfl) ?_
  refine zk_i ?_
  refine zy_ifB_eq (tgt := 15) dX11_wet_4 (by decide) (fun h_4 => ?_) (fun h_4 => ?_)
  · refine zx_bipush (v := zn_I (-101)) dX11_wet_15 (by decide) ?_
    refine zx_iret (st := []) dX11_wet_17 rfl rfl ?_
    exact mO_i hJ (by simp only [zk_wet, Int.toNat_natCast]; (repeat' split) <;> first | rfl | omega)
  · obtain ⟨q, rfl⟩ : ∃ n : Nat, q = (n : Int) := ⟨q.toNat, by omega⟩
    refine zx_aload_n dX11_wet_7 rfl ?_
    refine zx_iload_n dX11_wet_8 rfl ?_
    refine zx_callV (y1 := iX11_wetIn) dX11_wet_9 lX11_143 vX11_wetIn rc_33 (mX11_wetIn hI hT hM (q := q) (by omega)) rfl rfl (Nat.le_of_ble_eq_true rfl) ?_
    refine zk_i ?_
    rw [mwet_0]
    refine zx_goto (tgt := 17) dX11_wet_12 (by decide) ?_
    refine zx_iret (st := []) dX11_wet_17 rfl rfl ?_
    exact mO_i hJ (by simp only [zk_wet, Int.toNat_natCast]; (repeat' split) <;> first | rfl | omega)
set_option maxRecDepth 100000 in
set_option maxHeartbeats 600000 in
theorem mX11_doorMany {l : Launch} {d : Nat} {M : zw_M} {π : zP} (hI : mI M π) : zw_C l d iX11_doorMany [.ref 33] M (zw_i (zn_I (zp_d π (zp_n π) : Nat)) M) := by
  have hp := hI.1
  have h30 := zp_30 hp
  have hr0 : M.1 33 0 = zn_I π.1 := hI.2.1
  have hr1 : M.1 33 1 = zn_I π.2.1 := hI.2.2.1
  have hr2 : M.1 33 2 = zn_I (zp_n π) := hI.2.2.2.1
  refine zw_of (by decide +kernel) (Nat.le_of_ble_eq_true rfl) ?_
  refine zy_loc (L1 := [.ref 33, .retAddr 0, .retAddr 0]) rfl ?_
  have loop : ∀ s : Nat, s ≤ zp_n π → zw_X l d iX11_doorMany (zw_i (zn_I (zp_d π (zp_n π) : Nat)) M) 4 [.ref 33, .int (zn_I (zp_d π s : Nat)), .int (zn_I (s : Int))] [] M := by
    refine zw_loop (zp_n π) (P := fun s => zw_X l d iX11_doorMany (zw_i (zn_I (zp_d π (zp_n π) : Nat)) M) 4 [.ref 33, .int (zn_I (zp_d π s : Nat)), .int (zn_I (s : Int))] [] M) (fun s hs ih => ?_)
    refine zx_iload_n dX11_doorMany_4 rfl ?_
    refine zx_aload_n dX11_doorMany_5 rfl ?_
    refine zy_geti dX11_doorMany_6 fX11_92 (hr2) ?_
    refine zy_icmp_ge (tgt := 35) dX11_doorMany_9 (by decide) (by omega) (fun h_9 => ?_) (fun h_9 => ?_)
    · refine zx_iload_n dX11_doorMany_35 rfl ?_
      refine zx_iret (st := []) dX11_doorMany_36 rfl rfl ?_
      exact zk_I (by rw [show s = zp_n π by omega])
    · refine zx_iload_n dX11_doorMany_12 rfl ?_
      refine zx_aload_n dX11_doorMany_13 rfl ?_
      refine zx_getr dX11_doorMany_14 fX11_7 ?_
      refine zx_iload_n dX11_doorMany_17 rfl ?_
      refine zy_iald dX11_doorMany_18 rfl (by decide) rfl (by omega) (hI.2.2.2.2.1 s (by omega)) ?_
      refine zy_if_le (tgt := 26) dX11_doorMany_19 (by decide) (by have := hI.2.2.2.2.2 s (by omega); omega) (fun h_19 => ?_) (fun h_19 => ?_)
      · refine zx_iconst (v := zn_I 0) dX11_doorMany_26 rfl ?_
        refine zy_iadd dX11_doorMany_27 ?_
        refine zx_istore_n dX11_doorMany_28 rfl (Nat.le_of_ble_eq_true rfl) ?_
        refine zy_iinc dX11_doorMany_29 rfl rfl ?_
        refine zx_goto (tgt := 4) dX11_doorMany_32 (by decide) ?_
        rw [show ((zp_d π s : Nat) : Int) + 0 = ((zp_d π (s + 1) : Nat) : Int) by rw [zp_d, if_neg (by omega)]; omega]
        exact ih (by omega)
      · refine zx_iconst (v := zn_I 1) dX11_doorMany_22 rfl ?_
        refine zx_goto (tgt := 27) dX11_doorMany_23 (by decide) ?_
        refine zy_iadd dX11_doorMany_27 ?_
        refine zx_istore_n dX11_doorMany_28 rfl (Nat.le_of_ble_eq_true rfl) ?_
        refine zy_iinc dX11_doorMany_29 rfl rfl ?_
        refine zx_goto (tgt := 4) dX11_doorMany_32 (by decide) ?_
        rw [show ((zp_d π s : Nat) : Int) + 1 = ((zp_d π (s + 1) : Nat) : Int) by rw [zp_d, if_pos (by omega)]; omega]
        exact ih (by omega)
  refine zx_iconst (v := zn_I 0) dX11_doorMany_0 rfl ?_
  refine zx_istore_n dX11_doorMany_1 rfl (Nat.le_of_ble_eq_true rfl) ?_
  refine zx_iconst (v := zn_I 0) dX11_doorMany_2 rfl ?_
  refine zx_istore_n dX11_doorMany_3 rfl (Nat.le_of_ble_eq_true rfl) ?_
  exact loop 0 (by omega)
set_option maxRecDepth 100000 in
set_option maxHeartbeats 600000 in
theorem mX11_howMany {l : Launch} {d : Nat} {M : zw_M} {σ : zZ} (hJ : zJ_ M σ) {w : Int} (hww : -2147483648 ≤ w ∧ w < 2147483648) : zw_C l (d + 2) iX11_howMany [.ref 33, .int (zn_I w)] M (zw_i (zn_I (zk_count σ w)) M) := by
  obtain ⟨hI, hT, hG, ⟨ha, hb, hc⟩, hM, hK⟩ := id hJ
  have hp := hI.1
  have h30 := zp_30 hp
  have h8 := hT.1
  have hr2 : M.1 33 2 = zn_I (zp_n σ.1) := hI.2.2.2.1
  have ht5 : M.1 33 5 = zn_I σ.2.1.1 := hT.2.1
  refine zw_of (by decide +kernel) (Nat.le_of_ble_eq_true rfl) ?_
  refine zy_loc (L1 := [.ref 33, .int (zn_I w)]) rfl ?_
  refine zx_iload_n dX11_howMany_0 rfl ?_
  rcases (show w = 0 ∨ w = 1 ∨ w = 2 ∨ w = 3 ∨ w = 4 ∨ w = 5 ∨ w = 6 ∨ w = 7 ∨ (w < 0 ∨ 7 < w) by omega) with h_1 | h_1 | h_1 | h_1 | h_1 | h_1 | h_1 | h_1 | h_1
  · refine zx_tin (z := 0) (tgt := 48) dX11_howMany_1 ((zn_toInt ⟨by omega, by omega⟩).trans h_1) (by decide) (by decide) rfl (by decide) ?_
    refine zx_aload_n dX11_howMany_48 rfl ?_
    refine zy_geti dX11_howMany_49 fX11_92 (hr2) ?_
    refine zx_iret (st := []) dX11_howMany_52 rfl rfl ?_
    exact zk_I (by simp only [zk_count, Int.toNat_natCast]; (repeat' split) <;> first | rfl | omega)
  · refine zx_tin (z := 1) (tgt := 53) dX11_howMany_1 ((zn_toInt ⟨by omega, by omega⟩).trans h_1) (by decide) (by decide) rfl (by decide) ?_
    refine zx_aload_n dX11_howMany_53 rfl ?_
    refine zx_callV (y1 := iX11_doorMany) dX11_howMany_54 lX11_278 vX11_doorMany rc_33 (mX11_doorMany hI) rfl rfl (Nat.le_of_ble_eq_true rfl) ?_
    refine zk_i ?_
    refine zx_iret (st := []) dX11_howMany_57 rfl rfl ?_
    exact zk_I (by simp only [zk_count, Int.toNat_natCast]; (repeat' split) <;> first | rfl | omega)
  · refine zx_tin (z := 2) (tgt := 58) dX11_howMany_1 ((zn_toInt ⟨by omega, by omega⟩).trans h_1) (by decide) (by decide) rfl (by decide) ?_
    refine zx_aload_n dX11_howMany_58 rfl ?_
    refine zy_geti dX11_howMany_59 fX11_95 (ht5) ?_
    refine zx_iret (st := []) dX11_howMany_62 rfl rfl ?_
    exact zk_I (by simp only [zk_count, Int.toNat_natCast]; (repeat' split) <;> first | rfl | omega)
  · refine zx_tin (z := 3) (tgt := 63) dX11_howMany_1 ((zn_toInt ⟨by omega, by omega⟩).trans h_1) (by decide) (by decide) rfl (by decide) ?_
    refine zx_aload_n dX11_howMany_63 rfl ?_
    refine zx_callV (y1 := iX11_peopleMany) dX11_howMany_64 lX11_158 vX11_peopleMany rc_33 (mX11_peopleMany hT) rfl rfl (Nat.le_of_ble_eq_true rfl) ?_
    refine zk_i ?_
    refine zx_iret (st := []) dX11_howMany_67 rfl rfl ?_
    exact zk_I (by simp only [zk_count, Int.toNat_natCast]; (repeat' split) <;> first | rfl | omega)
  · refine zx_tin (z := 4) (tgt := 68) dX11_howMany_1 ((zn_toInt ⟨by omega, by omega⟩).trans h_1) (by decide) (by decide) rfl (by decide) ?_
    refine zx_aload_n dX11_howMany_68 rfl ?_
    refine zy_geti dX11_howMany_69 fX11_52 (hG.2.1) ?_
    refine zx_iret (st := []) dX11_howMany_72 rfl rfl ?_
    exact zk_I (by simp only [zk_count, Int.toNat_natCast]; (repeat' split) <;> first | rfl | omega)
  · refine zx_tin (z := 5) (tgt := 73) dX11_howMany_1 ((zn_toInt ⟨by omega, by omega⟩).trans h_1) (by decide) (by decide) rfl (by decide) ?_
    refine zx_aload_n dX11_howMany_73 rfl ?_
    refine zy_geti dX11_howMany_74 fX11_98 (ha) ?_
    refine zx_iret (st := []) dX11_howMany_77 rfl rfl ?_
    exact zk_I (by simp only [zk_count, Int.toNat_natCast]; (repeat' split) <;> first | rfl | omega)
  · refine zx_tin (z := 6) (tgt := 78) dX11_howMany_1 ((zn_toInt ⟨by omega, by omega⟩).trans h_1) (by decide) (by decide) rfl (by decide) ?_
    refine zx_aload_n dX11_howMany_78 rfl ?_
    refine zy_geti dX11_howMany_79 fX11_173 (hb) ?_
    refine zx_iret (st := []) dX11_howMany_82 rfl rfl ?_
    exact zk_I (by simp only [zk_count, Int.toNat_natCast]; (repeat' split) <;> first | rfl | omega)
  · refine zx_tin (z := 7) (tgt := 83) dX11_howMany_1 ((zn_toInt ⟨by omega, by omega⟩).trans h_1) (by decide) (by decide) rfl (by decide) ?_
    refine zx_aload_n dX11_howMany_83 rfl ?_
    refine zy_geti dX11_howMany_84 fX11_212 (hc) ?_
    refine zx_iret (st := []) dX11_howMany_87 rfl rfl ?_
    exact zk_I (by simp only [zk_count, Int.toNat_natCast]; (repeat' split) <;> first | rfl | omega)
  · refine zx_tout (tgt := 88) dX11_howMany_1 (by rw [zn_toInt ⟨by omega, by omega⟩]; exact h_1) (by decide) ?_
    refine zx_bipush (v := zn_I (-102)) dX11_howMany_88 (by decide) ?_
    refine zx_iret (st := []) dX11_howMany_90 rfl rfl ?_
    exact zk_I (by simp only [zk_count, Int.toNat_natCast]; (repeat' split) <;> first | rfl | omega)
set_option maxRecDepth 100000 in
set_option maxHeartbeats 600000 in
theorem mX11_count {l : Launch} {d : Nat} {M : zw_M} {σ : zZ} (hJ : zJ_ M σ) {w : Int} (hww : -2147483648 ≤ w ∧ w < 2147483648) : zw_C l (d + 3) iX11_count [.ref 33, .int (zn_I w)] M (zw_i (zn_I (zk_count σ w)) M) := by
  obtain ⟨hI, hT, hG, ⟨ha, hb, hc⟩, hM, hK⟩ := id hJ
  have hp := hI.1
  have h30 := zp_30 hp
  have h8 := hT.1
  have hr2 : M.1 33 2 = zn_I (zp_n σ.1) := hI.2.2.2.1
  have ht5 : M.1 33 5 = zn_I σ.2.1.1 := hT.2.1
  refine zw_of (by decide +kernel) (Nat.le_of_ble_eq_true rfl) ?_
  refine zy_loc (L1 := [.ref 33, .int (zn_I w)]) rfl ?_
  refine zx_aload_n dX11_count_0 rfl ?_
  refine zx_iload_n dX11_count_1 rfl ?_
  refine zx_callV (y1 := iX11_howMany) dX11_count_2 lX11_281 vX11_howMany rc_33 (mX11_howMany hJ hww) rfl rfl (Nat.le_of_ble_eq_true rfl) ?_
  refine zk_i ?_
  refine zx_iret (st := []) dX11_count_5 rfl rfl ?_
  exact ⟨rfl, rfl⟩
set_option maxRecDepth 100000 in
set_option maxHeartbeats 600000 in
theorem mX11_image {l : Launch} {d : Nat} {M : zw_M} {σ : zZ} (hJ : zJ_ M σ) : zw_C l d iX11_image [.ref 33] M (mO (zn_I (zk_image σ)) (zk_imageS σ) M) := by
  obtain ⟨hI, hT, hG, ⟨ha, hb, hc⟩, hM, hK⟩ := id hJ
  have hp := hI.1
  have h30 := zp_30 hp
  have h8 := hT.1
  have hr2 : M.1 33 2 = zn_I (zp_n σ.1) := hI.2.2.2.1
  have ht5 : M.1 33 5 = zn_I σ.2.1.1 := hT.2.1
  refine zw_of (by decide +kernel) (Nat.le_of_ble_eq_true rfl) ?_
  refine zy_loc (L1 := [.ref 33, .retAddr 0]) rfl ?_
  have loop : 0 < zp_n σ.1 → ∀ k : Nat, k ≤ 64 → ∀ M1 : zw_M, mfr [46] [35, 36, 37] M M1 → (M1.1 33 35 = zn_I 1 ∧ M1.1 33 36 = zn_I (σ.2.2.2.1.1 : Nat) ∧ M1.1 33 37 = zn_I (σ.2.1.1 : Nat)) → (∀ j, j < k → M1.1 46 j = M.1 37 j) → zw_X l d iX11_image (mO (zn_I (zk_image σ)) (zk_imageS σ) M) 33 [.ref 33, .int (zn_I (k : Int))] [] M1 := by
    intro h0
    refine zw_loop 64 (P := fun k => ∀ M1 : zw_M, mfr [46] [35, 36, 37] M M1 → (M1.1 33 35 = zn_I 1 ∧ M1.1 33 36 = zn_I (σ.2.2.2.1.1 : Nat) ∧ M1.1 33 37 = zn_I (σ.2.1.1 : Nat)) → (∀ j, j < k → M1.1 46 j = M.1 37 j) → zw_X l d iX11_image (mO (zn_I (zk_image σ)) (zk_imageS σ) M) 33 [.ref 33, .int (zn_I (k : Int))] [] M1) (fun k hk ih M1 hf h3 hcp => ?_)
    refine zx_iload_n dX11_image_33 rfl ?_
    refine zx_bipush (v := zn_I 64) dX11_image_34 (by decide) ?_
    refine zy_icmp_ge (tgt := 57) dX11_image_36 (by decide) (by omega) (fun h_36 => ?_) (fun h_36 => ?_)
    · refine zx_aload_n dX11_image_57 rfl ?_
      refine zy_geti dX11_image_58 fX11_95 ((show _ = zn_I (σ.2.1.1 : Int) from by rw [(hf.2 5 (by decide)).1]; exact ht5)) ?_
      refine zx_iret (st := []) dX11_image_61 rfl rfl ?_
      have hk6 : k = 64 := by omega
      subst hk6
      rw [zk_imageS, if_pos h0]
      refine mO_f (mf_mono hf (by decide)) ⟨mI_f hf hI (by decide), mT_f hf hT (by decide), mG_f hf hG (by decide), ⟨by rw [(hf.2 3 (by decide)).1]; exact ha, by rw [(hf.2 9 (by decide)).1]; exact hb, by rw [(hf.2 10 (by decide)).1]; exact hc⟩, mM_f hf hM (by decide), h3.1, h3.2.1, h3.2.2, fun t ht q hq => ?_⟩ (by rw [zk_image, if_pos h0])
      have ht2 : t < σ.2.1.1 := ht
      rw [hcp _ (by omega)]
      exact hT.2.2.2.2.1 t ht2 q hq
    · refine zx_aload_n dX11_image_39 rfl ?_
      refine zx_getr dX11_image_40 fX11_47 ?_
      refine zx_iload_n dX11_image_43 rfl ?_
      refine zx_aload_n dX11_image_44 rfl ?_
      refine zx_getr dX11_image_45 fX11_19 ?_
      refine zx_iload_n dX11_image_48 rfl ?_
      refine zy_iald (i := k) dX11_image_49 rfl (by decide) (by omega) (by omega) ((show _ = M.1 37 k from by rw [(hf.1 37 (by decide) (by decide)).1])) ?_
      refine zy_iast (i := k) dX11_image_50 rfl (by decide) (by omega) (by omega) ?_
      refine zy_iinc dX11_image_51 rfl rfl ?_
      refine zx_goto (tgt := 33) dX11_image_54 (by decide) ?_
      refine ih (by omega) _ (mf_s hf (by decide) (by decide)) (by simpa [zw_s] using h3) (fun j hj => ?_)
      by_cases e : j = k
      · subst e; simp [zw_s]
      · have := hcp j (by omega)
        simp [zw_s, e, this]
  refine zx_aload_n dX11_image_0 rfl ?_
  refine zy_geti dX11_image_1 fX11_92 (hr2) ?_
  refine zy_if_ne (tgt := 10) dX11_image_4 (by decide) (by omega) (fun h_4 => ?_) (fun h_4 => ?_)
  · refine zx_aload_n dX11_image_10 rfl ?_
    refine zx_iconst (v := zn_I 1) dX11_image_11 rfl ?_
    refine zx_putz dX11_image_12 fX11_269 rfl rfl ?_
    refine zx_aload_n dX11_image_15 rfl ?_
    refine zx_aload_n dX11_image_16 rfl ?_
    refine zy_geti dX11_image_17 fX11_98 ((show _ = zn_I (σ.2.2.2.1.1 : Nat) from by simp [zw_s, ha])) ?_
    refine zx_puti dX11_image_20 fX11_272 ?_
    refine zx_aload_n dX11_image_23 rfl ?_
    refine zx_aload_n dX11_image_24 rfl ?_
    refine zy_geti dX11_image_25 fX11_95 ((show _ = zn_I (σ.2.1.1 : Nat) from by simp [zw_s, ht5])) ?_
    refine zx_puti dX11_image_28 fX11_275 ?_
    refine zx_iconst (v := zn_I 0) dX11_image_31 rfl ?_
    refine zx_istore_n dX11_image_32 rfl (Nat.le_of_ble_eq_true rfl) ?_
    exact loop (by omega) 0 (by omega) _ (mf_f (mf_f (mf_f mf_rf (by decide)) (by decide)) (by decide)) (by simp [zw_s]) (fun j hj => absurd hj (Nat.not_lt_zero _))
  · refine zx_bipush (v := zn_I (-103)) dX11_image_7 (by decide) ?_
    refine zx_iret (st := []) dX11_image_9 rfl rfl ?_
    rw [zk_imageS, if_neg (by omega)]
    exact mO_i hJ (by rw [zk_image, if_neg (by omega)])
