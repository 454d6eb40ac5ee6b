/-! THE REFERENCE'S STONES, SITE, MOSS: what they answer -/
theorem mres {M : zw_M} {π : zP} {τ : zQ} (hp : π.1 ≤ 5 ∧ π.2.1 ≤ 6) (hh : ∀ s, s < zp_n π → 0 ≤ π.2.2 s ∧ π.2.2 s ≤ 9) (hT : mT M (zp_n π) τ) (hst : mst τ) : (mdry π τ 0 → zs_res π τ = some (0, [])) ∧ (¬ mdry π τ 0 → ∀ l, mh π τ 0 = some l → zs_res π τ = some (1, l)) ∧ (¬ mdry π τ 0 → mh π τ 0 = none → (∀ l, mh2 π τ = some l → zs_res π τ = some (2, l)) ∧ (mh2 π τ = none → zs_res π τ = none)) := by
  have hd : mdry π τ 0 ↔ zs_dry π (zl_E π τ) (zl_S π τ) 0 0 (zp_n π) = true := mdry_link hp hh (by omega) (by omega) (fun q _ => ⟨by omega, by omega⟩)
  have e0 : zs_mv π τ (zl_E π τ) (zl_S π τ) 0 0 0 0 = if zs_dry π (zl_E π τ) (zl_S π τ) 0 0 (zp_n π) = true then some [] else none := rfl
  refine ⟨fun h => ?_, fun h l hl => ?_, fun h hn => ⟨fun l hl => ?_, fun hl => ?_⟩⟩
  · rw [zs_res, e0, if_pos (hd.mp h)]
  · rw [zs_res, e0, if_neg (fun r => h (hd.mpr r)), ← mh_1 hp hh hT hst (fun r => h (hd.mpr r)), hl]
  · have h1 := mh_1 hp hh hT hst (fun r => h (hd.mpr r))
    rw [zs_res, e0, if_neg (fun r => h (hd.mpr r)), ← h1, hn, ← mh_2 hp hh hT hst (fun r => h (hd.mpr r)) (by rw [← h1, hn]), hl]
  · have h1 := mh_1 hp hh hT hst (fun r => h (hd.mpr r))
    rw [zs_res, e0, if_neg (fun r => h (hd.mpr r)), ← h1, hn, ← mh_2 hp hh hT hst (fun r => h (hd.mpr r)) (by rw [← h1, hn]), hl]
theorem mday_site (π : zP) (τ : zQ) (w : Int) (s : Nat) : mday π τ (w * zp_e π s) (w * zp_s π s) 0 = zp_site π (zl_E π τ) (zl_S π τ) w s := by
  have e : (fun q => zb_pop 32 (mwet π τ (w * zp_e π s) (w * zp_s π s) 0 q)) = fun q => zp_wc π (zl_E π τ q + w * zp_e π s) (zl_S π τ q + w * zp_s π s) := by
    funext q
    rw [mwet, (ml_0 π τ q τ.1).1, (ml_0 π τ q τ.1).2, Int.add_comm (w * zp_e π s), Int.add_comm (w * zp_s π s)]
    rfl
  exact congrArg (fun f => zc_sum f 8) e
theorem ml_moss {π : zP} {τ : zQ} (hst : mst τ) {y : Int} {q : Nat} (hq : q < 8) : ∀ t, t ≤ τ.1 → ml_e π τ y q t = zl_e π τ q t + y * zs_se π τ t ∧ ml_s π τ y q t = zl_s π τ q t + y * zs_ss π τ t
  | 0, _ => by simp [ml_e, ml_s, zl_e, zl_s, zs_se, zs_ss]
  | t + 1, h => by
    have ih := ml_moss (π := π) hst (y := y) hq t (by omega)
    rw [ml_e, ml_s, zl_e, zl_s, zs_se, zs_ss, ih.1, ih.2]
    unfold ml_w
    by_cases c : τ.2.1 t = 1
    · rw [if_pos c, if_pos c, if_pos c, hst t (by omega) c q hq, Int.add_mul, Int.add_mul, Int.mul_add, Int.mul_add]
      omega
    · rw [if_neg c, if_neg c, if_neg c, Int.add_zero, Int.add_zero, Int.add_zero]
      omega
theorem mdry_moss {M : zw_M} {π : zP} {τ : zQ} (hp : π.1 ≤ 5 ∧ π.2.1 ≤ 6) (hh : ∀ s, s < zp_n π → 0 ≤ π.2.2 s ∧ π.2.2 s ≤ 9) (hT : mT M (zp_n π) τ) (hst : mst τ) {y : Nat} (hy : y ≤ 99) : zs_wy π τ y = true ↔ ¬ mdry π τ (y : Int) := by
  have hr : ∀ t, t ≤ τ.1 → (-(5 * (t : Int)) ≤ zs_se π τ t ∧ zs_se π τ t ≤ 5 * (t : Int)) ∧ -(5 * (t : Int)) ≤ zs_ss π τ t ∧ zs_ss π τ t ≤ 5 * (t : Int) := by
    intro t
    induction t with
    | zero => intro _; simp [zs_se, zs_ss]
    | succ t ih =>
      intro ht
      have i := ih (by omega)
      have hl := hT.2.2.2.2.2.2.2 t (by omega) 0 (by omega)
      have e1 := zp_e_rng hp hl
      have e2 := zp_s_rng hp hl
      rw [zs_se, zs_ss]
      split <;> omega
  have h8 := hT.1
  have hs := hr τ.1 (Nat.le_refl _)
  have b1 := zy_mul_rng (y := (y : Int)) (e := zs_se π τ τ.1) (by omega) (by omega)
  have b2 := zy_mul_rng (y := (y : Int)) (e := zs_ss π τ τ.1) (by omega) (by omega)
  have hl := zs_link hp hh (E := zl_E π τ) (S := zl_S π τ) b1 b2
  have he : mdry π τ (y : Int) ↔ ∀ q, q < 8 → zp_bits π (zl_E π τ q + (y : Int) * zs_se π τ τ.1) (zl_S π τ q + (y : Int) * zs_ss π τ τ.1) (zp_n π) = 0 := by
    constructor
    · intro h q hq
      have := h q hq
      rw [mwet, (ml_moss hst hq τ.1 (Nat.le_refl _)).1, (ml_moss hst hq τ.1 (Nat.le_refl _)).2, Int.zero_add, Int.zero_add] at this
      exact this
    · intro h q hq
      rw [mwet, (ml_moss hst hq τ.1 (Nat.le_refl _)).1, (ml_moss hst hq τ.1 (Nat.le_refl _)).2, Int.zero_add, Int.zero_add]
      exact h q hq
  rw [he, ← hl, zs_wy]
  cases zs_dry π (zl_E π τ) (zl_S π τ) ((y : Int) * zs_se π τ τ.1) ((y : Int) * zs_ss π τ τ.1) (zp_n π) <;> simp
theorem zs_yr_keep {f : Nat → Bool} {y : Nat} (h : zs_yr f y ≠ -1) : ∀ n, y ≤ n → zs_yr f n = zs_yr f y
  | 0, hn => by rw [show y = 0 by omega]
  | n + 1, hn => by
    by_cases e : y = n + 1
    · rw [e]
    · rw [zs_yr, zs_yr_keep h n (by omega), if_pos h]
theorem zs_yr_rng (f : Nat → Bool) : ∀ n, -1 ≤ zs_yr f n ∧ zs_yr f n < (n : Int) ∨ zs_yr f n = -1
  | 0 => Or.inr rfl
  | n + 1 => by
    have ih := zs_yr_rng f n
    rw [zs_yr]
    split
    · omega
    · split <;> omega
set_option maxRecDepth 100000 in
set_option maxHeartbeats 600000 in
theorem mX11_stonesNow {l : Launch} {d : Nat} {M : zw_M} {π : zP} {τ : zQ} (hI : mI M π) (hT : mT M (zp_n π) τ) (hM : mM M 0 0 0) (hst : mst τ) {w : Int} (hw : 0 ≤ w ∧ w < 5) : zw_C l (d + 6) iX11_stonesNow [.ref 33, .int (zn_I w)] M (fun v M1 => v = some (.int (zs_fd (zs_res π τ) w.toNat)) ∧ mfr [37] [30, 31, 32, 33] M M1 ∧ mT M1 (zp_n π) τ) := by
  have hp := hI.1
  have h30 := zp_30 hp
  have hr0 : M.1 33 0 = zn_I π.1 := hI.2.1
  have hr1 : M.1 33 1 = zn_I π.2.1 := hI.2.2.1
  have hr2 : M.1 33 2 = zn_I (zp_n π) := hI.2.2.2.1
  have hf0 : mfr [37] [30, 31, 32, 33] M (zw_s (zw_s (zw_s (zw_s M 33 30 (zn_I (-1))) 33 31 (zn_I (-1))) 33 32 (zn_I (-1))) 33 33 (zn_I (-1))) := mf_f (mf_f (mf_f (mf_f mf_rf (by decide)) (by decide)) (by decide)) (by decide)
  have hI0 := mI_f (mf_mono (S1 := []) (F1 := [30, 31, 32, 33]) (mf_f (mf_f (mf_f (mf_f (S := []) (F := [30, 31, 32, 33]) (M := M) (M1 := M) mf_rf (k := 30) (x := zn_I (-1)) (by decide)) (k := 31) (x := zn_I (-1)) (by decide)) (k := 32) (x := zn_I (-1)) (by decide)) (k := 33) (x := zn_I (-1)) (by decide)) (by decide)) hI (by decide)
  have hT0 : mT (zw_s (zw_s (zw_s (zw_s M 33 30 (zn_I (-1))) 33 31 (zn_I (-1))) 33 32 (zn_I (-1))) 33 33 (zn_I (-1))) (zp_n π) τ := mT_f (S := []) (F := [30, 31, 32, 33]) (mf_f (mf_f (mf_f (mf_f mf_rf (by decide)) (by decide)) (by decide)) (by decide)) hT (by decide)
  have hM0 := mM_f hf0 hM (by decide)
  refine zw_of (by decide +kernel) (Nat.le_of_ble_eq_true rfl) ?_
  refine zy_loc (L1 := [.ref 33, .int (zn_I w), .retAddr 0]) rfl ?_
  refine zx_aload_n dX11_stonesNow_0 rfl ?_
  refine zx_iconst (v := zn_I (-1)) dX11_stonesNow_1 rfl ?_
  refine zx_puti dX11_stonesNow_2 fX11_203 ?_
  refine zx_aload_n dX11_stonesNow_5 rfl ?_
  refine zx_iconst (v := zn_I (-1)) dX11_stonesNow_6 rfl ?_
  refine zx_puti dX11_stonesNow_7 fX11_206 ?_
  refine zx_aload_n dX11_stonesNow_10 rfl ?_
  refine zx_iconst (v := zn_I (-1)) dX11_stonesNow_11 rfl ?_
  refine zx_puti dX11_stonesNow_12 fX11_194 ?_
  refine zx_aload_n dX11_stonesNow_15 rfl ?_
  refine zx_iconst (v := zn_I (-1)) dX11_stonesNow_16 rfl ?_
  refine zx_puti dX11_stonesNow_17 fX11_197 ?_
  refine zx_iconst (v := zn_I 0) dX11_stonesNow_20 rfl ?_
  refine zx_istore_n dX11_stonesNow_21 rfl (Nat.le_of_ble_eq_true rfl) ?_
  refine zx_aload_n dX11_stonesNow_22 rfl ?_
  refine zx_callV (y1 := iX11_isDry) dX11_stonesNow_23 lX11_190 vX11_isDry rc_33 (mX11_isDry hI0 hT0 hM0) rfl rfl (Nat.le_of_ble_eq_true rfl) ?_
  refine zk_i ?_
  refine zy_ifB_ne (tgt := 54) dX11_stonesNow_26 (by decide) (fun h_26 => ?_) (fun h_26 => ?_)
  · have hres := (mres hp hI.2.2.2.2.2 hT hst).1 h_26
    refine zx_iload_n dX11_stonesNow_54 rfl ?_
    refine zx_iconst (v := zn_I 1) dX11_stonesNow_55 rfl ?_
    refine zy_icmp_ne (tgt := 85) dX11_stonesNow_56 (by decide) (by omega) (fun h_56 => ?_) (fun h_56 => ?_)
    · refine zx_iload_n dX11_stonesNow_85 rfl ?_
      rcases (show w = 0 ∨ w = 1 ∨ w = 2 ∨ w = 3 ∨ (w < 0 ∨ 3 < w) by omega) with h_86 | h_86 | h_86 | h_86 | h_86
      · refine zx_tin (z := 0) (tgt := 116) dX11_stonesNow_86 ((zn_toInt ⟨by omega, by omega⟩).trans h_86) (by decide) (by decide) rfl (by decide) ?_
        refine zx_iload_n dX11_stonesNow_116 rfl ?_
        refine zx_iret (st := []) dX11_stonesNow_117 rfl rfl ?_
        obtain rfl : w = 0 := by omega
        refine ⟨?_, hf0, hT0⟩
        rw [hres]
        exact congrArg (fun z => some (Value.int z)) (by simp [zs_fd, zs_put, upd, zw_s])
      · refine zx_tin (z := 1) (tgt := 118) dX11_stonesNow_86 ((zn_toInt ⟨by omega, by omega⟩).trans h_86) (by decide) (by decide) rfl (by decide) ?_
        refine zx_aload_n dX11_stonesNow_118 rfl ?_
        refine zx_geti dX11_stonesNow_119 fX11_203 ?_
        refine zx_iret (st := []) dX11_stonesNow_122 rfl rfl ?_
        obtain rfl : w = 1 := by omega
        refine ⟨?_, hf0, hT0⟩
        rw [hres]
        exact congrArg (fun z => some (Value.int z)) (by simp [zs_fd, zs_put, upd, zw_s])
      · refine zx_tin (z := 2) (tgt := 123) dX11_stonesNow_86 ((zn_toInt ⟨by omega, by omega⟩).trans h_86) (by decide) (by decide) rfl (by decide) ?_
        refine zx_aload_n dX11_stonesNow_123 rfl ?_
        refine zx_geti dX11_stonesNow_124 fX11_206 ?_
        refine zx_iret (st := []) dX11_stonesNow_127 rfl rfl ?_
        obtain rfl : w = 2 := by omega
        refine ⟨?_, hf0, hT0⟩
        rw [hres]
        exact congrArg (fun z => some (Value.int z)) (by simp [zs_fd, zs_put, upd, zw_s])
      · refine zx_tin (z := 3) (tgt := 128) dX11_stonesNow_86 ((zn_toInt ⟨by omega, by omega⟩).trans h_86) (by decide) (by decide) rfl (by decide) ?_
        refine zx_aload_n dX11_stonesNow_128 rfl ?_
        refine zx_geti dX11_stonesNow_129 fX11_194 ?_
        refine zx_iret (st := []) dX11_stonesNow_132 rfl rfl ?_
        obtain rfl : w = 3 := by omega
        refine ⟨?_, hf0, hT0⟩
        rw [hres]
        exact congrArg (fun z => some (Value.int z)) (by simp [zs_fd, zs_put, upd, zw_s])
      · refine zx_tout (tgt := 133) dX11_stonesNow_86 (by rw [zn_toInt ⟨by omega, by omega⟩]; exact h_86) (by decide) ?_
        refine zx_aload_n dX11_stonesNow_133 rfl ?_
        refine zx_geti dX11_stonesNow_134 fX11_197 ?_
        refine zx_iret (st := []) dX11_stonesNow_137 rfl rfl ?_
        obtain rfl : w = 4 := by omega
        refine ⟨?_, hf0, hT0⟩
        rw [hres]
        exact congrArg (fun z => some (Value.int z)) (by simp [zs_fd, zs_put, upd, zw_s])
    · exact absurd h_56 (by decide)
  · refine zx_aload_n dX11_stonesNow_29 rfl ?_
    refine zx_iconst (v := zn_I 0) dX11_stonesNow_30 rfl ?_
    refine zx_callV (y1 := iX11_helpsFrom) dX11_stonesNow_31 lX11_200 vX11_helpsFrom rc_33 (mX11_helpsFrom hI0 hT0 hM0 hst (fr := 0) (Nat.zero_le _)) rfl rfl (Nat.le_of_ble_eq_true rfl) ?_
    intro v M1 he
    obtain ⟨rfl, hf01, hT1, hB⟩ := he
    have hf1 : mfr [37] [30, 31, 32, 33] M M1 := mf_tr hf0 (mf_mono hf01 (by decide))
    refine zy_ifB_eq (tgt := 41) dX11_stonesNow_34 (by decide) (fun h_34 => ?_) (fun h_34 => ?_)
    · refine zx_aload_n dX11_stonesNow_41 rfl ?_
      refine zx_callV (y1 := iX11_helpTwo) dX11_stonesNow_42 lX11_209 vX11_helpTwo rc_33 (mX11_helpTwo (mI_f hf1 hI (by decide)) hT1 (mM_f hf1 hM (by decide)) hst) rfl rfl (Nat.le_of_ble_eq_true rfl) ?_
      intro v M2 he
      obtain ⟨rfl, hf12, hT2, hB2⟩ := he
      have hf2 : mfr [37] [30, 31, 32, 33] M M2 := mf_tr hf1 hf12
      refine zy_ifB_eq (tgt := 52) dX11_stonesNow_45 (by decide) (fun h_45 => ?_) (fun h_45 => ?_)
      · refine zx_iconst (v := zn_I (-1)) dX11_stonesNow_52 rfl ?_
        refine zx_istore_n dX11_stonesNow_53 rfl (Nat.le_of_ble_eq_true rfl) ?_
        have hmn : mh π τ 0 = none := Option.not_isSome_iff_eq_none.mp h_34
        rw [hmn] at hB
        have hm2 : mh2 π τ = none := Option.not_isSome_iff_eq_none.mp h_45
        rw [hm2] at hB2
        obtain ⟨b1, b2, b3, b4⟩ := hB2
        have hres := ((mres hp hI.2.2.2.2.2 hT hst).2.2 h_26 hmn).2 hm2
        have c1 : M1.1 33 30 = zn_I (-1) := by rw [(hf01.2 30 (by decide)).1]; simp [zw_s]
        have c2 : M1.1 33 31 = zn_I (-1) := by rw [(hf01.2 31 (by decide)).1]; simp [zw_s]
        have c3 : M1.1 33 32 = zn_I (-1) := by rw [hB.1]; simp [zw_s]
        have c4 : M1.1 33 33 = zn_I (-1) := by rw [hB.2]; simp [zw_s]
        refine zx_iload_n dX11_stonesNow_54 rfl ?_
        refine zx_iconst (v := zn_I 1) dX11_stonesNow_55 rfl ?_
        refine zy_icmp_ne (tgt := 85) dX11_stonesNow_56 (by decide) (by omega) (fun h_56 => ?_) (fun h_56 => ?_)
        · refine zx_iload_n dX11_stonesNow_85 rfl ?_
          rcases (show w = 0 ∨ w = 1 ∨ w = 2 ∨ w = 3 ∨ (w < 0 ∨ 3 < w) by omega) with h_86 | h_86 | h_86 | h_86 | h_86
          · refine zx_tin (z := 0) (tgt := 116) dX11_stonesNow_86 ((zn_toInt ⟨by omega, by omega⟩).trans h_86) (by decide) (by decide) rfl (by decide) ?_
            refine zx_iload_n dX11_stonesNow_116 rfl ?_
            refine zx_iret (st := []) dX11_stonesNow_117 rfl rfl ?_
            obtain rfl : w = 0 := by omega
            refine ⟨?_, hf2, hT2⟩
            rw [hres]
            exact congrArg (fun z => some (Value.int z)) (by simp [zs_fd, zs_put, upd, zw_s, b1, b2, b3, b4, c1, c2, c3, c4])
          · refine zx_tin (z := 1) (tgt := 118) dX11_stonesNow_86 ((zn_toInt ⟨by omega, by omega⟩).trans h_86) (by decide) (by decide) rfl (by decide) ?_
            refine zx_aload_n dX11_stonesNow_118 rfl ?_
            refine zx_geti dX11_stonesNow_119 fX11_203 ?_
            refine zx_iret (st := []) dX11_stonesNow_122 rfl rfl ?_
            obtain rfl : w = 1 := by omega
            refine ⟨?_, hf2, hT2⟩
            rw [hres]
            exact congrArg (fun z => some (Value.int z)) (by simp [zs_fd, zs_put, upd, zw_s, b1, b2, b3, b4, c1, c2, c3, c4])
          · refine zx_tin (z := 2) (tgt := 123) dX11_stonesNow_86 ((zn_toInt ⟨by omega, by omega⟩).trans h_86) (by decide) (by decide) rfl (by decide) ?_
            refine zx_aload_n dX11_stonesNow_123 rfl ?_
            refine zx_geti dX11_stonesNow_124 fX11_206 ?_
            refine zx_iret (st := []) dX11_stonesNow_127 rfl rfl ?_
            obtain rfl : w = 2 := by omega
            refine ⟨?_, hf2, hT2⟩
            rw [hres]
            exact congrArg (fun z => some (Value.int z)) (by simp [zs_fd, zs_put, upd, zw_s, b1, b2, b3, b4, c1, c2, c3, c4])
          · refine zx_tin (z := 3) (tgt := 128) dX11_stonesNow_86 ((zn_toInt ⟨by omega, by omega⟩).trans h_86) (by decide) (by decide) rfl (by decide) ?_
            refine zx_aload_n dX11_stonesNow_128 rfl ?_
            refine zx_geti dX11_stonesNow_129 fX11_194 ?_
            refine zx_iret (st := []) dX11_stonesNow_132 rfl rfl ?_
            obtain rfl : w = 3 := by omega
            refine ⟨?_, hf2, hT2⟩
            rw [hres]
            exact congrArg (fun z => some (Value.int z)) (by simp [zs_fd, zs_put, upd, zw_s, b1, b2, b3, b4, c1, c2, c3, c4])
          · refine zx_tout (tgt := 133) dX11_stonesNow_86 (by rw [zn_toInt ⟨by omega, by omega⟩]; exact h_86) (by decide) ?_
            refine zx_aload_n dX11_stonesNow_133 rfl ?_
            refine zx_geti dX11_stonesNow_134 fX11_197 ?_
            refine zx_iret (st := []) dX11_stonesNow_137 rfl rfl ?_
            obtain rfl : w = 4 := by omega
            refine ⟨?_, hf2, hT2⟩
            rw [hres]
            exact congrArg (fun z => some (Value.int z)) (by simp [zs_fd, zs_put, upd, zw_s, b1, b2, b3, b4, c1, c2, c3, c4])
        · exact absurd h_56 (by decide)
      · refine zx_iconst (v := zn_I 2) dX11_stonesNow_48 rfl ?_
        refine zx_goto (tgt := 53) dX11_stonesNow_49 (by decide) ?_
        refine zx_istore_n dX11_stonesNow_53 rfl (Nat.le_of_ble_eq_true rfl) ?_
        have hmn : mh π τ 0 = none := Option.not_isSome_iff_eq_none.mp h_34
        rw [hmn] at hB
        obtain ⟨l2, hl2⟩ := Option.isSome_iff_exists.mp h_45
        rw [hl2] at hB2
        obtain ⟨t, s, u, r, rfl, b1, b2, b3, b4⟩ := hB2
        have hres := ((mres hp hI.2.2.2.2.2 hT hst).2.2 h_26 hmn).1 _ hl2
        refine zx_iload_n dX11_stonesNow_54 rfl ?_
        refine zx_iconst (v := zn_I 1) dX11_stonesNow_55 rfl ?_
        refine zy_icmp_ne (tgt := 85) dX11_stonesNow_56 (by decide) (by omega) (fun h_56 => ?_) (fun h_56 => ?_)
        · refine zx_iload_n dX11_stonesNow_85 rfl ?_
          rcases (show w = 0 ∨ w = 1 ∨ w = 2 ∨ w = 3 ∨ (w < 0 ∨ 3 < w) by omega) with h_86 | h_86 | h_86 | h_86 | h_86
          · refine zx_tin (z := 0) (tgt := 116) dX11_stonesNow_86 ((zn_toInt ⟨by omega, by omega⟩).trans h_86) (by decide) (by decide) rfl (by decide) ?_
            refine zx_iload_n dX11_stonesNow_116 rfl ?_
            refine zx_iret (st := []) dX11_stonesNow_117 rfl rfl ?_
            obtain rfl : w = 0 := by omega
            refine ⟨?_, hf2, hT2⟩
            rw [hres]
            exact congrArg (fun z => some (Value.int z)) (by simp [zs_fd, zs_put, upd, zw_s, b1, b2, b3, b4])
          · refine zx_tin (z := 1) (tgt := 118) dX11_stonesNow_86 ((zn_toInt ⟨by omega, by omega⟩).trans h_86) (by decide) (by decide) rfl (by decide) ?_
            refine zx_aload_n dX11_stonesNow_118 rfl ?_
            refine zx_geti dX11_stonesNow_119 fX11_203 ?_
            refine zx_iret (st := []) dX11_stonesNow_122 rfl rfl ?_
            obtain rfl : w = 1 := by omega
            refine ⟨?_, hf2, hT2⟩
            rw [hres]
            exact congrArg (fun z => some (Value.int z)) (by simp [zs_fd, zs_put, upd, zw_s, b1, b2, b3, b4])
          · refine zx_tin (z := 2) (tgt := 123) dX11_stonesNow_86 ((zn_toInt ⟨by omega, by omega⟩).trans h_86) (by decide) (by decide) rfl (by decide) ?_
            refine zx_aload_n dX11_stonesNow_123 rfl ?_
            refine zx_geti dX11_stonesNow_124 fX11_206 ?_
            refine zx_iret (st := []) dX11_stonesNow_127 rfl rfl ?_
            obtain rfl : w = 2 := by omega
            refine ⟨?_, hf2, hT2⟩
            rw [hres]
            exact congrArg (fun z => some (Value.int z)) (by simp [zs_fd, zs_put, upd, zw_s, b1, b2, b3, b4])
          · refine zx_tin (z := 3) (tgt := 128) dX11_stonesNow_86 ((zn_toInt ⟨by omega, by omega⟩).trans h_86) (by decide) (by decide) rfl (by decide) ?_
            refine zx_aload_n dX11_stonesNow_128 rfl ?_
            refine zx_geti dX11_stonesNow_129 fX11_194 ?_
            refine zx_iret (st := []) dX11_stonesNow_132 rfl rfl ?_
            obtain rfl : w = 3 := by omega
            refine ⟨?_, hf2, hT2⟩
            rw [hres]
            exact congrArg (fun z => some (Value.int z)) (by simp [zs_fd, zs_put, upd, zw_s, b1, b2, b3, b4])
          · refine zx_tout (tgt := 133) dX11_stonesNow_86 (by rw [zn_toInt ⟨by omega, by omega⟩]; exact h_86) (by decide) ?_
            refine zx_aload_n dX11_stonesNow_133 rfl ?_
            refine zx_geti dX11_stonesNow_134 fX11_197 ?_
            refine zx_iret (st := []) dX11_stonesNow_137 rfl rfl ?_
            obtain rfl : w = 4 := by omega
            refine ⟨?_, hf2, hT2⟩
            rw [hres]
            exact congrArg (fun z => some (Value.int z)) (by simp [zs_fd, zs_put, upd, zw_s, b1, b2, b3, b4])
        · exact absurd h_56 (by decide)
    · refine zx_iconst (v := zn_I 1) dX11_stonesNow_37 rfl ?_
      refine zx_goto (tgt := 53) dX11_stonesNow_38 (by decide) ?_
      refine zx_istore_n dX11_stonesNow_53 rfl (Nat.le_of_ble_eq_true rfl) ?_
      obtain ⟨l1, hl1⟩ := Option.isSome_iff_exists.mp h_34
      rw [hl1] at hB
      obtain ⟨t, s, rfl, hu, hr⟩ := hB
      have hres := (mres hp hI.2.2.2.2.2 hT hst).2.1 h_26 _ hl1
      refine zx_iload_n dX11_stonesNow_54 rfl ?_
      refine zx_iconst (v := zn_I 1) dX11_stonesNow_55 rfl ?_
      refine zy_icmp_ne (tgt := 85) dX11_stonesNow_56 (by decide) (by omega) (fun h_56 => ?_) (fun h_56 => ?_)
      · exact absurd rfl h_56
      · refine zx_aload_n dX11_stonesNow_59 rfl ?_
        refine zx_aload_n dX11_stonesNow_60 rfl ?_
        refine zx_geti dX11_stonesNow_61 fX11_194 ?_
        refine zx_puti dX11_stonesNow_64 fX11_203 ?_
        refine zx_aload_n dX11_stonesNow_67 rfl ?_
        refine zx_aload_n dX11_stonesNow_68 rfl ?_
        refine zx_geti dX11_stonesNow_69 fX11_197 ?_
        refine zx_puti dX11_stonesNow_72 fX11_206 ?_
        refine zx_aload_n dX11_stonesNow_75 rfl ?_
        refine zx_iconst (v := zn_I (-1)) dX11_stonesNow_76 rfl ?_
        refine zx_puti dX11_stonesNow_77 fX11_194 ?_
        refine zx_aload_n dX11_stonesNow_80 rfl ?_
        refine zx_iconst (v := zn_I (-1)) dX11_stonesNow_81 rfl ?_
        refine zx_puti dX11_stonesNow_82 fX11_197 ?_
        refine zx_iload_n dX11_stonesNow_85 rfl ?_
        rcases (show w = 0 ∨ w = 1 ∨ w = 2 ∨ w = 3 ∨ (w < 0 ∨ 3 < w) by omega) with h_86 | h_86 | h_86 | h_86 | h_86
        · refine zx_tin (z := 0) (tgt := 116) dX11_stonesNow_86 ((zn_toInt ⟨by omega, by omega⟩).trans h_86) (by decide) (by decide) rfl (by decide) ?_
          refine zx_iload_n dX11_stonesNow_116 rfl ?_
          refine zx_iret (st := []) dX11_stonesNow_117 rfl rfl ?_
          obtain rfl : w = 0 := by omega
          refine ⟨?_, mf_f (mf_f (mf_f (mf_f hf1 (by decide)) (by decide)) (by decide)) (by decide), mT_f (mf_f (mf_f (mf_f (mf_f (S := []) (F := [30, 31, 32, 33]) mf_rf (by decide)) (by decide)) (by decide)) (by decide)) hT1 (by decide)⟩
          rw [hres]
          exact congrArg (fun z => some (Value.int z)) (by simp [zs_fd, zs_put, upd, zw_s, hu, hr])
        · refine zx_tin (z := 1) (tgt := 118) dX11_stonesNow_86 ((zn_toInt ⟨by omega, by omega⟩).trans h_86) (by decide) (by decide) rfl (by decide) ?_
          refine zx_aload_n dX11_stonesNow_118 rfl ?_
          refine zx_geti dX11_stonesNow_119 fX11_203 ?_
          refine zx_iret (st := []) dX11_stonesNow_122 rfl rfl ?_
          obtain rfl : w = 1 := by omega
          refine ⟨?_, mf_f (mf_f (mf_f (mf_f hf1 (by decide)) (by decide)) (by decide)) (by decide), mT_f (mf_f (mf_f (mf_f (mf_f (S := []) (F := [30, 31, 32, 33]) mf_rf (by decide)) (by decide)) (by decide)) (by decide)) hT1 (by decide)⟩
          rw [hres]
          exact congrArg (fun z => some (Value.int z)) (by simp [zs_fd, zs_put, upd, zw_s, hu, hr])
        · refine zx_tin (z := 2) (tgt := 123) dX11_stonesNow_86 ((zn_toInt ⟨by omega, by omega⟩).trans h_86) (by decide) (by decide) rfl (by decide) ?_
          refine zx_aload_n dX11_stonesNow_123 rfl ?_
          refine zx_geti dX11_stonesNow_124 fX11_206 ?_
          refine zx_iret (st := []) dX11_stonesNow_127 rfl rfl ?_
          obtain rfl : w = 2 := by omega
          refine ⟨?_, mf_f (mf_f (mf_f (mf_f hf1 (by decide)) (by decide)) (by decide)) (by decide), mT_f (mf_f (mf_f (mf_f (mf_f (S := []) (F := [30, 31, 32, 33]) mf_rf (by decide)) (by decide)) (by decide)) (by decide)) hT1 (by decide)⟩
          rw [hres]
          exact congrArg (fun z => some (Value.int z)) (by simp [zs_fd, zs_put, upd, zw_s, hu, hr])
        · refine zx_tin (z := 3) (tgt := 128) dX11_stonesNow_86 ((zn_toInt ⟨by omega, by omega⟩).trans h_86) (by decide) (by decide) rfl (by decide) ?_
          refine zx_aload_n dX11_stonesNow_128 rfl ?_
          refine zx_geti dX11_stonesNow_129 fX11_194 ?_
          refine zx_iret (st := []) dX11_stonesNow_132 rfl rfl ?_
          obtain rfl : w = 3 := by omega
          refine ⟨?_, mf_f (mf_f (mf_f (mf_f hf1 (by decide)) (by decide)) (by decide)) (by decide), mT_f (mf_f (mf_f (mf_f (mf_f (S := []) (F := [30, 31, 32, 33]) mf_rf (by decide)) (by decide)) (by decide)) (by decide)) hT1 (by decide)⟩
          rw [hres]
          exact congrArg (fun z => some (Value.int z)) (by simp [zs_fd, zs_put, upd, zw_s, hu, hr])
        · refine zx_tout (tgt := 133) dX11_stonesNow_86 (by rw [zn_toInt ⟨by omega, by omega⟩]; exact h_86) (by decide) ?_
          refine zx_aload_n dX11_stonesNow_133 rfl ?_
          refine zx_geti dX11_stonesNow_134 fX11_197 ?_
          refine zx_iret (st := []) dX11_stonesNow_137 rfl rfl ?_
          obtain rfl : w = 4 := by omega
          refine ⟨?_, mf_f (mf_f (mf_f (mf_f hf1 (by decide)) (by decide)) (by decide)) (by decide), mT_f (mf_f (mf_f (mf_f (mf_f (S := []) (F := [30, 31, 32, 33]) mf_rf (by decide)) (by decide)) (by decide)) (by decide)) hT1 (by decide)⟩
          rw [hres]
          exact congrArg (fun z => some (Value.int z)) (by simp [zs_fd, zs_put, upd, zw_s, hu, hr])
set_option maxRecDepth 100000 in
set_option maxHeartbeats 600000 in
theorem mX11_stones {l : Launch} {d : Nat} {M : zw_M} {σ : zZ} (hJ : zJ_ M σ) (hok : zok σ) {w : Int} (hww : -2147483648 ≤ w ∧ w < 2147483648) : zw_C l (d + 7) iX11_stones [.ref 33, .int (zn_I w)] M (mO (zk_stones σ w) (zk_stonesS σ w) M) := by
  obtain ⟨hI, hT, hG, ⟨ha, hb, hc⟩, hM, hK⟩ := id hJ
  have hp := hI.1
  have h30 := zp_30 hp
  have h8 := hT.1
  have hr2 : M.1 33 2 = zn_I (zp_n σ.1) := hI.2.2.2.1
  have ht5 : M.1 33 5 = zn_I σ.2.1.1 := hT.2.1
  have hc20 := hok.1.2
  refine zw_of (by decide +kernel) (Nat.le_of_ble_eq_true rfl) ?_
  refine zy_loc (L1 := [.ref 33, .int (zn_I w)]) rfl ?_
  refine zx_iload_n dX11_stones_0 rfl ?_
  refine zx_iconst (v := zn_I 0) dX11_stones_1 rfl ?_
  refine zx_iconst (v := zn_I 4) dX11_stones_2 rfl ?_
  refine zx_callS (y1 := iX11_within) dX11_stones_3 lX11_65 sX11_within (mX11_within (v := w) (a := 0) (b := 4) (by omega) (by omega) (by omega)) rfl rfl (Nat.le_of_ble_eq_true rfl) ?_
  refine zk_i ?_
  refine zy_ifB_ne (tgt := 12) dX11_stones_6 (by decide) (fun h_6 => ?_) (fun h_6 => ?_)
  · refine zx_aload_n dX11_stones_12 rfl ?_
    refine zy_geti dX11_stones_13 fX11_92 (hr2) ?_
    refine zy_if_eq (tgt := 28) dX11_stones_16 (by decide) (by omega) (fun h_16 => ?_) (fun h_16 => ?_)
    · refine zx_bipush (v := zn_I (-103)) dX11_stones_28 (by decide) ?_
      refine zx_iret (st := []) dX11_stones_30 rfl rfl ?_
      rw [zk_stonesS, if_neg (by omega)]
      refine ⟨?_, mf_rf, hJ⟩
      rw [zk_stones, if_neg (by omega), if_pos (by omega)]
    · refine zx_aload_n dX11_stones_19 rfl ?_
      refine zy_geti dX11_stones_20 fX11_212 (hc) ?_
      refine zx_bipush (v := zn_I 20) dX11_stones_23 (by decide) ?_
      refine zy_icmp_ne (tgt := 31) dX11_stones_25 (by decide) (by omega) (fun h_25 => ?_) (fun h_25 => ?_)
      · refine zx_aload_n dX11_stones_31 rfl ?_
        refine zx_dup dX11_stones_32 rfl ?_
        refine zy_geti dX11_stones_33 fX11_212 (hc) ?_
        refine zx_iconst (v := zn_I 1) dX11_stones_36 rfl ?_
        refine zy_iadd dX11_stones_37 ?_
        refine zx_puti dX11_stones_38 fX11_212 ?_
        refine zx_aload_n dX11_stones_41 rfl ?_
        refine zx_iload_n dX11_stones_42 rfl ?_
        refine zx_callV (y1 := iX11_stonesNow) dX11_stones_43 lX11_215 vX11_stonesNow rc_33 (mX11_stonesNow (M := (zw_s M 33 10 (zn_I ((σ.2.2.2.1.2.2 : Int) + 1)))) (mI_f (mf_f (S := []) (F := [10]) mf_rf (by decide)) hI (by decide)) (mT_f (mf_f (S := []) (F := [10]) mf_rf (by decide)) hT (by decide)) (mM_f (mf_f (S := []) (F := [10]) mf_rf (by decide)) hM (by decide)) (mst_ok hok) (w := w) (by omega)) rfl rfl (Nat.le_of_ble_eq_true rfl) ?_
        intro v M1 he
        obtain ⟨rfl, hf, hT1⟩ := he
        refine zx_iret (st := []) dX11_stones_46 rfl rfl ?_
        have hfa : mfr [37] [10, 30, 31, 32, 33] M M1 := mf_tr (mf_f mf_rf (by decide)) (mf_mono hf (by decide))
        refine ⟨?_, mf_mono hfa (by decide), ?_⟩
        · rw [zk_stones, if_neg (by omega), if_neg (by omega)]
        · rw [zk_stonesS, if_pos ⟨by omega, by omega, by omega⟩]
          refine ⟨mI_f hfa hI (by decide), hT1, mG_f hfa hG (by decide), ⟨by rw [(hfa.2 3 (by decide)).1]; exact ha, by rw [(hfa.2 9 (by decide)).1]; exact hb, ?_⟩, mM_f hfa hM (by decide), mK_f hfa hK (by decide)⟩
          rw [(hf.2 10 (by decide)).1]
          simp [zw_s]
      · refine zx_bipush (v := zn_I (-103)) dX11_stones_28 (by decide) ?_
        refine zx_iret (st := []) dX11_stones_30 rfl rfl ?_
        rw [zk_stonesS, if_neg (by omega)]
        refine ⟨?_, mf_rf, hJ⟩
        rw [zk_stones, if_neg (by omega), if_pos (by omega)]
  · refine zx_bipush (v := zn_I (-102)) dX11_stones_9 (by decide) ?_
    refine zx_iret (st := []) dX11_stones_11 rfl rfl ?_
    rw [zk_stonesS, if_neg (by omega)]
    refine ⟨?_, mf_rf, hJ⟩
    rw [zk_stones, if_pos (by omega)]
set_option maxRecDepth 100000 in
set_option maxHeartbeats 600000 in
theorem mX11_siteNow {l : Launch} {d : Nat} {M : zw_M} {π : zP} {τ : zQ} (hI : mI M π) (hT : mT M (zp_n π) τ) (hM : mM M 0 0 0) {w : Int} (hw : 1 ≤ w ∧ w ≤ 99) : zw_C l (d + 4) iX11_siteNow [.ref 33, .int (zn_I w)] M (fun v M1 => v = some (.int (zn_I (zsite π τ w))) ∧ mfr [] [19, 20] M M1 ∧ mM M1 0 0 0) := by
  have hp := hI.1
  have h30 := zp_30 hp
  have hr0 : M.1 33 0 = zn_I π.1 := hI.2.1
  have hr1 : M.1 33 1 = zn_I π.2.1 := hI.2.2.1
  have hr2 : M.1 33 2 = zn_I (zp_n π) := hI.2.2.2.1
  have hbr := zc_b_rng (f := zp_site π (zl_E π τ) (zl_S π τ) w) (B := 256) (fun q => zp_day_le _ _ _ _ _)
  refine zw_of (by decide +kernel) (Nat.le_of_ble_eq_true rfl) ?_
  refine zy_loc (L1 := [.ref 33, .int (zn_I w), .retAddr 0, .retAddr 0, .retAddr 0, .retAddr 0]) rfl ?_
  have loop : ∀ k : Nat, k ≤ zp_n π → ∀ (M1 : zw_M) (v5 : Value), mfr [] [19, 20] M M1 → zw_X l (d + 4) iX11_siteNow (fun v M1 => v = some (.int (zn_I (zsite π τ w))) ∧ mfr [] [19, 20] M M1 ∧ mM M1 0 0 0) 8 [.ref 33, .int (zn_I w), .int (zn_I (zc_b (zp_site π (zl_E π τ) (zl_S π τ) w) k).1), .int (zn_I (mc_l (zc_b (zp_site π (zl_E π τ) (zl_S π τ) w) k))), .int (zn_I (k : Int)), v5] [] M1 := by
    refine zw_loop (zp_n π) (P := fun k => ∀ (M1 : zw_M) (v5 : Value), mfr [] [19, 20] M M1 → zw_X l (d + 4) iX11_siteNow (fun v M1 => v = some (.int (zn_I (zsite π τ w))) ∧ mfr [] [19, 20] M M1 ∧ mM M1 0 0 0) 8 [.ref 33, .int (zn_I w), .int (zn_I (zc_b (zp_site π (zl_E π τ) (zl_S π τ) w) k).1), .int (zn_I (mc_l (zc_b (zp_site π (zl_E π τ) (zl_S π τ) w) k))), .int (zn_I (k : Int)), v5] [] M1) (fun k hk ih M1 v5 hf => ?_)
    have hbk := hbr k
    refine zx_iload dX11_siteNow_8 rfl ?_
    refine zx_aload_n dX11_siteNow_10 rfl ?_
    refine zy_geti dX11_siteNow_11 fX11_92 ((show _ = zn_I (zp_n π : Nat) from by rw [(hf.2 2 (by decide)).1]; exact hr2)) ?_
    refine zy_icmp_ge (tgt := 79) dX11_siteNow_14 (by decide) (by omega) (fun h_14 => ?_) (fun h_14 => ?_)
    · refine zx_aload_n dX11_siteNow_79 rfl ?_
      refine zx_iconst (v := zn_I 0) dX11_siteNow_80 rfl ?_
      refine zx_puti dX11_siteNow_81 fX11_132 ?_
      refine zx_aload_n dX11_siteNow_84 rfl ?_
      refine zx_iconst (v := zn_I 0) dX11_siteNow_85 rfl ?_
      refine zx_puti dX11_siteNow_86 fX11_129 ?_
      refine zx_iload_n dX11_siteNow_89 rfl ?_
      refine zx_iret (st := []) dX11_siteNow_90 rfl rfl ?_
      have hkn : k = zp_n π := by omega
      subst hkn
      exact ⟨rfl, mf_f (mf_f hf (by decide)) (by decide), ⟨by simp [zw_s], by simp [zw_s], by simp only [zw_s]; simp; rw [(hf.2 21 (by decide)).1]; exact hM.1.2.2⟩, hM.2⟩
    · refine zx_aload_n dX11_siteNow_17 rfl ?_
      refine zx_iload_n dX11_siteNow_18 rfl ?_
      refine zx_aload_n dX11_siteNow_19 rfl ?_
      refine zx_iload dX11_siteNow_20 rfl ?_
      refine zx_callV (y1 := iX11_eastOf) dX11_siteNow_22 lX11_107 vX11_eastOf rc_33 (mX11_eastOf (mI_f hf hI (by decide)) (s := k) (by omega)) rfl rfl (Nat.le_of_ble_eq_true rfl) ?_
      refine zk_i ?_
      refine zy_imul dX11_siteNow_25 ?_
      refine zx_puti dX11_siteNow_26 fX11_132 ?_
      refine zx_aload_n dX11_siteNow_29 rfl ?_
      refine zx_iload_n dX11_siteNow_30 rfl ?_
      refine zx_aload_n dX11_siteNow_31 rfl ?_
      refine zx_iload dX11_siteNow_32 rfl ?_
      refine zx_callV (y1 := iX11_southOf) dX11_siteNow_34 lX11_110 vX11_southOf rc_33 (mX11_southOf (mI_f (mf_f hf (by decide)) hI (by decide)) (s := k) (by omega)) rfl rfl (Nat.le_of_ble_eq_true rfl) ?_
      refine zk_i ?_
      refine zy_imul dX11_siteNow_37 ?_
      refine zx_puti dX11_siteNow_38 fX11_129 ?_
      have hw2 := zp_w99 hp (s := k) (by omega) hw
      have hf2 : mfr [] [19, 20] M (zw_s (zw_s M1 33 19 (zn_I (w * zp_e π k))) 33 20 (zn_I (w * zp_s π k))) := mf_f (mf_f hf (by decide)) (by decide)
      have hM2 : mM (zw_s (zw_s M1 33 19 (zn_I (w * zp_e π k))) 33 20 (zn_I (w * zp_s π k))) (w * zp_e π k) (w * zp_s π k) 0 := ⟨⟨by simp [zw_s], by simp [zw_s], by rw [(hf2.2 21 (by decide)).1]; exact hM.1.2.2⟩, by omega, by omega, by omega⟩
      have hsl : zp_site π (zl_E π τ) (zl_S π τ) w k ≤ 256 := zp_day_le _ _ _ _ _
      refine zx_aload_n dX11_siteNow_41 rfl ?_
      refine zx_callV (y1 := iX11_wetAll) dX11_siteNow_42 lX11_218 vX11_wetAll rc_33 (mX11_wetAll (me := (w * zp_e π k)) (ms := (w * zp_s π k)) (mo := 0) (mI_f hf2 hI (by decide)) (mT_f hf2 hT (by decide)) hM2) rfl rfl (Nat.le_of_ble_eq_true rfl) ?_
      refine zk_i ?_
      rw [mday_site]
      refine zx_istore dX11_siteNow_45 rfl (Nat.le_of_ble_eq_true rfl) ?_
      refine zx_iload dX11_siteNow_47 rfl ?_
      refine zx_iload_n dX11_siteNow_49 rfl ?_
      refine zy_icmp_ge (tgt := 58) dX11_siteNow_50 (by decide) (by unfold mc_l; split <;> omega) (fun h_50 => ?_) (fun h_50 => ?_)
      · refine zx_iload_n dX11_siteNow_58 rfl ?_
        refine zx_istore_n dX11_siteNow_59 rfl (Nat.le_of_ble_eq_true rfl) ?_
        refine zx_iload dX11_siteNow_60 rfl ?_
        refine zx_iload_n dX11_siteNow_62 rfl ?_
        refine zy_icmp_ge (tgt := 71) dX11_siteNow_63 (by decide) (by unfold mc_l; split <;> omega) (fun h_63 => ?_) (fun h_63 => ?_)
        · refine zx_iload_n dX11_siteNow_71 rfl ?_
          refine zx_istore_n dX11_siteNow_72 rfl (Nat.le_of_ble_eq_true rfl) ?_
          refine zy_iinc dX11_siteNow_73 rfl rfl ?_
          refine zx_goto (tgt := 8) dX11_siteNow_76 (by decide) ?_
          have hst : (zc_b (zp_site π (zl_E π τ) (zl_S π τ) w) (k + 1)) = (zc_b (zp_site π (zl_E π τ) (zl_S π τ) w) k) := by rw [zc_b, if_neg (by unfold mc_l at h_50; split at h_50 <;> omega)]
          have h9 := fun v8 => ih (by omega) _ v8 hf2
          rw [hst] at h9
          exact h9 _
        · exact absurd h_50 h_63
      · refine zx_iload dX11_siteNow_53 rfl ?_
        refine zx_goto (tgt := 59) dX11_siteNow_55 (by decide) ?_
        refine zx_istore_n dX11_siteNow_59 rfl (Nat.le_of_ble_eq_true rfl) ?_
        refine zx_iload dX11_siteNow_60 rfl ?_
        refine zx_iload_n dX11_siteNow_62 rfl ?_
        refine zy_icmp_ge (tgt := 71) dX11_siteNow_63 (by decide) (by unfold mc_l; split <;> omega) (fun h_63 => ?_) (fun h_63 => ?_)
        · exact absurd h_63 h_50
        · refine zx_iload dX11_siteNow_66 rfl ?_
          refine zx_goto (tgt := 72) dX11_siteNow_68 (by decide) ?_
          refine zx_istore_n dX11_siteNow_72 rfl (Nat.le_of_ble_eq_true rfl) ?_
          refine zy_iinc dX11_siteNow_73 rfl rfl ?_
          refine zx_goto (tgt := 8) dX11_siteNow_76 (by decide) ?_
          have hst : (zc_b (zp_site π (zl_E π τ) (zl_S π τ) w) (k + 1)) = ((k : Int), (zp_site π (zl_E π τ) (zl_S π τ) w k : Int)) := by rw [zc_b, if_pos (by unfold mc_l at h_50; split at h_50 <;> omega)]
          have h9 := fun v8 => ih (by omega) _ v8 hf2
          rw [hst] at h9
          exact h9 _
  refine zx_iconst (v := zn_I (-1)) dX11_siteNow_0 rfl ?_
  refine zx_istore_n dX11_siteNow_1 rfl (Nat.le_of_ble_eq_true rfl) ?_
  refine zx_ldc dX11_siteNow_2 kX11_166 ?_
  refine zy_top (show (1048576 : Int32) = zn_I 1048576 from by decide) ?_
  refine zx_istore_n dX11_siteNow_4 rfl (Nat.le_of_ble_eq_true rfl) ?_
  refine zx_iconst (v := zn_I 0) dX11_siteNow_5 rfl ?_
  refine zx_istore dX11_siteNow_6 rfl (Nat.le_of_ble_eq_true rfl) ?_
  exact loop 0 (Nat.zero_le _) M _ mf_rf
set_option maxRecDepth 100000 in
set_option maxHeartbeats 600000 in
theorem mX11_site {l : Launch} {d : Nat} {M : zw_M} {σ : zZ} (hJ : zJ_ M σ) {w : Int} (hww : -2147483648 ≤ w ∧ w < 2147483648) : zw_C l (d + 5) iX11_site [.ref 33, .int (zn_I w)] M (mO (zn_I (zk_site σ w)) σ M) := by
  obtain ⟨hI, hT, hG, ⟨ha, hb, hc⟩, hM, hK⟩ := id hJ
  have hp := hI.1
  have h30 := zp_30 hp
  have h8 := hT.1
  have hr2 : M.1 33 2 = zn_I (zp_n σ.1) := hI.2.2.2.1
  have ht5 : M.1 33 5 = zn_I σ.2.1.1 := hT.2.1
  refine zw_of (by decide +kernel) (Nat.le_of_ble_eq_true rfl) ?_
  refine zy_loc (L1 := [.ref 33, .int (zn_I w)]) rfl ?_
  refine zx_iload_n dX11_site_0 rfl ?_
  refine zx_iconst (v := zn_I 1) dX11_site_1 rfl ?_
  refine zx_bipush (v := zn_I 99) dX11_site_2 (by decide) ?_
  refine zx_callS (y1 := iX11_within) dX11_site_4 lX11_65 sX11_within (mX11_within (v := w) (a := 1) (b := 99) (by omega) (by omega) (by omega)) rfl rfl (Nat.le_of_ble_eq_true rfl) ?_
  refine zk_i ?_
  refine zy_ifB_ne (tgt := 13) dX11_site_7 (by decide) (fun h_7 => ?_) (fun h_7 => ?_)
  · refine zx_aload_n dX11_site_13 rfl ?_
    refine zy_geti dX11_site_14 fX11_92 (hr2) ?_
    refine zy_if_ne (tgt := 25) dX11_site_17 (by decide) (by omega) (fun h_17 => ?_) (fun h_17 => ?_)
    · refine zx_aload_n dX11_site_25 rfl ?_
      refine zx_iload_n dX11_site_26 rfl ?_
      refine zx_callV (y1 := iX11_siteNow) dX11_site_27 lX11_221 vX11_siteNow rc_33 (mX11_siteNow hI hT hM (w := w) (by omega)) rfl rfl (Nat.le_of_ble_eq_true rfl) ?_
      intro v M1 he
      obtain ⟨rfl, hf, hM1⟩ := he
      refine zx_iret (st := []) dX11_site_30 rfl rfl ?_
      refine mO_f (mf_mono hf (by decide)) ⟨mI_f hf hI (by decide), mT_f hf hT (by decide), mG_f hf hG (by decide), ⟨by rw [(hf.2 3 (by decide)).1]; exact ha, by rw [(hf.2 9 (by decide)).1]; exact hb, by rw [(hf.2 10 (by decide)).1]; exact hc⟩, hM1, mK_f hf hK (by decide)⟩ (by simp only [zk_site, Int.toNat_natCast]; (repeat' split) <;> first | rfl | omega)
    · refine zx_bipush (v := zn_I (-103)) dX11_site_20 (by decide) ?_
      refine zx_goto (tgt := 30) dX11_site_22 (by decide) ?_
      refine zx_iret (st := []) dX11_site_30 rfl rfl ?_
      exact mO_i hJ (by simp only [zk_site, Int.toNat_natCast]; (repeat' split) <;> first | rfl | omega)
  · refine zx_bipush (v := zn_I (-102)) dX11_site_10 (by decide) ?_
    refine zx_iret (st := []) dX11_site_12 rfl rfl ?_
    exact mO_i hJ (by simp only [zk_site, Int.toNat_natCast]; (repeat' split) <;> first | rfl | omega)
set_option maxRecDepth 100000 in
set_option maxHeartbeats 600000 in
theorem mX11_mossNow {l : Launch} {d : Nat} {M : zw_M} {π : zP} {τ : zQ} (hI : mI M π) (hT : mT M (zp_n π) τ) (hM : mM M 0 0 0) (hst : mst τ) : zw_C l (d + 4) iX11_mossNow [.ref 33] M (fun v M1 => v = some (.int (zn_I (zmoss π τ))) ∧ mfr [] [21] M M1 ∧ mM M1 0 0 0) := by
  have hp := hI.1
  have h30 := zp_30 hp
  have hr0 : M.1 33 0 = zn_I π.1 := hI.2.1
  have hr1 : M.1 33 1 = zn_I π.2.1 := hI.2.2.1
  have hr2 : M.1 33 2 = zn_I (zp_n π) := hI.2.2.2.1
  refine zw_of (by decide +kernel) (Nat.le_of_ble_eq_true rfl) ?_
  refine zy_loc (L1 := [.ref 33, .retAddr 0, .retAddr 0]) rfl ?_
  have loop : ∀ y : Nat, y ≤ 100 → ∀ M1 : zw_M, mfr [] [21] M M1 → zw_X l (d + 4) iX11_mossNow (fun v M1 => v = some (.int (zn_I (zmoss π τ))) ∧ mfr [] [21] M M1 ∧ mM M1 0 0 0) 4 [.ref 33, .int (zn_I (zs_yr (zs_wy π τ) y)), .int (zn_I (y : Int))] [] M1 := by
    refine zw_loop 100 (P := fun y => ∀ M1 : zw_M, mfr [] [21] M M1 → zw_X l (d + 4) iX11_mossNow (fun v M1 => v = some (.int (zn_I (zmoss π τ))) ∧ mfr [] [21] M M1 ∧ mM M1 0 0 0) 4 [.ref 33, .int (zn_I (zs_yr (zs_wy π τ) y)), .int (zn_I (y : Int))] [] M1) (fun y hy ih M1 hf => ?_)
    have hyr := zs_yr_rng (zs_wy π τ) y
    refine zx_iload_n dX11_mossNow_4 rfl ?_
    refine zx_bipush (v := zn_I 100) dX11_mossNow_5 (by decide) ?_
    refine zy_icmp_ge (tgt := 39) dX11_mossNow_7 (by decide) (by omega) (fun h_7 => ?_) (fun h_7 => ?_)
    · refine zx_aload_n dX11_mossNow_39 rfl ?_
      refine zx_iconst (v := zn_I 0) dX11_mossNow_40 rfl ?_
      refine zx_puti dX11_mossNow_41 fX11_135 ?_
      refine zx_iload_n dX11_mossNow_44 rfl ?_
      refine zx_iret (st := []) dX11_mossNow_45 rfl rfl ?_
      have hy1 : y = 100 := by omega
      subst hy1
      exact ⟨rfl, mf_f hf (by decide), ⟨by simp only [zw_s]; simp; rw [(hf.2 19 (by decide)).1]; exact hM.1.1, by simp only [zw_s]; simp; rw [(hf.2 20 (by decide)).1]; exact hM.1.2.1, by simp [zw_s]⟩, hM.2⟩
    · refine zx_iload_n dX11_mossNow_10 rfl ?_
      refine zx_iconst (v := zn_I (-1)) dX11_mossNow_11 rfl ?_
      refine zy_icmp_ne (tgt := 39) dX11_mossNow_12 (by decide) (by omega) (fun h_12 => ?_) (fun h_12 => ?_)
      · refine zx_aload_n dX11_mossNow_39 rfl ?_
        refine zx_iconst (v := zn_I 0) dX11_mossNow_40 rfl ?_
        refine zx_puti dX11_mossNow_41 fX11_135 ?_
        refine zx_iload_n dX11_mossNow_44 rfl ?_
        refine zx_iret (st := []) dX11_mossNow_45 rfl rfl ?_
        rw [← zs_yr_keep h_12 100 (by omega)]
        exact ⟨rfl, mf_f hf (by decide), ⟨by simp only [zw_s]; simp; rw [(hf.2 19 (by decide)).1]; exact hM.1.1, by simp only [zw_s]; simp; rw [(hf.2 20 (by decide)).1]; exact hM.1.2.1, by simp [zw_s]⟩, hM.2⟩
      · refine zx_aload_n dX11_mossNow_15 rfl ?_
        refine zx_iload_n dX11_mossNow_16 rfl ?_
        refine zx_puti dX11_mossNow_17 fX11_135 ?_
        have hf2 : mfr [] [21] M (zw_s M1 33 21 (zn_I (y : Int))) := mf_f hf (by decide)
        have hM2 : mM (zw_s M1 33 21 (zn_I (y : Int))) 0 0 (y : Int) := ⟨⟨by rw [(hf2.2 19 (by decide)).1]; exact hM.1.1, by rw [(hf2.2 20 (by decide)).1]; exact hM.1.2.1, by simp [zw_s]⟩, hM.2.1, hM.2.2.1, by omega⟩
        have hwy := mdry_moss hp hI.2.2.2.2.2 hT hst (y := y) (by omega)
        refine zx_aload_n dX11_mossNow_20 rfl ?_
        refine zx_callV (y1 := iX11_isDry) dX11_mossNow_21 lX11_190 vX11_isDry rc_33 (mX11_isDry (mo := (y : Int)) (mI_f hf2 hI (by decide)) (mT_f hf2 hT (by decide)) hM2) rfl rfl (Nat.le_of_ble_eq_true rfl) ?_
        refine zk_i ?_
        refine zy_ifB_eq (tgt := 31) dX11_mossNow_24 (by decide) (fun h_24 => ?_) (fun h_24 => ?_)
        · refine zx_iload_n dX11_mossNow_31 rfl ?_
          refine zx_istore_n dX11_mossNow_32 rfl (Nat.le_of_ble_eq_true rfl) ?_
          refine zy_iinc dX11_mossNow_33 rfl rfl ?_
          refine zx_goto (tgt := 4) dX11_mossNow_36 (by decide) ?_
          have e9 : zs_yr (zs_wy π τ) (y + 1) = (y : Int) := by rw [zs_yr, if_neg (by omega), if_pos (hwy.mpr h_24)]
          have h9 := ih (by omega) _ hf2
          rw [e9] at h9
          exact h9
        · refine zx_iconst (v := zn_I (-1)) dX11_mossNow_27 rfl ?_
          refine zx_goto (tgt := 32) dX11_mossNow_28 (by decide) ?_
          refine zx_istore_n dX11_mossNow_32 rfl (Nat.le_of_ble_eq_true rfl) ?_
          refine zy_iinc dX11_mossNow_33 rfl rfl ?_
          refine zx_goto (tgt := 4) dX11_mossNow_36 (by decide) ?_
          have e9 : zs_yr (zs_wy π τ) (y + 1) = -1 := by rw [zs_yr, if_neg (by omega), if_neg (fun r => hwy.mp r h_24)]
          have h9 := ih (by omega) _ hf2
          rw [e9] at h9
          exact h9
  refine zx_iconst (v := zn_I (-1)) dX11_mossNow_0 rfl ?_
  refine zx_istore_n dX11_mossNow_1 rfl (Nat.le_of_ble_eq_true rfl) ?_
  refine zx_iconst (v := zn_I 0) dX11_mossNow_2 rfl ?_
  refine zx_istore_n dX11_mossNow_3 rfl (Nat.le_of_ble_eq_true rfl) ?_
  exact loop 0 (Nat.zero_le _) M mf_rf
set_option maxRecDepth 100000 in
set_option maxHeartbeats 600000 in
theorem mX11_moss {l : Launch} {d : Nat} {M : zw_M} {σ : zZ} (hJ : zJ_ M σ) (hok : zok σ) : zw_C l (d + 5) iX11_moss [.ref 33] M (mO (zn_I (zk_moss σ)) σ M) := by
  obtain ⟨hI, hT, hG, ⟨ha, hb, hc⟩, hM, hK⟩ := id hJ
  have hp := hI.1
  have h30 := zp_30 hp
  have h8 := hT.1
  have hr2 : M.1 33 2 = zn_I (zp_n σ.1) := hI.2.2.2.1
  have ht5 : M.1 33 5 = zn_I σ.2.1.1 := hT.2.1
  refine zw_of (by decide +kernel) (Nat.le_of_ble_eq_true rfl) ?_
  refine zy_loc (L1 := [.ref 33]) rfl ?_
  refine zx_aload_n dX11_moss_0 rfl ?_
  refine zy_geti dX11_moss_1 fX11_92 (hr2) ?_
  refine zy_if_ne (tgt := 12) dX11_moss_4 (by decide) (by omega) (fun h_4 => ?_) (fun h_4 => ?_)
  · refine zx_aload_n dX11_moss_12 rfl ?_
    refine zx_callV (y1 := iX11_mossNow) dX11_moss_13 lX11_244 vX11_mossNow rc_33 (mX11_mossNow hI hT hM (mst_ok hok)) rfl rfl (Nat.le_of_ble_eq_true rfl) ?_
    intro v M1 he
    obtain ⟨rfl, hf, hM1⟩ := he
    refine zx_iret (st := []) dX11_moss_16 rfl rfl ?_
    refine mO_f (mf_mono hf (by decide)) ⟨mI_f hf hI (by decide), mT_f hf hT (by decide), mG_f hf hG (by decide), ⟨by rw [(hf.2 3 (by decide)).1]; exact ha, by rw [(hf.2 9 (by decide)).1]; exact hb, by rw [(hf.2 10 (by decide)).1]; exact hc⟩, hM1, mK_f hf hK (by decide)⟩ (by simp only [zk_moss, Int.toNat_natCast]; (repeat' split) <;> first | rfl | omega)
  · refine zx_bipush (v := zn_I (-103)) dX11_moss_7 (by decide) ?_
    refine zx_goto (tgt := 16) dX11_moss_9 (by decide) ?_
    refine zx_iret (st := []) dX11_moss_16 rfl rfl ?_
    exact mO_i hJ (by simp only [zk_moss, Int.toNat_natCast]; (repeat' split) <;> first | rfl | omega)
