/-! STONES: the answers; MOSS -/
/-- the fewest that helps, and which -/
def zs_res (π : zP) (τ : zQ) : Option (Nat × List (Nat × Nat)) :=
  match zs_mv π τ (zl_E π τ) (zl_S π τ) 0 0 0 0 with
  | some l => some (0, l)
  | none => match zs_mv π τ (zl_E π τ) (zl_S π τ) 1 0 0 0 with
    | some l => some (1, l)
    | none => match zs_mv π τ (zl_E π τ) (zl_S π τ) 2 0 0 0 with
      | some l => some (2, l)
      | none => none
def zs_fd (o : Option (Nat × List (Nat × Nat))) : Nat → Int32 := match o with
  | none => fun _ => zn_I (-1)
  | some (r, l) => upd (zs_put 0 l (fun _ => zn_I (-1))) 0 (zn_I (r : Int))
theorem zs_put_cong : ∀ (l : List (Nat × Nat)) (m : Nat) (f g : Nat → Int32), (∀ j, j < 5 → f j = g j) → ∀ j, j < 5 → zs_put m l f j = zs_put m l g j
  | [], m, f, g, h, j, hj => h j hj
  | (t, s) :: l, m, f, g, h, j, hj => by
    have ih := zs_put_cong l (m + 1) f g h j hj
    simp only [zs_put, upd]
    split
    · rfl
    · split
      · rfl
      · exact ih
theorem zs_room_rng {M : zw_M} {π : zP} {E S : Nat → Int} (hI : zI M π) (hd : ∀ q, q < 8 → (-1000000 ≤ E q ∧ E q ≤ 1000000) ∧ -1000000 ≤ S q ∧ S q ≤ 1000000) {s : Nat} (hs : s < zp_n π) : -10000500 ≤ zs_room π E S s ∧ zs_room π E S s ≤ 10000500 := by
  have h9 := hI.2.2.2.2.2.2.2.2 s hs
  have ht := zc_max_rng (f := fun q => zp_at π (fun s => zp_dip π s (E q) (S q)) (s : Int)) (B := 10000000) 7 (fun q hq => zp_at_rng (by decide) (fun s hs => zp_dip_rng (B := 1000000) hI.1 hs (hd q (by omega)).1 (hd q (by omega)).2) _)
  unfold zs_room zp_top
  split <;> omega
/-- the sums of the stones' places -/
def zs_se (π : zP) (τ : zQ) : Nat → Int
  | 0 => 0
  | t + 1 => zs_se π τ t + (if τ.2.1 t = 1 then zp_e π (τ.2.2.2 t 0) else 0)
def zs_ss (π : zP) (τ : zQ) : Nat → Int
  | 0 => 0
  | t + 1 => zs_ss π τ t + (if τ.2.1 t = 1 then zp_s π (τ.2.2.2 t 0) else 0)
theorem zs_se_rng {M : zw_M} {π : zP} {τ : zQ} (hp : π.1 ≤ 5 ∧ π.2.1 ≤ 6) (hT : zT M (zp_n π) τ) : ∀ t, t ≤ τ.1 → (-(5 * (t : Int)) ≤ zs_se π τ t ∧ zs_se π τ t ≤ 5 * (t : Int)) ∧ -(5 * (t : Int)) ≤ zs_ss π τ t ∧ zs_ss π τ t ≤ 5 * (t : Int)
  | 0, _ => by simp [zs_se, zs_ss]
  | t + 1, h => by
    have ih := zs_se_rng hp hT t (by omega)
    have ho := hT.2.2.2.2.2.2.2 t (by omega) 0 (by decide)
    have g2 := zp_e_rng hp ho
    have g3 := zp_s_rng hp ho
    rw [zs_se, zs_ss]
    split <;> omega
/-- the first year of which f says so; -1 -/
def zs_yr (f : Nat → Bool) : Nat → Int
  | 0 => -1
  | y + 1 => if zs_yr f y ≠ -1 then zs_yr f y else if f y = true then (y : Int) else -1
theorem zs_yr_stop {f : Nat → Bool} {y : Nat} (h : zs_yr f y = -1) (h2 : f y = true) : ∀ n, y < n → zs_yr f n = (y : Int)
  | 0, q => absurd q (Nat.not_lt_zero _)
  | n + 1, q => by
    rw [zs_yr]
    rcases Nat.lt_or_ge y n with r | r
    · rw [zs_yr_stop h h2 n r, if_pos (by omega)]
    · have : n = y := by omega
      subst this
      rw [if_neg (by omega), if_pos h2]
def zs_wy (π : zP) (τ : zQ) (y : Nat) : Bool := !zs_dry π (zl_E π τ) (zl_S π τ) ((y : Int) * zs_se π τ τ.1) ((y : Int) * zs_ss π τ τ.1) (zp_n π)
theorem zy_mul_rng {y e : Int} (h : 0 ≤ y ∧ y ≤ 99) (h2 : -40 ≤ e ∧ e ≤ 40) : -50000 ≤ y * e ∧ y * e ≤ 50000 := by
  have h3 : y * e ≤ y * 40 := Int.mul_le_mul_of_nonneg_left h2.2 h.1
  have h4 : y * (-40) ≤ y * e := Int.mul_le_mul_of_nonneg_left h2.1 h.1
  omega
set_option maxRecDepth 100000 in
set_option maxHeartbeats 600000 in
theorem mX7_measureRooms {l : Launch} {d : Nat} {M : zw_M} {π : zP} {E S : Nat → Int} (hI : zI M π) (hd : zd M E S) : zw_C l (d + 3) iX7_measureRooms [.ref 24] M (fun v M1 => v = none ∧ zw_fr [24, 26] M M1 ∧ M1.1 24 5 = zn_I 0 ∧ ∀ s, s < zp_n π → M1.1 26 s = zn_I (zs_room π E S s)) := by
  have hp := hI.1
  have h30 := zp_30 hp
  refine zw_of (by decide +kernel) (Nat.le_of_ble_eq_true rfl) ?_
  refine zy_loc (L1 := [.ref 24, .retAddr 0, .retAddr 0]) rfl ?_
  have loop : ∀ s : Nat, s ≤ 30 → ∀ (M1 : zw_M) (v2 : Value), zw_fr [24, 26] M M1 → M1.1 24 5 = zn_I 0 → (∀ i, i < s → i < zp_n π → M1.1 26 i = zn_I (zs_room π E S i)) → zw_X l (d + 3) iX7_measureRooms (fun v M1 => v = none ∧ zw_fr [24, 26] M M1 ∧ M1.1 24 5 = zn_I 0 ∧ ∀ s, s < zp_n π → M1.1 26 s = zn_I (zs_room π E S s)) 7 [.ref 24, .int (zn_I (s : Int)), v2] [] M1 := by
    refine zw_loop 30 (P := fun s => ∀ (M1 : zw_M) (v2 : Value), zw_fr [24, 26] M M1 → M1.1 24 5 = zn_I 0 → (∀ i, i < s → i < zp_n π → M1.1 26 i = zn_I (zs_room π E S i)) → zw_X l (d + 3) iX7_measureRooms (fun v M1 => v = none ∧ zw_fr [24, 26] M M1 ∧ M1.1 24 5 = zn_I 0 ∧ ∀ s, s < zp_n π → M1.1 26 s = zn_I (zs_room π E S s)) 7 [.ref 24, .int (zn_I (s : Int)), v2] [] M1) (fun s hs ih M1 v2 hf h5 hr => ?_)
    have hI1 := zI_f hf hI (by decide)
    have hd1 := zd_f hf hd (by decide)
    have hhr := zp_at_rng (π := π) (f := π.2.2) (B := 9) (by decide) (fun s hs => by have := hI.2.2.2.2.2.2.2.2 s hs; omega) (s : Int)
    refine zx_iload_n dX7_measureRooms_7 rfl ?_
    refine zx_bipush (v := zn_I 30) dX7_measureRooms_8 (by decide) ?_
    refine zy_icmp_ge (tgt := 56) dX7_measureRooms_10 (by decide) (by omega) (fun h_10 => ?_) (fun h_10 => ?_)
    · refine zx_vret (st := []) dX7_measureRooms_56 rfl ?_
      exact ⟨rfl, hf, h5, fun i hi => hr i (by omega) hi⟩
    · refine zx_aload_n dX7_measureRooms_13 rfl ?_
      refine zx_getr dX7_measureRooms_14 fX7_18 ?_
      refine zx_iload_n dX7_measureRooms_17 rfl ?_
      refine zx_callV (y1 := iX1_height) dX7_measureRooms_18 lX7_85 vX1_height rc_4 (mX1_height hI1 (z := (s : Int)) (by omega)) rfl rfl (Nat.le_of_ble_eq_true rfl) ?_
      refine zk_i ?_
      refine zx_istore_n dX7_measureRooms_21 rfl (Nat.le_of_ble_eq_true rfl) ?_
      refine zx_aload_n dX7_measureRooms_22 rfl ?_
      refine zx_getr dX7_measureRooms_23 fX7_15 ?_
      refine zx_iload_n dX7_measureRooms_26 rfl ?_
      refine zx_iload_n dX7_measureRooms_27 rfl ?_
      refine zy_if_ne (tgt := 36) dX7_measureRooms_28 (by decide) (by omega) (fun h_28 => ?_) (fun h_28 => ?_)
      · refine zx_bipush (v := zn_I 50) dX7_measureRooms_36 (by decide) ?_
        refine zx_iload_n dX7_measureRooms_38 rfl ?_
        refine zy_imul dX7_measureRooms_39 ?_
        refine zx_aload_n dX7_measureRooms_40 rfl ?_
        refine zx_getr dX7_measureRooms_41 fX7_26 ?_
        refine zx_iload_n dX7_measureRooms_44 rfl ?_
        refine zx_callV (y1 := iX0_greatestDip) dX7_measureRooms_45 lX7_89 vX0_greatestDip rc_13 (mX0_greatestDip hI1 hd1 (z := (s : Int)) (by omega)) rfl rfl (Nat.le_of_ble_eq_true rfl) ?_
        refine zk_i ?_
        refine zy_isub dX7_measureRooms_48 ?_
        refine zy_iast dX7_measureRooms_49 rfl (by decide) rfl (by omega) ?_
        refine zy_iinc dX7_measureRooms_50 rfl rfl ?_
        refine zx_goto (tgt := 7) dX7_measureRooms_53 (by decide) ?_
        refine ih (by omega) _ _ (zf_s hf (by decide)) (by simp [zw_s, h5]) (fun i hi hin => ?_)
        by_cases e : i = s
        · subst e
          have hat : zp_at π π.2.2 (i : Int) = π.2.2 i := zp_at_in hin
          rw [hat] at h_28
          simp [zw_s, zs_room, h_28, hat]
        · have := hr i (by omega) hin
          simp [zw_s, e, this]
      · refine zx_ldc dX7_measureRooms_31 kX7_88 ?_
        refine zy_top (show (1000000 : Int32) = zn_I 1000000 from by decide) ?_
        refine zx_goto (tgt := 49) dX7_measureRooms_33 (by decide) ?_
        refine zy_iast dX7_measureRooms_49 rfl (by decide) rfl (by omega) ?_
        refine zy_iinc dX7_measureRooms_50 rfl rfl ?_
        refine zx_goto (tgt := 7) dX7_measureRooms_53 (by decide) ?_
        refine ih (by omega) _ _ (zf_s hf (by decide)) (by simp [zw_s, h5]) (fun i hi hin => ?_)
        by_cases e : i = s
        · subst e
          have hat : zp_at π π.2.2 (i : Int) = π.2.2 i := zp_at_in hin
          rw [hat] at h_28
          simp [zw_s, zs_room, h_28]
        · have := hr i (by omega) hin
          simp [zw_s, e, this]
  refine zx_aload_n dX7_measureRooms_0 rfl ?_
  refine zx_iconst (v := zn_I 0) dX7_measureRooms_1 rfl ?_
  refine zx_puti dX7_measureRooms_2 fX7_81 ?_
  refine zx_iconst (v := zn_I 0) dX7_measureRooms_5 rfl ?_
  refine zx_istore_n dX7_measureRooms_6 rfl (Nat.le_of_ble_eq_true rfl) ?_
  exact loop 0 (by omega) _ _ (zf_s zf_rf (by decide)) (by simp [zw_s]) (fun i hi => absurd hi (by omega))
set_option maxRecDepth 100000 in
set_option maxHeartbeats 600000 in
theorem mX7_search {l : Launch} {d : Nat} {M : zw_M} {π : zP} {τ : zQ} (hI : zI M π) (hT : zT M (zp_n π) τ) : zw_C l (d + 9) iX7_search [.ref 24] M (fun v M1 => v = none ∧ zw_fr [14, 15, 24, 25, 26] M M1 ∧ ∀ j, j < 5 → M1.1 25 j = zs_fd (zs_res π τ) j) := by
  have hp := hI.1
  have h30 := zp_30 hp
  have loop2 : ∀ r : Nat, r ≤ 3 → ∀ M1 : zw_M, zw_fr [14, 15, 24, 25, 26] M M1 → zHS M1 π τ (zl_E π τ) (zl_S π τ) → (∀ j, j < 5 → M1.1 25 j = zn_I (-1)) → (∀ i, i < r → zs_mv π τ (zl_E π τ) (zl_S π τ) i 0 0 0 = none) → zw_X l (d + 9) iX7_search (fun v M1 => v = none ∧ zw_fr [14, 15, 24, 25, 26] M M1 ∧ ∀ j, j < 5 → M1.1 25 j = zs_fd (zs_res π τ) j) 33 [.ref 24, .int (zn_I (r : Int))] [] M1 := by
    refine zw_loop 3 (P := fun r => ∀ M1 : zw_M, zw_fr [14, 15, 24, 25, 26] M M1 → zHS M1 π τ (zl_E π τ) (zl_S π τ) → (∀ j, j < 5 → M1.1 25 j = zn_I (-1)) → (∀ i, i < r → zs_mv π τ (zl_E π τ) (zl_S π τ) i 0 0 0 = none) → zw_X l (d + 9) iX7_search (fun v M1 => v = none ∧ zw_fr [14, 15, 24, 25, 26] M M1 ∧ ∀ j, j < 5 → M1.1 25 j = zs_fd (zs_res π τ) j) 33 [.ref 24, .int (zn_I (r : Int))] [] M1) (fun r hr ih M1 hf hH hj hno => ?_)
    refine zx_iload_n dX7_search_33 rfl ?_
    refine zx_iconst (v := zn_I 2) dX7_search_34 rfl ?_
    refine zy_icmp_gt (tgt := 64) dX7_search_35 (by decide) (by omega) (fun h_35 => ?_) (fun h_35 => ?_)
    · refine zx_vret (st := []) dX7_search_64 rfl ?_
      have hres : zs_res π τ = none := by
        unfold zs_res
        rw [hno 0 (by omega), hno 1 (by omega), hno 2 (by omega)]
      rw [hres]
      exact ⟨rfl, hf, hj⟩
    · have hmv := mX7_moves (l := l) (d := d + (2 - r) + (2 - r)) (E := zl_E π τ) (S := zl_S π τ) r 0 0 0 0 M1 (by omega) (by omega) (by omega) (by omega) hH
      rw [show d + (2 - r) + (2 - r) + 2 * r + 4 = d + 8 by omega, show 0 + r = r by omega] at hmv
      refine zx_aload_n dX7_search_38 rfl ?_
      refine zx_iload_n dX7_search_39 rfl ?_
      refine zx_iconst (v := zn_I 0) dX7_search_40 rfl ?_
      refine zx_iconst (v := zn_I 0) dX7_search_41 rfl ?_
      refine zx_iconst (v := zn_I 0) dX7_search_42 rfl ?_
      refine zx_iconst (v := zn_I 0) dX7_search_43 rfl ?_
      refine zx_callV (y1 := iX7_movesKeepDry) dX7_search_44 lX7_38 vX7_movesKeepDry rc_24 (hmv) rfl rfl (Nat.le_of_ble_eq_true rfl) ?_
      intro v M2 he
      obtain ⟨rfl, hf2, h25, hl2⟩ := he
      refine zy_ifB_eq (tgt := 58) dX7_search_47 (by decide) (fun h_47 => ?_) (fun h_47 => ?_)
      · refine zy_iinc dX7_search_58 rfl rfl ?_
        refine zx_goto (tgt := 33) dX7_search_61 (by decide) ?_
        have hn : zs_mv π τ (zl_E π τ) (zl_S π τ) r 0 0 0 = none := by
          cases e : zs_mv π τ (zl_E π τ) (zl_S π τ) r 0 0 0 with
          | none => rfl
          | some _ => exact absurd (by rw [e]; rfl) h_47
        refine ih (by omega) M2 (zf_tr hf (zf_mono hf2 (by decide))) (zHS_f hf2 hl2 hH) (fun j hj5 => ?_) (fun i hi => ?_)
        · rw [h25, hn]; exact hj j hj5
        · rcases Nat.lt_or_ge i r with q | q
          · exact hno i q
          · rw [show i = r by omega]; exact hn
      · refine zx_aload_n dX7_search_50 rfl ?_
        refine zx_getr dX7_search_51 fX7_11 ?_
        refine zx_iconst (v := zn_I 0) dX7_search_54 rfl ?_
        refine zx_iload_n dX7_search_55 rfl ?_
        refine zy_iast (i := 0) dX7_search_56 rfl (by decide) (by omega) (by omega) ?_
        refine zx_vret (st := []) dX7_search_57 rfl ?_
        obtain ⟨ls, hls⟩ := Option.isSome_iff_exists.mp h_47
        have hres : zs_res π τ = some (r, ls) := by
          unfold zs_res
          rcases (show r = 0 ∨ r = 1 ∨ r = 2 by omega) with q | q | q
          · subst q; rw [hls]
          · subst q; rw [hno 0 (by omega), hls]
          · subst q; rw [hno 0 (by omega), hno 1 (by omega), hls]
        refine ⟨rfl, zf_s (zf_tr hf (zf_mono hf2 (by decide))) (by decide), fun j hj5 => ?_⟩
        rw [hres, zw_s_row, h25, hls]
        show upd (zs_put 0 ls (M1.1 25)) 0 (zn_I (r : Int)) j = upd (zs_put 0 ls (fun _ => zn_I (-1))) 0 (zn_I (r : Int)) j
        simp only [upd]
        split
        · rfl
        · exact zs_put_cong ls 0 _ _ hj j hj5
  have loop1 : ∀ s : Nat, s ≤ 5 → ∀ M1 : zw_M, zw_fr [14, 15, 24, 25, 26] M M1 → zHS M1 π τ (zl_E π τ) (zl_S π τ) → (∀ j, j < s → M1.1 25 j = zn_I (-1)) → zw_X l (d + 9) iX7_search (fun v M1 => v = none ∧ zw_fr [14, 15, 24, 25, 26] M M1 ∧ ∀ j, j < 5 → M1.1 25 j = zs_fd (zs_res π τ) j) 13 [.ref 24, .int (zn_I (s : Int))] [] M1 := by
    refine zw_loop 5 (P := fun s => ∀ M1 : zw_M, zw_fr [14, 15, 24, 25, 26] M M1 → zHS M1 π τ (zl_E π τ) (zl_S π τ) → (∀ j, j < s → M1.1 25 j = zn_I (-1)) → zw_X l (d + 9) iX7_search (fun v M1 => v = none ∧ zw_fr [14, 15, 24, 25, 26] M M1 ∧ ∀ j, j < 5 → M1.1 25 j = zs_fd (zs_res π τ) j) 13 [.ref 24, .int (zn_I (s : Int))] [] M1) (fun s hs ih M1 hf hH hj => ?_)
    refine zx_iload_n dX7_search_13 rfl ?_
    refine zx_iconst (v := zn_I 5) dX7_search_14 rfl ?_
    refine zy_icmp_ge (tgt := 31) dX7_search_15 (by decide) (by omega) (fun h_15 => ?_) (fun h_15 => ?_)
    · refine zx_iconst (v := zn_I 0) dX7_search_31 rfl ?_
      refine zx_istore_n dX7_search_32 rfl (Nat.le_of_ble_eq_true rfl) ?_
      exact loop2 0 (by omega) M1 hf hH (fun j hj5 => hj j (by omega)) (fun i hi => absurd hi (by omega))
    · refine zx_aload_n dX7_search_18 rfl ?_
      refine zx_getr dX7_search_19 fX7_11 ?_
      refine zx_iload_n dX7_search_22 rfl ?_
      refine zx_iconst (v := zn_I (-1)) dX7_search_23 rfl ?_
      refine zy_iast dX7_search_24 rfl (by decide) rfl (by omega) ?_
      refine zy_iinc dX7_search_25 rfl rfl ?_
      refine zx_goto (tgt := 13) dX7_search_28 (by decide) ?_
      refine ih (by omega) _ (zf_s hf (by decide)) (zHS_f (zf_s zf_rf (by decide)) (by obtain ⟨lw, q1, q2⟩ := hH.2.2.1; exact ⟨lw, q1, by simp [zw_s, q2]⟩) hH) (fun j hjs => ?_)
      by_cases e : j = s
      · subst e; simp [zw_s]
      · have := hj j (by omega); simp [zw_s, e, this]
  refine zw_of (by decide +kernel) (Nat.le_of_ble_eq_true rfl) ?_
  refine zy_loc (L1 := [.ref 24, .retAddr 0]) rfl ?_
  refine zx_aload_n dX7_search_0 rfl ?_
  refine zx_getr dX7_search_1 fX7_26 ?_
  refine zx_callV (y1 := iX0_weigh) dX7_search_4 lX7_30 vX0_weigh rc_13 (mX0_weigh hI hT) rfl rfl (Nat.le_of_ble_eq_true rfl) ?_
  intro v M0 hw1
  obtain ⟨rfl, hf0, hd0⟩ := hw1
  have hI0 := zI_f hf0 hI (by decide)
  refine zx_aload_n dX7_search_7 rfl ?_
  refine zx_callV (y1 := iX7_measureRooms) dX7_search_8 lX7_35 vX7_measureRooms rc_24 (mX7_measureRooms hI0 hd0) rfl rfl (Nat.le_of_ble_eq_true rfl) ?_
  intro v M1 hw2
  obtain ⟨rfl, hf1, h5, hrm⟩ := hw2
  have hf01 : zw_fr [14, 15, 24, 25, 26] M M1 := zf_tr (zf_mono hf0 (by decide)) (zf_mono hf1 (by decide))
  have hH1 : zHS M1 π τ (zl_E π τ) (zl_S π τ) := ⟨zI_f hf01 hI (by decide), zT_f hf01 hT (by decide), ⟨0, by decide, h5⟩, fun s hs => ⟨hrm s hs, by
    have hlr := fun q hq => zl_rng hp hT (q := q) hq
    have h9 := hI.2.2.2.2.2.2.2.2 s hs
    have ht := zc_max_rng (f := fun q => zp_at π (fun s => zp_dip π s (zl_E π τ q) (zl_S π τ q)) (s : Int)) (B := 80000) 7 (fun q hq => zp_at_rng (by decide) (fun s hs => zp_dip_rng (B := 8000) hp hs (hlr q (by omega)).1 (hlr q (by omega)).2) _)
    unfold zs_room zp_top
    split <;> omega⟩⟩
  refine zx_iconst (v := zn_I 0) dX7_search_11 rfl ?_
  refine zx_istore_n dX7_search_12 rfl (Nat.le_of_ble_eq_true rfl) ?_
  exact loop1 0 (by omega) M1 hf01 hH1 (fun j hj => absurd hj (by omega))
set_option maxRecDepth 100000 in
set_option maxHeartbeats 600000 in
theorem mX7_wetYear {l : Launch} {d : Nat} {M : zw_M} {π : zP} {τ : zQ} (hI : zI M π) (hT : zT M (zp_n π) τ) : zw_C l (d + 9) iX7_wetYear [.ref 24] M (fun v M1 => v = some (.int (zn_I (zs_yr (zs_wy π τ) 100))) ∧ zw_fr [14, 15, 24, 25, 26] M M1) := by
  have hp := hI.1
  have h30 := zp_30 hp
  have hsr := zs_se_rng hp hT τ.1 (Nat.le_refl _)
  have h8 := hT.1
  have loop2 : ∀ y : Nat, y ≤ 100 → ∀ M1 : zw_M, zw_fr [14, 15, 24, 25, 26] M M1 → zHS M1 π τ (zl_E π τ) (zl_S π τ) → zs_yr (zs_wy π τ) y = -1 → zw_X l (d + 9) iX7_wetYear (fun v M1 => v = some (.int (zn_I (zs_yr (zs_wy π τ) 100))) ∧ zw_fr [14, 15, 24, 25, 26] M M1) 86 [.ref 24, .int (zn_I (zs_se π τ τ.1)), .int (zn_I (zs_ss π τ τ.1)), .int (zn_I (y : Int))] [] M1 := by
    refine zw_loop 100 (P := fun y => ∀ M1 : zw_M, zw_fr [14, 15, 24, 25, 26] M M1 → zHS M1 π τ (zl_E π τ) (zl_S π τ) → zs_yr (zs_wy π τ) y = -1 → zw_X l (d + 9) iX7_wetYear (fun v M1 => v = some (.int (zn_I (zs_yr (zs_wy π τ) 100))) ∧ zw_fr [14, 15, 24, 25, 26] M M1) 86 [.ref 24, .int (zn_I (zs_se π τ τ.1)), .int (zn_I (zs_ss π τ τ.1)), .int (zn_I (y : Int))] [] M1) (fun y hy ih M1 hf hH hno => ?_)
    refine zx_iload_n dX7_wetYear_86 rfl ?_
    refine zx_bipush (v := zn_I 99) dX7_wetYear_87 (by decide) ?_
    refine zy_icmp_gt (tgt := 113) dX7_wetYear_89 (by decide) (by omega) (fun h_89 => ?_) (fun h_89 => ?_)
    · refine zx_iconst (v := zn_I (-1)) dX7_wetYear_113 rfl ?_
      refine zx_iret (st := []) dX7_wetYear_114 rfl rfl ?_
      exact ⟨by rw [show 100 = y by omega, hno], hf⟩
    · refine zx_aload_n dX7_wetYear_92 rfl ?_
      refine zx_iload_n dX7_wetYear_93 rfl ?_
      refine zx_iload_n dX7_wetYear_94 rfl ?_
      refine zy_imul dX7_wetYear_95 ?_
      refine zx_iload_n dX7_wetYear_96 rfl ?_
      refine zx_iload_n dX7_wetYear_97 rfl ?_
      refine zy_imul dX7_wetYear_98 ?_
      refine zx_callV (y1 := iX7_isDryWith) dX7_wetYear_99 lX7_42 vX7_isDryWith rc_24 (mX7_isDryWith hH (a := (y : Int) * zs_se π τ τ.1) (b := (y : Int) * zs_ss π τ τ.1) (zy_mul_rng (by omega) (by omega)) (zy_mul_rng (by omega) (by omega))) rfl rfl (Nat.le_of_ble_eq_true rfl) ?_
      intro v M2 he
      obtain ⟨rfl, hf2, h25, hl2⟩ := he
      refine zy_ifB_ne (tgt := 107) dX7_wetYear_102 (by decide) (fun h_102 => ?_) (fun h_102 => ?_)
      · refine zy_iinc dX7_wetYear_107 rfl rfl ?_
        refine zx_goto (tgt := 86) dX7_wetYear_110 (by decide) ?_
        refine ih (by omega) M2 (zf_tr hf (zf_mono hf2 (by decide))) (zHS_f hf2 hl2 hH) ?_
        rw [zs_yr, if_neg (by omega), if_neg (by unfold zs_wy; rw [h_102]; simp)]
      · refine zx_iload_n dX7_wetYear_105 rfl ?_
        refine zx_iret (st := []) dX7_wetYear_106 rfl rfl ?_
        exact ⟨by rw [zs_yr_stop hno (by unfold zs_wy; simpa using h_102) 100 (by omega)], zf_tr hf (zf_mono hf2 (by decide))⟩
  have loop1 : ∀ t : Nat, t ≤ τ.1 → ∀ M1 : zw_M, zw_fr [14, 15, 24, 25, 26] M M1 → zHS M1 π τ (zl_E π τ) (zl_S π τ) → zw_X l (d + 9) iX7_wetYear (fun v M1 => v = some (.int (zn_I (zs_yr (zs_wy π τ) 100))) ∧ zw_fr [14, 15, 24, 25, 26] M M1) 17 [.ref 24, .int (zn_I (zs_se π τ t)), .int (zn_I (zs_ss π τ t)), .int (zn_I (t : Int))] [] M1 := by
    refine zw_loop τ.1 (P := fun t => ∀ M1 : zw_M, zw_fr [14, 15, 24, 25, 26] M M1 → zHS M1 π τ (zl_E π τ) (zl_S π τ) → zw_X l (d + 9) iX7_wetYear (fun v M1 => v = some (.int (zn_I (zs_yr (zs_wy π τ) 100))) ∧ zw_fr [14, 15, 24, 25, 26] M M1) 17 [.ref 24, .int (zn_I (zs_se π τ t)), .int (zn_I (zs_ss π τ t)), .int (zn_I (t : Int))] [] M1) (fun t ht ih M1 hf hH => ?_)
    refine zx_iload_n dX7_wetYear_17 rfl ?_
    refine zx_aload_n dX7_wetYear_18 rfl ?_
    refine zx_getr dX7_wetYear_19 fX7_22 ?_
    refine zx_callV (y1 := iX8_size) dX7_wetYear_22 lX7_46 vX8_size rc_8 (mX8_size hH.2.1) rfl rfl (Nat.le_of_ble_eq_true rfl) ?_
    refine zk_i ?_
    refine zy_icmp_ge (tgt := 84) dX7_wetYear_25 (by decide) (by omega) (fun h_25 => ?_) (fun h_25 => ?_)
    · refine zx_iconst (v := zn_I 0) dX7_wetYear_84 rfl ?_
      refine zx_istore_n dX7_wetYear_85 rfl (Nat.le_of_ble_eq_true rfl) ?_
      rw [show t = τ.1 by omega]
      exact loop2 0 (by omega) M1 hf hH rfl
    · refine zx_aload_n dX7_wetYear_28 rfl ?_
      refine zx_getr dX7_wetYear_29 fX7_22 ?_
      refine zx_iload_n dX7_wetYear_32 rfl ?_
      refine zx_iconst (v := zn_I 1) dX7_wetYear_33 rfl ?_
      refine zx_callV (y1 := iX8_isA) dX7_wetYear_34 lX7_52 vX8_isA rc_8 (mX8_isA hH.2.1 (z := (t : Int)) (a := 1) ⟨by omega, by omega⟩ ⟨by omega, by omega⟩) rfl rfl (Nat.le_of_ble_eq_true rfl) ?_
      refine zk_i ?_
      have hkt := zt_kind_in (τ := τ) (show t < τ.1 by omega)
      refine zy_ifB_eq (tgt := 78) dX7_wetYear_37 (by decide) (fun h_37 => ?_) (fun h_37 => ?_)
      · refine zy_iinc dX7_wetYear_78 rfl rfl ?_
        refine zx_goto (tgt := 17) dX7_wetYear_81 (by decide) ?_
        have h9 := ih (by omega) M1 hf hH
        rw [zs_se, zs_ss, if_neg (fun q => h_37 (Or.inl (hkt.trans q))), if_neg (fun q => h_37 (Or.inl (hkt.trans q))), Int.add_zero, Int.add_zero] at h9
        exact h9
      · refine zx_iload_n dX7_wetYear_40 rfl ?_
        refine zx_aload_n dX7_wetYear_41 rfl ?_
        refine zx_getr dX7_wetYear_42 fX7_18 ?_
        refine zx_aload_n dX7_wetYear_45 rfl ?_
        refine zx_getr dX7_wetYear_46 fX7_22 ?_
        refine zx_iload_n dX7_wetYear_49 rfl ?_
        refine zx_iconst (v := zn_I 0) dX7_wetYear_50 rfl ?_
        refine zx_callV (y1 := iX8_place) dX7_wetYear_51 lX7_58 vX8_place rc_8 (mX8_place_in hH.2.1 (t := t) (q := 0) (by omega) (by decide)) rfl rfl (Nat.le_of_ble_eq_true rfl) ?_
        refine zk_i ?_
        refine zx_callV (y1 := iX1_east) dX7_wetYear_54 lX7_66 vX1_east rc_4 (mX1_east_in hH.1 (hT.2.2.2.2.2.2.2 t (by omega) 0 (by decide))) rfl rfl (Nat.le_of_ble_eq_true rfl) ?_
        refine zk_i ?_
        refine zy_iadd dX7_wetYear_57 ?_
        refine zx_istore_n dX7_wetYear_58 rfl (Nat.le_of_ble_eq_true rfl) ?_
        refine zx_iload_n dX7_wetYear_59 rfl ?_
        refine zx_aload_n dX7_wetYear_60 rfl ?_
        refine zx_getr dX7_wetYear_61 fX7_18 ?_
        refine zx_aload_n dX7_wetYear_64 rfl ?_
        refine zx_getr dX7_wetYear_65 fX7_22 ?_
        refine zx_iload_n dX7_wetYear_68 rfl ?_
        refine zx_iconst (v := zn_I 0) dX7_wetYear_69 rfl ?_
        refine zx_callV (y1 := iX8_place) dX7_wetYear_70 lX7_58 vX8_place rc_8 (mX8_place_in hH.2.1 (t := t) (q := 0) (by omega) (by decide)) rfl rfl (Nat.le_of_ble_eq_true rfl) ?_
        refine zk_i ?_
        refine zx_callV (y1 := iX1_south) dX7_wetYear_73 lX7_71 vX1_south rc_4 (mX1_south_in hH.1 (hT.2.2.2.2.2.2.2 t (by omega) 0 (by decide))) rfl rfl (Nat.le_of_ble_eq_true rfl) ?_
        refine zk_i ?_
        refine zy_iadd dX7_wetYear_76 ?_
        refine zx_istore_n dX7_wetYear_77 rfl (Nat.le_of_ble_eq_true rfl) ?_
        refine zy_iinc dX7_wetYear_78 rfl rfl ?_
        refine zx_goto (tgt := 17) dX7_wetYear_81 (by decide) ?_
        have h9 := ih (by omega) M1 hf hH
        rw [zs_se, zs_ss, if_pos (by omega), if_pos (by omega)] at h9
        exact h9
  refine zw_of (by decide +kernel) (Nat.le_of_ble_eq_true rfl) ?_
  refine zy_loc (L1 := [.ref 24, .retAddr 0, .retAddr 0, .retAddr 0]) rfl ?_
  refine zx_aload_n dX7_wetYear_0 rfl ?_
  refine zx_getr dX7_wetYear_1 fX7_26 ?_
  refine zx_callV (y1 := iX0_weigh) dX7_wetYear_4 lX7_30 vX0_weigh rc_13 (mX0_weigh hI hT) rfl rfl (Nat.le_of_ble_eq_true rfl) ?_
  intro v M0 hw1
  obtain ⟨rfl, hf0, hd0⟩ := hw1
  have hI0 := zI_f hf0 hI (by decide)
  refine zx_aload_n dX7_wetYear_7 rfl ?_
  refine zx_callV (y1 := iX7_measureRooms) dX7_wetYear_8 lX7_35 vX7_measureRooms rc_24 (mX7_measureRooms hI0 hd0) rfl rfl (Nat.le_of_ble_eq_true rfl) ?_
  intro v M1 hw2
  obtain ⟨rfl, hf1, h5, hrm⟩ := hw2
  have hf01 : zw_fr [14, 15, 24, 25, 26] M M1 := zf_tr (zf_mono hf0 (by decide)) (zf_mono hf1 (by decide))
  have hH1 : zHS M1 π τ (zl_E π τ) (zl_S π τ) := ⟨zI_f hf01 hI (by decide), zT_f hf01 hT (by decide), ⟨0, by decide, h5⟩, fun s hs => ⟨hrm s hs, by
    have hlr := fun q hq => zl_rng hp hT (q := q) hq
    have h9 := hI.2.2.2.2.2.2.2.2 s hs
    have ht := zc_max_rng (f := fun q => zp_at π (fun s => zp_dip π s (zl_E π τ q) (zl_S π τ q)) (s : Int)) (B := 80000) 7 (fun q hq => zp_at_rng (by decide) (fun s hs => zp_dip_rng (B := 8000) hp hs (hlr q (by omega)).1 (hlr q (by omega)).2) _)
    unfold zs_room zp_top
    split <;> omega⟩⟩
  refine zx_iconst (v := zn_I 0) dX7_wetYear_11 rfl ?_
  refine zx_istore_n dX7_wetYear_12 rfl (Nat.le_of_ble_eq_true rfl) ?_
  refine zx_iconst (v := zn_I 0) dX7_wetYear_13 rfl ?_
  refine zx_istore_n dX7_wetYear_14 rfl (Nat.le_of_ble_eq_true rfl) ?_
  refine zx_iconst (v := zn_I 0) dX7_wetYear_15 rfl ?_
  refine zx_istore_n dX7_wetYear_16 rfl (Nat.le_of_ble_eq_true rfl) ?_
  exact loop1 0 (by omega) M1 hf01 hH1
