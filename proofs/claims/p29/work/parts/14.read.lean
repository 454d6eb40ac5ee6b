/-! THE PLAN IS READ: its squares by its letters -/
theorem zq_all {ρ : zR} : ∀ {j : Nat}, (zq_go ρ j).1 = j → ∀ i, i ≤ j → (zq_go ρ i).1 = i
  | 0, h, i, hi => by
    have : i = 0 := by omega
    subst this
    exact h
  | j + 1, h, i, hi => by
    rcases Nat.lt_or_ge i (j + 1) with r | r
    · have hl := zq_go_le ρ j
      have hj : (zq_go ρ j).1 = j := by
        rw [zq_go] at h
        split at h
        · omega
        · split at h
          · omega
          · omega
      exact zq_all hj i (by omega)
    · have : i = j + 1 := by omega
      subst this
      exact h
theorem zq_step {ρ : zR} {i : Nat} (h : (zq_go ρ (i + 1)).1 = i + 1) : zq_take (zq_go ρ i).2 (ρ.2 i) = some (zq_go ρ (i + 1)).2 := by
  have hl := zq_go_le ρ i
  rw [zq_go] at h ⊢
  split at h
  · omega
  · next q =>
    rw [if_neg q]
    split at h
    · omega
    · next e => rw [e]
def zr_k (ρ : zR) : Nat → Nat
  | 0 => 0
  | i + 1 => if ρ.2 i = 47 then zr_k ρ i else zr_k ρ i + 1
def zr_g (c : Nat) : Int := if c = 46 then 0 else (c : Int) - 48
def zr_H (ρ : zR) : Nat → Nat → Int
  | 0 => fun _ => 0
  | i + 1 => if ρ.2 i = 47 then zr_H ρ i else fun s => if s = zr_k ρ i then zr_g (ρ.2 i) else zr_H ρ i s
theorem zr_H_keep {ρ : zR} {i s : Nat} (hs : s < zr_k ρ i) : ∀ j, i ≤ j → zr_H ρ j s = zr_H ρ i s ∧ zr_k ρ i ≤ zr_k ρ j
  | 0, h => by
    have : i = 0 := by omega
    subst this
    exact ⟨rfl, Nat.le_refl _⟩
  | j + 1, h => by
    rcases Nat.lt_or_ge i (j + 1) with r | r
    · have ih := zr_H_keep hs j (by omega)
      rw [zr_H, zr_k]
      by_cases q : ρ.2 j = 47
      · rw [if_pos q, if_pos q]; exact ih
      · rw [if_neg q, if_neg q]
        refine ⟨?_, by omega⟩
        rw [if_neg (by omega)]
        exact ih.1
    · have : i = j + 1 := by omega
      subst this
      exact ⟨rfl, Nat.le_refl _⟩
theorem zr_H_at {ρ : zR} {i : Nat} (h : ρ.2 i ≠ 47) {n : Nat} (hn : i < n) : zr_H ρ n (zr_k ρ i) = zr_g (ρ.2 i) := by
  have hk : zr_k ρ (i + 1) = zr_k ρ i + 1 := by rw [zr_k, if_neg h]
  rw [(zr_H_keep (i := i + 1) (s := zr_k ρ i) (by omega) n (by omega)).1, zr_H, if_neg h, if_pos rfl]
/-- what holds all along a whole text of wide w -/
theorem zq_back {ρ : zR} (hw : zq_whole ρ) : ∀ i, i ≤ ρ.1 → (2 ≤ (zq_go ρ i).2.1 → (zq_go ρ i).2.2.1 = (zq_go ρ ρ.1).2.2.1) ∧ ((zq_go ρ i).2.1 = 1 → (zq_go ρ i).2.2.2 ≤ (zq_go ρ ρ.1).2.2.1) := by
  refine zw_loop ρ.1 (fun i hi ih => ?_)
  rcases Nat.lt_or_ge i ρ.1 with r | r
  · have ih := ih r
    have e := zq_step (zq_all hw.1 (i + 1) (by omega))
    have hok := zq_go_ok ρ i
    unfold zq_ok at hok
    unfold zq_take at e
    split at e
    · split at e
      · have e2 := Option.some.inj e
        rw [← e2] at ih
        dsimp only at ih
        omega
      · cases e
    · split at e
      · have e2 := Option.some.inj e
        rw [← e2] at ih
        dsimp only at ih
        omega
      · cases e
  · have : i = ρ.1 := by omega
    subst this
    exact ⟨fun _ => rfl, fun q => by have := hw.2; omega⟩
/-- a letter of a whole text: a row's end, or a square -/
theorem zq_case {ρ : zR} (hw : zq_whole ρ) {i : Nat} (hi : i < ρ.1) :
    (ρ.2 i = 47 ∧ (zq_go ρ (i + 1)).2.1 = (zq_go ρ i).2.1 + 1 ∧ (zq_go ρ (i + 1)).2.2.2 = 0 ∧ (zq_go ρ i).2.2.2 = (zq_go ρ ρ.1).2.2.1) ∨
    ((ρ.2 i = 46 ∨ (49 ≤ ρ.2 i ∧ ρ.2 i ≤ 57)) ∧ (zq_go ρ (i + 1)).2.1 = (zq_go ρ i).2.1 ∧ (zq_go ρ (i + 1)).2.2.2 = (zq_go ρ i).2.2.2 + 1 ∧ (zq_go ρ i).2.2.2 < (zq_go ρ ρ.1).2.2.1) := by
  have e := zq_step (zq_all hw.1 (i + 1) (by omega))
  have hok := zq_go_ok ρ i
  have b0 := zq_back hw i (by omega)
  have b1 := zq_back hw (i + 1) (by omega)
  unfold zq_ok at hok
  unfold zq_take at e
  split at e
  · split at e
    · have e2 := Option.some.inj e
      rw [← e2] at b1 ⊢
      dsimp only at b1 ⊢
      left
      omega
    · cases e
  · split at e
    · have e2 := Option.some.inj e
      rw [← e2] at b1 ⊢
      dsimp only at b1 ⊢
      right
      omega
    · cases e
theorem zr_k_at {ρ : zR} (hw : zq_whole ρ) : ∀ i, i ≤ ρ.1 → zr_k ρ i = ((zq_go ρ i).2.1 - 1) * (zq_go ρ ρ.1).2.2.1 + (zq_go ρ i).2.2.2
  | 0, _ => by simp [zr_k, zq_go]
  | i + 1, h => by
    have ih := zr_k_at hw i (by omega)
    have hok := zq_go_ok ρ i
    unfold zq_ok at hok
    rw [zr_k]
    rcases zq_case hw (show i < ρ.1 by omega) with ⟨c1, c2, c3, c4⟩ | ⟨c1, c2, c3, c4⟩
    · rw [if_pos c1, c2, c3, ih, c4]
      obtain ⟨a, ha⟩ : ∃ a, (zq_go ρ i).2.1 = a + 1 := ⟨(zq_go ρ i).2.1 - 1, by omega⟩
      rw [ha, Nat.add_sub_cancel, Nat.add_sub_cancel, Nat.succ_mul]
      omega
    · rw [if_neg (by omega), c2, c3, ih]
      omega
theorem zr_g_rng {c : Nat} (h : c = 46 ∨ (49 ≤ c ∧ c ≤ 57)) : 0 ≤ zr_g c ∧ zr_g c ≤ 9 := by
  unfold zr_g
  split <;> omega
/-- the plan that a whole text tells -/
def zr_P (ρ : zR) : zP := ((zq_go ρ ρ.1).2.1, (zq_go ρ ρ.1).2.2.1, zr_H ρ ρ.1)
theorem zr_P_n {ρ : zR} (hw : zq_whole ρ) : zr_k ρ ρ.1 = zp_n (zr_P ρ) := by
  have h := zr_k_at hw ρ.1 (Nat.le_refl _)
  have hok := zq_go_ok ρ ρ.1
  unfold zq_ok at hok
  rw [h, hw.2.2]
  obtain ⟨a, ha⟩ : ∃ a, (zq_go ρ ρ.1).2.1 = a + 1 := ⟨(zq_go ρ ρ.1).2.1 - 1, by omega⟩
  unfold zp_n zr_P
  dsimp only
  rw [ha, Nat.add_sub_cancel, Nat.succ_mul]
/-- the island as far as it is read -/
def zIk (M : zw_M) (π : zP) (k : Nat) : Prop :=
  (π.1 ≤ 5 ∧ π.2.1 ≤ 6) ∧ M.1 4 3 = zn_I π.1 ∧ M.1 4 4 = zn_I π.2.1 ∧ M.1 4 5 = zn_I k ∧ M.1 4 6 = zn_I (zp_d π k) ∧ (∀ s, s < k → M.1 5 s = zn_I (π.2.2 s)) ∧ (∀ s, s < k → M.1 6 s = zn_I (zp_e π s)) ∧ (∀ s, s < k → M.1 7 s = zn_I (zp_s π s)) ∧ (∀ s, s < k → 0 ≤ π.2.2 s ∧ π.2.2 s ≤ 9)
theorem zp_d_le (π : zP) : ∀ k, zp_d π k ≤ k
  | 0 => Nat.le_refl 0
  | k + 1 => by
    have := zp_d_le π k
    rw [zp_d]
    split <;> omega
set_option maxRecDepth 100000 in
set_option maxHeartbeats 600000 in
theorem mX1_addSquare {l : zw_Lh} {d : Nat} {M : zw_M} {π : zP} {k a b : Nat} {h : Int} (hI : zIk M π k) (hh : h = π.2.2 k) (hh9 : 0 ≤ h ∧ h ≤ 9) (hk : k = a * π.2.1 + b) (hb : b < π.2.1) (hk30 : k < 30) (ha : a < 100) : zw_C l (d + 1) iX1_addSquare [.ref 4, .int (zn_I h), .int (zn_I (a : Int)), .int (zn_I (b : Int))] M (fun v M1 => v = none ∧ zw_fr [4, 5, 6, 7] M M1 ∧ zIk M1 π (k + 1)) := by
  obtain ⟨hp, hr, hw, hk5, hdo, hH, hE, hS, hB⟩ := id hI
  have hdl := zp_d_le π k
  have hmod : k % π.2.1 = b := by rw [hk, Nat.mul_comm, Nat.mul_add_mod, Nat.mod_eq_of_lt hb]
  have hdiv : k / π.2.1 = a := by rw [hk, Nat.mul_comm, Nat.mul_add_div (by omega), Nat.div_eq_of_lt hb, Nat.add_zero]
  have hee : zp_e π k = 2 * (b : Int) - ((π.2.1 : Int) - 1) := by rw [zp_e, hmod]
  have hss : zp_s π k = 2 * (a : Int) - ((π.1 : Int) - 1) := by rw [zp_s, hdiv]
  refine zw_of (by decide +kernel) (Nat.le_of_ble_eq_true rfl) ?_
  refine zy_loc (L1 := [.ref 4, .int (zn_I h), .int (zn_I (a : Int)), .int (zn_I (b : Int))]) rfl ?_
  refine zx_aload_n dX1_addSquare_0 rfl ?_
  refine zy_geti dX1_addSquare_1 fX1_28 ((show _ = zn_I (k : Int) from by simp [zw_s, hk5])) ?_
  refine zx_bipush (v := zn_I 30) dX1_addSquare_4 (by decide) ?_
  refine zy_icmp_lt (tgt := 10) dX1_addSquare_6 (by decide) (by omega) (fun h_6 => ?_) (fun h_6 => ?_)
  · refine zx_aload_n dX1_addSquare_10 rfl ?_
    refine zx_getr dX1_addSquare_11 fX1_9 ?_
    refine zx_aload_n dX1_addSquare_14 rfl ?_
    refine zy_geti dX1_addSquare_15 fX1_28 ((show _ = zn_I (k : Int) from by simp [zw_s, hk5])) ?_
    refine zx_iload_n dX1_addSquare_18 rfl ?_
    refine zy_iast dX1_addSquare_19 rfl (by decide) rfl (by omega) ?_
    refine zx_aload_n dX1_addSquare_20 rfl ?_
    refine zx_getr dX1_addSquare_21 fX1_15 ?_
    refine zx_aload_n dX1_addSquare_24 rfl ?_
    refine zy_geti dX1_addSquare_25 fX1_28 ((show _ = zn_I (k : Int) from by simp [zw_s, hk5])) ?_
    refine zx_iload_n dX1_addSquare_28 rfl ?_
    refine zx_aload_n dX1_addSquare_29 rfl ?_
    refine zy_geti dX1_addSquare_30 fX1_25 ((show _ = zn_I (π.2.1 : Int) from by simp [zw_s, hw])) ?_
    refine zx_callS (y1 := iX1_fromCentre) dX1_addSquare_33 lX1_48 sX1_fromCentre (mX1_fromCentre) rfl rfl (Nat.le_of_ble_eq_true rfl) ?_
    refine zk_i ?_
    refine zy_iast dX1_addSquare_36 rfl (by decide) rfl (by omega) ?_
    refine zx_aload_n dX1_addSquare_37 rfl ?_
    refine zx_getr dX1_addSquare_38 fX1_18 ?_
    refine zx_aload_n dX1_addSquare_41 rfl ?_
    refine zy_geti dX1_addSquare_42 fX1_28 ((show _ = zn_I (k : Int) from by simp [zw_s, hk5])) ?_
    refine zx_iload_n dX1_addSquare_45 rfl ?_
    refine zx_aload_n dX1_addSquare_46 rfl ?_
    refine zy_geti dX1_addSquare_47 fX1_21 ((show _ = zn_I (π.1 : Int) from by simp [zw_s, hr])) ?_
    refine zx_callS (y1 := iX1_fromCentre) dX1_addSquare_50 lX1_48 sX1_fromCentre (mX1_fromCentre) rfl rfl (Nat.le_of_ble_eq_true rfl) ?_
    refine zk_i ?_
    refine zy_iast dX1_addSquare_53 rfl (by decide) rfl (by omega) ?_
    refine zx_aload_n dX1_addSquare_54 rfl ?_
    refine zx_dup dX1_addSquare_55 rfl ?_
    refine zy_geti dX1_addSquare_56 fX1_28 ((show _ = zn_I (k : Int) from by simp [zw_s, hk5])) ?_
    refine zx_iconst (v := zn_I 1) dX1_addSquare_59 rfl ?_
    refine zy_iadd dX1_addSquare_60 ?_
    refine zx_puti dX1_addSquare_61 fX1_28 ?_
    refine zx_iload_n dX1_addSquare_64 rfl ?_
    refine zy_if_le (tgt := 78) dX1_addSquare_65 (by decide) (by omega) (fun h_65 => ?_) (fun h_65 => ?_)
    · refine zx_vret (st := []) dX1_addSquare_78 rfl ?_
      refine ⟨rfl, ?_, hp, by simp [zw_s, hr], by simp [zw_s, hw], by simp [zw_s], ?_, fun s hs => ?_, fun s hs => ?_, fun s hs => ?_, fun s hs => ?_⟩
      · (repeat' apply zf_s) <;> first | exact zf_rf | decide
      · rw [show zp_d π (k + 1) = zp_d π k by rw [zp_d, if_neg (by omega), Nat.add_zero]]
        simp [zw_s, hdo]
      · by_cases e : s = k
        · subst e; simp [zw_s, hh]
        · have := hH s (by omega); simp [zw_s, e, this]
      · by_cases e : s = k
        · subst e; simp [zw_s, hee]
        · have := hE s (by omega); simp [zw_s, e, this]
      · by_cases e : s = k
        · subst e; simp [zw_s, hss]
        · have := hS s (by omega); simp [zw_s, e, this]
      · by_cases e : s = k
        · subst e; omega
        · exact hB s (by omega)
    · refine zx_aload_n dX1_addSquare_68 rfl ?_
      refine zx_dup dX1_addSquare_69 rfl ?_
      refine zy_geti dX1_addSquare_70 fX1_31 ((show _ = zn_I (zp_d π k : Int) from by simp [zw_s, hdo])) ?_
      refine zx_iconst (v := zn_I 1) dX1_addSquare_73 rfl ?_
      refine zy_iadd dX1_addSquare_74 ?_
      refine zx_puti dX1_addSquare_75 fX1_31 ?_
      refine zx_vret (st := []) dX1_addSquare_78 rfl ?_
      refine ⟨rfl, ?_, hp, by simp [zw_s, hr], by simp [zw_s, hw], by simp [zw_s], ?_, fun s hs => ?_, fun s hs => ?_, fun s hs => ?_, fun s hs => ?_⟩
      · (repeat' apply zf_s) <;> first | exact zf_rf | decide
      · rw [show zp_d π (k + 1) = zp_d π k + 1 by rw [zp_d, if_pos (by omega)]]
        simp [zw_s, hdo]
      · by_cases e : s = k
        · subst e; simp [zw_s, hh]
        · have := hH s (by omega); simp [zw_s, e, this]
      · by_cases e : s = k
        · subst e; simp [zw_s, hee]
        · have := hE s (by omega); simp [zw_s, e, this]
      · by_cases e : s = k
        · subst e; simp [zw_s, hss]
        · have := hS s (by omega); simp [zw_s, e, this]
      · by_cases e : s = k
        · subst e; omega
        · exact hB s (by omega)
  · refine zx_vret (st := []) dX1_addSquare_9 rfl ?_
    exact absurd h_6 (by omega)
set_option maxRecDepth 100000 in
set_option maxHeartbeats 600000 in
theorem mX1_read {l : zw_Lh} {d : Nat} {M : zw_M} {ρ : zR} (hG : zG M ρ) (hwh : zq_whole ρ) : zw_C l (d + 2) iX1_read [.ref 4, .ref 1, .int (zn_I (zr_P ρ).1), .int (zn_I (zr_P ρ).2.1)] M (fun v M1 => v = none ∧ zw_fr [4, 5, 6, 7] M M1 ∧ zI M1 (zr_P ρ)) := by
  have h40 := hG.1
  have hok := zq_go_ok ρ ρ.1
  unfold zq_ok at hok
  refine zw_of (by decide +kernel) (Nat.le_of_ble_eq_true rfl) ?_
  refine zy_loc (L1 := [.ref 4, .ref 1, .int (zn_I (zr_P ρ).1), .int (zn_I (zr_P ρ).2.1), .retAddr 0, .retAddr 0, .retAddr 0, .retAddr 0]) rfl ?_
  have loop : ∀ s : Nat, s ≤ ρ.1 → ∀ (M1 : zw_M) (a b : Nat) (v7 : Value), zw_fr [4, 5, 6, 7] M M1 → zIk M1 (zr_P ρ) (zr_k ρ s) → a + 1 = (zq_go ρ s).2.1 → b = (zq_go ρ s).2.2.2 → zw_X l (d + 2) iX1_read (fun v M1 => v = none ∧ zw_fr [4, 5, 6, 7] M M1 ∧ zI M1 (zr_P ρ)) 29 [.ref 4, .ref 1, .int (zn_I (zr_P ρ).1), .int (zn_I (zr_P ρ).2.1), .int (zn_I (a : Int)), .int (zn_I (b : Int)), .int (zn_I (s : Int)), v7] [] M1 := by
    refine zw_loop ρ.1 (P := fun s => ∀ (M1 : zw_M) (a b : Nat) (v7 : Value), zw_fr [4, 5, 6, 7] M M1 → zIk M1 (zr_P ρ) (zr_k ρ s) → a + 1 = (zq_go ρ s).2.1 → b = (zq_go ρ s).2.2.2 → zw_X l (d + 2) iX1_read (fun v M1 => v = none ∧ zw_fr [4, 5, 6, 7] M M1 ∧ zI M1 (zr_P ρ)) 29 [.ref 4, .ref 1, .int (zn_I (zr_P ρ).1), .int (zn_I (zr_P ρ).2.1), .int (zn_I (a : Int)), .int (zn_I (b : Int)), .int (zn_I (s : Int)), v7] [] M1) (fun s hs ih M1 a b v7 hf hI1 ha hb => ?_)
    have hG1 := zG_f hf hG (by decide)
    have hoks := zq_go_ok ρ s
    unfold zq_ok at hoks
    have hka : zr_k ρ s = a * (zr_P ρ).2.1 + b := by rw [zr_k_at hwh s hs, ← ha, ← hb]; rfl
    have hka2 : zr_k ρ s = a * (zq_go ρ ρ.1).2.2.1 + b := hka
    have hcl := fun q : s < ρ.1 => hG1.2.2.2 s q
    have hcs := fun q : s < ρ.1 => zq_case hwh q
    refine zx_iload dX1_read_29 rfl ?_
    refine zx_aload_n dX1_read_31 rfl ?_
    refine zx_callV (y1 := iX3_length) dX1_read_32 lX1_34 vX3_length rc_1 (mX3_length hG1) rfl rfl (Nat.le_of_ble_eq_true rfl) ?_
    refine zk_i ?_
    refine zy_icmp_ge (tgt := 95) dX1_read_35 (by decide) (by omega) (fun h_35 => ?_) (fun h_35 => ?_)
    · refine zx_vret (st := []) dX1_read_95 rfl ?_
      have es : s = ρ.1 := by omega
      subst es
      refine ⟨rfl, hf, ?_⟩
      rw [zr_P_n hwh] at hI1
      exact hI1
    · refine zx_aload_n dX1_read_38 rfl ?_
      refine zx_iload dX1_read_39 rfl ?_
      refine zx_callV (y1 := iX3_letter) dX1_read_41 lX1_40 vX3_letter rc_1 (mX3_letter hG1 (z := (s : Int)) (by omega)) rfl rfl (Nat.le_of_ble_eq_true rfl) ?_
      refine zk_i ?_
      rw [zg_at_in (show s < ρ.1 by omega)]
      have hc1 := hcl (by omega)
      have hc2 := hcs (by omega)
      refine zx_istore dX1_read_44 rfl (Nat.le_of_ble_eq_true rfl) ?_
      refine zx_iload dX1_read_46 rfl ?_
      refine zx_bipush (v := zn_I 47) dX1_read_48 (by decide) ?_
      refine zy_icmp_ne (tgt := 62) dX1_read_50 (by decide) (by omega) (fun h_50 => ?_) (fun h_50 => ?_)
      · refine zx_aload_n dX1_read_62 rfl ?_
        refine zx_iload dX1_read_63 rfl ?_
        refine zx_bipush (v := zn_I 46) dX1_read_65 (by decide) ?_
        refine zy_icmp_ne (tgt := 74) dX1_read_67 (by decide) (by omega) (fun h_67 => ?_) (fun h_67 => ?_)
        · refine zx_iload dX1_read_74 rfl ?_
          refine zx_bipush (v := zn_I 48) dX1_read_76 (by decide) ?_
          refine zy_isub dX1_read_78 ?_
          refine zx_iload dX1_read_79 rfl ?_
          refine zx_iload dX1_read_81 rfl ?_
          refine zx_callV (y1 := iX1_addSquare) dX1_read_83 lX1_44 vX1_addSquare rc_4 (mX1_addSquare (k := zr_k ρ s) (a := a) (b := b) hI1 (by show _ = zr_H ρ ρ.1 (zr_k ρ s); rw [zr_H_at (by omega) (show s < ρ.1 by omega), zr_g]; first | rw [if_pos (by omega)] | rw [if_neg (by omega)]) (by omega) hka (by show b < (zq_go ρ ρ.1).2.2.1; omega) (by have := Nat.mul_le_mul_right ((zq_go ρ ρ.1).2.2.1) (show a ≤ 4 by omega); omega) (by omega)) rfl rfl (Nat.le_of_ble_eq_true rfl) ?_
          intro v M2 he
          obtain ⟨rfl, hf2, hI2⟩ := he
          refine zy_iinc dX1_read_86 rfl rfl ?_
          refine zy_iinc dX1_read_89 rfl rfl ?_
          refine zx_goto (tgt := 29) dX1_read_92 (by decide) ?_
          exact ih (by omega) _ a (b + 1) _ (zf_tr hf hf2) (by rw [zr_k, if_neg (by omega)]; exact hI2) (by omega) (by omega)
        · refine zx_iconst (v := zn_I 0) dX1_read_70 rfl ?_
          refine zx_goto (tgt := 79) dX1_read_71 (by decide) ?_
          refine zx_iload dX1_read_79 rfl ?_
          refine zx_iload dX1_read_81 rfl ?_
          refine zx_callV (y1 := iX1_addSquare) dX1_read_83 lX1_44 vX1_addSquare rc_4 (mX1_addSquare (k := zr_k ρ s) (a := a) (b := b) hI1 (by show _ = zr_H ρ ρ.1 (zr_k ρ s); rw [zr_H_at (by omega) (show s < ρ.1 by omega), zr_g]; first | rw [if_pos (by omega)] | rw [if_neg (by omega)]) (by omega) hka (by show b < (zq_go ρ ρ.1).2.2.1; omega) (by have := Nat.mul_le_mul_right ((zq_go ρ ρ.1).2.2.1) (show a ≤ 4 by omega); omega) (by omega)) rfl rfl (Nat.le_of_ble_eq_true rfl) ?_
          intro v M2 he
          obtain ⟨rfl, hf2, hI2⟩ := he
          refine zy_iinc dX1_read_86 rfl rfl ?_
          refine zy_iinc dX1_read_89 rfl rfl ?_
          refine zx_goto (tgt := 29) dX1_read_92 (by decide) ?_
          exact ih (by omega) _ a (b + 1) _ (zf_tr hf hf2) (by rw [zr_k, if_neg (by omega)]; exact hI2) (by omega) (by omega)
      · refine zy_iinc dX1_read_53 rfl rfl ?_
        refine zx_iconst (v := zn_I 0) dX1_read_56 rfl ?_
        refine zx_istore dX1_read_57 rfl (Nat.le_of_ble_eq_true rfl) ?_
        refine zx_goto (tgt := 89) dX1_read_59 (by decide) ?_
        refine zy_iinc dX1_read_89 rfl rfl ?_
        refine zx_goto (tgt := 29) dX1_read_92 (by decide) ?_
        exact ih (by omega) _ (a + 1) 0 _ hf (by rw [zr_k, if_pos (by omega)]; exact hI1) (by omega) (by omega)
  refine zx_aload_n dX1_read_0 rfl ?_
  refine zx_iload_n dX1_read_1 rfl ?_
  refine zx_puti dX1_read_2 fX1_21 ?_
  refine zx_aload_n dX1_read_5 rfl ?_
  refine zx_iload_n dX1_read_6 rfl ?_
  refine zx_puti dX1_read_7 fX1_25 ?_
  refine zx_aload_n dX1_read_10 rfl ?_
  refine zx_iconst (v := zn_I 0) dX1_read_11 rfl ?_
  refine zx_puti dX1_read_12 fX1_28 ?_
  refine zx_aload_n dX1_read_15 rfl ?_
  refine zx_iconst (v := zn_I 0) dX1_read_16 rfl ?_
  refine zx_puti dX1_read_17 fX1_31 ?_
  refine zx_iconst (v := zn_I 0) dX1_read_20 rfl ?_
  refine zx_istore dX1_read_21 rfl (Nat.le_of_ble_eq_true rfl) ?_
  refine zx_iconst (v := zn_I 0) dX1_read_23 rfl ?_
  refine zx_istore dX1_read_24 rfl (Nat.le_of_ble_eq_true rfl) ?_
  refine zx_iconst (v := zn_I 0) dX1_read_26 rfl ?_
  refine zx_istore dX1_read_27 rfl (Nat.le_of_ble_eq_true rfl) ?_
  refine loop 0 (by omega) _ 0 0 _ (by (repeat' apply zf_s) <;> first | exact zf_rf | decide) ?_ (by simp [zq_go]) (by simp [zq_go])
  refine ⟨⟨by show (zq_go ρ ρ.1).2.1 ≤ 5; omega, by show (zq_go ρ ρ.1).2.2.1 ≤ 6; omega⟩, by simp [zw_s], by simp [zw_s], by simp [zw_s, zr_k], by simp [zw_s, zp_d, zr_k], ?_, ?_, ?_, ?_⟩ <;> (intro s hs; exact absurd hs (by simp [zr_k]))
