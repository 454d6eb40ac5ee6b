theorem zn_Bn {p : Prop} [Decidable p] : narrow .boolean (.int (zn_B p)) = .int (zn_B p) := by
  unfold zn_B
  split <;> rfl
/-! THE PLAN'S TEXT: rows, columns, how many in this row; none: the letter may not come -/
abbrev zA : Type := Nat × Nat × Nat
def zq_take (σ : zA) (c : Nat) : Option zA :=
  if c = 47 then (if ((σ.1 = 1 ∧ 2 ≤ σ.2.2) ∨ (σ.1 ≠ 1 ∧ σ.2.2 = σ.2.1)) ∧ σ.1 < 5 then some (σ.1 + 1, σ.2.2, 0) else none)
  else if (c = 46 ∨ (49 ≤ c ∧ c ≤ 57)) ∧ ((σ.1 = 1 ∧ σ.2.2 < 6) ∨ (σ.1 ≠ 1 ∧ σ.2.2 < σ.2.1)) then some (σ.1, σ.2.1, σ.2.2 + 1) else none
def zq_ok (σ : zA) : Prop := 1 ≤ σ.1 ∧ σ.1 ≤ 5 ∧ σ.2.1 ≤ 6 ∧ σ.2.2 ≤ 6
theorem zq_take_ok {σ σ' : zA} {c : Nat} (h : zq_ok σ) (e : zq_take σ c = some σ') : zq_ok σ' := by
  unfold zq_ok at *
  unfold zq_take at e
  split at e
  · split at e
    · cases e; dsimp only; omega
    · cases e
  · split at e
    · cases e; dsimp only; omega
    · cases e
/-- how many letters are taken, and what stands then -/
def zq_go (ρ : zR) : Nat → Nat × zA
  | 0 => (0, (1, 0, 0))
  | i + 1 => if (zq_go ρ i).1 < i then zq_go ρ i else match zq_take (zq_go ρ i).2 (ρ.2 i) with
    | none => zq_go ρ i
    | some σ => (i + 1, σ)
theorem zq_go_le (ρ : zR) : ∀ i, (zq_go ρ i).1 ≤ i
  | 0 => Nat.le_refl 0
  | i + 1 => by
    have := zq_go_le ρ i
    rw [zq_go]
    split
    · omega
    · split
      · omega
      · exact Nat.le_refl _
theorem zq_go_ok (ρ : zR) : ∀ i, zq_ok (zq_go ρ i).2
  | 0 => by simp [zq_go, zq_ok]
  | i + 1 => by
    have ih := zq_go_ok ρ i
    rw [zq_go]
    split
    · exact ih
    · split
      · exact ih
      · next e => exact zq_take_ok ih e
theorem zq_go_stop {ρ : zR} {i : Nat} (h : (zq_go ρ i).1 = i) (h2 : zq_take (zq_go ρ i).2 (ρ.2 i) = none) : ∀ j, i ≤ j → zq_go ρ j = zq_go ρ i
  | 0, q => by
    have : i = 0 := by omega
    subst this
    rfl
  | j + 1, q => by
    rcases Nat.lt_or_ge i (j + 1) with r | r
    · have ih := zq_go_stop h h2 j (by omega)
      rw [zq_go, ih]
      rcases Nat.lt_or_ge i j with r2 | r2
      · rw [if_pos (by omega)]
      · have : j = i := by omega
        subst this
        rw [h, if_neg (Nat.lt_irrefl _), h2]
    · have : i = j + 1 := by omega
      subst this
      rfl
theorem zq_go_next {ρ : zR} {i : Nat} {σ : zA} (h : (zq_go ρ i).1 = i) (h2 : zq_take (zq_go ρ i).2 (ρ.2 i) = some σ) : zq_go ρ (i + 1) = (i + 1, σ) := by
  rw [zq_go, if_neg (by omega), h2]
/-- the plan's text is whole -/
abbrev zq_whole (ρ : zR) : Prop := (zq_go ρ ρ.1).1 = ρ.1 ∧ 2 ≤ (zq_go ρ ρ.1).2.1 ∧ (zq_go ρ ρ.1).2.2.2 = (zq_go ρ ρ.1).2.2.1
def zq (M : zw_M) (σ : zA) : Prop := M.1 3 0 = zn_I σ.1 ∧ M.1 3 1 = zn_I σ.2.1 ∧ M.1 3 2 = zn_I σ.2.2
set_option maxRecDepth 100000 in
set_option maxHeartbeats 600000 in
theorem mX4_rows {l : zw_Lh} {d : Nat} {M : zw_M} {σ : zA} (hq : zq M σ) (hok : zq_ok σ) : zw_C l d iX4_rows [.ref 3] M (zw_i (zn_I σ.1) M) := by
  refine zw_of (by decide +kernel) (Nat.le_of_ble_eq_true rfl) ?_
  refine zy_loc (L1 := [.ref 3]) rfl ?_
  refine zx_aload_n dX4_rows_0 rfl ?_
  refine zy_geti dX4_rows_1 fX4_9 (hq.1) ?_
  refine zx_iret (st := []) dX4_rows_4 rfl rfl ?_
  exact ⟨rfl, rfl⟩
set_option maxRecDepth 100000 in
set_option maxHeartbeats 600000 in
theorem mX4_columns {l : zw_Lh} {d : Nat} {M : zw_M} {σ : zA} (hq : zq M σ) (hok : zq_ok σ) : zw_C l d iX4_columns [.ref 3] M (zw_i (zn_I σ.2.1) M) := by
  refine zw_of (by decide +kernel) (Nat.le_of_ble_eq_true rfl) ?_
  refine zy_loc (L1 := [.ref 3]) rfl ?_
  refine zx_aload_n dX4_columns_0 rfl ?_
  refine zy_geti dX4_columns_1 fX4_15 (hq.2.1) ?_
  refine zx_iret (st := []) dX4_columns_4 rfl rfl ?_
  exact ⟨rfl, rfl⟩
set_option maxRecDepth 100000 in
set_option maxHeartbeats 600000 in
theorem mX4_endsRow {l : zw_Lh} {d : Nat} {M : zw_M} {σ : zA} (hq : zq M σ) (hok : zq_ok σ) : zw_C l d iX4_endsRow [.ref 3] M (fun v M1 => v = some (.int (zn_B ((zq_take σ 47).isSome = true))) ∧ zw_fr [3] M M1 ∧ zq M1 ((zq_take σ 47).getD σ)) := by
  obtain ⟨k1, k2, k3, k4⟩ := id hok
  refine zw_of (by decide +kernel) (Nat.le_of_ble_eq_true rfl) ?_
  refine zy_loc (L1 := [.ref 3, .retAddr 0]) rfl ?_
  refine zx_aload_n dX4_endsRow_0 rfl ?_
  refine zy_geti dX4_endsRow_1 fX4_9 (hq.1) ?_
  refine zx_iconst (v := zn_I 1) dX4_endsRow_4 rfl ?_
  refine zy_icmp_ne (tgt := 24) dX4_endsRow_5 (by decide) (by omega) (fun h_5 => ?_) (fun h_5 => ?_)
  · refine zx_aload_n dX4_endsRow_24 rfl ?_
    refine zy_geti dX4_endsRow_25 fX4_28 (hq.2.2) ?_
    refine zx_aload_n dX4_endsRow_28 rfl ?_
    refine zy_geti dX4_endsRow_29 fX4_15 (hq.2.1) ?_
    refine zy_icmp_ne (tgt := 39) dX4_endsRow_32 (by decide) (by omega) (fun h_32 => ?_) (fun h_32 => ?_)
    · refine zx_iconst (v := zn_I 0) dX4_endsRow_39 rfl ?_
      refine zx_istore_n dX4_endsRow_40 rfl (Nat.le_of_ble_eq_true rfl) ?_
      refine zx_iload_n dX4_endsRow_41 rfl ?_
      refine zy_if_eq (tgt := 53) dX4_endsRow_42 (by decide) (by omega) (fun h_42 => ?_) (fun h_42 => ?_)
      · refine zx_iconst (v := zn_I 0) dX4_endsRow_53 rfl ?_
        refine zx_iret (st := []) dX4_endsRow_54 rfl rfl ?_
        have e : zq_take σ 47 = none := by unfold zq_take; (repeat' split) <;> first | rfl | (exfalso; omega)
        rw [e]
        exact ⟨by rw [zn_B, if_neg (by simp)], zf_rf, hq⟩
      · refine zx_aload_n dX4_endsRow_45 rfl ?_
        refine zy_geti dX4_endsRow_46 fX4_9 (hq.1) ?_
        refine zx_iconst (v := zn_I 5) dX4_endsRow_49 rfl ?_
        refine zy_icmp_lt (tgt := 55) dX4_endsRow_50 (by decide) (by omega) (fun h_50 => ?_) (fun h_50 => ?_)
        · refine zx_aload_n dX4_endsRow_55 rfl ?_
          refine zx_aload_n dX4_endsRow_56 rfl ?_
          refine zy_geti dX4_endsRow_57 fX4_28 (hq.2.2) ?_
          refine zx_puti dX4_endsRow_60 fX4_15 ?_
          refine zx_aload_n dX4_endsRow_63 rfl ?_
          refine zx_dup dX4_endsRow_64 rfl ?_
          refine zy_geti dX4_endsRow_65 fX4_9 (hq.1) ?_
          refine zx_iconst (v := zn_I 1) dX4_endsRow_68 rfl ?_
          refine zy_iadd dX4_endsRow_69 ?_
          refine zx_puti dX4_endsRow_70 fX4_9 ?_
          refine zx_aload_n dX4_endsRow_73 rfl ?_
          refine zx_iconst (v := zn_I 0) dX4_endsRow_74 rfl ?_
          refine zx_puti dX4_endsRow_75 fX4_28 ?_
          refine zx_iconst (v := zn_I 1) dX4_endsRow_78 rfl ?_
          refine zx_iret (st := []) dX4_endsRow_79 rfl rfl ?_
          have e : zq_take σ 47 = some (σ.1 + 1, σ.2.2, 0) := by unfold zq_take; (repeat' split) <;> first | rfl | (exfalso; omega)
          rw [e]
          refine ⟨by rw [zn_B, if_pos (by simp)], ?_, ?_⟩
          · (repeat' apply zf_s) <;> first | exact zf_rf | decide
          · refine ⟨?_, ?_, ?_⟩ <;> simp [zw_s, hq.1, hq.2.1, hq.2.2]
        · refine zx_iconst (v := zn_I 0) dX4_endsRow_53 rfl ?_
          refine zx_iret (st := []) dX4_endsRow_54 rfl rfl ?_
          have e : zq_take σ 47 = none := by unfold zq_take; (repeat' split) <;> first | rfl | (exfalso; omega)
          rw [e]
          exact ⟨by rw [zn_B, if_neg (by simp)], zf_rf, hq⟩
    · refine zx_iconst (v := zn_I 1) dX4_endsRow_35 rfl ?_
      refine zx_goto (tgt := 40) dX4_endsRow_36 (by decide) ?_
      refine zx_istore_n dX4_endsRow_40 rfl (Nat.le_of_ble_eq_true rfl) ?_
      refine zx_iload_n dX4_endsRow_41 rfl ?_
      refine zy_if_eq (tgt := 53) dX4_endsRow_42 (by decide) (by omega) (fun h_42 => ?_) (fun h_42 => ?_)
      · refine zx_iconst (v := zn_I 0) dX4_endsRow_53 rfl ?_
        refine zx_iret (st := []) dX4_endsRow_54 rfl rfl ?_
        have e : zq_take σ 47 = none := by unfold zq_take; (repeat' split) <;> first | rfl | (exfalso; omega)
        rw [e]
        exact ⟨by rw [zn_B, if_neg (by simp)], zf_rf, hq⟩
      · refine zx_aload_n dX4_endsRow_45 rfl ?_
        refine zy_geti dX4_endsRow_46 fX4_9 (hq.1) ?_
        refine zx_iconst (v := zn_I 5) dX4_endsRow_49 rfl ?_
        refine zy_icmp_lt (tgt := 55) dX4_endsRow_50 (by decide) (by omega) (fun h_50 => ?_) (fun h_50 => ?_)
        · refine zx_aload_n dX4_endsRow_55 rfl ?_
          refine zx_aload_n dX4_endsRow_56 rfl ?_
          refine zy_geti dX4_endsRow_57 fX4_28 (hq.2.2) ?_
          refine zx_puti dX4_endsRow_60 fX4_15 ?_
          refine zx_aload_n dX4_endsRow_63 rfl ?_
          refine zx_dup dX4_endsRow_64 rfl ?_
          refine zy_geti dX4_endsRow_65 fX4_9 (hq.1) ?_
          refine zx_iconst (v := zn_I 1) dX4_endsRow_68 rfl ?_
          refine zy_iadd dX4_endsRow_69 ?_
          refine zx_puti dX4_endsRow_70 fX4_9 ?_
          refine zx_aload_n dX4_endsRow_73 rfl ?_
          refine zx_iconst (v := zn_I 0) dX4_endsRow_74 rfl ?_
          refine zx_puti dX4_endsRow_75 fX4_28 ?_
          refine zx_iconst (v := zn_I 1) dX4_endsRow_78 rfl ?_
          refine zx_iret (st := []) dX4_endsRow_79 rfl rfl ?_
          have e : zq_take σ 47 = some (σ.1 + 1, σ.2.2, 0) := by unfold zq_take; (repeat' split) <;> first | rfl | (exfalso; omega)
          rw [e]
          refine ⟨by rw [zn_B, if_pos (by simp)], ?_, ?_⟩
          · (repeat' apply zf_s) <;> first | exact zf_rf | decide
          · refine ⟨?_, ?_, ?_⟩ <;> simp [zw_s, hq.1, hq.2.1, hq.2.2]
        · refine zx_iconst (v := zn_I 0) dX4_endsRow_53 rfl ?_
          refine zx_iret (st := []) dX4_endsRow_54 rfl rfl ?_
          have e : zq_take σ 47 = none := by unfold zq_take; (repeat' split) <;> first | rfl | (exfalso; omega)
          rw [e]
          exact ⟨by rw [zn_B, if_neg (by simp)], zf_rf, hq⟩
  · refine zx_aload_n dX4_endsRow_8 rfl ?_
    refine zy_geti dX4_endsRow_9 fX4_28 (hq.2.2) ?_
    refine zx_iconst (v := zn_I 2) dX4_endsRow_12 rfl ?_
    refine zy_icmp_lt (tgt := 20) dX4_endsRow_13 (by decide) (by omega) (fun h_13 => ?_) (fun h_13 => ?_)
    · refine zx_iconst (v := zn_I 0) dX4_endsRow_20 rfl ?_
      refine zx_goto (tgt := 40) dX4_endsRow_21 (by decide) ?_
      refine zx_istore_n dX4_endsRow_40 rfl (Nat.le_of_ble_eq_true rfl) ?_
      refine zx_iload_n dX4_endsRow_41 rfl ?_
      refine zy_if_eq (tgt := 53) dX4_endsRow_42 (by decide) (by omega) (fun h_42 => ?_) (fun h_42 => ?_)
      · refine zx_iconst (v := zn_I 0) dX4_endsRow_53 rfl ?_
        refine zx_iret (st := []) dX4_endsRow_54 rfl rfl ?_
        have e : zq_take σ 47 = none := by unfold zq_take; (repeat' split) <;> first | rfl | (exfalso; omega)
        rw [e]
        exact ⟨by rw [zn_B, if_neg (by simp)], zf_rf, hq⟩
      · refine zx_aload_n dX4_endsRow_45 rfl ?_
        refine zy_geti dX4_endsRow_46 fX4_9 (hq.1) ?_
        refine zx_iconst (v := zn_I 5) dX4_endsRow_49 rfl ?_
        refine zy_icmp_lt (tgt := 55) dX4_endsRow_50 (by decide) (by omega) (fun h_50 => ?_) (fun h_50 => ?_)
        · refine zx_aload_n dX4_endsRow_55 rfl ?_
          refine zx_aload_n dX4_endsRow_56 rfl ?_
          refine zy_geti dX4_endsRow_57 fX4_28 (hq.2.2) ?_
          refine zx_puti dX4_endsRow_60 fX4_15 ?_
          refine zx_aload_n dX4_endsRow_63 rfl ?_
          refine zx_dup dX4_endsRow_64 rfl ?_
          refine zy_geti dX4_endsRow_65 fX4_9 (hq.1) ?_
          refine zx_iconst (v := zn_I 1) dX4_endsRow_68 rfl ?_
          refine zy_iadd dX4_endsRow_69 ?_
          refine zx_puti dX4_endsRow_70 fX4_9 ?_
          refine zx_aload_n dX4_endsRow_73 rfl ?_
          refine zx_iconst (v := zn_I 0) dX4_endsRow_74 rfl ?_
          refine zx_puti dX4_endsRow_75 fX4_28 ?_
          refine zx_iconst (v := zn_I 1) dX4_endsRow_78 rfl ?_
          refine zx_iret (st := []) dX4_endsRow_79 rfl rfl ?_
          have e : zq_take σ 47 = some (σ.1 + 1, σ.2.2, 0) := by unfold zq_take; (repeat' split) <;> first | rfl | (exfalso; omega)
          rw [e]
          refine ⟨by rw [zn_B, if_pos (by simp)], ?_, ?_⟩
          · (repeat' apply zf_s) <;> first | exact zf_rf | decide
          · refine ⟨?_, ?_, ?_⟩ <;> simp [zw_s, hq.1, hq.2.1, hq.2.2]
        · refine zx_iconst (v := zn_I 0) dX4_endsRow_53 rfl ?_
          refine zx_iret (st := []) dX4_endsRow_54 rfl rfl ?_
          have e : zq_take σ 47 = none := by unfold zq_take; (repeat' split) <;> first | rfl | (exfalso; omega)
          rw [e]
          exact ⟨by rw [zn_B, if_neg (by simp)], zf_rf, hq⟩
    · refine zx_iconst (v := zn_I 1) dX4_endsRow_16 rfl ?_
      refine zx_goto (tgt := 40) dX4_endsRow_17 (by decide) ?_
      refine zx_istore_n dX4_endsRow_40 rfl (Nat.le_of_ble_eq_true rfl) ?_
      refine zx_iload_n dX4_endsRow_41 rfl ?_
      refine zy_if_eq (tgt := 53) dX4_endsRow_42 (by decide) (by omega) (fun h_42 => ?_) (fun h_42 => ?_)
      · refine zx_iconst (v := zn_I 0) dX4_endsRow_53 rfl ?_
        refine zx_iret (st := []) dX4_endsRow_54 rfl rfl ?_
        have e : zq_take σ 47 = none := by unfold zq_take; (repeat' split) <;> first | rfl | (exfalso; omega)
        rw [e]
        exact ⟨by rw [zn_B, if_neg (by simp)], zf_rf, hq⟩
      · refine zx_aload_n dX4_endsRow_45 rfl ?_
        refine zy_geti dX4_endsRow_46 fX4_9 (hq.1) ?_
        refine zx_iconst (v := zn_I 5) dX4_endsRow_49 rfl ?_
        refine zy_icmp_lt (tgt := 55) dX4_endsRow_50 (by decide) (by omega) (fun h_50 => ?_) (fun h_50 => ?_)
        · refine zx_aload_n dX4_endsRow_55 rfl ?_
          refine zx_aload_n dX4_endsRow_56 rfl ?_
          refine zy_geti dX4_endsRow_57 fX4_28 (hq.2.2) ?_
          refine zx_puti dX4_endsRow_60 fX4_15 ?_
          refine zx_aload_n dX4_endsRow_63 rfl ?_
          refine zx_dup dX4_endsRow_64 rfl ?_
          refine zy_geti dX4_endsRow_65 fX4_9 (hq.1) ?_
          refine zx_iconst (v := zn_I 1) dX4_endsRow_68 rfl ?_
          refine zy_iadd dX4_endsRow_69 ?_
          refine zx_puti dX4_endsRow_70 fX4_9 ?_
          refine zx_aload_n dX4_endsRow_73 rfl ?_
          refine zx_iconst (v := zn_I 0) dX4_endsRow_74 rfl ?_
          refine zx_puti dX4_endsRow_75 fX4_28 ?_
          refine zx_iconst (v := zn_I 1) dX4_endsRow_78 rfl ?_
          refine zx_iret (st := []) dX4_endsRow_79 rfl rfl ?_
          have e : zq_take σ 47 = some (σ.1 + 1, σ.2.2, 0) := by unfold zq_take; (repeat' split) <;> first | rfl | (exfalso; omega)
          rw [e]
          refine ⟨by rw [zn_B, if_pos (by simp)], ?_, ?_⟩
          · (repeat' apply zf_s) <;> first | exact zf_rf | decide
          · refine ⟨?_, ?_, ?_⟩ <;> simp [zw_s, hq.1, hq.2.1, hq.2.2]
        · refine zx_iconst (v := zn_I 0) dX4_endsRow_53 rfl ?_
          refine zx_iret (st := []) dX4_endsRow_54 rfl rfl ?_
          have e : zq_take σ 47 = none := by unfold zq_take; (repeat' split) <;> first | rfl | (exfalso; omega)
          rw [e]
          exact ⟨by rw [zn_B, if_neg (by simp)], zf_rf, hq⟩
set_option maxRecDepth 100000 in
set_option maxHeartbeats 600000 in
theorem mX4_takes {l : zw_Lh} {d : Nat} {M : zw_M} {σ : zA} (hq : zq M σ) (hok : zq_ok σ) {c : Nat} (hc : c ≤ 126) : zw_C l (d + 1) iX4_takes [.ref 3, .int (zn_I (c : Int))] M (fun v M1 => v = some (.int (zn_B ((zq_take σ c).isSome = true))) ∧ zw_fr [3] M M1 ∧ zq M1 ((zq_take σ c).getD σ)) := by
  obtain ⟨k1, k2, k3, k4⟩ := id hok
  refine zw_of (by decide +kernel) (Nat.le_of_ble_eq_true rfl) ?_
  refine zy_loc (L1 := [.ref 3, .int (zn_I (c : Int)), .retAddr 0, .retAddr 0]) rfl ?_
  have J : c ≠ 47 → zw_X l (d + 1) iX4_takes (fun v M1 => v = some (.int (zn_B ((zq_take σ c).isSome = true))) ∧ zw_fr [3] M M1 ∧ zq M1 ((zq_take σ c).getD σ)) 34 [.ref 3, .int (zn_I (c : Int)), .retAddr 0, .retAddr 0] [.int (zn_B (c = 46 ∨ (49 ≤ c ∧ c ≤ 57)))] M := by
    intro hc47
    refine zx_istore_n dX4_takes_34 rfl (Nat.le_of_ble_eq_true rfl) ?_
    refine zx_aload_n dX4_takes_35 rfl ?_
    refine zy_geti dX4_takes_36 fX4_9 (hq.1) ?_
    refine zx_iconst (v := zn_I 1) dX4_takes_39 rfl ?_
    refine zy_icmp_ne (tgt := 48) dX4_takes_40 (by decide) (by omega) (fun h_40 => ?_) (fun h_40 => ?_)
    · refine zx_aload_n dX4_takes_48 rfl ?_
      refine zy_geti dX4_takes_49 fX4_15 (hq.2.1) ?_
      refine zx_istore_n dX4_takes_52 rfl (Nat.le_of_ble_eq_true rfl) ?_
      refine zx_iload_n dX4_takes_53 rfl ?_
      refine zy_ifB_eq (tgt := 65) dX4_takes_54 (by decide) (fun h_54 => ?_) (fun h_54 => ?_)
      · refine zx_iconst (v := zn_I 0) dX4_takes_65 rfl ?_
        refine zx_iret (st := []) dX4_takes_66 rfl rfl ?_
        have e : zq_take σ c = none := by unfold zq_take; (repeat' split) <;> first | rfl | (exfalso; omega)
        rw [e]
        exact ⟨by rw [zn_B, if_neg (by simp)], zf_rf, hq⟩
      · refine zx_aload_n dX4_takes_57 rfl ?_
        refine zy_geti dX4_takes_58 fX4_28 (hq.2.2) ?_
        refine zx_iload_n dX4_takes_61 rfl ?_
        refine zy_icmp_lt (tgt := 67) dX4_takes_62 (by decide) (by omega) (fun h_62 => ?_) (fun h_62 => ?_)
        · refine zx_aload_n dX4_takes_67 rfl ?_
          refine zx_dup dX4_takes_68 rfl ?_
          refine zy_geti dX4_takes_69 fX4_28 (hq.2.2) ?_
          refine zx_iconst (v := zn_I 1) dX4_takes_72 rfl ?_
          refine zy_iadd dX4_takes_73 ?_
          refine zx_puti dX4_takes_74 fX4_28 ?_
          refine zx_iconst (v := zn_I 1) dX4_takes_77 rfl ?_
          refine zx_iret (st := []) dX4_takes_78 rfl rfl ?_
          have e : zq_take σ c = some (σ.1, σ.2.1, σ.2.2 + 1) := by unfold zq_take; (repeat' split) <;> first | rfl | (exfalso; omega)
          rw [e]
          refine ⟨by rw [zn_B, if_pos (by simp)], ?_, ?_⟩
          · (repeat' apply zf_s) <;> first | exact zf_rf | decide
          · refine ⟨?_, ?_, ?_⟩ <;> simp [zw_s, hq.1, hq.2.1, hq.2.2]
        · refine zx_iconst (v := zn_I 0) dX4_takes_65 rfl ?_
          refine zx_iret (st := []) dX4_takes_66 rfl rfl ?_
          have e : zq_take σ c = none := by unfold zq_take; (repeat' split) <;> first | rfl | (exfalso; omega)
          rw [e]
          exact ⟨by rw [zn_B, if_neg (by simp)], zf_rf, hq⟩
    · refine zx_bipush (v := zn_I 6) dX4_takes_43 (by decide) ?_
      refine zx_goto (tgt := 52) dX4_takes_45 (by decide) ?_
      refine zx_istore_n dX4_takes_52 rfl (Nat.le_of_ble_eq_true rfl) ?_
      refine zx_iload_n dX4_takes_53 rfl ?_
      refine zy_ifB_eq (tgt := 65) dX4_takes_54 (by decide) (fun h_54 => ?_) (fun h_54 => ?_)
      · refine zx_iconst (v := zn_I 0) dX4_takes_65 rfl ?_
        refine zx_iret (st := []) dX4_takes_66 rfl rfl ?_
        have e : zq_take σ c = none := by unfold zq_take; (repeat' split) <;> first | rfl | (exfalso; omega)
        rw [e]
        exact ⟨by rw [zn_B, if_neg (by simp)], zf_rf, hq⟩
      · refine zx_aload_n dX4_takes_57 rfl ?_
        refine zy_geti dX4_takes_58 fX4_28 (hq.2.2) ?_
        refine zx_iload_n dX4_takes_61 rfl ?_
        refine zy_icmp_lt (tgt := 67) dX4_takes_62 (by decide) (by omega) (fun h_62 => ?_) (fun h_62 => ?_)
        · refine zx_aload_n dX4_takes_67 rfl ?_
          refine zx_dup dX4_takes_68 rfl ?_
          refine zy_geti dX4_takes_69 fX4_28 (hq.2.2) ?_
          refine zx_iconst (v := zn_I 1) dX4_takes_72 rfl ?_
          refine zy_iadd dX4_takes_73 ?_
          refine zx_puti dX4_takes_74 fX4_28 ?_
          refine zx_iconst (v := zn_I 1) dX4_takes_77 rfl ?_
          refine zx_iret (st := []) dX4_takes_78 rfl rfl ?_
          have e : zq_take σ c = some (σ.1, σ.2.1, σ.2.2 + 1) := by unfold zq_take; (repeat' split) <;> first | rfl | (exfalso; omega)
          rw [e]
          refine ⟨by rw [zn_B, if_pos (by simp)], ?_, ?_⟩
          · (repeat' apply zf_s) <;> first | exact zf_rf | decide
          · refine ⟨?_, ?_, ?_⟩ <;> simp [zw_s, hq.1, hq.2.1, hq.2.2]
        · refine zx_iconst (v := zn_I 0) dX4_takes_65 rfl ?_
          refine zx_iret (st := []) dX4_takes_66 rfl rfl ?_
          have e : zq_take σ c = none := by unfold zq_take; (repeat' split) <;> first | rfl | (exfalso; omega)
          rw [e]
          exact ⟨by rw [zn_B, if_neg (by simp)], zf_rf, hq⟩
  refine zx_iload_n dX4_takes_0 rfl ?_
  refine zx_bipush (v := zn_I 47) dX4_takes_1 (by decide) ?_
  refine zy_icmp_ne (tgt := 11) dX4_takes_3 (by decide) (by omega) (fun h_3 => ?_) (fun h_3 => ?_)
  · refine zx_iload_n dX4_takes_11 rfl ?_
    refine zx_bipush (v := zn_I 46) dX4_takes_12 (by decide) ?_
    refine zy_icmp_eq (tgt := 29) dX4_takes_14 (by decide) (by omega) (fun h_14 => ?_) (fun h_14 => ?_)
    · refine zx_iconst (v := zn_I 1) dX4_takes_29 rfl ?_
      refine zx_goto (tgt := 34) dX4_takes_30 (by decide) ?_
      first
        | exact zy_top (zn_Bt (by omega)) (J (by omega))
        | exact zy_top (zn_Bf (by omega)) (J (by omega))
    · refine zx_iload_n dX4_takes_17 rfl ?_
      refine zx_bipush (v := zn_I 49) dX4_takes_18 (by decide) ?_
      refine zy_icmp_lt (tgt := 33) dX4_takes_20 (by decide) (by omega) (fun h_20 => ?_) (fun h_20 => ?_)
      · refine zx_iconst (v := zn_I 0) dX4_takes_33 rfl ?_
        first
          | exact zy_top (zn_Bt (by omega)) (J (by omega))
          | exact zy_top (zn_Bf (by omega)) (J (by omega))
      · refine zx_iload_n dX4_takes_23 rfl ?_
        refine zx_bipush (v := zn_I 57) dX4_takes_24 (by decide) ?_
        refine zy_icmp_gt (tgt := 33) dX4_takes_26 (by decide) (by omega) (fun h_26 => ?_) (fun h_26 => ?_)
        · refine zx_iconst (v := zn_I 0) dX4_takes_33 rfl ?_
          first
            | exact zy_top (zn_Bt (by omega)) (J (by omega))
            | exact zy_top (zn_Bf (by omega)) (J (by omega))
        · refine zx_iconst (v := zn_I 1) dX4_takes_29 rfl ?_
          refine zx_goto (tgt := 34) dX4_takes_30 (by decide) ?_
          first
            | exact zy_top (zn_Bt (by omega)) (J (by omega))
            | exact zy_top (zn_Bf (by omega)) (J (by omega))
  · refine zx_aload_n dX4_takes_6 rfl ?_
    refine zx_callV (y1 := iX4_endsRow) dX4_takes_7 lX4_39 vX4_endsRow rc_3 (mX4_endsRow hq hok) rfl rfl (Nat.le_of_ble_eq_true rfl) ?_
    intro v M1 he
    obtain ⟨rfl, hf, hq1⟩ := he
    refine zx_iret (st := []) dX4_takes_10 rfl zn_Bn ?_
    have hc2 : c = 47 := by omega
    subst hc2
    exact ⟨rfl, hf, hq1⟩
set_option maxRecDepth 100000 in
set_option maxHeartbeats 600000 in
theorem mX4_faultIn {l : zw_Lh} {d : Nat} {M : zw_M} {ρ : zR} (hG : zG M ρ) : zw_C l (d + 3) iX4_faultIn [.ref 3, .ref 1] M (fun v M1 => v = some (.int (zn_I (zq_go ρ ρ.1).1)) ∧ zw_fr [3] M M1 ∧ zq M1 (zq_go ρ ρ.1).2) := by
  have h40 := hG.1
  refine zw_of (by decide +kernel) (Nat.le_of_ble_eq_true rfl) ?_
  refine zy_loc (L1 := [.ref 3, .ref 1, .retAddr 0]) rfl ?_
  have loop : ∀ s : Nat, s ≤ ρ.1 → ∀ M1 : zw_M, zw_fr [3] M M1 → zq M1 (zq_go ρ s).2 → (zq_go ρ s).1 = s → zw_X l (d + 3) iX4_faultIn (fun v M1 => v = some (.int (zn_I (zq_go ρ ρ.1).1)) ∧ zw_fr [3] M M1 ∧ zq M1 (zq_go ρ ρ.1).2) 17 [.ref 3, .ref 1, .int (zn_I (s : Int))] [] M1 := by
    refine zw_loop ρ.1 (P := fun s => ∀ M1 : zw_M, zw_fr [3] M M1 → zq M1 (zq_go ρ s).2 → (zq_go ρ s).1 = s → zw_X l (d + 3) iX4_faultIn (fun v M1 => v = some (.int (zn_I (zq_go ρ ρ.1).1)) ∧ zw_fr [3] M M1 ∧ zq M1 (zq_go ρ ρ.1).2) 17 [.ref 3, .ref 1, .int (zn_I (s : Int))] [] M1) (fun s hs ih M1 hf hq hgo => ?_)
    have hG1 := zG_f hf hG (by decide)
    refine zx_iload_n dX4_faultIn_17 rfl ?_
    refine zx_aload_n dX4_faultIn_18 rfl ?_
    refine zx_callV (y1 := iX3_length) dX4_faultIn_19 lX4_22 vX3_length rc_1 (mX3_length hG1) rfl rfl (Nat.le_of_ble_eq_true rfl) ?_
    refine zk_i ?_
    refine zy_icmp_ge (tgt := 45) dX4_faultIn_22 (by decide) (by omega) (fun h_22 => ?_) (fun h_22 => ?_)
    · refine zx_aload_n dX4_faultIn_45 rfl ?_
      refine zx_callV (y1 := iX3_length) dX4_faultIn_46 lX4_22 vX3_length rc_1 (mX3_length hG1) rfl rfl (Nat.le_of_ble_eq_true rfl) ?_
      refine zk_i ?_
      refine zx_iret (st := []) dX4_faultIn_49 rfl rfl ?_
      have es : ρ.1 = s := by omega
      rw [es, hgo]
      exact ⟨rfl, hf, hq⟩
    · refine zx_aload_n dX4_faultIn_25 rfl ?_
      refine zx_aload_n dX4_faultIn_26 rfl ?_
      refine zx_iload_n dX4_faultIn_27 rfl ?_
      refine zx_callV (y1 := iX3_letter) dX4_faultIn_28 lX4_31 vX3_letter rc_1 (mX3_letter hG1 (z := (s : Int)) (by omega)) rfl rfl (Nat.le_of_ble_eq_true rfl) ?_
      refine zk_i ?_
      rw [zg_at_in (show s < ρ.1 by omega)]
      refine zx_callV (y1 := iX4_takes) dX4_faultIn_31 lX4_35 vX4_takes rc_3 (mX4_takes hq (zq_go_ok ρ s) (c := ρ.2 s) (by have := (hG.2.2.2 s (by omega)).2; omega)) rfl rfl (Nat.le_of_ble_eq_true rfl) ?_
      intro v M2 he
      obtain ⟨rfl, hf2, hq2⟩ := he
      refine zy_ifB_ne (tgt := 39) dX4_faultIn_34 (by decide) (fun h_34 => ?_) (fun h_34 => ?_)
      · refine zy_iinc dX4_faultIn_39 rfl rfl ?_
        refine zx_goto (tgt := 17) dX4_faultIn_42 (by decide) ?_
        obtain ⟨σ, e⟩ := Option.isSome_iff_exists.mp h_34
        rw [e] at hq2
        have en := zq_go_next hgo e
        exact ih (by omega) _ (zf_tr hf hf2) (by rw [en]; exact hq2) (by rw [en])
      · refine zx_iload_n dX4_faultIn_37 rfl ?_
        refine zx_iret (st := []) dX4_faultIn_38 rfl rfl ?_
        have e : zq_take (zq_go ρ s).2 (ρ.2 s) = none := by
          cases e : zq_take (zq_go ρ s).2 (ρ.2 s) with
          | none => rfl
          | some _ => exact absurd (by rw [e]; rfl) h_34
        rw [e] at hq2
        rw [zq_go_stop hgo e ρ.1 (by omega), hgo]
        exact ⟨rfl, zf_tr hf hf2, hq2⟩
  refine zx_aload_n dX4_faultIn_0 rfl ?_
  refine zx_iconst (v := zn_I 1) dX4_faultIn_1 rfl ?_
  refine zx_puti dX4_faultIn_2 fX4_9 ?_
  refine zx_aload_n dX4_faultIn_5 rfl ?_
  refine zx_iconst (v := zn_I 0) dX4_faultIn_6 rfl ?_
  refine zx_puti dX4_faultIn_7 fX4_15 ?_
  refine zx_aload_n dX4_faultIn_10 rfl ?_
  refine zx_iconst (v := zn_I 0) dX4_faultIn_11 rfl ?_
  refine zx_puti dX4_faultIn_12 fX4_28 ?_
  refine zx_iconst (v := zn_I 0) dX4_faultIn_15 rfl ?_
  refine zx_istore_n dX4_faultIn_16 rfl (Nat.le_of_ble_eq_true rfl) ?_
  exact loop 0 (by omega) _ (zf_s (zf_s (zf_s zf_rf (by decide)) (by decide)) (by decide)) ⟨by simp [zw_s, zq_go], by simp [zw_s, zq_go], by simp [zw_s, zq_go]⟩ rfl
set_option maxRecDepth 100000 in
set_option maxHeartbeats 600000 in
theorem mX4_isWhole {l : zw_Lh} {d : Nat} {M : zw_M} {ρ : zR} (hG : zG M ρ) : zw_C l (d + 4) iX4_isWhole [.ref 3, .ref 1] M (fun v M1 => v = some (.int (zn_B (zq_whole ρ))) ∧ zw_fr [3] M M1 ∧ zq M1 (zq_go ρ ρ.1).2) := by
  have h40 := hG.1
  have hgl := zq_go_le ρ ρ.1
  obtain ⟨k1, k2, k3, k4⟩ := zq_go_ok ρ ρ.1
  refine zw_of (by decide +kernel) (Nat.le_of_ble_eq_true rfl) ?_
  refine zy_loc (L1 := [.ref 3, .ref 1]) rfl ?_
  refine zx_aload_n dX4_isWhole_0 rfl ?_
  refine zx_aload_n dX4_isWhole_1 rfl ?_
  refine zx_callV (y1 := iX4_faultIn) dX4_isWhole_2 lX4_18 vX4_faultIn rc_3 (mX4_faultIn hG) rfl rfl (Nat.le_of_ble_eq_true rfl) ?_
  intro v M1 he
  obtain ⟨rfl, hf, hq⟩ := he
  have hG1 := zG_f hf hG (by decide)
  refine zx_aload_n dX4_isWhole_5 rfl ?_
  refine zx_callV (y1 := iX3_length) dX4_isWhole_6 lX4_22 vX3_length rc_1 (mX3_length hG1) rfl rfl (Nat.le_of_ble_eq_true rfl) ?_
  refine zk_i ?_
  refine zy_icmp_ne (tgt := 35) dX4_isWhole_9 (by decide) (by omega) (fun h_9 => ?_) (fun h_9 => ?_)
  · refine zx_iconst (v := zn_I 0) dX4_isWhole_35 rfl ?_
    refine zx_iret (st := []) dX4_isWhole_36 rfl rfl ?_
    first | exact ⟨by rw [zn_B, if_pos (by omega)], hf, hq⟩ | exact ⟨by rw [zn_B, if_neg (by omega)], hf, hq⟩
  · refine zx_aload_n dX4_isWhole_12 rfl ?_
    refine zy_geti dX4_isWhole_13 fX4_9 (hq.1) ?_
    refine zx_iconst (v := zn_I 2) dX4_isWhole_16 rfl ?_
    refine zy_icmp_lt (tgt := 35) dX4_isWhole_17 (by decide) (by omega) (fun h_17 => ?_) (fun h_17 => ?_)
    · refine zx_iconst (v := zn_I 0) dX4_isWhole_35 rfl ?_
      refine zx_iret (st := []) dX4_isWhole_36 rfl rfl ?_
      first | exact ⟨by rw [zn_B, if_pos (by omega)], hf, hq⟩ | exact ⟨by rw [zn_B, if_neg (by omega)], hf, hq⟩
    · refine zx_aload_n dX4_isWhole_20 rfl ?_
      refine zy_geti dX4_isWhole_21 fX4_28 (hq.2.2) ?_
      refine zx_aload_n dX4_isWhole_24 rfl ?_
      refine zy_geti dX4_isWhole_25 fX4_15 (hq.2.1) ?_
      refine zy_icmp_ne (tgt := 35) dX4_isWhole_28 (by decide) (by omega) (fun h_28 => ?_) (fun h_28 => ?_)
      · refine zx_iconst (v := zn_I 0) dX4_isWhole_35 rfl ?_
        refine zx_iret (st := []) dX4_isWhole_36 rfl rfl ?_
        first | exact ⟨by rw [zn_B, if_pos (by omega)], hf, hq⟩ | exact ⟨by rw [zn_B, if_neg (by omega)], hf, hq⟩
      · refine zx_iconst (v := zn_I 1) dX4_isWhole_31 rfl ?_
        refine zx_goto (tgt := 36) dX4_isWhole_32 (by decide) ?_
        refine zx_iret (st := []) dX4_isWhole_36 rfl rfl ?_
        first | exact ⟨by rw [zn_B, if_pos (by omega)], hf, hq⟩ | exact ⟨by rw [zn_B, if_neg (by omega)], hf, hq⟩
