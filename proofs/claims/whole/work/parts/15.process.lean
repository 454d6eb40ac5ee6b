/-! PROCESSIONS -/
def zo_opp (v : Int) : Int := if v = 1 then 3 else if v = 2 then 4 else if v = 3 then 1 else if v = 4 then 2 else 0
theorem zo_opp_rng (v : Int) : 0 ≤ zo_opp v ∧ zo_opp v ≤ 4 := by
  unfold zo_opp
  (repeat' split) <;> omega
/-- the way of the letter q, turned round or not -/
def zo_v (ρ : zR) (turned : Bool) (q : Nat) : Int := if turned then zo_opp (zg_way (zg_at ρ q)) else zg_way (zg_at ρ q)
theorem zo_v_rng (ρ : zR) (t : Bool) (q : Nat) : 0 ≤ zo_v ρ t q ∧ zo_v ρ t q ≤ 4 := by
  unfold zo_v
  have h1 := zo_opp_rng (zg_way (zg_at ρ q))
  have h2 := zg_way_rng (zg_at ρ q)
  split <;> omega
/-- where a procession from a square is in a quarter; none: it has left the island -/
def zo_p (π : zP) (ρ : zR) (t : Bool) (s : Nat) : Nat → Option Nat
  | 0 => some s
  | q + 1 => match zo_p π ρ t s q with
    | none => none
    | some a => if zp_step π a (zo_v ρ t q) = -1 then none else some (zp_step π a (zo_v ρ t q)).toNat
theorem zo_p_none {π : zP} {ρ : zR} {t : Bool} {s : Nat} : ∀ {i j : Nat}, i ≤ j → zo_p π ρ t s i = none → zo_p π ρ t s j = none
  | i, 0, h, e => by
    have : i = 0 := by omega
    subst this
    exact e
  | i, j + 1, h, e => by
    rcases Nat.lt_or_ge i (j + 1) with q | q
    · rw [zo_p, zo_p_none (show i ≤ j by omega) e]
    · have : i = j + 1 := by omega
      subst this
      exact e
theorem zp_step_rng {π : zP} {a : Nat} (ha : a < zp_n π) (v : Int) : zp_step π a v = -1 ∨ (0 ≤ zp_step π a v ∧ zp_step π a v < zp_n π) := by
  obtain ⟨hw0, hr0, hm, hq⟩ := zp_w0 ha
  have h1 : a % π.2.1 < π.2.1 - 1 → a + 1 < zp_n π := fun h => by
    have e := Nat.div_add_mod a π.2.1
    have h2 : π.2.1 * (a / π.2.1 + 1) ≤ π.2.1 * π.1 := Nat.mul_le_mul_left _ hq
    rw [Nat.mul_add, Nat.mul_one] at h2
    rw [zp_n, Nat.mul_comm]
    omega
  have hml := Nat.mod_le a π.2.1
  unfold zp_step
  (repeat' split) <;> omega
theorem zo_p_lt {π : zP} {ρ : zR} {t : Bool} {s : Nat} (hs : s < zp_n π) : ∀ {q a : Nat}, zo_p π ρ t s q = some a → a < zp_n π
  | 0, a, h => by cases h; exact hs
  | q + 1, a, h => by
    rw [zo_p] at h
    cases e : zo_p π ρ t s q with
    | none => rw [e] at h; cases h
    | some b =>
      rw [e] at h
      dsimp only at h
      have hb := zo_p_lt hs e
      have hr := zp_step_rng hb (zo_v ρ t q)
      split at h
      · cases h
      · cases h; omega
/-- a procession stays on the island -/
abbrev zo_ok (π : zP) (ρ : zR) (t : Bool) (s : Nat) : Prop := (zo_p π ρ t s 7).isSome = true
def zo_sq (π : zP) (ρ : zR) (t : Bool) (s q : Nat) : Nat := (zo_p π ρ t s q).getD 0
theorem zo_some {π : zP} {ρ : zR} {t : Bool} {s : Nat} (h : zo_ok π ρ t s) {q : Nat} (hq : q ≤ 7) : zo_p π ρ t s q = some (zo_sq π ρ t s q) := by
  cases e : zo_p π ρ t s q with
  | none => rw [zo_ok, zo_p_none hq e] at h; cases h
  | some a => rw [zo_sq, e]; rfl
/-- wet doors in all quarters together with both processions of a weight -/
def zo_wet (π : zP) (E S : Nat → Int) (w : Int) (p1 p2 : Nat → Nat) : Nat :=
  zc_sum (fun q => zp_wc π (E q + w * (zp_e π (p1 q) + zp_e π (p2 q))) (S q + w * (zp_s π (p1 q) + zp_s π (p2 q)))) 8
theorem zo_wet_le (π : zP) (E S : Nat → Int) (w : Int) (p1 p2 : Nat → Nat) : zo_wet π E S w p1 p2 ≤ 256 := zc_sum_le (fun q => zp_wc_le π _ _) 8
theorem zp_w2 {π : zP} (hp : π.1 ≤ 5 ∧ π.2.1 ≤ 6) {a b : Nat} (ha : a < zp_n π) (hb : b < zp_n π) {w : Int} (hw : 1 ≤ w ∧ w ≤ 99) : (-2000 ≤ w * (zp_e π a + zp_e π b) ∧ w * (zp_e π a + zp_e π b) ≤ 2000) ∧ -2000 ≤ w * (zp_s π a + zp_s π b) ∧ w * (zp_s π a + zp_s π b) ≤ 2000 := by
  have h1 := zp_w99 hp ha hw
  have h2 := zp_w99 hp hb hw
  rw [Int.mul_add, Int.mul_add]
  omega
/-- the first square of the least among those that count -/
def zc_o (g : Nat → Option Nat) : Nat → Int × Int
  | 0 => (-1, 0)
  | s + 1 => match g s with
    | none => zc_o g s
    | some x => if (zc_o g s).1 = -1 ∨ (x : Int) < (zc_o g s).2 then ((s : Int), (x : Int)) else zc_o g s
theorem zc_o_rng {g : Nat → Option Nat} {B : Nat} (h : ∀ q x, g q = some x → x ≤ B) : ∀ s, -1 ≤ (zc_o g s).1 ∧ (zc_o g s).1 < (s : Int) + 1 ∧ 0 ≤ (zc_o g s).2 ∧ (zc_o g s).2 ≤ (B : Int)
  | 0 => by simp [zc_o]
  | s + 1 => by
    have ih := zc_o_rng h s
    rw [zc_o]
    split
    · omega
    · next x e =>
      have hs := h s x e
      split
      · dsimp only; omega
      · omega
def zo_g (π : zP) (ρ : zR) (E S : Nat → Int) (w : Int) (s1 s : Nat) : Option Nat := if zo_ok π ρ true s then some (zo_wet π E S w (zo_sq π ρ false s1) (zo_sq π ρ true s)) else none
theorem zo_g_le {π : zP} {ρ : zR} {E S : Nat → Int} {w : Int} {s1 : Nat} : ∀ q x, zo_g π ρ E S w s1 q = some x → x ≤ 256 := fun q x h => by
  unfold zo_g at h
  split at h
  · rw [← Option.some.inj h]; exact zo_wet_le _ _ _ _ _ _
  · cases h
set_option maxRecDepth 100000 in
set_option maxHeartbeats 600000 in
theorem mX5_turnedRound {l : Launch} {d : Nat} {M : zw_M} {v : Int} (hv : 0 ≤ v ∧ v ≤ 4) : zw_C l d iX5_turnedRound [.int (zn_I v)] M (zw_i (zn_I (zo_opp v)) M) := by
  refine zw_of (by decide +kernel) (Nat.le_of_ble_eq_true rfl) ?_
  refine zy_loc (L1 := [.int (zn_I v)]) rfl ?_
  refine zx_iload_n dX5_turnedRound_0 rfl ?_
  rcases (show v = 1 ∨ v = 2 ∨ v = 3 ∨ v = 4 ∨ (v < 1 ∨ 4 < v) by omega) with h_1 | h_1 | h_1 | h_1 | h_1
  · refine zx_tin (z := 1) (tgt := 32) dX5_turnedRound_1 ((zn_toInt ⟨by omega, by omega⟩).trans h_1) (by decide) (by decide) rfl (by decide) ?_
    refine zx_iconst (v := zn_I 3) dX5_turnedRound_32 rfl ?_
    refine zx_iret (st := []) dX5_turnedRound_33 rfl rfl ?_
    exact zk_I (by unfold zo_opp; (repeat' split) <;> omega)
  · refine zx_tin (z := 2) (tgt := 34) dX5_turnedRound_1 ((zn_toInt ⟨by omega, by omega⟩).trans h_1) (by decide) (by decide) rfl (by decide) ?_
    refine zx_iconst (v := zn_I 4) dX5_turnedRound_34 rfl ?_
    refine zx_iret (st := []) dX5_turnedRound_35 rfl rfl ?_
    exact zk_I (by unfold zo_opp; (repeat' split) <;> omega)
  · refine zx_tin (z := 3) (tgt := 36) dX5_turnedRound_1 ((zn_toInt ⟨by omega, by omega⟩).trans h_1) (by decide) (by decide) rfl (by decide) ?_
    refine zx_iconst (v := zn_I 1) dX5_turnedRound_36 rfl ?_
    refine zx_iret (st := []) dX5_turnedRound_37 rfl rfl ?_
    exact zk_I (by unfold zo_opp; (repeat' split) <;> omega)
  · refine zx_tin (z := 4) (tgt := 38) dX5_turnedRound_1 ((zn_toInt ⟨by omega, by omega⟩).trans h_1) (by decide) (by decide) rfl (by decide) ?_
    refine zx_iconst (v := zn_I 2) dX5_turnedRound_38 rfl ?_
    refine zx_iret (st := []) dX5_turnedRound_39 rfl rfl ?_
    exact zk_I (by unfold zo_opp; (repeat' split) <;> omega)
  · refine zx_tout (tgt := 40) dX5_turnedRound_1 (by rw [zn_toInt ⟨by omega, by omega⟩]; exact h_1) (by decide) ?_
    refine zx_iconst (v := zn_I 0) dX5_turnedRound_40 rfl ?_
    refine zx_iret (st := []) dX5_turnedRound_41 rfl rfl ?_
    exact zk_I (by unfold zo_opp; (repeat' split) <;> omega)
set_option maxRecDepth 100000 in
set_option maxHeartbeats 600000 in
theorem mX5_firstGoesFrom {l : Launch} {d : Nat} {M : zw_M} {π : zP} {ρ : zR} (hI : zI M π) (hG : zG M ρ) {s : Nat} (hs : s < zp_n π) : zw_C l (d + 3) iX5_firstGoesFrom [.ref 16, .int (zn_I (s : Int))] M (fun v M1 => v = some (.int (zn_B (zo_ok π ρ false s))) ∧ zw_fr [17] M M1 ∧ (zo_ok π ρ false s → ∀ q, q < 8 → M1.1 17 q = zn_I (zo_sq π ρ false s q : Nat))) := by
  have hp := hI.1
  have h30 := zp_30 hp
  have h40 := hG.1
  refine zw_of (by decide +kernel) (Nat.le_of_ble_eq_true rfl) ?_
  refine zy_loc (L1 := [.ref 16, .int (zn_I (s : Int)), .retAddr 0, .retAddr 0]) rfl ?_
  have loop : ∀ q : Nat, q ≤ 8 → ∀ (M1 : zw_M) (a : Nat), zw_fr [17] M M1 → zo_p π ρ false s (q - 1) = some a → (∀ i, i < q → zo_p π ρ false s i = some (zo_sq π ρ false s i) ∧ M1.1 17 i = zn_I (zo_sq π ρ false s i : Nat)) → zw_X l (d + 3) iX5_firstGoesFrom (fun v M1 => v = some (.int (zn_B (zo_ok π ρ false s))) ∧ zw_fr [17] M M1 ∧ (zo_ok π ρ false s → ∀ q, q < 8 → M1.1 17 q = zn_I (zo_sq π ρ false s q : Nat))) 4 [.ref 16, .int (zn_I (s : Int)), .int (zn_I (a : Int)), .int (zn_I (q : Int))] [] M1 := by
    refine zw_loop 8 (P := fun q => ∀ (M1 : zw_M) (a : Nat), zw_fr [17] M M1 → zo_p π ρ false s (q - 1) = some a → (∀ i, i < q → zo_p π ρ false s i = some (zo_sq π ρ false s i) ∧ M1.1 17 i = zn_I (zo_sq π ρ false s i : Nat)) → zw_X l (d + 3) iX5_firstGoesFrom (fun v M1 => v = some (.int (zn_B (zo_ok π ρ false s))) ∧ zw_fr [17] M M1 ∧ (zo_ok π ρ false s → ∀ q, q < 8 → M1.1 17 q = zn_I (zo_sq π ρ false s q : Nat))) 4 [.ref 16, .int (zn_I (s : Int)), .int (zn_I (a : Int)), .int (zn_I (q : Int))] [] M1) (fun q hq8 ih M1 a hf ha hpr => ?_)
    have hI1 := zI_f hf hI (by decide)
    have hG1 := zG_f hf hG (by decide)
    have hla := zo_p_lt hs ha
    have hvr := zo_v_rng ρ false (q - 1)
    have hsr := zp_step_rng hla (zo_v ρ false (q - 1))
    refine zx_iload_n dX5_firstGoesFrom_4 rfl ?_
    refine zx_bipush (v := zn_I 8) dX5_firstGoesFrom_5 (by decide) ?_
    refine zy_icmp_ge (tgt := 57) dX5_firstGoesFrom_7 (by decide) (by omega) (fun h_7 => ?_) (fun h_7 => ?_)
    · refine zx_iconst (v := zn_I 1) dX5_firstGoesFrom_57 rfl ?_
      refine zx_iret (st := []) dX5_firstGoesFrom_58 rfl rfl ?_
      have hok : zo_ok π ρ false s := by
        have := (hpr 7 (by omega)).1
        rw [zo_ok, this]
        rfl
      exact ⟨by rw [zn_B, if_pos hok], hf, fun _ i hi => (hpr i (by omega)).2⟩
    · refine zx_iload_n dX5_firstGoesFrom_10 rfl ?_
      refine zy_if_ne (tgt := 18) dX5_firstGoesFrom_11 (by decide) (by omega) (fun h_11 => ?_) (fun h_11 => ?_)
      · refine zx_aload_n dX5_firstGoesFrom_18 rfl ?_
        refine zx_getr dX5_firstGoesFrom_19 fX5_22 ?_
        refine zx_iload_n dX5_firstGoesFrom_22 rfl ?_
        refine zx_aload_n dX5_firstGoesFrom_23 rfl ?_
        refine zx_getr dX5_firstGoesFrom_24 fX5_18 ?_
        refine zx_iload_n dX5_firstGoesFrom_27 rfl ?_
        refine zx_iconst (v := zn_I 1) dX5_firstGoesFrom_28 rfl ?_
        refine zy_isub dX5_firstGoesFrom_29 ?_
        refine zy_top (show _ = zn_I ((q - 1 : Nat) : Int) from congrArg zn_I (by omega)) ?_
        refine zx_callV (y1 := iX3_wayAt) dX5_firstGoesFrom_30 lX5_37 vX3_wayAt rc_1 (mX3_wayAt hG1 (z := ((q - 1 : Nat) : Int)) (by omega)) rfl rfl (Nat.le_of_ble_eq_true rfl) ?_
        refine zk_i ?_
        refine zy_top (show _ = zn_I (zo_v ρ false (q - 1)) from rfl) ?_
        refine zx_callV (y1 := iX1_step) dX5_firstGoesFrom_33 lX5_43 vX1_step rc_4 (mX1_step hI1 (s := a) hla (v := zo_v ρ false (q - 1)) (by omega)) rfl rfl (Nat.le_of_ble_eq_true rfl) ?_
        refine zk_i ?_
        refine zx_istore_n dX5_firstGoesFrom_36 rfl (Nat.le_of_ble_eq_true rfl) ?_
        have hq1 : zo_p π ρ false s q = some (zp_step π a (zo_v ρ false (q - 1))).toNat ∨ zp_step π a (zo_v ρ false (q - 1)) = -1 := by
          by_cases e : zp_step π a (zo_v ρ false (q - 1)) = -1
          · exact Or.inr e
          · left
            obtain ⟨q1, rfl⟩ : ∃ q1, q = q1 + 1 := ⟨q - 1, by omega⟩
            rw [Nat.add_sub_cancel] at ha e
            rw [zo_p, ha]
            dsimp only
            rw [if_neg e]
            rfl
        refine zx_iload_n dX5_firstGoesFrom_37 rfl ?_
        refine zx_iconst (v := zn_I (-1)) dX5_firstGoesFrom_38 rfl ?_
        refine zy_icmp_ne (tgt := 44) dX5_firstGoesFrom_39 (by decide) (by omega) (fun h_39 => ?_) (fun h_39 => ?_)
        · refine zx_aload_n dX5_firstGoesFrom_44 rfl ?_
          refine zx_getr dX5_firstGoesFrom_45 fX5_9 ?_
          refine zx_iload_n dX5_firstGoesFrom_48 rfl ?_
          refine zx_iload_n dX5_firstGoesFrom_49 rfl ?_
          refine zy_iast dX5_firstGoesFrom_50 rfl (by decide) rfl (by omega) ?_
          refine zy_iinc dX5_firstGoesFrom_51 rfl rfl ?_
          refine zx_goto (tgt := 4) dX5_firstGoesFrom_54 (by decide) ?_
          have hq2 := hq1.resolve_right h_39
          obtain ⟨b, hb⟩ : ∃ b : Nat, b = (zp_step π a (zo_v ρ false (q - 1))).toNat := ⟨_, rfl⟩
          have hbz : zp_step π a (zo_v ρ false (q - 1)) = (b : Int) := by omega
          rw [← hb] at hq2
          rw [hbz]
          have hsq : zo_sq π ρ false s q = b := by rw [zo_sq, hq2]; rfl
          refine ih (by omega) _ b (zf_s hf (by decide)) (by rw [Nat.add_sub_cancel]; exact hq2) (fun i hi => ?_)
          by_cases e : i = q
          · subst e; rw [hsq]; exact ⟨hq2, by simp [zw_s]⟩
          · have := hpr i (by omega); refine ⟨this.1, ?_⟩; simp [zw_s, e, this.2]
        · refine zx_iconst (v := zn_I 0) dX5_firstGoesFrom_42 rfl ?_
          refine zx_iret (st := []) dX5_firstGoesFrom_43 rfl rfl ?_
          have hno : ¬ zo_ok π ρ false s := by
            obtain ⟨q1, rfl⟩ : ∃ q1, q = q1 + 1 := ⟨q - 1, by omega⟩
            have e : zo_p π ρ false s (q1 + 1) = none := by
              rw [Nat.add_sub_cancel] at ha h_39
              rw [zo_p, ha]
              dsimp only
              rw [if_pos h_39]
            intro z
            rw [zo_ok, zo_p_none (show q1 + 1 ≤ 7 by omega) e] at z
            cases z
          exact ⟨by rw [zn_B, if_neg hno], hf, fun z => absurd z hno⟩
      · refine zx_iload_n dX5_firstGoesFrom_14 rfl ?_
        refine zx_goto (tgt := 36) dX5_firstGoesFrom_15 (by decide) ?_
        refine zx_istore_n dX5_firstGoesFrom_36 rfl (Nat.le_of_ble_eq_true rfl) ?_
        have hq0 : q = 0 := by omega
        subst hq0
        have has : a = s := by cases ha; rfl
        subst has
        refine zx_iload_n dX5_firstGoesFrom_37 rfl ?_
        refine zx_iconst (v := zn_I (-1)) dX5_firstGoesFrom_38 rfl ?_
        refine zy_icmp_ne (tgt := 44) dX5_firstGoesFrom_39 (by decide) (by omega) (fun h_39 => ?_) (fun h_39 => ?_)
        · refine zx_aload_n dX5_firstGoesFrom_44 rfl ?_
          refine zx_getr dX5_firstGoesFrom_45 fX5_9 ?_
          refine zx_iload_n dX5_firstGoesFrom_48 rfl ?_
          refine zx_iload_n dX5_firstGoesFrom_49 rfl ?_
          refine zy_iast dX5_firstGoesFrom_50 rfl (by decide) rfl (by omega) ?_
          refine zy_iinc dX5_firstGoesFrom_51 rfl rfl ?_
          refine zx_goto (tgt := 4) dX5_firstGoesFrom_54 (by decide) ?_
          refine ih (by omega) _ a (zf_s hf (by decide)) rfl (fun i hi => ?_)
          have : i = 0 := by omega
          subst this
          exact ⟨rfl, by simp [zw_s, zo_sq, zo_p]⟩
        · refine zx_iconst (v := zn_I 0) dX5_firstGoesFrom_42 rfl ?_
          refine zx_iret (st := []) dX5_firstGoesFrom_43 rfl rfl ?_
          exact absurd h_39 (by omega)
  refine zx_iload_n dX5_firstGoesFrom_0 rfl ?_
  refine zx_istore_n dX5_firstGoesFrom_1 rfl (Nat.le_of_ble_eq_true rfl) ?_
  refine zx_iconst (v := zn_I 0) dX5_firstGoesFrom_2 rfl ?_
  refine zx_istore_n dX5_firstGoesFrom_3 rfl (Nat.le_of_ble_eq_true rfl) ?_
  exact loop 0 (by omega) M s zf_rf rfl (fun i hi => absurd hi (by omega))
set_option maxRecDepth 100000 in
set_option maxHeartbeats 600000 in
theorem mX5_secondGoesFrom {l : Launch} {d : Nat} {M : zw_M} {π : zP} {ρ : zR} (hI : zI M π) (hG : zG M ρ) {s : Nat} (hs : s < zp_n π) : zw_C l (d + 3) iX5_secondGoesFrom [.ref 16, .int (zn_I (s : Int))] M (fun v M1 => v = some (.int (zn_B (zo_ok π ρ true s))) ∧ zw_fr [18] M M1 ∧ (zo_ok π ρ true s → ∀ q, q < 8 → M1.1 18 q = zn_I (zo_sq π ρ true s q : Nat))) := by
  have hp := hI.1
  have h30 := zp_30 hp
  have h40 := hG.1
  refine zw_of (by decide +kernel) (Nat.le_of_ble_eq_true rfl) ?_
  refine zy_loc (L1 := [.ref 16, .int (zn_I (s : Int)), .retAddr 0, .retAddr 0]) rfl ?_
  have loop : ∀ q : Nat, q ≤ 8 → ∀ (M1 : zw_M) (a : Nat), zw_fr [18] M M1 → zo_p π ρ true s (q - 1) = some a → (∀ i, i < q → zo_p π ρ true s i = some (zo_sq π ρ true s i) ∧ M1.1 18 i = zn_I (zo_sq π ρ true s i : Nat)) → zw_X l (d + 3) iX5_secondGoesFrom (fun v M1 => v = some (.int (zn_B (zo_ok π ρ true s))) ∧ zw_fr [18] M M1 ∧ (zo_ok π ρ true s → ∀ q, q < 8 → M1.1 18 q = zn_I (zo_sq π ρ true s q : Nat))) 4 [.ref 16, .int (zn_I (s : Int)), .int (zn_I (a : Int)), .int (zn_I (q : Int))] [] M1 := by
    refine zw_loop 8 (P := fun q => ∀ (M1 : zw_M) (a : Nat), zw_fr [18] M M1 → zo_p π ρ true s (q - 1) = some a → (∀ i, i < q → zo_p π ρ true s i = some (zo_sq π ρ true s i) ∧ M1.1 18 i = zn_I (zo_sq π ρ true s i : Nat)) → zw_X l (d + 3) iX5_secondGoesFrom (fun v M1 => v = some (.int (zn_B (zo_ok π ρ true s))) ∧ zw_fr [18] M M1 ∧ (zo_ok π ρ true s → ∀ q, q < 8 → M1.1 18 q = zn_I (zo_sq π ρ true s q : Nat))) 4 [.ref 16, .int (zn_I (s : Int)), .int (zn_I (a : Int)), .int (zn_I (q : Int))] [] M1) (fun q hq8 ih M1 a hf ha hpr => ?_)
    have hI1 := zI_f hf hI (by decide)
    have hG1 := zG_f hf hG (by decide)
    have hla := zo_p_lt hs ha
    have hvr := zo_v_rng ρ true (q - 1)
    have hsr := zp_step_rng hla (zo_v ρ true (q - 1))
    refine zx_iload_n dX5_secondGoesFrom_4 rfl ?_
    refine zx_bipush (v := zn_I 8) dX5_secondGoesFrom_5 (by decide) ?_
    refine zy_icmp_ge (tgt := 60) dX5_secondGoesFrom_7 (by decide) (by omega) (fun h_7 => ?_) (fun h_7 => ?_)
    · refine zx_iconst (v := zn_I 1) dX5_secondGoesFrom_60 rfl ?_
      refine zx_iret (st := []) dX5_secondGoesFrom_61 rfl rfl ?_
      have hok : zo_ok π ρ true s := by
        have := (hpr 7 (by omega)).1
        rw [zo_ok, this]
        rfl
      exact ⟨by rw [zn_B, if_pos hok], hf, fun _ i hi => (hpr i (by omega)).2⟩
    · refine zx_iload_n dX5_secondGoesFrom_10 rfl ?_
      refine zy_if_ne (tgt := 18) dX5_secondGoesFrom_11 (by decide) (by omega) (fun h_11 => ?_) (fun h_11 => ?_)
      · refine zx_aload_n dX5_secondGoesFrom_18 rfl ?_
        refine zx_getr dX5_secondGoesFrom_19 fX5_22 ?_
        refine zx_iload_n dX5_secondGoesFrom_22 rfl ?_
        refine zx_aload_n dX5_secondGoesFrom_23 rfl ?_
        refine zx_getr dX5_secondGoesFrom_24 fX5_18 ?_
        refine zx_iload_n dX5_secondGoesFrom_27 rfl ?_
        refine zx_iconst (v := zn_I 1) dX5_secondGoesFrom_28 rfl ?_
        refine zy_isub dX5_secondGoesFrom_29 ?_
        refine zy_top (show _ = zn_I ((q - 1 : Nat) : Int) from congrArg zn_I (by omega)) ?_
        refine zx_callV (y1 := iX3_wayAt) dX5_secondGoesFrom_30 lX5_37 vX3_wayAt rc_1 (mX3_wayAt hG1 (z := ((q - 1 : Nat) : Int)) (by omega)) rfl rfl (Nat.le_of_ble_eq_true rfl) ?_
        refine zk_i ?_
        refine zx_callS (y1 := iX5_turnedRound) dX5_secondGoesFrom_33 lX5_49 sX5_turnedRound (mX5_turnedRound (v := zg_way (zg_at ρ ((q - 1 : Nat) : Int))) (zg_way_rng _)) rfl rfl (Nat.le_of_ble_eq_true rfl) ?_
        refine zk_i ?_
        refine zy_top (show _ = zn_I (zo_v ρ true (q - 1)) from rfl) ?_
        refine zx_callV (y1 := iX1_step) dX5_secondGoesFrom_36 lX5_43 vX1_step rc_4 (mX1_step hI1 (s := a) hla (v := zo_v ρ true (q - 1)) (by omega)) rfl rfl (Nat.le_of_ble_eq_true rfl) ?_
        refine zk_i ?_
        refine zx_istore_n dX5_secondGoesFrom_39 rfl (Nat.le_of_ble_eq_true rfl) ?_
        have hq1 : zo_p π ρ true s q = some (zp_step π a (zo_v ρ true (q - 1))).toNat ∨ zp_step π a (zo_v ρ true (q - 1)) = -1 := by
          by_cases e : zp_step π a (zo_v ρ true (q - 1)) = -1
          · exact Or.inr e
          · left
            obtain ⟨q1, rfl⟩ : ∃ q1, q = q1 + 1 := ⟨q - 1, by omega⟩
            rw [Nat.add_sub_cancel] at ha e
            rw [zo_p, ha]
            dsimp only
            rw [if_neg e]
            rfl
        refine zx_iload_n dX5_secondGoesFrom_40 rfl ?_
        refine zx_iconst (v := zn_I (-1)) dX5_secondGoesFrom_41 rfl ?_
        refine zy_icmp_ne (tgt := 47) dX5_secondGoesFrom_42 (by decide) (by omega) (fun h_42 => ?_) (fun h_42 => ?_)
        · refine zx_aload_n dX5_secondGoesFrom_47 rfl ?_
          refine zx_getr dX5_secondGoesFrom_48 fX5_15 ?_
          refine zx_iload_n dX5_secondGoesFrom_51 rfl ?_
          refine zx_iload_n dX5_secondGoesFrom_52 rfl ?_
          refine zy_iast dX5_secondGoesFrom_53 rfl (by decide) rfl (by omega) ?_
          refine zy_iinc dX5_secondGoesFrom_54 rfl rfl ?_
          refine zx_goto (tgt := 4) dX5_secondGoesFrom_57 (by decide) ?_
          have hq2 := hq1.resolve_right h_42
          obtain ⟨b, hb⟩ : ∃ b : Nat, b = (zp_step π a (zo_v ρ true (q - 1))).toNat := ⟨_, rfl⟩
          have hbz : zp_step π a (zo_v ρ true (q - 1)) = (b : Int) := by omega
          rw [← hb] at hq2
          rw [hbz]
          have hsq : zo_sq π ρ true s q = b := by rw [zo_sq, hq2]; rfl
          refine ih (by omega) _ b (zf_s hf (by decide)) (by rw [Nat.add_sub_cancel]; exact hq2) (fun i hi => ?_)
          by_cases e : i = q
          · subst e; rw [hsq]; exact ⟨hq2, by simp [zw_s]⟩
          · have := hpr i (by omega); refine ⟨this.1, ?_⟩; simp [zw_s, e, this.2]
        · refine zx_iconst (v := zn_I 0) dX5_secondGoesFrom_45 rfl ?_
          refine zx_iret (st := []) dX5_secondGoesFrom_46 rfl rfl ?_
          have hno : ¬ zo_ok π ρ true s := by
            obtain ⟨q1, rfl⟩ : ∃ q1, q = q1 + 1 := ⟨q - 1, by omega⟩
            have e : zo_p π ρ true s (q1 + 1) = none := by
              rw [Nat.add_sub_cancel] at ha h_42
              rw [zo_p, ha]
              dsimp only
              rw [if_pos h_42]
            intro z
            rw [zo_ok, zo_p_none (show q1 + 1 ≤ 7 by omega) e] at z
            cases z
          exact ⟨by rw [zn_B, if_neg hno], hf, fun z => absurd z hno⟩
      · refine zx_iload_n dX5_secondGoesFrom_14 rfl ?_
        refine zx_goto (tgt := 39) dX5_secondGoesFrom_15 (by decide) ?_
        refine zx_istore_n dX5_secondGoesFrom_39 rfl (Nat.le_of_ble_eq_true rfl) ?_
        have hq0 : q = 0 := by omega
        subst hq0
        have has : a = s := by cases ha; rfl
        subst has
        refine zx_iload_n dX5_secondGoesFrom_40 rfl ?_
        refine zx_iconst (v := zn_I (-1)) dX5_secondGoesFrom_41 rfl ?_
        refine zy_icmp_ne (tgt := 47) dX5_secondGoesFrom_42 (by decide) (by omega) (fun h_42 => ?_) (fun h_42 => ?_)
        · refine zx_aload_n dX5_secondGoesFrom_47 rfl ?_
          refine zx_getr dX5_secondGoesFrom_48 fX5_15 ?_
          refine zx_iload_n dX5_secondGoesFrom_51 rfl ?_
          refine zx_iload_n dX5_secondGoesFrom_52 rfl ?_
          refine zy_iast dX5_secondGoesFrom_53 rfl (by decide) rfl (by omega) ?_
          refine zy_iinc dX5_secondGoesFrom_54 rfl rfl ?_
          refine zx_goto (tgt := 4) dX5_secondGoesFrom_57 (by decide) ?_
          refine ih (by omega) _ a (zf_s hf (by decide)) rfl (fun i hi => ?_)
          have : i = 0 := by omega
          subst this
          exact ⟨rfl, by simp [zw_s, zo_sq, zo_p]⟩
        · refine zx_iconst (v := zn_I 0) dX5_secondGoesFrom_45 rfl ?_
          refine zx_iret (st := []) dX5_secondGoesFrom_46 rfl rfl ?_
          exact absurd h_42 (by omega)
  refine zx_iload_n dX5_secondGoesFrom_0 rfl ?_
  refine zx_istore_n dX5_secondGoesFrom_1 rfl (Nat.le_of_ble_eq_true rfl) ?_
  refine zx_iconst (v := zn_I 0) dX5_secondGoesFrom_2 rfl ?_
  refine zx_istore_n dX5_secondGoesFrom_3 rfl (Nat.le_of_ble_eq_true rfl) ?_
  exact loop 0 (by omega) M s zf_rf rfl (fun i hi => absurd hi (by omega))
set_option maxRecDepth 100000 in
set_option maxHeartbeats 600000 in
theorem mX5_wetDoorsWithBoth {l : Launch} {d : Nat} {M : zw_M} {π : zP} {E S : Nat → Int} (hI : zI M π) (hd : zd M E S) {w : Int} (hw : 1 ≤ w ∧ w ≤ 99) {p1 p2 : Nat → Nat} (h1 : ∀ q, q < 8 → M.1 17 q = zn_I (p1 q : Nat) ∧ p1 q < zp_n π) (h2 : ∀ q, q < 8 → M.1 18 q = zn_I (p2 q : Nat) ∧ p2 q < zp_n π) : zw_C l (d + 3) iX5_wetDoorsWithBoth [.ref 16, .int (zn_I w)] M (zw_i (zn_I (zo_wet π E S w p1 p2 : Nat)) M) := by
  have hp := hI.1
  refine zw_of (by decide +kernel) (Nat.le_of_ble_eq_true rfl) ?_
  refine zy_loc (L1 := [.ref 16, .int (zn_I w), .retAddr 0, .retAddr 0, .retAddr 0, .retAddr 0, .retAddr 0, .retAddr 0]) rfl ?_
  have loop : ∀ s : Nat, s ≤ 8 → ∀ v4 v5 v6 v7 : Value, zw_X l (d + 3) iX5_wetDoorsWithBoth (zw_i (zn_I (zo_wet π E S w p1 p2 : Nat)) M) 4 [.ref 16, .int (zn_I w), .int (zn_I (zc_sum (fun q => zp_wc π (E q + w * (zp_e π (p1 q) + zp_e π (p2 q))) (S q + w * (zp_s π (p1 q) + zp_s π (p2 q)))) s : Nat)), .int (zn_I (s : Nat)), v4, v5, v6, v7] [] M := by
    refine zw_loop 8 (P := fun s => ∀ v4 v5 v6 v7 : Value, zw_X l (d + 3) iX5_wetDoorsWithBoth (zw_i (zn_I (zo_wet π E S w p1 p2 : Nat)) M) 4 [.ref 16, .int (zn_I w), .int (zn_I (zc_sum (fun q => zp_wc π (E q + w * (zp_e π (p1 q) + zp_e π (p2 q))) (S q + w * (zp_s π (p1 q) + zp_s π (p2 q)))) s : Nat)), .int (zn_I (s : Nat)), v4, v5, v6, v7] [] M) (fun s hs ih v4 v5 v6 v7 => ?_)
    refine zx_iload_n dX5_wetDoorsWithBoth_4 rfl ?_
    refine zx_bipush (v := zn_I 8) dX5_wetDoorsWithBoth_5 (by decide) ?_
    refine zy_icmp_ge (tgt := 93) dX5_wetDoorsWithBoth_7 (by decide) (by omega) (fun h_7 => ?_) (fun h_7 => ?_)
    · refine zx_iload_n dX5_wetDoorsWithBoth_93 rfl ?_
      refine zx_iret (st := []) dX5_wetDoorsWithBoth_94 rfl rfl ?_
      exact zk_I (by rw [show s = 8 by omega]; rfl)
    · refine zx_aload_n dX5_wetDoorsWithBoth_10 rfl ?_
      refine zx_getr dX5_wetDoorsWithBoth_11 fX5_9 ?_
      refine zx_iload_n dX5_wetDoorsWithBoth_14 rfl ?_
      refine zy_iald dX5_wetDoorsWithBoth_15 rfl (by decide) rfl (by omega) (h1 s (by omega)).1 ?_
      refine zx_istore dX5_wetDoorsWithBoth_16 rfl (Nat.le_of_ble_eq_true rfl) ?_
      refine zx_aload_n dX5_wetDoorsWithBoth_18 rfl ?_
      refine zx_getr dX5_wetDoorsWithBoth_19 fX5_15 ?_
      refine zx_iload_n dX5_wetDoorsWithBoth_22 rfl ?_
      refine zy_iald dX5_wetDoorsWithBoth_23 rfl (by decide) rfl (by omega) (h2 s (by omega)).1 ?_
      refine zx_istore dX5_wetDoorsWithBoth_24 rfl (Nat.le_of_ble_eq_true rfl) ?_
      refine zx_iload_n dX5_wetDoorsWithBoth_26 rfl ?_
      refine zx_aload_n dX5_wetDoorsWithBoth_27 rfl ?_
      refine zx_getr dX5_wetDoorsWithBoth_28 fX5_22 ?_
      refine zx_iload dX5_wetDoorsWithBoth_31 rfl ?_
      refine zx_callV (y1 := iX1_east) dX5_wetDoorsWithBoth_33 lX5_68 vX1_east rc_4 (mX1_east_in hI (s := p1 s) (h1 s (by omega)).2) rfl rfl (Nat.le_of_ble_eq_true rfl) ?_
      refine zk_i ?_
      refine zx_aload_n dX5_wetDoorsWithBoth_36 rfl ?_
      refine zx_getr dX5_wetDoorsWithBoth_37 fX5_22 ?_
      refine zx_iload dX5_wetDoorsWithBoth_40 rfl ?_
      refine zx_callV (y1 := iX1_east) dX5_wetDoorsWithBoth_42 lX5_68 vX1_east rc_4 (mX1_east_in hI (s := p2 s) (h2 s (by omega)).2) rfl rfl (Nat.le_of_ble_eq_true rfl) ?_
      refine zk_i ?_
      refine zy_iadd dX5_wetDoorsWithBoth_45 ?_
      refine zy_imul dX5_wetDoorsWithBoth_46 ?_
      refine zx_istore dX5_wetDoorsWithBoth_47 rfl (Nat.le_of_ble_eq_true rfl) ?_
      refine zx_iload_n dX5_wetDoorsWithBoth_49 rfl ?_
      refine zx_aload_n dX5_wetDoorsWithBoth_50 rfl ?_
      refine zx_getr dX5_wetDoorsWithBoth_51 fX5_22 ?_
      refine zx_iload dX5_wetDoorsWithBoth_54 rfl ?_
      refine zx_callV (y1 := iX1_south) dX5_wetDoorsWithBoth_56 lX5_71 vX1_south rc_4 (mX1_south_in hI (s := p1 s) (h1 s (by omega)).2) rfl rfl (Nat.le_of_ble_eq_true rfl) ?_
      refine zk_i ?_
      refine zx_aload_n dX5_wetDoorsWithBoth_59 rfl ?_
      refine zx_getr dX5_wetDoorsWithBoth_60 fX5_22 ?_
      refine zx_iload dX5_wetDoorsWithBoth_63 rfl ?_
      refine zx_callV (y1 := iX1_south) dX5_wetDoorsWithBoth_65 lX5_71 vX1_south rc_4 (mX1_south_in hI (s := p2 s) (h2 s (by omega)).2) rfl rfl (Nat.le_of_ble_eq_true rfl) ?_
      refine zk_i ?_
      refine zy_iadd dX5_wetDoorsWithBoth_68 ?_
      refine zy_imul dX5_wetDoorsWithBoth_69 ?_
      refine zx_istore dX5_wetDoorsWithBoth_70 rfl (Nat.le_of_ble_eq_true rfl) ?_
      refine zx_iload_n dX5_wetDoorsWithBoth_72 rfl ?_
      refine zx_aload_n dX5_wetDoorsWithBoth_73 rfl ?_
      refine zx_getr dX5_wetDoorsWithBoth_74 fX5_26 ?_
      refine zx_iload_n dX5_wetDoorsWithBoth_77 rfl ?_
      refine zx_iload dX5_wetDoorsWithBoth_78 rfl ?_
      refine zx_iload dX5_wetDoorsWithBoth_80 rfl ?_
      refine zx_callV (y1 := iX0_wetDoorsWith) dX5_wetDoorsWithBoth_82 lX5_74 vX0_wetDoorsWith rc_13 (mX0_wetDoorsWith hI hd (q := s) (by omega) (by have := zp_w2 hp (h1 s (by omega)).2 (h2 s (by omega)).2 hw; omega) (by have := zp_w2 hp (h1 s (by omega)).2 (h2 s (by omega)).2 hw; omega)) rfl rfl (Nat.le_of_ble_eq_true rfl) ?_
      refine zk_i ?_
      refine zy_iadd dX5_wetDoorsWithBoth_85 ?_
      refine zx_istore_n dX5_wetDoorsWithBoth_86 rfl (Nat.le_of_ble_eq_true rfl) ?_
      refine zy_iinc dX5_wetDoorsWithBoth_87 rfl rfl ?_
      refine zx_goto (tgt := 4) dX5_wetDoorsWithBoth_90 (by decide) ?_
      exact ih (by omega) _ _ _ _
  refine zx_iconst (v := zn_I 0) dX5_wetDoorsWithBoth_0 rfl ?_
  refine zx_istore_n dX5_wetDoorsWithBoth_1 rfl (Nat.le_of_ble_eq_true rfl) ?_
  refine zx_iconst (v := zn_I 0) dX5_wetDoorsWithBoth_2 rfl ?_
  refine zx_istore_n dX5_wetDoorsWithBoth_3 rfl (Nat.le_of_ble_eq_true rfl) ?_
  exact loop 0 (by omega) _ _ _ _
set_option maxRecDepth 100000 in
set_option maxHeartbeats 600000 in
theorem mX5_search {l : Launch} {d : Nat} {M : zw_M} {π : zP} {ρ : zR} {τ : zQ} (hI : zI M π) (hG : zG M ρ) (hT : zT M (zp_n π) τ) {w : Int} (hw : 1 ≤ w ∧ w ≤ 99) {s1 : Nat} (h1 : ∀ q, q < 8 → M.1 17 q = zn_I (zo_sq π ρ false s1 q : Nat) ∧ zo_sq π ρ false s1 q < zp_n π) : zw_C l (d + 5) iX5_search [.ref 16, .int (zn_I w)] M (fun v M1 => v = none ∧ zw_fr [14, 15, 16, 18] M M1 ∧ M1.1 16 5 = zn_I (zc_o (zo_g π ρ (zl_E π τ) (zl_S π τ) w s1) (zp_n π)).1 ∧ M1.1 16 6 = zn_I (zc_o (zo_g π ρ (zl_E π τ) (zl_S π τ) w s1) (zp_n π)).2) := by
  have hp := hI.1
  have h30 := zp_30 hp
  refine zw_of (by decide +kernel) (Nat.le_of_ble_eq_true rfl) ?_
  refine zy_loc (L1 := [.ref 16, .int (zn_I w), .retAddr 0, .retAddr 0]) rfl ?_
  refine zx_aload_n dX5_search_0 rfl ?_
  refine zx_getr dX5_search_1 fX5_26 ?_
  refine zx_callV (y1 := iX0_weigh) dX5_search_4 lX5_52 vX0_weigh rc_13 (mX0_weigh hI hT) rfl rfl (Nat.le_of_ble_eq_true rfl) ?_
  intro v M0 hw1
  obtain ⟨rfl, hf0, hd0⟩ := hw1
  have loop : ∀ s : Nat, s ≤ zp_n π → ∀ (M1 : zw_M) (v3 : Value), zw_fr [14, 15, 16, 18] M M1 → zd M1 (zl_E π τ) (zl_S π τ) → M1.1 16 5 = zn_I (zc_o (zo_g π ρ (zl_E π τ) (zl_S π τ) w s1) s).1 → M1.1 16 6 = zn_I (zc_o (zo_g π ρ (zl_E π τ) (zl_S π τ) w s1) s).2 → zw_X l (d + 5) iX5_search (fun v M1 => v = none ∧ zw_fr [14, 15, 16, 18] M M1 ∧ M1.1 16 5 = zn_I (zc_o (zo_g π ρ (zl_E π τ) (zl_S π τ) w s1) (zp_n π)).1 ∧ M1.1 16 6 = zn_I (zc_o (zo_g π ρ (zl_E π τ) (zl_S π τ) w s1) (zp_n π)).2) 19 [.ref 16, .int (zn_I w), .int (zn_I (s : Int)), v3] [] M1 := by
    refine zw_loop (zp_n π) (P := fun s => ∀ (M1 : zw_M) (v3 : Value), zw_fr [14, 15, 16, 18] M M1 → zd M1 (zl_E π τ) (zl_S π τ) → M1.1 16 5 = zn_I (zc_o (zo_g π ρ (zl_E π τ) (zl_S π τ) w s1) s).1 → M1.1 16 6 = zn_I (zc_o (zo_g π ρ (zl_E π τ) (zl_S π τ) w s1) s).2 → zw_X l (d + 5) iX5_search (fun v M1 => v = none ∧ zw_fr [14, 15, 16, 18] M M1 ∧ M1.1 16 5 = zn_I (zc_o (zo_g π ρ (zl_E π τ) (zl_S π τ) w s1) (zp_n π)).1 ∧ M1.1 16 6 = zn_I (zc_o (zo_g π ρ (zl_E π τ) (zl_S π τ) w s1) (zp_n π)).2) 19 [.ref 16, .int (zn_I w), .int (zn_I (s : Int)), v3] [] M1) (fun s hs ih M1 v3 hf hd hst hwd => ?_)
    have hI1 := zI_f hf hI (by decide)
    have hG1 := zG_f hf hG (by decide)
    have hrg := zc_o_rng (g := (zo_g π ρ (zl_E π τ) (zl_S π τ) w s1)) zo_g_le s
    refine zx_iload_n dX5_search_19 rfl ?_
    refine zx_aload_n dX5_search_20 rfl ?_
    refine zx_getr dX5_search_21 fX5_22 ?_
    refine zx_callV (y1 := iX1_squares) dX5_search_24 lX5_57 vX1_squares rc_4 (mX1_squares hI1) rfl rfl (Nat.le_of_ble_eq_true rfl) ?_
    refine zk_i ?_
    refine zy_icmp_ge (tgt := 76) dX5_search_27 (by decide) (by omega) (fun h_27 => ?_) (fun h_27 => ?_)
    · refine zx_vret (st := []) dX5_search_76 rfl ?_
      exact ⟨rfl, hf, by rw [show zp_n π = s by omega]; exact hst, by rw [show zp_n π = s by omega]; exact hwd⟩
    · refine zx_aload_n dX5_search_30 rfl ?_
      refine zx_iload_n dX5_search_31 rfl ?_
      refine zx_callV (y1 := iX5_secondGoesFrom) dX5_search_32 lX5_61 vX5_secondGoesFrom rc_16 (mX5_secondGoesFrom hI1 hG1 (s := s) (by omega)) rfl rfl (Nat.le_of_ble_eq_true rfl) ?_
      intro v M2 he
      obtain ⟨rfl, hf2, hsec⟩ := he
      have hf3 := zf_tr hf (zf_mono hf2 (by decide))
      have hI2 := zI_f hf3 hI (by decide)
      have hd2 := zd_f hf2 hd (by decide)
      have hst2 : M2.1 16 5 = zn_I (zc_o (zo_g π ρ (zl_E π τ) (zl_S π τ) w s1) s).1 := by rw [(hf2 16 (by decide)).1]; exact hst
      have hwd2 : M2.1 16 6 = zn_I (zc_o (zo_g π ρ (zl_E π τ) (zl_S π τ) w s1) s).2 := by rw [(hf2 16 (by decide)).1]; exact hwd
      refine zy_ifB_eq (tgt := 70) dX5_search_35 (by decide) (fun h_35 => ?_) (fun h_35 => ?_)
      · refine zy_iinc dX5_search_70 rfl rfl ?_
        refine zx_goto (tgt := 19) dX5_search_73 (by decide) ?_
        have e : zc_o (zo_g π ρ (zl_E π τ) (zl_S π τ) w s1) (s + 1) = zc_o (zo_g π ρ (zl_E π τ) (zl_S π τ) w s1) s := by rw [zc_o, show (zo_g π ρ (zl_E π τ) (zl_S π τ) w s1) s = none by rw [zo_g, if_neg h_35]]
        exact ih (by omega) _ _ hf3 hd2 (by rw [e]; exact hst2) (by rw [e]; exact hwd2)
      · have hgs : (zo_g π ρ (zl_E π τ) (zl_S π τ) w s1) s = some (zo_wet π (zl_E π τ) (zl_S π τ) w (zo_sq π ρ false s1) (zo_sq π ρ true s)) := by rw [zo_g, if_pos h_35]
        have hwl := zo_wet_le π (zl_E π τ) (zl_S π τ) w (zo_sq π ρ false s1) (zo_sq π ρ true s)
        refine zx_aload_n dX5_search_38 rfl ?_
        refine zx_iload_n dX5_search_39 rfl ?_
        refine zx_callV (y1 := iX5_wetDoorsWithBoth) dX5_search_40 lX5_65 vX5_wetDoorsWithBoth rc_16 (mX5_wetDoorsWithBoth hI2 hd2 hw (p1 := zo_sq π ρ false s1) (p2 := zo_sq π ρ true s) (fun q hq => ⟨by rw [(hf3 17 (by decide)).1]; exact (h1 q hq).1, (h1 q hq).2⟩) (fun q hq => ⟨hsec h_35 q hq, zo_p_lt (show s < zp_n π by omega) (zo_some h_35 (by omega))⟩)) rfl rfl (Nat.le_of_ble_eq_true rfl) ?_
        refine zk_i ?_
        refine zx_istore_n dX5_search_43 rfl (Nat.le_of_ble_eq_true rfl) ?_
        refine zx_aload_n dX5_search_44 rfl ?_
        refine zy_geti dX5_search_45 fX5_30 hst2 ?_
        refine zx_iconst (v := zn_I (-1)) dX5_search_48 rfl ?_
        refine zy_icmp_eq (tgt := 60) dX5_search_49 (by decide) (by omega) (fun h_49 => ?_) (fun h_49 => ?_)
        · refine zx_aload_n dX5_search_60 rfl ?_
          refine zx_iload_n dX5_search_61 rfl ?_
          refine zx_puti dX5_search_62 fX5_30 ?_
          refine zx_aload_n dX5_search_65 rfl ?_
          refine zx_iload_n dX5_search_66 rfl ?_
          refine zx_puti dX5_search_67 fX5_34 ?_
          refine zy_iinc dX5_search_70 rfl rfl ?_
          refine zx_goto (tgt := 19) dX5_search_73 (by decide) ?_
          have e : zc_o (zo_g π ρ (zl_E π τ) (zl_S π τ) w s1) (s + 1) = ((s : Int), ((zo_wet π (zl_E π τ) (zl_S π τ) w (zo_sq π ρ false s1) (zo_sq π ρ true s) : Nat) : Int)) := by rw [zc_o, hgs]; dsimp only; rw [if_pos (by omega)]
          exact ih (by omega) _ _ (zf_s (zf_s hf3 (by decide)) (by decide)) (zd_f (zf_s (S := [16]) (zf_s zf_rf (by decide)) (by decide)) hd2 (by decide)) (by rw [e]; simp [zw_s]) (by rw [e]; simp [zw_s])
        · refine zx_iload_n dX5_search_52 rfl ?_
          refine zx_aload_n dX5_search_53 rfl ?_
          refine zy_geti dX5_search_54 fX5_34 hwd2 ?_
          refine zy_icmp_ge (tgt := 70) dX5_search_57 (by decide) (by omega) (fun h_57 => ?_) (fun h_57 => ?_)
          · refine zy_iinc dX5_search_70 rfl rfl ?_
            refine zx_goto (tgt := 19) dX5_search_73 (by decide) ?_
            have e : zc_o (zo_g π ρ (zl_E π τ) (zl_S π τ) w s1) (s + 1) = zc_o (zo_g π ρ (zl_E π τ) (zl_S π τ) w s1) s := by rw [zc_o, hgs]; dsimp only; rw [if_neg (by omega)]
            exact ih (by omega) _ _ hf3 hd2 (by rw [e]; exact hst2) (by rw [e]; exact hwd2)
          · refine zx_aload_n dX5_search_60 rfl ?_
            refine zx_iload_n dX5_search_61 rfl ?_
            refine zx_puti dX5_search_62 fX5_30 ?_
            refine zx_aload_n dX5_search_65 rfl ?_
            refine zx_iload_n dX5_search_66 rfl ?_
            refine zx_puti dX5_search_67 fX5_34 ?_
            refine zy_iinc dX5_search_70 rfl rfl ?_
            refine zx_goto (tgt := 19) dX5_search_73 (by decide) ?_
            have e : zc_o (zo_g π ρ (zl_E π τ) (zl_S π τ) w s1) (s + 1) = ((s : Int), ((zo_wet π (zl_E π τ) (zl_S π τ) w (zo_sq π ρ false s1) (zo_sq π ρ true s) : Nat) : Int)) := by rw [zc_o, hgs]; dsimp only; rw [if_pos (by omega)]
            exact ih (by omega) _ _ (zf_s (zf_s hf3 (by decide)) (by decide)) (zd_f (zf_s (S := [16]) (zf_s zf_rf (by decide)) (by decide)) hd2 (by decide)) (by rw [e]; simp [zw_s]) (by rw [e]; simp [zw_s])
  refine zx_aload_n dX5_search_7 rfl ?_
  refine zx_iconst (v := zn_I (-1)) dX5_search_8 rfl ?_
  refine zx_puti dX5_search_9 fX5_30 ?_
  refine zx_aload_n dX5_search_12 rfl ?_
  refine zx_iconst (v := zn_I 0) dX5_search_13 rfl ?_
  refine zx_puti dX5_search_14 fX5_34 ?_
  refine zx_iconst (v := zn_I 0) dX5_search_17 rfl ?_
  refine zx_istore_n dX5_search_18 rfl (Nat.le_of_ble_eq_true rfl) ?_
  exact loop 0 (by omega) _ _ (zf_s (zf_s (zf_mono hf0 (by decide)) (by decide)) (by decide)) (zd_f (zf_s (S := [16]) (zf_s zf_rf (by decide)) (by decide)) hd0 (by decide)) (by simp [zw_s, zc_o]) (by simp [zw_s, zc_o])
set_option maxRecDepth 100000 in
set_option maxHeartbeats 600000 in
theorem mX5_start {l : Launch} {d : Nat} {M : zw_M} {x : Int32} (hx : M.1 16 5 = x) : zw_C l d iX5_start [.ref 16] M (zw_i x M) := by
  refine zw_of (by decide +kernel) (Nat.le_of_ble_eq_true rfl) ?_
  refine zy_loc (L1 := [.ref 16]) rfl ?_
  refine zx_aload_n dX5_start_0 rfl ?_
  refine zy_geti dX5_start_1 fX5_30 hx ?_
  refine zx_iret (st := []) dX5_start_4 rfl rfl ?_
  exact ⟨rfl, rfl⟩
set_option maxRecDepth 100000 in
set_option maxHeartbeats 600000 in
theorem mX5_wetDoors {l : Launch} {d : Nat} {M : zw_M} {x : Int32} (hx : M.1 16 6 = x) : zw_C l d iX5_wetDoors [.ref 16] M (zw_i x M) := by
  refine zw_of (by decide +kernel) (Nat.le_of_ble_eq_true rfl) ?_
  refine zy_loc (L1 := [.ref 16]) rfl ?_
  refine zx_aload_n dX5_wetDoors_0 rfl ?_
  refine zy_geti dX5_wetDoors_1 fX5_34 hx ?_
  refine zx_iret (st := []) dX5_wetDoors_4 rfl rfl ?_
  exact ⟨rfl, rfl⟩
