/-! STONES AND MOSS -/
def zs_room (π : zP) (E S : Nat → Int) (s : Nat) : Int := if π.2.2 s = 0 then 1000000 else 50 * π.2.2 s - zp_top π E S (s : Int)
/-- no door is wet in any quarter among the first squares, with what comes to the leans -/
def zs_dry (π : zP) (E S : Nat → Int) (a b : Int) : Nat → Bool
  | 0 => true
  | s + 1 => zs_dry π E S a b s && !decide (zs_room π E S s ≤ zp_dip π s a b)
theorem zs_dry_stop {π : zP} {E S : Nat → Int} {a b : Int} {s : Nat} (h : zs_room π E S s ≤ zp_dip π s a b) : ∀ n, s < n → zs_dry π E S a b n = false
  | 0, q => absurd q (Nat.not_lt_zero _)
  | n + 1, q => by
    rw [zs_dry]
    rcases Nat.lt_or_ge s n with r | r
    · rw [zs_dry_stop h n r]; rfl
    · have : s = n := by omega
      subst this
      rw [decide_eq_true h]
      simp
/-- the first of those below n that has something -/
def zs_fst {α : Type} (f : Nat → Option α) : Nat → Option α
  | 0 => none
  | s + 1 => match zs_fst f s with
    | some x => some x
    | none => f s
theorem zs_fst_stop {α : Type} {f : Nat → Option α} {s : Nat} {x : α} (h : zs_fst f s = none) (h2 : f s = some x) : ∀ n, s < n → zs_fst f n = some x
  | 0, q => absurd q (Nat.not_lt_zero _)
  | n + 1, q => by
    rw [zs_fst]
    rcases Nat.lt_or_ge s n with r | r
    · rw [zs_fst_stop h h2 n r]
    · have : s = n := by omega
      subst this
      rw [h, h2]
def zs_a (π : zP) (τ : zQ) (t sq : Nat) (a : Int) : Int := a - zt_w τ t * zp_e π (τ.2.2.2 t 0) + zt_w τ t * zp_e π sq
def zs_b (π : zP) (τ : zQ) (t sq : Nat) (b : Int) : Int := b - zt_w τ t * zp_s π (τ.2.2.2 t 0) + zt_w τ t * zp_s π sq
/-- the first way to move r stones, of numbers from least on, so that all doors are dry -/
def zs_mv (π : zP) (τ : zQ) (E S : Nat → Int) : Nat → Nat → Int → Int → Option (List (Nat × Nat))
  | 0, _, a, b => if zs_dry π E S a b (zp_n π) = true then some [] else none
  | r + 1, least, a, b => zs_fst (fun t => if t < least ∨ τ.2.1 t ≠ 1 then none else
      zs_fst (fun sq => if sq = τ.2.2.2 t 0 then none else (zs_mv π τ E S r (t + 1) (zs_a π τ t sq a) (zs_b π τ t sq b)).map (fun l => (t, sq) :: l)) (zp_n π)) τ.1
/-- of one stone -/
def zs_one (π : zP) (τ : zQ) (E S : Nat → Int) (r t : Nat) (a b : Int) (s : Nat) : Option (List (Nat × Nat)) :=
  zs_fst (fun sq => if sq = τ.2.2.2 t 0 then none else (zs_mv π τ E S r (t + 1) (zs_a π τ t sq a) (zs_b π τ t sq b)).map (fun l => (t, sq) :: l)) s
def zs_all (π : zP) (τ : zQ) (E S : Nat → Int) (r least : Nat) (a b : Int) (t : Nat) : Option (List (Nat × Nat)) :=
  zs_fst (fun t => if t < least ∨ τ.2.1 t ≠ 1 then none else zs_one π τ E S r t a b (zp_n π)) t
theorem zs_mv_succ (π : zP) (τ : zQ) (E S : Nat → Int) (r least : Nat) (a b : Int) : zs_mv π τ E S (r + 1) least a b = zs_all π τ E S r least a b τ.1 := rfl
/-- what stands in 'found' behind it -/
def zs_put : Nat → List (Nat × Nat) → (Nat → Int32) → Nat → Int32
  | _, [], f => f
  | m, (t, s) :: l, f => upd (upd (zs_put (m + 1) l f) (1 + 2 * m) (zn_I (t : Int))) (2 + 2 * m) (zn_I (s : Int))
def zs_puto (m : Nat) (o : Option (List (Nat × Nat))) (f : Nat → Int32) : Nat → Int32 := match o with
  | none => f
  | some l => zs_put m l f
theorem zw_s_row {M : zw_M} {q k : Nat} {x : Int32} : (zw_s M q k x).1 q = upd (M.1 q) k x := by
  funext j
  simp [zw_s, upd]
/-- the world of a search for stones -/
def zHS (M : zw_M) (π : zP) (τ : zQ) (E S : Nat → Int) : Prop := zI M π ∧ zT M (zp_n π) τ ∧ (∃ lw : Nat, lw < 30 ∧ M.1 24 5 = zn_I (lw : Int)) ∧ (∀ s, s < zp_n π → M.1 26 s = zn_I (zs_room π E S s) ∧ -10000000 ≤ zs_room π E S s ∧ zs_room π E S s ≤ 10000000)
theorem zHS_f {M M1 : zw_M} {π : zP} {τ : zQ} {E S : Nat → Int} (h : zw_fr [24, 25] M M1) (hl : ∃ lw : Nat, lw < 30 ∧ M1.1 24 5 = zn_I (lw : Int)) (hT : zHS M π τ E S) : zHS M1 π τ E S :=
  ⟨zI_f h hT.1 (by decide), zT_f h hT.2.1 (by decide), hl, by rw [(h 26 (by decide)).1]; exact hT.2.2.2⟩
theorem zs_ab_rng {M : zw_M} {π : zP} {τ : zQ} {E S : Nat → Int} (hH : zHS M π τ E S) {t sq : Nat} (ht : t < τ.1) (hs : sq < zp_n π) {a b B : Int} (ha : -B ≤ a ∧ a ≤ B) (hb : -B ≤ b ∧ b ≤ B) : (-(B + 2000) ≤ zs_a π τ t sq a ∧ zs_a π τ t sq a ≤ B + 2000) ∧ -(B + 2000) ≤ zs_b π τ t sq b ∧ zs_b π τ t sq b ≤ B + 2000 := by
  have h1 := zt_w_rng hH.2.1 ht
  have ho := hH.2.1.2.2.2.2.2.2.2 t ht 0 (by decide)
  have g2 := zp_e_rng hH.1.1 ho
  have g3 := zp_s_rng hH.1.1 ho
  have g4 := zp_e_rng hH.1.1 hs
  have g5 := zp_s_rng hH.1.1 hs
  have k1 := zp_mul_rng (a := zt_w τ t) (e := zp_e π (τ.2.2.2 t 0)) (B := 198) (by omega) (by omega) (by omega) (by omega)
  have k2 := zp_mul_rng (a := zt_w τ t) (e := zp_s π (τ.2.2.2 t 0)) (B := 198) (by omega) (by omega) (by omega) (by omega)
  have k3 := zp_mul_rng (a := zt_w τ t) (e := zp_e π sq) (B := 198) (by omega) (by omega) (by omega) (by omega)
  have k4 := zp_mul_rng (a := zt_w τ t) (e := zp_s π sq) (B := 198) (by omega) (by omega) (by omega) (by omega)
  unfold zs_a zs_b
  omega
set_option maxRecDepth 100000 in
set_option maxHeartbeats 600000 in
theorem mX7_found {l : Launch} {d : Nat} {M : zw_M} {f : Nat → Int32} (hf : M.1 25 = f) {j : Nat} (hj : j < 5) : zw_C l d iX7_found [.ref 24, .int (zn_I (j : Int))] M (zw_i (f j) M) := by
  refine zw_of (by decide +kernel) (Nat.le_of_ble_eq_true rfl) ?_
  refine zy_loc (L1 := [.ref 24, .int (zn_I (j : Int))]) rfl ?_
  refine zx_iload_n dX7_found_0 rfl ?_
  refine zy_if_lt (tgt := 18) dX7_found_1 (by decide) (by omega) (fun h_1 => ?_) (fun h_1 => ?_)
  · exact absurd h_1 (by omega)
  · refine zx_iload_n dX7_found_4 rfl ?_
    refine zx_iconst (v := zn_I 5) dX7_found_5 rfl ?_
    refine zy_icmp_ge (tgt := 18) dX7_found_6 (by decide) (by omega) (fun h_6 => ?_) (fun h_6 => ?_)
    · exact absurd h_6 (by omega)
    · refine zx_aload_n dX7_found_9 rfl ?_
      refine zx_getr dX7_found_10 fX7_11 ?_
      refine zx_iload_n dX7_found_13 rfl ?_
      refine zy_iald dX7_found_14 rfl (by decide) rfl (by omega) (by rw [hf]) ?_
      refine zx_goto (tgt := 19) dX7_found_15 (by decide) ?_
      refine zx_iret (st := []) dX7_found_19 rfl rfl ?_
      exact ⟨rfl, rfl⟩
set_option maxRecDepth 100000 in
set_option maxHeartbeats 600000 in
theorem mX7_isWetWith {l : Launch} {d : Nat} {M : zw_M} {π : zP} {τ : zQ} {E S : Nat → Int} (hH : zHS M π τ E S) {s : Nat} (hs : s < 30) {a b : Int} (ha : -50000 ≤ a ∧ a ≤ 50000) (hb : -50000 ≤ b ∧ b ≤ 50000) : zw_C l (d + 2) iX7_isWetWith [.ref 24, .int (zn_I (s : Int)), .int (zn_I a), .int (zn_I b)] M (zw_i (zn_B (s < zp_n π ∧ zs_room π E S s ≤ zp_dip π s a b)) M) := by
  have hp := hH.1.1
  have h30 := zp_30 hp
  refine zw_of (by decide +kernel) (Nat.le_of_ble_eq_true rfl) ?_
  refine zy_loc (L1 := [.ref 24, .int (zn_I (s : Int)), .int (zn_I a), .int (zn_I b)]) rfl ?_
  refine zx_aload_n dX7_isWetWith_0 rfl ?_
  refine zx_getr dX7_isWetWith_1 fX7_18 ?_
  refine zx_iload_n dX7_isWetWith_4 rfl ?_
  refine zx_callV (y1 := iX1_has) dX7_isWetWith_5 lX7_96 vX1_has rc_4 (mX1_has hH.1 (z := (s : Int)) (by omega)) rfl rfl (Nat.le_of_ble_eq_true rfl) ?_
  refine zk_i ?_
  refine zy_ifB_eq (tgt := 34) dX7_isWetWith_8 (by decide) (fun h_8 => ?_) (fun h_8 => ?_)
  · refine zx_iconst (v := zn_I 0) dX7_isWetWith_34 rfl ?_
    refine zx_iret (st := []) dX7_isWetWith_35 rfl rfl ?_
    first | exact zk_B (zn_Bt (by omega)) | exact zk_B (zn_Bf (by omega))
  · refine zx_aload_n dX7_isWetWith_11 rfl ?_
    refine zx_getr dX7_isWetWith_12 fX7_18 ?_
    refine zx_iload_n dX7_isWetWith_15 rfl ?_
    refine zx_iload_n dX7_isWetWith_16 rfl ?_
    refine zx_iload_n dX7_isWetWith_17 rfl ?_
    refine zx_callV (y1 := iX1_dipOf) dX7_isWetWith_18 lX7_100 vX1_dipOf rc_4 (mX1_dipOf hH.1 (z := (s : Int)) (by omega)) rfl rfl (Nat.le_of_ble_eq_true rfl) ?_
    refine zk_i ?_
    rw [zp_at_in (show s < zp_n π by omega)]
    have hdr := zp_dip_rng (B := 50000) hp (show s < zp_n π by omega) ha hb
    have hrr := (hH.2.2.2 s (by omega)).2
    refine zx_aload_n dX7_isWetWith_21 rfl ?_
    refine zx_getr dX7_isWetWith_22 fX7_15 ?_
    refine zx_iload_n dX7_isWetWith_25 rfl ?_
    refine zy_iald dX7_isWetWith_26 rfl (by decide) rfl (by omega) (hH.2.2.2 s (by omega)).1 ?_
    refine zy_icmp_lt (tgt := 34) dX7_isWetWith_27 (by decide) (by omega) (fun h_27 => ?_) (fun h_27 => ?_)
    · refine zx_iconst (v := zn_I 0) dX7_isWetWith_34 rfl ?_
      refine zx_iret (st := []) dX7_isWetWith_35 rfl rfl ?_
      first | exact zk_B (zn_Bt (by omega)) | exact zk_B (zn_Bf (by omega))
    · refine zx_iconst (v := zn_I 1) dX7_isWetWith_30 rfl ?_
      refine zx_goto (tgt := 35) dX7_isWetWith_31 (by decide) ?_
      refine zx_iret (st := []) dX7_isWetWith_35 rfl rfl ?_
      first | exact zk_B (zn_Bt (by omega)) | exact zk_B (zn_Bf (by omega))
set_option maxRecDepth 100000 in
set_option maxHeartbeats 600000 in
theorem mX7_isDryWith {l : Launch} {d : Nat} {M : zw_M} {π : zP} {τ : zQ} {E S : Nat → Int} (hH : zHS M π τ E S) {a b : Int} (ha : -50000 ≤ a ∧ a ≤ 50000) (hb : -50000 ≤ b ∧ b ≤ 50000) : zw_C l (d + 3) iX7_isDryWith [.ref 24, .int (zn_I a), .int (zn_I b)] M (fun v M1 => v = some (.int (zn_B (zs_dry π E S a b (zp_n π) = true))) ∧ zw_fr [24, 25] M M1 ∧ M1.1 25 = M.1 25 ∧ ∃ lw : Nat, lw < 30 ∧ M1.1 24 5 = zn_I (lw : Int)) := by
  have hp := hH.1.1
  have h30 := zp_30 hp
  obtain ⟨lw, hlw, hlwm⟩ := hH.2.2.1
  refine zw_of (by decide +kernel) (Nat.le_of_ble_eq_true rfl) ?_
  refine zy_loc (L1 := [.ref 24, .int (zn_I a), .int (zn_I b), .retAddr 0]) rfl ?_
  have loop : ∀ s : Nat, s ≤ zp_n π → zs_dry π E S a b s = true → zw_X l (d + 3) iX7_isDryWith (fun v M1 => v = some (.int (zn_B (zs_dry π E S a b (zp_n π) = true))) ∧ zw_fr [24, 25] M M1 ∧ M1.1 25 = M.1 25 ∧ ∃ lw : Nat, lw < 30 ∧ M1.1 24 5 = zn_I (lw : Int)) 17 [.ref 24, .int (zn_I a), .int (zn_I b), .int (zn_I (s : Int))] [] M := by
    refine zw_loop (zp_n π) (P := fun s => zs_dry π E S a b s = true → zw_X l (d + 3) iX7_isDryWith (fun v M1 => v = some (.int (zn_B (zs_dry π E S a b (zp_n π) = true))) ∧ zw_fr [24, 25] M M1 ∧ M1.1 25 = M.1 25 ∧ ∃ lw : Nat, lw < 30 ∧ M1.1 24 5 = zn_I (lw : Int)) 17 [.ref 24, .int (zn_I a), .int (zn_I b), .int (zn_I (s : Int))] [] M) (fun s hs ih hdr => ?_)
    refine zx_iload_n dX7_isDryWith_17 rfl ?_
    refine zx_aload_n dX7_isDryWith_18 rfl ?_
    refine zx_getr dX7_isDryWith_19 fX7_18 ?_
    refine zx_callV (y1 := iX1_squares) dX7_isDryWith_22 lX7_74 vX1_squares rc_4 (mX1_squares hH.1) rfl rfl (Nat.le_of_ble_eq_true rfl) ?_
    refine zk_i ?_
    refine zy_icmp_ge (tgt := 51) dX7_isDryWith_25 (by decide) (by omega) (fun h_25 => ?_) (fun h_25 => ?_)
    · refine zx_iconst (v := zn_I 1) dX7_isDryWith_51 rfl ?_
      refine zx_iret (st := []) dX7_isDryWith_52 rfl rfl ?_
      exact ⟨by rw [show zp_n π = s by omega, hdr]; rfl, zf_rf, rfl, lw, hlw, hlwm⟩
    · refine zx_aload_n dX7_isDryWith_28 rfl ?_
      refine zx_iload_n dX7_isDryWith_29 rfl ?_
      refine zx_iload_n dX7_isDryWith_30 rfl ?_
      refine zx_iload_n dX7_isDryWith_31 rfl ?_
      refine zx_callV (y1 := iX7_isWetWith) dX7_isDryWith_32 lX7_92 vX7_isWetWith rc_24 (mX7_isWetWith hH (s := s) (by omega) ha hb) rfl rfl (Nat.le_of_ble_eq_true rfl) ?_
      refine zk_i ?_
      refine zy_ifB_eq (tgt := 45) dX7_isDryWith_35 (by decide) (fun h_35 => ?_) (fun h_35 => ?_)
      · refine zy_iinc dX7_isDryWith_45 rfl rfl ?_
        refine zx_goto (tgt := 17) dX7_isDryWith_48 (by decide) ?_
        exact ih (by omega) (by rw [zs_dry, hdr, decide_eq_false (fun q => h_35 ⟨by omega, q⟩)]; rfl)
      · refine zx_aload_n dX7_isDryWith_38 rfl ?_
        refine zx_iload_n dX7_isDryWith_39 rfl ?_
        refine zx_puti dX7_isDryWith_40 fX7_81 ?_
        refine zx_iconst (v := zn_I 0) dX7_isDryWith_43 rfl ?_
        refine zx_iret (st := []) dX7_isDryWith_44 rfl rfl ?_
        exact ⟨by rw [zs_dry_stop h_35.2 _ h_35.1]; rfl, zf_s zf_rf (by decide), by funext j; simp [zw_s], s, by omega, by simp [zw_s]⟩
  refine zx_aload_n dX7_isDryWith_0 rfl ?_
  refine zx_aload_n dX7_isDryWith_1 rfl ?_
  refine zy_geti dX7_isDryWith_2 fX7_81 hlwm ?_
  refine zx_iload_n dX7_isDryWith_5 rfl ?_
  refine zx_iload_n dX7_isDryWith_6 rfl ?_
  refine zx_callV (y1 := iX7_isWetWith) dX7_isDryWith_7 lX7_92 vX7_isWetWith rc_24 (mX7_isWetWith hH (s := lw) hlw ha hb) rfl rfl (Nat.le_of_ble_eq_true rfl) ?_
  refine zk_i ?_
  refine zy_ifB_eq (tgt := 15) dX7_isDryWith_10 (by decide) (fun h_10 => ?_) (fun h_10 => ?_)
  · refine zx_iconst (v := zn_I 0) dX7_isDryWith_15 rfl ?_
    refine zx_istore_n dX7_isDryWith_16 rfl (Nat.le_of_ble_eq_true rfl) ?_
    exact loop 0 (by omega) rfl
  · refine zx_iconst (v := zn_I 0) dX7_isDryWith_13 rfl ?_
    refine zx_iret (st := []) dX7_isDryWith_14 rfl rfl ?_
    exact ⟨by rw [zs_dry_stop h_10.2 _ h_10.1]; rfl, zf_rf, rfl, lw, hlw, hlwm⟩
set_option maxRecDepth 100000 in
set_option maxHeartbeats 600000 in
theorem mX7_keepMove {l : Launch} {d : Nat} {M : zw_M} {m t s : Nat} (hm : m ≤ 1) : zw_C l d iX7_keepMove [.ref 24, .int (zn_I (m : Int)), .int (zn_I (t : Int)), .int (zn_I (s : Int))] M (fun v M1 => v = none ∧ zw_fr [25] M M1 ∧ M1.1 25 = upd (upd (M.1 25) (1 + 2 * m) (zn_I (t : Int))) (2 + 2 * m) (zn_I (s : Int))) := by
  refine zw_of (by decide +kernel) (Nat.le_of_ble_eq_true rfl) ?_
  refine zy_loc (L1 := [.ref 24, .int (zn_I (m : Int)), .int (zn_I (t : Int)), .int (zn_I (s : Int)), .retAddr 0]) rfl ?_
  refine zx_iconst (v := zn_I 1) dX7_keepMove_0 rfl ?_
  refine zx_iconst (v := zn_I 2) dX7_keepMove_1 rfl ?_
  refine zx_iload_n dX7_keepMove_2 rfl ?_
  refine zy_imul dX7_keepMove_3 ?_
  refine zy_iadd dX7_keepMove_4 ?_
  refine zx_istore dX7_keepMove_5 rfl (Nat.le_of_ble_eq_true rfl) ?_
  refine zx_iload dX7_keepMove_7 rfl ?_
  refine zx_iconst (v := zn_I 1) dX7_keepMove_9 rfl ?_
  refine zy_icmp_lt (tgt := 39) dX7_keepMove_10 (by decide) (by omega) (fun h_10 => ?_) (fun h_10 => ?_)
  · exact absurd h_10 (by omega)
  · refine zx_iload dX7_keepMove_13 rfl ?_
    refine zx_iconst (v := zn_I 1) dX7_keepMove_15 rfl ?_
    refine zy_iadd dX7_keepMove_16 ?_
    refine zx_iconst (v := zn_I 5) dX7_keepMove_17 rfl ?_
    refine zy_icmp_ge (tgt := 39) dX7_keepMove_18 (by decide) (by omega) (fun h_18 => ?_) (fun h_18 => ?_)
    · exact absurd h_18 (by omega)
    · refine zx_aload_n dX7_keepMove_21 rfl ?_
      refine zx_getr dX7_keepMove_22 fX7_11 ?_
      refine zx_iload dX7_keepMove_25 rfl ?_
      refine zx_iload_n dX7_keepMove_27 rfl ?_
      refine zy_iast (i := 1 + 2 * m) dX7_keepMove_28 rfl (by decide) (by omega) (by omega) ?_
      refine zx_aload_n dX7_keepMove_29 rfl ?_
      refine zx_getr dX7_keepMove_30 fX7_11 ?_
      refine zx_iload dX7_keepMove_33 rfl ?_
      refine zx_iconst (v := zn_I 1) dX7_keepMove_35 rfl ?_
      refine zy_iadd dX7_keepMove_36 ?_
      refine zx_iload_n dX7_keepMove_37 rfl ?_
      refine zy_iast (i := 2 + 2 * m) dX7_keepMove_38 rfl (by decide) (by omega) (by omega) ?_
      refine zx_vret (st := []) dX7_keepMove_39 rfl ?_
      refine ⟨rfl, zf_s (zf_s zf_rf (by decide)) (by decide), ?_⟩
      rw [zw_s_row, zw_s_row]
set_option maxRecDepth 100000 in
set_option maxHeartbeats 600000 in
theorem mX7_moveOf {l : Launch} {d r : Nat} {π : zP} {τ : zQ} {E S : Nat → Int} (hrec : ∀ (m least : Nat) (a b : Int) (M : zw_M), m + r ≤ 2 → least ≤ 100 → (-2000 * (m : Int) ≤ a ∧ a ≤ 2000 * (m : Int)) → (-2000 * (m : Int) ≤ b ∧ b ≤ 2000 * (m : Int)) → zHS M π τ E S → zw_C l (d + 2 * r + 4) iX7_movesKeepDry [.ref 24, .int (zn_I ((m + r : Nat) : Int)), .int (zn_I (m : Int)), .int (zn_I (least : Int)), .int (zn_I a), .int (zn_I b)] M (fun v M1 => v = some (.int (zn_B ((zs_mv π τ E S r least a b).isSome = true))) ∧ zw_fr [24, 25] M M1 ∧ M1.1 25 = zs_puto m (zs_mv π τ E S r least a b) (M.1 25) ∧ ∃ lw : Nat, lw < 30 ∧ M1.1 24 5 = zn_I (lw : Int))) {m t : Nat} {a b : Int} {M : zw_M} (hm : m + (r + 1) ≤ 2) (ht : t < τ.1) (ha : -2000 * (m : Int) ≤ a ∧ a ≤ 2000 * (m : Int)) (hb : -2000 * (m : Int) ≤ b ∧ b ≤ 2000 * (m : Int)) (hH : zHS M π τ E S) : zw_C l (d + 2 * r + 5) iX7_moveOfKeepsDry [.ref 24, .int (zn_I (t : Int)), .int (zn_I ((m + (r + 1) : Nat) : Int)), .int (zn_I (m : Int)), .int (zn_I a), .int (zn_I b)] M (fun v M1 => v = some (.int (zn_B ((zs_one π τ E S r t a b (zp_n π)).isSome = true))) ∧ zw_fr [24, 25] M M1 ∧ M1.1 25 = zs_puto m (zs_one π τ E S r t a b (zp_n π)) (M.1 25) ∧ ∃ lw : Nat, lw < 30 ∧ M1.1 24 5 = zn_I (lw : Int)) := by
  have hp := hH.1.1
  have h30 := zp_30 hp
  have h8 := hH.2.1.1
  have hab := fun s hs => zs_ab_rng hH (t := t) (sq := s) ht hs (B := 2000 * (m : Int)) (a := a) (b := b) (by omega) (by omega)
  have hown := hH.2.1.2.2.2.2.2.2.2 t ht 0 (by decide)
  refine zw_of (by decide +kernel) (Nat.le_of_ble_eq_true rfl) ?_
  refine zy_loc (L1 := [.ref 24, .int (zn_I (t : Int)), .int (zn_I ((m + (r + 1) : Nat) : Int)), .int (zn_I (m : Int)), .int (zn_I a), .int (zn_I b), .retAddr 0, .retAddr 0, .retAddr 0, .retAddr 0, .retAddr 0]) rfl ?_
  have loop : ∀ s : Nat, s ≤ zp_n π → ∀ M1 : zw_M, zs_one π τ E S r t a b s = none → zw_fr [24, 25] M M1 → M1.1 25 = M.1 25 → (∃ lw : Nat, lw < 30 ∧ M1.1 24 5 = zn_I (lw : Int)) → zw_X l (d + 2 * r + 5) iX7_moveOfKeepsDry (fun v M1 => v = some (.int (zn_B ((zs_one π τ E S r t a b (zp_n π)).isSome = true))) ∧ zw_fr [24, 25] M M1 ∧ M1.1 25 = zs_puto m (zs_one π τ E S r t a b (zp_n π)) (M.1 25) ∧ ∃ lw : Nat, lw < 30 ∧ M1.1 24 5 = zn_I (lw : Int)) 58 [.ref 24, .int (zn_I (t : Int)), .int (zn_I ((m + (r + 1) : Nat) : Int)), .int (zn_I (m : Int)), .int (zn_I a), .int (zn_I b), .int (zn_I (τ.2.2.2 t 0 : Nat)), .int (zn_I (zt_w τ t)), .int (zn_I (a - zt_w τ t * zp_e π (τ.2.2.2 t 0))), .int (zn_I (b - zt_w τ t * zp_s π (τ.2.2.2 t 0))), .int (zn_I (s : Int))] [] M1 := by
    refine zw_loop (zp_n π) (P := fun s => ∀ M1 : zw_M, zs_one π τ E S r t a b s = none → zw_fr [24, 25] M M1 → M1.1 25 = M.1 25 → (∃ lw : Nat, lw < 30 ∧ M1.1 24 5 = zn_I (lw : Int)) → zw_X l (d + 2 * r + 5) iX7_moveOfKeepsDry (fun v M1 => v = some (.int (zn_B ((zs_one π τ E S r t a b (zp_n π)).isSome = true))) ∧ zw_fr [24, 25] M M1 ∧ M1.1 25 = zs_puto m (zs_one π τ E S r t a b (zp_n π)) (M.1 25) ∧ ∃ lw : Nat, lw < 30 ∧ M1.1 24 5 = zn_I (lw : Int)) 58 [.ref 24, .int (zn_I (t : Int)), .int (zn_I ((m + (r + 1) : Nat) : Int)), .int (zn_I (m : Int)), .int (zn_I a), .int (zn_I b), .int (zn_I (τ.2.2.2 t 0 : Nat)), .int (zn_I (zt_w τ t)), .int (zn_I (a - zt_w τ t * zp_e π (τ.2.2.2 t 0))), .int (zn_I (b - zt_w τ t * zp_s π (τ.2.2.2 t 0))), .int (zn_I (s : Int))] [] M1) (fun s hs ihs M1 hno hf h25 hl => ?_)
    have hH1 := zHS_f hf hl hH
    refine zx_iload dX7_moveOfKeepsDry_58 rfl ?_
    refine zx_aload_n dX7_moveOfKeepsDry_60 rfl ?_
    refine zx_getr dX7_moveOfKeepsDry_61 fX7_18 ?_
    refine zx_callV (y1 := iX1_squares) dX7_moveOfKeepsDry_64 lX7_74 vX1_squares rc_4 (mX1_squares hH1.1) rfl rfl (Nat.le_of_ble_eq_true rfl) ?_
    refine zk_i ?_
    refine zy_icmp_ge (tgt := 137) dX7_moveOfKeepsDry_67 (by decide) (by omega) (fun h_67 => ?_) (fun h_67 => ?_)
    · refine zx_iconst (v := zn_I 0) dX7_moveOfKeepsDry_137 rfl ?_
      refine zx_iret (st := []) dX7_moveOfKeepsDry_138 rfl rfl ?_
      have hone : zs_one π τ E S r t a b (zp_n π) = none := by rw [show zp_n π = s by omega]; exact hno
      rw [hone]
      exact ⟨rfl, hf, h25, hl⟩
    · refine zx_iload dX7_moveOfKeepsDry_70 rfl ?_
      refine zx_iload dX7_moveOfKeepsDry_72 rfl ?_
      refine zy_icmp_eq (tgt := 131) dX7_moveOfKeepsDry_74 (by decide) (by omega) (fun h_74 => ?_) (fun h_74 => ?_)
      · refine zy_iinc dX7_moveOfKeepsDry_131 rfl rfl ?_
        refine zx_goto (tgt := 58) dX7_moveOfKeepsDry_134 (by decide) ?_
        exact ihs (by omega) M1 (by unfold zs_one; rw [zs_fst]; unfold zs_one at hno; rw [hno]; dsimp only; rw [if_pos (by omega)]) hf h25 hl
      · refine zx_aload_n dX7_moveOfKeepsDry_77 rfl ?_
        refine zx_iload_n dX7_moveOfKeepsDry_78 rfl ?_
        refine zx_iload_n dX7_moveOfKeepsDry_79 rfl ?_
        refine zx_iconst (v := zn_I 1) dX7_moveOfKeepsDry_80 rfl ?_
        refine zy_iadd dX7_moveOfKeepsDry_81 ?_
        refine zx_iload_n dX7_moveOfKeepsDry_82 rfl ?_
        refine zx_iconst (v := zn_I 1) dX7_moveOfKeepsDry_83 rfl ?_
        refine zy_iadd dX7_moveOfKeepsDry_84 ?_
        refine zx_iload dX7_moveOfKeepsDry_85 rfl ?_
        refine zx_iload dX7_moveOfKeepsDry_87 rfl ?_
        refine zx_aload_n dX7_moveOfKeepsDry_89 rfl ?_
        refine zx_getr dX7_moveOfKeepsDry_90 fX7_18 ?_
        refine zx_iload dX7_moveOfKeepsDry_93 rfl ?_
        refine zx_callV (y1 := iX1_east) dX7_moveOfKeepsDry_95 lX7_66 vX1_east rc_4 (mX1_east_in hH1.1 (s := s) (by omega)) rfl rfl (Nat.le_of_ble_eq_true rfl) ?_
        refine zk_i ?_
        refine zy_imul dX7_moveOfKeepsDry_98 ?_
        refine zy_iadd dX7_moveOfKeepsDry_99 ?_
        refine zx_iload dX7_moveOfKeepsDry_100 rfl ?_
        refine zx_iload dX7_moveOfKeepsDry_102 rfl ?_
        refine zx_aload_n dX7_moveOfKeepsDry_104 rfl ?_
        refine zx_getr dX7_moveOfKeepsDry_105 fX7_18 ?_
        refine zx_iload dX7_moveOfKeepsDry_108 rfl ?_
        refine zx_callV (y1 := iX1_south) dX7_moveOfKeepsDry_110 lX7_71 vX1_south rc_4 (mX1_south_in hH1.1 (s := s) (by omega)) rfl rfl (Nat.le_of_ble_eq_true rfl) ?_
        refine zk_i ?_
        refine zy_imul dX7_moveOfKeepsDry_113 ?_
        refine zy_iadd dX7_moveOfKeepsDry_114 ?_
        have hrc := hrec (m + 1) (t + 1) (zs_a π τ t s a) (zs_b π τ t s b) M1 (by omega) (by omega) (by have := hab s (by omega); omega) (by have := hab s (by omega); omega) hH1
        rw [show m + 1 + r = m + (r + 1) by omega] at hrc
        refine zx_callV (y1 := iX7_movesKeepDry) dX7_moveOfKeepsDry_115 lX7_38 vX7_movesKeepDry rc_24 (hrc) rfl rfl (Nat.le_of_ble_eq_true rfl) ?_
        intro v M2 he
        obtain ⟨rfl, hf2, h252, hl2⟩ := he
        refine zy_ifB_eq (tgt := 131) dX7_moveOfKeepsDry_118 (by decide) (fun h_118 => ?_) (fun h_118 => ?_)
        · refine zy_iinc dX7_moveOfKeepsDry_131 rfl rfl ?_
          refine zx_goto (tgt := 58) dX7_moveOfKeepsDry_134 (by decide) ?_
          exact ihs (by omega) M2 (by
            have hn : zs_mv π τ E S r (t + 1) (zs_a π τ t s a) (zs_b π τ t s b) = none := by
              cases e : zs_mv π τ E S r (t + 1) (zs_a π τ t s a) (zs_b π τ t s b) with
              | none => rfl
              | some _ => exact absurd (by rw [e]; rfl) h_118
            unfold zs_one
            rw [zs_fst]
            unfold zs_one at hno
            rw [hno]
            dsimp only
            rw [if_neg (by omega), hn]
            rfl) (zf_tr hf hf2) (by
            have hn : zs_mv π τ E S r (t + 1) (zs_a π τ t s a) (zs_b π τ t s b) = none := by
              cases e : zs_mv π τ E S r (t + 1) (zs_a π τ t s a) (zs_b π τ t s b) with
              | none => rfl
              | some _ => exact absurd (by rw [e]; rfl) h_118
            rw [h252, hn]
            exact h25) hl2
        · refine zx_aload_n dX7_moveOfKeepsDry_121 rfl ?_
          refine zx_iload_n dX7_moveOfKeepsDry_122 rfl ?_
          refine zx_iload_n dX7_moveOfKeepsDry_123 rfl ?_
          refine zx_iload dX7_moveOfKeepsDry_124 rfl ?_
          refine zx_callV (y1 := iX7_keepMove) dX7_moveOfKeepsDry_126 lX7_77 vX7_keepMove rc_24 (mX7_keepMove (m := m) (t := t) (s := s) (by omega)) rfl rfl (Nat.le_of_ble_eq_true rfl) ?_
          intro v M3 he
          obtain ⟨rfl, hf3, h253⟩ := he
          refine zx_iconst (v := zn_I 1) dX7_moveOfKeepsDry_129 rfl ?_
          refine zx_iret (st := []) dX7_moveOfKeepsDry_130 rfl rfl ?_
          obtain ⟨ls, hls⟩ := Option.isSome_iff_exists.mp h_118
          have hone : zs_one π τ E S r t a b (zp_n π) = some ((t, s) :: ls) := by
            unfold zs_one at hno ⊢
            refine zs_fst_stop hno ?_ _ (by omega)
            rw [if_neg (by omega), hls]
            rfl
          rw [hone]
          refine ⟨rfl, zf_tr (zf_tr hf hf2) (zf_mono hf3 (by decide)), ?_, ?_⟩
          · rw [h253, h252, hls, h25]
            rfl
          · obtain ⟨lw, q1, q2⟩ := hl2
            exact ⟨lw, q1, by rw [(hf3 24 (by decide)).1]; exact q2⟩
  refine zx_aload_n dX7_moveOfKeepsDry_0 rfl ?_
  refine zx_getr dX7_moveOfKeepsDry_1 fX7_22 ?_
  refine zx_iload_n dX7_moveOfKeepsDry_4 rfl ?_
  refine zx_iconst (v := zn_I 0) dX7_moveOfKeepsDry_5 rfl ?_
  refine zx_callV (y1 := iX8_place) dX7_moveOfKeepsDry_6 lX7_58 vX8_place rc_8 (mX8_place_in hH.2.1 (t := t) (q := 0) ht (by decide)) rfl rfl (Nat.le_of_ble_eq_true rfl) ?_
  refine zk_i ?_
  refine zx_istore dX7_moveOfKeepsDry_9 rfl (Nat.le_of_ble_eq_true rfl) ?_
  refine zx_aload_n dX7_moveOfKeepsDry_11 rfl ?_
  refine zx_getr dX7_moveOfKeepsDry_12 fX7_22 ?_
  refine zx_iload_n dX7_moveOfKeepsDry_15 rfl ?_
  refine zx_callV (y1 := iX8_weighs) dX7_moveOfKeepsDry_16 lX7_62 vX8_weighs rc_8 (mX8_weighs_in hH.2.1 (t := t) ht) rfl rfl (Nat.le_of_ble_eq_true rfl) ?_
  refine zk_i ?_
  refine zx_istore dX7_moveOfKeepsDry_19 rfl (Nat.le_of_ble_eq_true rfl) ?_
  refine zx_iload dX7_moveOfKeepsDry_21 rfl ?_
  refine zx_iload dX7_moveOfKeepsDry_23 rfl ?_
  refine zx_aload_n dX7_moveOfKeepsDry_25 rfl ?_
  refine zx_getr dX7_moveOfKeepsDry_26 fX7_18 ?_
  refine zx_iload dX7_moveOfKeepsDry_29 rfl ?_
  refine zx_callV (y1 := iX1_east) dX7_moveOfKeepsDry_31 lX7_66 vX1_east rc_4 (mX1_east_in hH.1 hown) rfl rfl (Nat.le_of_ble_eq_true rfl) ?_
  refine zk_i ?_
  refine zy_imul dX7_moveOfKeepsDry_34 ?_
  refine zy_isub dX7_moveOfKeepsDry_35 ?_
  refine zx_istore dX7_moveOfKeepsDry_36 rfl (Nat.le_of_ble_eq_true rfl) ?_
  refine zx_iload dX7_moveOfKeepsDry_38 rfl ?_
  refine zx_iload dX7_moveOfKeepsDry_40 rfl ?_
  refine zx_aload_n dX7_moveOfKeepsDry_42 rfl ?_
  refine zx_getr dX7_moveOfKeepsDry_43 fX7_18 ?_
  refine zx_iload dX7_moveOfKeepsDry_46 rfl ?_
  refine zx_callV (y1 := iX1_south) dX7_moveOfKeepsDry_48 lX7_71 vX1_south rc_4 (mX1_south_in hH.1 hown) rfl rfl (Nat.le_of_ble_eq_true rfl) ?_
  refine zk_i ?_
  refine zy_imul dX7_moveOfKeepsDry_51 ?_
  refine zy_isub dX7_moveOfKeepsDry_52 ?_
  refine zx_istore dX7_moveOfKeepsDry_53 rfl (Nat.le_of_ble_eq_true rfl) ?_
  refine zx_iconst (v := zn_I 0) dX7_moveOfKeepsDry_55 rfl ?_
  refine zx_istore dX7_moveOfKeepsDry_56 rfl (Nat.le_of_ble_eq_true rfl) ?_
  exact loop 0 (by omega) M rfl zf_rf rfl hH.2.2.1
theorem zs_all_below {π : zP} {τ : zQ} {E S : Nat → Int} {r least : Nat} {a b : Int} {t : Nat} : ∀ {u : Nat}, t ≤ u → zs_all π τ E S r least a b u = none → zs_all π τ E S r least a b t = none
  | 0, h, e => by
    have : t = 0 := by omega
    subst this
    exact e
  | u + 1, h, e => by
    rcases Nat.lt_or_ge t (u + 1) with q | q
    · refine zs_all_below (show t ≤ u by omega) ?_
      unfold zs_all at e ⊢
      rw [zs_fst] at e
      split at e
      · cases e
      · next e2 => exact e2
    · have : t = u + 1 := by omega
      subst this
      exact e
theorem zs_all_first {π : zP} {τ : zQ} {E S : Nat → Int} {r least : Nat} {a b : Int} : ∀ t, t ≤ least → zs_all π τ E S r least a b t = none
  | 0, _ => rfl
  | t + 1, h => by
    have ih := zs_all_first (π := π) (τ := τ) (E := E) (S := S) (r := r) (least := least) (a := a) (b := b) t (by omega)
    unfold zs_all at ih ⊢
    rw [zs_fst, ih]
    dsimp only
    rw [if_pos (Or.inl (by omega))]
set_option maxRecDepth 100000 in
set_option maxHeartbeats 600000 in
theorem mX7_moves {l : Launch} {d : Nat} {π : zP} {τ : zQ} {E S : Nat → Int} : ∀ r : Nat, ∀ (m least : Nat) (a b : Int) (M : zw_M), m + r ≤ 2 → least ≤ 100 → (-2000 * (m : Int) ≤ a ∧ a ≤ 2000 * (m : Int)) → (-2000 * (m : Int) ≤ b ∧ b ≤ 2000 * (m : Int)) → zHS M π τ E S → zw_C l (d + 2 * r + 4) iX7_movesKeepDry [.ref 24, .int (zn_I ((m + r : Nat) : Int)), .int (zn_I (m : Int)), .int (zn_I (least : Int)), .int (zn_I a), .int (zn_I b)] M (fun v M1 => v = some (.int (zn_B ((zs_mv π τ E S r least a b).isSome = true))) ∧ zw_fr [24, 25] M M1 ∧ M1.1 25 = zs_puto m (zs_mv π τ E S r least a b) (M.1 25) ∧ ∃ lw : Nat, lw < 30 ∧ M1.1 24 5 = zn_I (lw : Int)) := by
  intro r
  induction r with
  | zero =>
    intro m least a b M hm hl ha hb hH
    refine zw_of (by decide +kernel) (Nat.le_of_ble_eq_true rfl) ?_
    refine zy_loc (L1 := [.ref 24, .int (zn_I ((m + 0 : Nat) : Int)), .int (zn_I (m : Int)), .int (zn_I (least : Int)), .int (zn_I a), .int (zn_I b), .retAddr 0]) rfl ?_
    refine zx_iload_n dX7_movesKeepDry_0 rfl ?_
    refine zx_iload_n dX7_movesKeepDry_1 rfl ?_
    refine zy_icmp_lt (tgt := 14) dX7_movesKeepDry_2 (by decide) (by omega) (fun h_2 => ?_) (fun h_2 => ?_)
    · exact absurd h_2 (by omega)
    · refine zx_aload_n dX7_movesKeepDry_5 rfl ?_
      refine zx_iload dX7_movesKeepDry_6 rfl ?_
      refine zx_iload dX7_movesKeepDry_8 rfl ?_
      refine zx_callV (y1 := iX7_isDryWith) dX7_movesKeepDry_10 lX7_42 vX7_isDryWith rc_24 (mX7_isDryWith hH (a := a) (b := b) (by omega) (by omega)) rfl rfl (Nat.le_of_ble_eq_true rfl) ?_
      intro v M1 he
      obtain ⟨rfl, hf, h25, hl⟩ := he
      refine zx_iret (st := []) dX7_movesKeepDry_13 rfl zn_Bn ?_
      by_cases e : zs_dry π E S a b (zp_n π) = true
      · have hm0 : zs_mv π τ E S 0 least a b = some [] := by rw [zs_mv, if_pos e]
        rw [hm0, e]
        exact ⟨rfl, hf, h25, hl⟩
      · have hm0 : zs_mv π τ E S 0 least a b = none := by rw [zs_mv, if_neg e]
        rw [hm0]
        exact ⟨by rw [zn_B, if_neg e]; rfl, hf, h25, hl⟩
  | succ r ih =>
    intro m least a b M hm hl ha hb hH
    have hp := hH.1.1
    have h8 := hH.2.1.1
    refine zw_of (by decide +kernel) (Nat.le_of_ble_eq_true rfl) ?_
    refine zy_loc (L1 := [.ref 24, .int (zn_I ((m + (r + 1) : Nat) : Int)), .int (zn_I (m : Int)), .int (zn_I (least : Int)), .int (zn_I a), .int (zn_I b), .retAddr 0]) rfl ?_
    have loop : ∀ t : Nat, t ≤ τ.1 → ∀ M1 : zw_M, least ≤ t → zs_all π τ E S r least a b t = none → zw_fr [24, 25] M M1 → M1.1 25 = M.1 25 → (∃ lw : Nat, lw < 30 ∧ M1.1 24 5 = zn_I (lw : Int)) → zw_X l (d + 2 * (r + 1) + 4) iX7_movesKeepDry (fun v M1 => v = some (.int (zn_B ((zs_mv π τ E S (r + 1) least a b).isSome = true))) ∧ zw_fr [24, 25] M M1 ∧ M1.1 25 = zs_puto m (zs_mv π τ E S (r + 1) least a b) (M.1 25) ∧ ∃ lw : Nat, lw < 30 ∧ M1.1 24 5 = zn_I (lw : Int)) 17 [.ref 24, .int (zn_I ((m + (r + 1) : Nat) : Int)), .int (zn_I (m : Int)), .int (zn_I (least : Int)), .int (zn_I a), .int (zn_I b), .int (zn_I (t : Int))] [] M1 := by
      refine zw_loop τ.1 (P := fun t => ∀ M1 : zw_M, least ≤ t → zs_all π τ E S r least a b t = none → zw_fr [24, 25] M M1 → M1.1 25 = M.1 25 → (∃ lw : Nat, lw < 30 ∧ M1.1 24 5 = zn_I (lw : Int)) → zw_X l (d + 2 * (r + 1) + 4) iX7_movesKeepDry (fun v M1 => v = some (.int (zn_B ((zs_mv π τ E S (r + 1) least a b).isSome = true))) ∧ zw_fr [24, 25] M M1 ∧ M1.1 25 = zs_puto m (zs_mv π τ E S (r + 1) least a b) (M.1 25) ∧ ∃ lw : Nat, lw < 30 ∧ M1.1 24 5 = zn_I (lw : Int)) 17 [.ref 24, .int (zn_I ((m + (r + 1) : Nat) : Int)), .int (zn_I (m : Int)), .int (zn_I (least : Int)), .int (zn_I a), .int (zn_I b), .int (zn_I (t : Int))] [] M1) (fun t ht ihs M1 hlt hno hf h25 hl => ?_)
      have hH1 := zHS_f hf hl hH
      refine zx_iload dX7_movesKeepDry_17 rfl ?_
      refine zx_aload_n dX7_movesKeepDry_19 rfl ?_
      refine zx_getr dX7_movesKeepDry_20 fX7_22 ?_
      refine zx_callV (y1 := iX8_size) dX7_movesKeepDry_23 lX7_46 vX8_size rc_8 (mX8_size hH1.2.1) rfl rfl (Nat.le_of_ble_eq_true rfl) ?_
      refine zk_i ?_
      refine zy_icmp_ge (tgt := 65) dX7_movesKeepDry_26 (by decide) (by omega) (fun h_26 => ?_) (fun h_26 => ?_)
      · refine zx_iconst (v := zn_I 0) dX7_movesKeepDry_65 rfl ?_
        refine zx_iret (st := []) dX7_movesKeepDry_66 rfl rfl ?_
        have hall : zs_mv π τ E S (r + 1) least a b = none := by
          rw [zs_mv_succ]
          rcases Nat.lt_or_ge t τ.1 with q | q
          · omega
          · rcases Nat.lt_or_ge τ.1 t with q2 | q2
            · exact zs_all_below (by omega) hno
            · rw [show τ.1 = t by omega]; exact hno
        rw [hall]
        exact ⟨rfl, hf, h25, hl⟩
      · refine zx_aload_n dX7_movesKeepDry_29 rfl ?_
        refine zx_getr dX7_movesKeepDry_30 fX7_22 ?_
        refine zx_iload dX7_movesKeepDry_33 rfl ?_
        refine zx_iconst (v := zn_I 1) dX7_movesKeepDry_35 rfl ?_
        refine zx_callV (y1 := iX8_isA) dX7_movesKeepDry_36 lX7_52 vX8_isA rc_8 (mX8_isA hH1.2.1 (z := (t : Int)) (a := 1) ⟨by omega, by omega⟩ ⟨by omega, by omega⟩) rfl rfl (Nat.le_of_ble_eq_true rfl) ?_
        refine zk_i ?_
        have hkt := zt_kind_in (τ := τ) (show t < τ.1 by omega)
        refine zy_ifB_eq (tgt := 59) dX7_movesKeepDry_39 (by decide) (fun h_39 => ?_) (fun h_39 => ?_)
        · refine zy_iinc dX7_movesKeepDry_59 rfl rfl ?_
          refine zx_goto (tgt := 17) dX7_movesKeepDry_62 (by decide) ?_
          exact ihs (by omega) M1 (by omega) (by unfold zs_all; rw [zs_fst]; unfold zs_all at hno; rw [hno]; dsimp only; rw [if_pos (Or.inr (fun q => h_39 (Or.inl (hkt.trans q))))]) hf h25 hl
        · refine zx_aload_n dX7_movesKeepDry_42 rfl ?_
          refine zx_iload dX7_movesKeepDry_43 rfl ?_
          refine zx_iload_n dX7_movesKeepDry_45 rfl ?_
          refine zx_iload_n dX7_movesKeepDry_46 rfl ?_
          refine zx_iload dX7_movesKeepDry_47 rfl ?_
          refine zx_iload dX7_movesKeepDry_49 rfl ?_
          refine zx_callV (y1 := iX7_moveOfKeepsDry) dX7_movesKeepDry_51 lX7_55 vX7_moveOfKeepsDry rc_24 (mX7_moveOf (d := d) ih (m := m) (t := t) (a := a) (b := b) hm (by omega) ha hb hH1) rfl rfl (Nat.le_of_ble_eq_true rfl) ?_
          intro v M2 he
          obtain ⟨rfl, hf2, h252, hl2⟩ := he
          refine zy_ifB_eq (tgt := 59) dX7_movesKeepDry_54 (by decide) (fun h_54 => ?_) (fun h_54 => ?_)
          · refine zy_iinc dX7_movesKeepDry_59 rfl rfl ?_
            refine zx_goto (tgt := 17) dX7_movesKeepDry_62 (by decide) ?_
            have hn : zs_one π τ E S r t a b (zp_n π) = none := by
              cases e : zs_one π τ E S r t a b (zp_n π) with
              | none => rfl
              | some _ => exact absurd (by rw [e]; rfl) h_54
            exact ihs (by omega) M2 (by omega) (by unfold zs_all; rw [zs_fst]; unfold zs_all at hno; rw [hno]; dsimp only; split; rfl; exact hn) (zf_tr hf hf2) (by rw [h252, hn]; exact h25) hl2
          · refine zx_iconst (v := zn_I 1) dX7_movesKeepDry_57 rfl ?_
            refine zx_iret (st := []) dX7_movesKeepDry_58 rfl rfl ?_
            obtain ⟨ls, hls⟩ := Option.isSome_iff_exists.mp h_54
            have hall : zs_mv π τ E S (r + 1) least a b = some ls := by
              rw [zs_mv_succ]
              unfold zs_all at hno ⊢
              refine zs_fst_stop hno ?_ _ (by omega)
              rw [if_neg (fun q => q.elim (fun z => by omega) (fun z => z (by omega))), hls]
            rw [hall]
            exact ⟨rfl, zf_tr hf hf2, by rw [h252, hls, h25], hl2⟩
    refine zx_iload_n dX7_movesKeepDry_0 rfl ?_
    refine zx_iload_n dX7_movesKeepDry_1 rfl ?_
    refine zy_icmp_lt (tgt := 14) dX7_movesKeepDry_2 (by decide) (by omega) (fun h_2 => ?_) (fun h_2 => ?_)
    · refine zx_iload_n dX7_movesKeepDry_14 rfl ?_
      refine zx_istore dX7_movesKeepDry_15 rfl (Nat.le_of_ble_eq_true rfl) ?_
      rcases Nat.lt_or_ge least τ.1 with q | q
      · exact loop least (by omega) M (Nat.le_refl _) (zs_all_first _ (Nat.le_refl _)) zf_rf rfl hH.2.2.1
      · refine zx_iload dX7_movesKeepDry_17 rfl ?_
        refine zx_aload_n dX7_movesKeepDry_19 rfl ?_
        refine zx_getr dX7_movesKeepDry_20 fX7_22 ?_
        refine zx_callV (y1 := iX8_size) dX7_movesKeepDry_23 lX7_46 vX8_size rc_8 (mX8_size hH.2.1) rfl rfl (Nat.le_of_ble_eq_true rfl) ?_
        refine zk_i ?_
        refine zy_icmp_ge (tgt := 65) dX7_movesKeepDry_26 (by decide) (by omega) (fun h_26 => ?_) (fun h_26 => ?_)
        · refine zx_iconst (v := zn_I 0) dX7_movesKeepDry_65 rfl ?_
          refine zx_iret (st := []) dX7_movesKeepDry_66 rfl rfl ?_
          have hall : zs_mv π τ E S (r + 1) least a b = none := by rw [zs_mv_succ]; exact zs_all_first _ q
          rw [hall]
          exact ⟨rfl, zf_rf, rfl, hH.2.2.1⟩
        · exact absurd h_26 (by omega)
    · exact absurd h_2 (by omega)
