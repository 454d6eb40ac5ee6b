/-! THE STATE of an island that leans: the plan, the things, the page, the counts, the image -/
abbrev zK : Type := Option (Nat × (Nat → Nat → Nat))
abbrev zZ : Type := zP × zQ × zR × (Nat × Nat × Nat) × zK
def zKok (π : zP) (τ : zQ) (κ : zK) : Prop := match κ with
  | none => True
  | some (K, P) => K ≤ τ.1 ∧ (∀ t, t < K → ∀ q, q < 8 → P t q < zp_n π) ∧ ∀ t, t < K → ¬ zt_per τ t → ∀ q, q < 8 → P t q = P t 0
/-- what holds of a state all along -/
def zok (σ : zZ) : Prop := (σ.2.2.2.1.2.1 ≤ 30 ∧ σ.2.2.2.1.2.2 ≤ 20) ∧ (∀ t, t < σ.2.1.1 → ¬ zt_per σ.2.1 t → ∀ q, q < 8 → σ.2.1.2.2.2 t q = σ.2.1.2.2.2 t 0) ∧ zKok σ.1 σ.2.1 σ.2.2.2.2
def zKc (M : zw_M) (κ : zK) : Prop := match κ with
  | none => M.1 8 5 = zn_I (-1)
  | some (K, P) => M.1 8 5 = zn_I (K : Nat) ∧ ∀ t, t < K → ∀ q, q < 8 → M.1 12 (t * 8 + q) = zn_I (P t q : Nat)
/-- the class's memory holds a state -/
def zC_ (M : zw_M) (σ : zZ) : Prop := zI M σ.1 ∧ zT M (zp_n σ.1) σ.2.1 ∧ zG M σ.2.2.1 ∧ (M.1 0 10 = zn_I (σ.2.2.2.1.1 : Nat) ∧ M.1 0 11 = zn_I (σ.2.2.2.1.2.1 : Nat) ∧ M.1 0 12 = zn_I (σ.2.2.2.1.2.2 : Nat)) ∧ zKc M σ.2.2.2.2
def zcl : List Nat := [0, 1, 2, 3, 4, 5, 6, 7, 8, 9, 10, 11, 12, 13, 14, 15, 16, 17, 18, 19, 20, 21, 22, 23, 24, 25, 26, 27, 28, 29, 30, 31, 32]
/-- an answer, and the state behind it -/
def zO (x : Int32) (σ : zZ) (M : zw_M) : Option Value → zw_M → Prop := fun v M1 => v = some (.int x) ∧ zw_fr zcl M M1 ∧ zC_ M1 σ
theorem zO_i {σ : zZ} {M : zw_M} {x z : Int} (hC : zC_ M σ) (h : x = z) : zO (zn_I z) σ M (some (.int (zn_I x))) M := ⟨by rw [h], zf_rf, hC⟩
theorem zO_f {σ : zZ} {M M1 : zw_M} {x z : Int} (hf : zw_fr zcl M M1) (hC : zC_ M1 σ) (h : x = z) : zO (zn_I z) σ M (some (.int (zn_I x))) M1 := ⟨by rw [h], hf, hC⟩
theorem zC_f {S : List Nat} {M M1 : zw_M} {σ : zZ} (h : zw_fr S M M1) (hC : zC_ M σ) (hS : ∀ p ∈ [0, 1, 2, 4, 5, 6, 7, 8, 9, 10, 11, 12], p ∉ S) : zC_ M1 σ := by
  obtain ⟨h1, h2, h3, h4, h5⟩ := hC
  refine ⟨zI_f h h1 (fun p hp => hS p ?_), zT_f h h2 (fun p hp => hS p ?_), zG_f h h3 (fun p hp => hS p ?_), ?_, ?_⟩
  · simp at hp ⊢; omega
  · simp at hp ⊢; omega
  · simp at hp ⊢; omega
  · rw [(h 0 (hS 0 (by decide))).1]; exact h4
  · unfold zKc at h5 ⊢
    have e8 := (h 8 (hS 8 (by decide))).1
    have e12 := (h 12 (hS 12 (by decide))).1
    split at h5
    · rw [e8]; exact h5
    · rw [e8, e12]; exact h5
/-! THE ANSWERS, and the states behind them -/
def zk_square (σ : zZ) (z w : Int) : Int := if 0 ≤ z ∧ z < zp_n σ.1 then (if w = 0 then σ.1.2.2 z.toNat else if w = 1 then zp_e σ.1 z.toNat else if w = 2 then zp_s σ.1 z.toNat else -100102) else -100101
def zk_letters (σ : zZ) (w : Nat) : Int := zg_addA σ.2.2.1 w
def zk_lettersS (σ : zZ) (w : Nat) : zZ := (σ.1, σ.2.1, zg_addR σ.2.2.1 w, σ.2.2.2)
def zk_blank (σ : zZ) : Int := σ.2.2.1.1
def zk_blankS (σ : zZ) : zZ := (σ.1, σ.2.1, (0, σ.2.2.1.2), σ.2.2.2)
def zk_fault (σ : zZ) (z : Int) : Int := if z = 0 then ((zq_go σ.2.2.1 σ.2.2.1.1).1 : Int) else if z = 1 then (zg_wf σ.2.2.1 σ.2.2.1.1 : Int) else -102
def zk_plan (σ : zZ) : Int := if zq_whole σ.2.2.1 then (zp_n (zr_P σ.2.2.1) : Int) else -103
def zk_planS (σ : zZ) : zZ := if zq_whole σ.2.2.1 then (zr_P σ.2.2.1, (0, σ.2.1.2), (0, σ.2.2.1.2), (σ.2.2.2.1.1 + 1, σ.2.2.2.1.2), none) else σ
abbrev zhas (σ : zZ) (z : Int) : Prop := 0 ≤ z ∧ z < zp_n σ.1
abbrev zthing (σ : zZ) (z : Int) : Prop := 0 ≤ z ∧ z < σ.2.1.1
abbrev zqu (z : Int) : Prop := 0 ≤ z ∧ z < 8
abbrev zpers (σ : zZ) (z : Int) : Prop := zt_per σ.2.1 z.toNat
def zpl (σ : zZ) (z q : Int) : Nat := σ.2.1.2.2.2 z.toNat q.toNat
def zst (σ : zZ) (τ : zQ) : zZ := (σ.1, τ, σ.2.2)
def zk_thing (σ : zZ) (k w s : Int) : Int := if ¬ ((0 ≤ k ∧ k ≤ 4) ∧ 1 ≤ w ∧ w ≤ 99) then -102 else if ¬ zhas σ s then -101 else if 8 ≤ σ.2.1.1 then -104 else (σ.2.1.1 : Int)
def zk_thingS (σ : zZ) (k w s : Int) : zZ := if ((0 ≤ k ∧ k ≤ 4) ∧ 1 ≤ w ∧ w ≤ 99) ∧ zhas σ s ∧ σ.2.1.1 < 8 then zst σ (zt_new σ.2.1 k w s.toNat) else σ
def zk_about (σ : zZ) (z w : Int) : Int := if ¬ zthing σ z then -101 else if 10 ≤ w ∧ w ≤ 17 then (zpl σ z (w - 10) : Int) else if w = 0 then σ.2.1.2.1 z.toNat else if w = 1 then σ.2.1.2.2.1 z.toNat else if w = 2 then zt_w σ.2.1 z.toNat else -102
def zk_as (σ : zZ) (z k : Int) : Int := if ¬ zthing σ z then -101 else if ¬ (0 ≤ k ∧ k ≤ 4) then -102 else if zt_isA σ.2.1 z k then z else -1
def zk_stand (σ : zZ) (z q s : Int) : Int := if ¬ (zthing σ z ∧ zqu q ∧ zhas σ s) then -101 else if ¬ zpers σ z then -103 else (zpl σ z q : Int)
/-- a thing stands elsewhere in one quarter -/
def zt_at (τ : zQ) (t q s : Nat) : zQ := zt_mv τ t (fun u => if u = q then s else τ.2.2.2 t u)
def zk_standS (σ : zZ) (z q s : Int) : zZ := if (zthing σ z ∧ zqu q ∧ zhas σ s) ∧ zpers σ z then zst σ (zt_at σ.2.1 z.toNat q.toNat s.toNat) else σ
def zk_put (σ : zZ) (z s : Int) : Int := if ¬ (zthing σ z ∧ zhas σ s) then -101 else if zpers σ z then -103 else (zpl σ z 0 : Int)
def zk_putS (σ : zZ) (z s : Int) : zZ := if (zthing σ z ∧ zhas σ s) ∧ ¬ zpers σ z then zst σ (zt_mv σ.2.1 z.toNat (fun _ => s.toNat)) else σ
def zk_trade (σ : zZ) (a b q : Int) : Int := if ¬ (zthing σ a ∧ zthing σ b ∧ zqu q) then -101 else if ¬ (zpers σ a ∧ zpers σ b) then -103 else if zpl σ a q = zpl σ b q then 0 else 1
def zk_tradeS (σ : zZ) (a b q : Int) : zZ := if (zthing σ a ∧ zthing σ b ∧ zqu q) ∧ (zpers σ a ∧ zpers σ b) then zst σ (zt_at (zt_at σ.2.1 a.toNat q.toNat (zpl σ b q)) b.toNat q.toNat (zpl σ a q)) else σ
def zk_leans (σ : zZ) (q w : Int) : Int := if ¬ zqu q then -100101 else if w = 0 then zl_E σ.1 σ.2.1 q.toNat else if w = 1 then zl_S σ.1 σ.2.1 q.toNat else -100102
def zk_dip (σ : zZ) (s q : Int) : Int := if ¬ (zhas σ s ∧ zqu q) then -1000101 else zp_dip σ.1 s.toNat (zl_E σ.1 σ.2.1 q.toNat) (zl_S σ.1 σ.2.1 q.toNat)
/-- which doors are wet in a quarter -/
def zwet (π : zP) (τ : zQ) (q : Nat) : Nat := zp_bits π (zl_E π τ q) (zl_S π τ q) (zp_n π)
def zk_wet (σ : zZ) (q : Int) : Int := if zqu q then (zwet σ.1 σ.2.1 q.toNat : Int) else -101
abbrev zasks (w : Int) : Prop := w = 0 ∨ w = 1 ∨ 10 ≤ w ∧ w ≤ 17
abbrev zk_way (σ : zZ) : Prop := 0 < σ.2.2.1.1 ∧ zg_wf σ.2.2.1 σ.2.2.1.1 = σ.2.2.1.1
def zk_late (σ : zZ) (q d x : Int) : Int := if ¬ (zqu q ∧ q ≠ 0) then -101 else if ¬ ((0 ≤ d ∧ d < (2 ^ zp_n σ.1 : Nat)) ∧ 0 ≤ x ∧ x < 3) then -102 else if ¬ 0 < zp_n σ.1 then -103 else (zl_ans σ.1 σ.2.1 q.toNat d x.toNat : Int)
def zk_count (σ : zZ) (w : Int) : Int := if w = 0 then (zp_n σ.1 : Int) else if w = 1 then (zp_d σ.1 (zp_n σ.1) : Int) else if w = 2 then (σ.2.1.1 : Int) else if w = 3 then (zt_m σ.2.1 : Int) else if w = 4 then (σ.2.2.1.1 : Int) else if w = 5 then (σ.2.2.2.1.1 : Int) else if w = 6 then (σ.2.2.2.1.2.1 : Int) else if w = 7 then (σ.2.2.2.1.2.2 : Int) else -102
theorem zKc_f {S : List Nat} {M M1 : zw_M} {κ : zK} (h : zw_fr S M M1) (hk : zKc M κ) (hS : ∀ p ∈ [8, 12], p ∉ S) : zKc M1 κ := by
  unfold zKc at hk ⊢
  have e8 := (h 8 (hS 8 (by decide))).1
  have e12 := (h 12 (hS 12 (by decide))).1
  split at hk
  · rw [e8]; exact hk
  · rw [e8, e12]; exact hk
theorem zG_0 {M : zw_M} {f : Nat → Nat} (h : M.1 1 1 = zn_I 0) : zG M (0, f) := ⟨by show 0 ≤ 40; omega, h, fun i hi => absurd hi (Nat.not_lt_zero _), fun i hi => absurd hi (Nat.not_lt_zero _)⟩
theorem zC_page {M M1 : zw_M} {σ : zZ} {ρ : zR} (h : zw_fr [1, 2, 3] M M1) (hC : zC_ M σ) (hG : zG M1 ρ) : zC_ M1 (σ.1, σ.2.1, ρ, σ.2.2.2) :=
  ⟨zI_f h hC.1 (by decide), zT_f h hC.2.1 (by decide), hG, by rw [(h 0 (by decide)).1]; exact hC.2.2.2.1, zKc_f h hC.2.2.2.2 (by decide)⟩
theorem zC_th {M M1 : zw_M} {σ : zZ} {τ : zQ} (h : zw_fr [8, 9, 10, 11] M M1) (h5 : M1.1 8 5 = M.1 8 5) (hC : zC_ M σ) (hT : zT M1 (zp_n σ.1) τ) : zC_ M1 (zst σ τ) := by
  refine ⟨zI_f h hC.1 (by decide), hT, zG_f h hC.2.2.1 (by decide), by rw [(h 0 (by decide)).1]; exact hC.2.2.2.1, ?_⟩
  have hk := hC.2.2.2.2
  show zKc M1 σ.2.2.2.2
  unfold zKc at hk ⊢
  have e12 := (h 12 (by decide)).1
  split at hk
  · rw [h5]; exact hk
  · rw [h5, e12]; exact hk
theorem zT_at {M : zw_M} {n : Nat} {τ : zQ} (hT : zT M n τ) {t q s : Nat} (ht : t < τ.1) (hq : q < 8) (hs : s < n) : zT (zw_s M 11 (t * 8 + q) (zn_I (s : Nat))) n (zt_at τ t q s) := by
  refine zT_mv hT (zf_s zf_rf (by decide)) (fun u hu => ?_) (fun k hk => ?_) (fun u hu => ?_)
  · by_cases e : u = q
    · subst e; simp [zw_s]
    · have := hT.2.2.2.2.1 t ht u hu
      simp [zw_s, e, this]
  · have : k ≠ t * 8 + q := by omega
    simp [zw_s, this]
  · by_cases e : u = q
    · simpa [e] using hs
    · simpa [e] using hT.2.2.2.2.2.2.2 t ht u hu
set_option maxRecDepth 100000 in
set_option maxHeartbeats 600000 in
theorem mX10_letters {l : zw_Lh} {d : Nat} {M : zw_M} {σ : zZ} (hC : zC_ M σ) {w : Nat} (hw : w < 2 ^ 64) : zw_C l (d + 3) iX10_letters [.ref 0, .long (lN w)] M (zO (zn_I (zk_letters σ w)) (zk_lettersS σ w) M) := by
  obtain ⟨hI, hT, hG, ⟨ha, hb, hc⟩, hk⟩ := id hC
  have hp := hI.1
  have h30 := zp_30 hp
  have h8 := hT.1
  refine zw_of (by decide +kernel) (Nat.le_of_ble_eq_true rfl) ?_
  refine zy_loc (L1 := [.ref 0, .long (lN w), .retAddr 0]) rfl ?_
  refine zx_aload_n dX10_letters_0 rfl ?_
  refine zx_getr dX10_letters_1 fX10_10 ?_
  refine zx_lload_n dX10_letters_4 rfl ?_
  refine zx_callV (y1 := iX3_add) dX10_letters_5 lX10_85 vX3_add rc_1 (mX3_add hG hw) rfl rfl (Nat.le_of_ble_eq_true rfl) ?_
  intro v M1 he
  obtain ⟨rfl, hf, hG1⟩ := he
  refine zx_iret (st := []) dX10_letters_8 rfl rfl ?_
  exact ⟨rfl, zf_mono hf (by decide), zC_page (zf_mono hf (by decide)) hC hG1⟩

set_option maxRecDepth 100000 in
set_option maxHeartbeats 600000 in
theorem mX10_fault {l : zw_Lh} {d : Nat} {M : zw_M} {σ : zZ} (hC : zC_ M σ) {z : Int} (hzz : -2147483648 ≤ z ∧ z < 2147483648) : zw_C l (d + 4) iX10_fault [.ref 0, .int (zn_I z)] M (zO (zn_I (zk_fault σ z)) σ M) := by
  obtain ⟨hI, hT, hG, ⟨ha, hb, hc⟩, hk⟩ := id hC
  have hp := hI.1
  have h30 := zp_30 hp
  have h8 := hT.1
  refine zw_of (by decide +kernel) (Nat.le_of_ble_eq_true rfl) ?_
  refine zy_loc (L1 := [.ref 0, .int (zn_I z)]) rfl ?_
  refine zx_iload_n dX10_fault_0 rfl ?_
  refine zy_if_ne (tgt := 16) dX10_fault_1 (by decide) (by omega) (fun h_1 => ?_) (fun h_1 => ?_)
  · refine zx_iload_n dX10_fault_16 rfl ?_
    refine zx_iconst (v := zn_I 1) dX10_fault_17 rfl ?_
    refine zy_icmp_ne (tgt := 31) dX10_fault_18 (by decide) (by omega) (fun h_18 => ?_) (fun h_18 => ?_)
    · refine zx_bipush (v := zn_I (-102)) dX10_fault_31 (by decide) ?_
      refine zx_iret (st := []) dX10_fault_33 rfl rfl ?_
      exact zO_i hC (by simp only [zk_fault, Int.toNat_natCast]; (repeat' split) <;> first | rfl | omega)
    · refine zx_aload_n dX10_fault_21 rfl ?_
      refine zx_getr dX10_fault_22 fX10_10 ?_
      refine zx_callV (y1 := iX3_wayFault) dX10_fault_25 lX10_100 vX3_wayFault rc_1 (mX3_wayFault hG) rfl rfl (Nat.le_of_ble_eq_true rfl) ?_
      refine zk_i ?_
      refine zx_goto (tgt := 33) dX10_fault_28 (by decide) ?_
      refine zx_iret (st := []) dX10_fault_33 rfl rfl ?_
      exact zO_i hC (by simp only [zk_fault, Int.toNat_natCast]; (repeat' split) <;> first | rfl | omega)
  · refine zx_aload_n dX10_fault_4 rfl ?_
    refine zx_getr dX10_fault_5 fX10_19 ?_
    refine zx_aload_n dX10_fault_8 rfl ?_
    refine zx_getr dX10_fault_9 fX10_10 ?_
    refine zx_callV (y1 := iX4_faultIn) dX10_fault_12 lX10_96 vX4_faultIn rc_3 (mX4_faultIn hG) rfl rfl (Nat.le_of_ble_eq_true rfl) ?_
    intro v M1 he
    obtain ⟨rfl, hf, -⟩ := he
    refine zx_iret (st := []) dX10_fault_15 rfl rfl ?_
    exact zO_f (zf_mono hf (by decide)) (zC_f hf hC (by decide)) (by simp only [zk_fault, Int.toNat_natCast]; (repeat' split) <;> first | rfl | omega)
set_option maxRecDepth 100000 in
set_option maxHeartbeats 600000 in
theorem mX10_plan {l : zw_Lh} {d : Nat} {M : zw_M} {σ : zZ} (hC : zC_ M σ) : zw_C l (d + 5) iX10_plan [.ref 0] M (zO (zn_I (zk_plan σ)) (zk_planS σ) M) := by
  obtain ⟨hI, hT, hG, ⟨ha, hb, hc⟩, hk⟩ := id hC
  have hp := hI.1
  have h30 := zp_30 hp
  have h8 := hT.1
  refine zw_of (by decide +kernel) (Nat.le_of_ble_eq_true rfl) ?_
  refine zy_loc (L1 := [.ref 0]) rfl ?_
  refine zx_aload_n dX10_plan_0 rfl ?_
  refine zx_getr dX10_plan_1 fX10_19 ?_
  refine zx_aload_n dX10_plan_4 rfl ?_
  refine zx_getr dX10_plan_5 fX10_10 ?_
  refine zx_callV (y1 := iX4_isWhole) dX10_plan_8 lX10_103 vX4_isWhole rc_3 (mX4_isWhole hG) rfl rfl (Nat.le_of_ble_eq_true rfl) ?_
  intro v M1 he
  obtain ⟨rfl, hf, hq⟩ := he
  refine zy_ifB_ne (tgt := 17) dX10_plan_11 (by decide) (fun h_11 => ?_) (fun h_11 => ?_)
  · refine zx_aload_n dX10_plan_17 rfl ?_
    refine zx_getr dX10_plan_18 fX10_26 ?_
    refine zx_aload_n dX10_plan_21 rfl ?_
    refine zx_getr dX10_plan_22 fX10_10 ?_
    refine zx_aload_n dX10_plan_25 rfl ?_
    refine zx_getr dX10_plan_26 fX10_19 ?_
    refine zx_callV (y1 := iX4_rows) dX10_plan_29 lX10_107 vX4_rows rc_3 (mX4_rows hq (zq_go_ok _ _)) rfl rfl (Nat.le_of_ble_eq_true rfl) ?_
    refine zk_i ?_
    refine zx_aload_n dX10_plan_32 rfl ?_
    refine zx_getr dX10_plan_33 fX10_19 ?_
    refine zx_callV (y1 := iX4_columns) dX10_plan_36 lX10_110 vX4_columns rc_3 (mX4_columns hq (zq_go_ok _ _)) rfl rfl (Nat.le_of_ble_eq_true rfl) ?_
    refine zk_i ?_
    refine zx_callV (y1 := iX1_read) dX10_plan_39 lX10_113 vX1_read rc_4 (mX1_read (zG_f hf hG (by decide)) h_11) rfl rfl (Nat.le_of_ble_eq_true rfl) ?_
    intro v M2 he
    obtain ⟨rfl, hf2, hI2⟩ := he
    refine zx_aload_n dX10_plan_42 rfl ?_
    refine zx_getr dX10_plan_43 fX10_33 ?_
    refine zx_callV (y1 := iX8_clear) dX10_plan_46 lX10_117 vX8_clear rc_8 (mX8_clear) rfl rfl (Nat.le_of_ble_eq_true rfl) ?_
    refine zk_u ?_
    refine zx_aload_n dX10_plan_49 rfl ?_
    refine zx_getr dX10_plan_50 fX10_10 ?_
    refine zx_callV (y1 := iX3_clear) dX10_plan_53 lX10_93 vX3_clear rc_1 (mX3_clear) rfl rfl (Nat.le_of_ble_eq_true rfl) ?_
    refine zk_u ?_
    refine zx_aload_n dX10_plan_56 rfl ?_
    refine zx_dup dX10_plan_57 rfl ?_
    refine zy_geti dX10_plan_58 fX10_118 ((show _ = zn_I (σ.2.2.2.1.1 : Nat) from by simp [zw_s, (hf2 0 (by decide)).1, (hf 0 (by decide)).1, ha])) ?_
    refine zx_iconst (v := zn_I 1) dX10_plan_61 rfl ?_
    refine zy_iadd dX10_plan_62 ?_
    refine zx_puti dX10_plan_63 fX10_118 ?_
    refine zx_aload_n dX10_plan_66 rfl ?_
    refine zx_getr dX10_plan_67 fX10_26 ?_
    refine zx_callV (y1 := iX1_squares) dX10_plan_70 lX10_122 vX1_squares rc_4 (mX1_squares (π := zr_P σ.2.2.1) (zI_f (zf_s (zf_s (zf_s (zf_s (S := [0, 1, 8]) zf_rf (by decide)) (by decide)) (by decide)) (by decide)) hI2 (by decide))) rfl rfl (Nat.le_of_ble_eq_true rfl) ?_
    refine zk_i ?_
    refine zx_iret (st := []) dX10_plan_73 rfl rfl ?_
    refine zO_f (zf_s (zf_s (zf_s (zf_s (zf_tr (zf_mono hf (by decide)) (zf_mono hf2 (by decide))) (by decide)) (by decide)) (by decide)) (by decide)) ?_ (by rw [zk_plan, if_pos h_11])
    rw [zk_planS, if_pos h_11]
    refine ⟨zI_f (zf_s (zf_s (zf_s (zf_s (S := [0, 1, 8]) zf_rf (by decide)) (by decide)) (by decide)) (by decide)) hI2 (by decide), ⟨by show 0 ≤ 8; omega, by simp [zw_s], fun t ht => absurd ht (Nat.not_lt_zero _), fun t ht => absurd ht (Nat.not_lt_zero _), fun t ht => absurd ht (Nat.not_lt_zero _), fun t ht => absurd ht (Nat.not_lt_zero _), fun t ht => absurd ht (Nat.not_lt_zero _), fun t ht => absurd ht (Nat.not_lt_zero _)⟩, zG_0 (by simp [zw_s]), ⟨by simp [zw_s], ?_, ?_⟩, ?_⟩
    · simp [zw_s, (hf2 0 (by decide)).1, (hf 0 (by decide)).1, hb]
    · simp [zw_s, (hf2 0 (by decide)).1, (hf 0 (by decide)).1, hc]
    · show _ = _
      simp [zw_s]
  · refine zx_bipush (v := zn_I (-103)) dX10_plan_14 (by decide) ?_
    refine zx_iret (st := []) dX10_plan_16 rfl rfl ?_
    refine zO_f (zf_mono hf (by decide)) ?_ (by rw [zk_plan, if_neg h_11])
    rw [zk_planS, if_neg h_11]
    exact zC_f hf hC (by decide)

set_option maxRecDepth 100000 in
set_option maxHeartbeats 600000 in
theorem mX10_thing {l : zw_Lh} {d : Nat} {M : zw_M} {σ : zZ} (hC : zC_ M σ) {k : Int} (hkk : -2147483648 ≤ k ∧ k < 2147483648) {w : Int} (hww : -2147483648 ≤ w ∧ w < 2147483648) {s : Int} (hss : -2147483648 ≤ s ∧ s < 2147483648) : zw_C l (d + 4) iX10_thing [.ref 0, .int (zn_I k), .int (zn_I w), .int (zn_I s)] M (zO (zn_I (zk_thing σ k w s)) (zk_thingS σ k w s) M) := by
  obtain ⟨hI, hT, hG, ⟨ha, hb, hc⟩, hk⟩ := id hC
  have hp := hI.1
  have h30 := zp_30 hp
  have h8 := hT.1
  refine zw_of (by decide +kernel) (Nat.le_of_ble_eq_true rfl) ?_
  refine zy_loc (L1 := [.ref 0, .int (zn_I k), .int (zn_I w), .int (zn_I s)]) rfl ?_
  refine zx_iload_n dX10_thing_0 rfl ?_
  refine zx_callS (y1 := iX10_isKind) dX10_thing_1 lX10_141 sX10_isKind (mX10_isKind hkk) rfl rfl (Nat.le_of_ble_eq_true rfl) ?_
  refine zk_i ?_
  refine zy_ifB_eq (tgt := 14) dX10_thing_4 (by decide) (fun h_4 => ?_) (fun h_4 => ?_)
  · refine zx_bipush (v := zn_I (-102)) dX10_thing_14 (by decide) ?_
    refine zx_iret (st := []) dX10_thing_16 rfl rfl ?_
    rw [zk_thingS, if_neg (by omega)]
    exact zO_i hC (by simp only [zk_thing, Int.toNat_natCast]; (repeat' split) <;> first | rfl | omega)
  · refine zx_iload_n dX10_thing_7 rfl ?_
    refine zx_callS (y1 := iX10_isWeight) dX10_thing_8 lX10_144 sX10_isWeight (mX10_isWeight hww) rfl rfl (Nat.le_of_ble_eq_true rfl) ?_
    refine zk_i ?_
    refine zy_ifB_ne (tgt := 17) dX10_thing_11 (by decide) (fun h_11 => ?_) (fun h_11 => ?_)
    · refine zx_aload_n dX10_thing_17 rfl ?_
      refine zx_getr dX10_thing_18 fX10_26 ?_
      refine zx_iload_n dX10_thing_21 rfl ?_
      refine zx_callV (y1 := iX1_has) dX10_thing_22 lX10_125 vX1_has rc_4 (mX1_has hI hss) rfl rfl (Nat.le_of_ble_eq_true rfl) ?_
      refine zk_i ?_
      refine zy_ifB_ne (tgt := 31) dX10_thing_25 (by decide) (fun h_25 => ?_) (fun h_25 => ?_)
      · obtain ⟨s, rfl⟩ : ∃ n : Nat, s = (n : Int) := ⟨s.toNat, by omega⟩
        refine zx_aload_n dX10_thing_31 rfl ?_
        refine zx_getr dX10_thing_32 fX10_33 ?_
        refine zx_iload_n dX10_thing_35 rfl ?_
        refine zx_iload_n dX10_thing_36 rfl ?_
        refine zx_iload_n dX10_thing_37 rfl ?_
        refine zx_callV (y1 := iX8_add) dX10_thing_38 lX10_147 vX8_add rc_8 (mX8_add hT h_4 h_11 (s := s) (by omega)) rfl rfl (Nat.le_of_ble_eq_true rfl) ?_
        intro v M1 he
        rcases he with ⟨e1, rfl, rfl⟩ | ⟨e1, rfl, hf, h5, hT1⟩
        · refine zx_iret (st := []) dX10_thing_41 rfl rfl ?_
          rw [zk_thingS, if_neg (by omega)]
          exact zO_i hC (by simp only [zk_thing, Int.toNat_natCast]; (repeat' split) <;> first | rfl | omega)
        · refine zx_iret (st := []) dX10_thing_41 rfl rfl ?_
          rw [zk_thingS, if_pos ⟨⟨by omega, by omega⟩, ⟨by omega, by omega⟩, by omega⟩]
          exact zO_f (zf_mono hf (by decide)) (zC_th hf h5 hC (by rw [Int.toNat_natCast]; exact hT1)) (by simp only [zk_thing, Int.toNat_natCast]; (repeat' split) <;> first | rfl | omega)
      · refine zx_bipush (v := zn_I (-101)) dX10_thing_28 (by decide) ?_
        refine zx_iret (st := []) dX10_thing_30 rfl rfl ?_
        rw [zk_thingS, if_neg (by omega)]
        exact zO_i hC (by simp only [zk_thing, Int.toNat_natCast]; (repeat' split) <;> first | rfl | omega)
    · refine zx_bipush (v := zn_I (-102)) dX10_thing_14 (by decide) ?_
      refine zx_iret (st := []) dX10_thing_16 rfl rfl ?_
      rw [zk_thingS, if_neg (by omega)]
      exact zO_i hC (by simp only [zk_thing, Int.toNat_natCast]; (repeat' split) <;> first | rfl | omega)
set_option maxRecDepth 100000 in
set_option maxHeartbeats 600000 in
theorem mX10_about {l : zw_Lh} {d : Nat} {M : zw_M} {σ : zZ} (hC : zC_ M σ) {z : Int} (hzz : -2147483648 ≤ z ∧ z < 2147483648) {w : Int} (hww : -2147483648 ≤ w ∧ w < 2147483648) : zw_C l (d + 2) iX10_about [.ref 0, .int (zn_I z), .int (zn_I w)] M (zO (zn_I (zk_about σ z w)) σ M) := by
  obtain ⟨hI, hT, hG, ⟨ha, hb, hc⟩, hk⟩ := id hC
  have hp := hI.1
  have h30 := zp_30 hp
  have h8 := hT.1
  refine zw_of (by decide +kernel) (Nat.le_of_ble_eq_true rfl) ?_
  refine zy_loc (L1 := [.ref 0, .int (zn_I z), .int (zn_I w)]) rfl ?_
  refine zx_aload_n dX10_about_0 rfl ?_
  refine zx_getr dX10_about_1 fX10_33 ?_
  refine zx_iload_n dX10_about_4 rfl ?_
  refine zx_callV (y1 := iX8_has) dX10_about_5 lX10_150 vX8_has rc_8 (mX8_has hT hzz) rfl rfl (Nat.le_of_ble_eq_true rfl) ?_
  refine zk_i ?_
  refine zy_ifB_ne (tgt := 14) dX10_about_8 (by decide) (fun h_8 => ?_) (fun h_8 => ?_)
  · refine zx_iload_n dX10_about_14 rfl ?_
    refine zx_callS (y1 := iX10_asksPlace) dX10_about_15 lX10_151 sX10_asksPlace (mX10_asksPlace hww) rfl rfl (Nat.le_of_ble_eq_true rfl) ?_
    refine zk_i ?_
    refine zy_ifB_eq (tgt := 34) dX10_about_18 (by decide) (fun h_18 => ?_) (fun h_18 => ?_)
    · refine zx_iload_n dX10_about_34 rfl ?_
      rcases (show w = 0 ∨ w = 1 ∨ w = 2 ∨ (w < 0 ∨ 2 < w) by omega) with h_35 | h_35 | h_35 | h_35
      · refine zx_tin (z := 0) (tgt := 60) dX10_about_35 ((zn_toInt ⟨by omega, by omega⟩).trans h_35) (by decide) (by decide) rfl (by decide) ?_
        refine zx_aload_n dX10_about_60 rfl ?_
        refine zx_getr dX10_about_61 fX10_33 ?_
        refine zx_iload_n dX10_about_64 rfl ?_
        refine zx_callV (y1 := iX8_kind) dX10_about_65 lX10_158 vX8_kind rc_8 (mX8_kind hT hzz) rfl rfl (Nat.le_of_ble_eq_true rfl) ?_
        refine zk_i ?_
        refine zx_iret (st := []) dX10_about_68 rfl rfl ?_
        exact zO_i hC (by simp only [zk_about, zt_kind, zt_weight, zt_weighs, zt_place, zpl, Int.toNat_natCast]; (repeat' split) <;> first | rfl | omega)
      · refine zx_tin (z := 1) (tgt := 69) dX10_about_35 ((zn_toInt ⟨by omega, by omega⟩).trans h_35) (by decide) (by decide) rfl (by decide) ?_
        refine zx_aload_n dX10_about_69 rfl ?_
        refine zx_getr dX10_about_70 fX10_33 ?_
        refine zx_iload_n dX10_about_73 rfl ?_
        refine zx_callV (y1 := iX8_weight) dX10_about_74 lX10_161 vX8_weight rc_8 (mX8_weight hT hzz) rfl rfl (Nat.le_of_ble_eq_true rfl) ?_
        refine zk_i ?_
        refine zx_iret (st := []) dX10_about_77 rfl rfl ?_
        exact zO_i hC (by simp only [zk_about, zt_kind, zt_weight, zt_weighs, zt_place, zpl, Int.toNat_natCast]; (repeat' split) <;> first | rfl | omega)
      · refine zx_tin (z := 2) (tgt := 78) dX10_about_35 ((zn_toInt ⟨by omega, by omega⟩).trans h_35) (by decide) (by decide) rfl (by decide) ?_
        refine zx_aload_n dX10_about_78 rfl ?_
        refine zx_getr dX10_about_79 fX10_33 ?_
        refine zx_iload_n dX10_about_82 rfl ?_
        refine zx_callV (y1 := iX8_weighs) dX10_about_83 lX10_164 vX8_weighs rc_8 (mX8_weighs hT hzz) rfl rfl (Nat.le_of_ble_eq_true rfl) ?_
        refine zk_i ?_
        refine zx_iret (st := []) dX10_about_86 rfl rfl ?_
        exact zO_i hC (by simp only [zk_about, zt_kind, zt_weight, zt_weighs, zt_place, zpl, Int.toNat_natCast]; (repeat' split) <;> first | rfl | omega)
      · refine zx_tout (tgt := 87) dX10_about_35 (by rw [zn_toInt ⟨by omega, by omega⟩]; exact h_35) (by decide) ?_
        refine zx_bipush (v := zn_I (-102)) dX10_about_87 (by decide) ?_
        refine zx_iret (st := []) dX10_about_89 rfl rfl ?_
        exact zO_i hC (by simp only [zk_about, zt_kind, zt_weight, zt_weighs, zt_place, zpl, Int.toNat_natCast]; (repeat' split) <;> first | rfl | omega)
    · refine zx_aload_n dX10_about_21 rfl ?_
      refine zx_getr dX10_about_22 fX10_33 ?_
      refine zx_iload_n dX10_about_25 rfl ?_
      refine zx_iload_n dX10_about_26 rfl ?_
      refine zx_bipush (v := zn_I 10) dX10_about_27 (by decide) ?_
      refine zy_isub dX10_about_29 ?_
      refine zx_callV (y1 := iX8_place) dX10_about_30 lX10_154 vX8_place rc_8 (mX8_place hT hzz (q := w - 10) (by omega)) rfl rfl (Nat.le_of_ble_eq_true rfl) ?_
      refine zk_i ?_
      refine zx_iret (st := []) dX10_about_33 rfl rfl ?_
      exact zO_i hC (by simp only [zk_about, zt_kind, zt_weight, zt_weighs, zt_place, zpl, Int.toNat_natCast]; (repeat' split) <;> first | rfl | omega)
  · refine zx_bipush (v := zn_I (-101)) dX10_about_11 (by decide) ?_
    refine zx_iret (st := []) dX10_about_13 rfl rfl ?_
    exact zO_i hC (by simp only [zk_about, zt_kind, zt_weight, zt_weighs, zt_place, zpl, Int.toNat_natCast]; (repeat' split) <;> first | rfl | omega)
set_option maxRecDepth 100000 in
set_option maxHeartbeats 600000 in
theorem mX10_as {l : zw_Lh} {d : Nat} {M : zw_M} {σ : zZ} (hC : zC_ M σ) {z : Int} (hzz : -2147483648 ≤ z ∧ z < 2147483648) {k : Int} (hkk : -2147483648 ≤ k ∧ k < 2147483648) : zw_C l (d + 3) iX10_as [.ref 0, .int (zn_I z), .int (zn_I k)] M (zO (zn_I (zk_as σ z k)) σ M) := by
  obtain ⟨hI, hT, hG, ⟨ha, hb, hc⟩, hk⟩ := id hC
  have hp := hI.1
  have h30 := zp_30 hp
  have h8 := hT.1
  refine zw_of (by decide +kernel) (Nat.le_of_ble_eq_true rfl) ?_
  refine zy_loc (L1 := [.ref 0, .int (zn_I z), .int (zn_I k)]) rfl ?_
  refine zx_aload_n dX10_as_0 rfl ?_
  refine zx_getr dX10_as_1 fX10_33 ?_
  refine zx_iload_n dX10_as_4 rfl ?_
  refine zx_callV (y1 := iX8_has) dX10_as_5 lX10_150 vX8_has rc_8 (mX8_has hT hzz) rfl rfl (Nat.le_of_ble_eq_true rfl) ?_
  refine zk_i ?_
  refine zy_ifB_ne (tgt := 14) dX10_as_8 (by decide) (fun h_8 => ?_) (fun h_8 => ?_)
  · refine zx_iload_n dX10_as_14 rfl ?_
    refine zx_callS (y1 := iX10_isKind) dX10_as_15 lX10_141 sX10_isKind (mX10_isKind hkk) rfl rfl (Nat.le_of_ble_eq_true rfl) ?_
    refine zk_i ?_
    refine zy_ifB_ne (tgt := 24) dX10_as_18 (by decide) (fun h_18 => ?_) (fun h_18 => ?_)
    · refine zx_aload_n dX10_as_24 rfl ?_
      refine zx_getr dX10_as_25 fX10_33 ?_
      refine zx_iload_n dX10_as_28 rfl ?_
      refine zx_iload_n dX10_as_29 rfl ?_
      refine zx_callV (y1 := iX8_isA) dX10_as_30 lX10_167 vX8_isA rc_8 (mX8_isA hT hzz hkk) rfl rfl (Nat.le_of_ble_eq_true rfl) ?_
      refine zk_i ?_
      refine zy_ifB_eq (tgt := 40) dX10_as_33 (by decide) (fun h_33 => ?_) (fun h_33 => ?_)
      · refine zx_iconst (v := zn_I (-1)) dX10_as_40 rfl ?_
        refine zx_iret (st := []) dX10_as_41 rfl rfl ?_
        exact zO_i hC (by simp only [zk_as, Int.toNat_natCast]; (repeat' split) <;> first | rfl | omega)
      · refine zx_iload_n dX10_as_36 rfl ?_
        refine zx_goto (tgt := 41) dX10_as_37 (by decide) ?_
        refine zx_iret (st := []) dX10_as_41 rfl rfl ?_
        exact zO_i hC (by simp only [zk_as, Int.toNat_natCast]; (repeat' split) <;> first | rfl | omega)
    · refine zx_bipush (v := zn_I (-102)) dX10_as_21 (by decide) ?_
      refine zx_iret (st := []) dX10_as_23 rfl rfl ?_
      exact zO_i hC (by simp only [zk_as, Int.toNat_natCast]; (repeat' split) <;> first | rfl | omega)
  · refine zx_bipush (v := zn_I (-101)) dX10_as_11 (by decide) ?_
    refine zx_iret (st := []) dX10_as_13 rfl rfl ?_
    exact zO_i hC (by simp only [zk_as, Int.toNat_natCast]; (repeat' split) <;> first | rfl | omega)
set_option maxRecDepth 100000 in
set_option maxHeartbeats 600000 in
theorem mX10_stand {l : zw_Lh} {d : Nat} {M : zw_M} {σ : zZ} (hC : zC_ M σ) {z : Int} (hzz : -2147483648 ≤ z ∧ z < 2147483648) {q : Int} (hqq : -2147483648 ≤ q ∧ q < 2147483648) {s : Int} (hss : -2147483648 ≤ s ∧ s < 2147483648) : zw_C l (d + 3) iX10_stand [.ref 0, .int (zn_I z), .int (zn_I q), .int (zn_I s)] M (zO (zn_I (zk_stand σ z q s)) (zk_standS σ z q s) M) := by
  obtain ⟨hI, hT, hG, ⟨ha, hb, hc⟩, hk⟩ := id hC
  have hp := hI.1
  have h30 := zp_30 hp
  have h8 := hT.1
  refine zw_of (by decide +kernel) (Nat.le_of_ble_eq_true rfl) ?_
  refine zy_loc (L1 := [.ref 0, .int (zn_I z), .int (zn_I q), .int (zn_I s), .retAddr 0]) rfl ?_
  refine zx_aload_n dX10_stand_0 rfl ?_
  refine zx_getr dX10_stand_1 fX10_33 ?_
  refine zx_iload_n dX10_stand_4 rfl ?_
  refine zx_callV (y1 := iX8_has) dX10_stand_5 lX10_150 vX8_has rc_8 (mX8_has hT hzz) rfl rfl (Nat.le_of_ble_eq_true rfl) ?_
  refine zk_i ?_
  refine zy_ifB_eq (tgt := 29) dX10_stand_8 (by decide) (fun h_8 => ?_) (fun h_8 => ?_)
  · refine zx_bipush (v := zn_I (-101)) dX10_stand_29 (by decide) ?_
    refine zx_iret (st := []) dX10_stand_31 rfl rfl ?_
    rw [zk_standS, if_neg (by omega)]
    exact zO_i hC (by simp only [zk_stand, Int.toNat_natCast]; (repeat' split) <;> first | rfl | omega)
  · refine zx_iload_n dX10_stand_11 rfl ?_
    refine zx_callS (y1 := iX10_isQuarter) dX10_stand_12 lX10_171 sX10_isQuarter (mX10_isQuarter hqq) rfl rfl (Nat.le_of_ble_eq_true rfl) ?_
    refine zk_i ?_
    refine zy_ifB_eq (tgt := 29) dX10_stand_15 (by decide) (fun h_15 => ?_) (fun h_15 => ?_)
    · refine zx_bipush (v := zn_I (-101)) dX10_stand_29 (by decide) ?_
      refine zx_iret (st := []) dX10_stand_31 rfl rfl ?_
      rw [zk_standS, if_neg (by omega)]
      exact zO_i hC (by simp only [zk_stand, Int.toNat_natCast]; (repeat' split) <;> first | rfl | omega)
    · refine zx_aload_n dX10_stand_18 rfl ?_
      refine zx_getr dX10_stand_19 fX10_26 ?_
      refine zx_iload_n dX10_stand_22 rfl ?_
      refine zx_callV (y1 := iX1_has) dX10_stand_23 lX10_125 vX1_has rc_4 (mX1_has hI hss) rfl rfl (Nat.le_of_ble_eq_true rfl) ?_
      refine zk_i ?_
      refine zy_ifB_ne (tgt := 32) dX10_stand_26 (by decide) (fun h_26 => ?_) (fun h_26 => ?_)
      · have hper : zt_isA σ.2.1 (z : Int) 3 ↔ zpers σ (z : Int) := by rw [zt_isA, zpers, zt_per, zt_kind, if_pos (by omega)]; omega
        refine zx_aload_n dX10_stand_32 rfl ?_
        refine zx_getr dX10_stand_33 fX10_33 ?_
        refine zx_iload_n dX10_stand_36 rfl ?_
        refine zx_iconst (v := zn_I 3) dX10_stand_37 rfl ?_
        refine zx_callV (y1 := iX8_isA) dX10_stand_38 lX10_167 vX8_isA rc_8 (mX8_isA hT hzz (a := 3) (by omega)) rfl rfl (Nat.le_of_ble_eq_true rfl) ?_
        refine zk_i ?_
        refine zy_ifB_ne (tgt := 47) dX10_stand_41 (by decide) (fun h_41 => ?_) (fun h_41 => ?_)
        · have hpp : zpers σ z := hper.mp h_41
          obtain ⟨z, rfl⟩ : ∃ n : Nat, z = (n : Int) := ⟨z.toNat, by omega⟩
          obtain ⟨q, rfl⟩ : ∃ n : Nat, q = (n : Int) := ⟨q.toNat, by omega⟩
          obtain ⟨s, rfl⟩ : ∃ n : Nat, s = (n : Int) := ⟨s.toNat, by omega⟩
          refine zx_aload_n dX10_stand_47 rfl ?_
          refine zx_getr dX10_stand_48 fX10_33 ?_
          refine zx_iload_n dX10_stand_51 rfl ?_
          refine zx_iload_n dX10_stand_52 rfl ?_
          refine zx_callV (y1 := iX8_place) dX10_stand_53 lX10_154 vX8_place rc_8 (mX8_place hT hzz hqq) rfl rfl (Nat.le_of_ble_eq_true rfl) ?_
          refine zk_i ?_
          refine zx_istore dX10_stand_56 rfl (Nat.le_of_ble_eq_true rfl) ?_
          refine zx_aload_n dX10_stand_58 rfl ?_
          refine zx_getr dX10_stand_59 fX10_33 ?_
          refine zx_iload_n dX10_stand_62 rfl ?_
          refine zx_iload_n dX10_stand_63 rfl ?_
          refine zx_iload_n dX10_stand_64 rfl ?_
          refine zx_callV (y1 := iX8_move) dX10_stand_65 lX10_174 vX8_move rc_8 (mX8_move hT (t := z) (q := q) (x := zn_I (s : Int)) (by omega) (by omega)) rfl rfl (Nat.le_of_ble_eq_true rfl) ?_
          refine zk_u ?_
          refine zx_iload dX10_stand_68 rfl ?_
          refine zx_iret (st := []) dX10_stand_70 rfl rfl ?_
          rw [zk_standS, if_pos ⟨⟨⟨by omega, by omega⟩, ⟨by omega, by omega⟩, by omega, by omega⟩, hpp⟩, Int.toNat_natCast, Int.toNat_natCast, Int.toNat_natCast]
          exact zO_f (zf_s zf_rf (by decide)) (zC_th (zf_s zf_rf (by decide)) (by simp [zw_s]) hC (zT_at hT (by omega) (by omega) (by omega))) (by rw [zk_stand, if_neg (fun r => r ⟨⟨by omega, by omega⟩, ⟨by omega, by omega⟩, by omega, by omega⟩), if_neg (fun r => r hpp), zt_place, if_pos ⟨⟨by omega, by omega⟩, by omega, by omega⟩]; rfl)
        · have hnp : ¬ zpers σ z := fun r => h_41 (hper.mpr r)
          refine zx_bipush (v := zn_I (-103)) dX10_stand_44 (by decide) ?_
          refine zx_iret (st := []) dX10_stand_46 rfl rfl ?_
          rw [zk_standS, if_neg (fun r => hnp r.2)]
          exact zO_i hC (by rw [zk_stand, if_neg (by omega), if_pos hnp])
      · refine zx_bipush (v := zn_I (-101)) dX10_stand_29 (by decide) ?_
        refine zx_iret (st := []) dX10_stand_31 rfl rfl ?_
        rw [zk_standS, if_neg (by omega)]
        exact zO_i hC (by simp only [zk_stand, Int.toNat_natCast]; (repeat' split) <;> first | rfl | omega)
set_option maxRecDepth 100000 in
set_option maxHeartbeats 600000 in
theorem mX10_put {l : zw_Lh} {d : Nat} {M : zw_M} {σ : zZ} (hC : zC_ M σ) {z : Int} (hzz : -2147483648 ≤ z ∧ z < 2147483648) {s : Int} (hss : -2147483648 ≤ s ∧ s < 2147483648) : zw_C l (d + 3) iX10_put [.ref 0, .int (zn_I z), .int (zn_I s)] M (zO (zn_I (zk_put σ z s)) (zk_putS σ z s) M) := by
  obtain ⟨hI, hT, hG, ⟨ha, hb, hc⟩, hk⟩ := id hC
  have hp := hI.1
  have h30 := zp_30 hp
  have h8 := hT.1
  refine zw_of (by decide +kernel) (Nat.le_of_ble_eq_true rfl) ?_
  refine zy_loc (L1 := [.ref 0, .int (zn_I z), .int (zn_I s), .retAddr 0]) rfl ?_
  refine zx_aload_n dX10_put_0 rfl ?_
  refine zx_getr dX10_put_1 fX10_33 ?_
  refine zx_iload_n dX10_put_4 rfl ?_
  refine zx_callV (y1 := iX8_has) dX10_put_5 lX10_150 vX8_has rc_8 (mX8_has hT hzz) rfl rfl (Nat.le_of_ble_eq_true rfl) ?_
  refine zk_i ?_
  refine zy_ifB_eq (tgt := 22) dX10_put_8 (by decide) (fun h_8 => ?_) (fun h_8 => ?_)
  · refine zx_bipush (v := zn_I (-101)) dX10_put_22 (by decide) ?_
    refine zx_iret (st := []) dX10_put_24 rfl rfl ?_
    rw [zk_putS, if_neg (by omega)]
    exact zO_i hC (by simp only [zk_put, Int.toNat_natCast]; (repeat' split) <;> first | rfl | omega)
  · refine zx_aload_n dX10_put_11 rfl ?_
    refine zx_getr dX10_put_12 fX10_26 ?_
    refine zx_iload_n dX10_put_15 rfl ?_
    refine zx_callV (y1 := iX1_has) dX10_put_16 lX10_125 vX1_has rc_4 (mX1_has hI hss) rfl rfl (Nat.le_of_ble_eq_true rfl) ?_
    refine zk_i ?_
    refine zy_ifB_ne (tgt := 25) dX10_put_19 (by decide) (fun h_19 => ?_) (fun h_19 => ?_)
    · have hper : zt_isA σ.2.1 (z : Int) 3 ↔ zpers σ (z : Int) := by rw [zt_isA, zpers, zt_per, zt_kind, if_pos (by omega)]; omega
      refine zx_aload_n dX10_put_25 rfl ?_
      refine zx_getr dX10_put_26 fX10_33 ?_
      refine zx_iload_n dX10_put_29 rfl ?_
      refine zx_iconst (v := zn_I 3) dX10_put_30 rfl ?_
      refine zx_callV (y1 := iX8_isA) dX10_put_31 lX10_167 vX8_isA rc_8 (mX8_isA hT hzz (a := 3) (by omega)) rfl rfl (Nat.le_of_ble_eq_true rfl) ?_
      refine zk_i ?_
      refine zy_ifB_eq (tgt := 40) dX10_put_34 (by decide) (fun h_34 => ?_) (fun h_34 => ?_)
      · have hnp : ¬ zpers σ z := fun r => h_34 (hper.mpr r)
        obtain ⟨z, rfl⟩ : ∃ n : Nat, z = (n : Int) := ⟨z.toNat, by omega⟩
        obtain ⟨s, rfl⟩ : ∃ n : Nat, s = (n : Int) := ⟨s.toNat, by omega⟩
        refine zx_aload_n dX10_put_40 rfl ?_
        refine zx_getr dX10_put_41 fX10_33 ?_
        refine zx_iload_n dX10_put_44 rfl ?_
        refine zx_iconst (v := zn_I 0) dX10_put_45 rfl ?_
        refine zx_callV (y1 := iX8_place) dX10_put_46 lX10_154 vX8_place rc_8 (mX8_place hT hzz (q := 0) (by omega)) rfl rfl (Nat.le_of_ble_eq_true rfl) ?_
        refine zk_i ?_
        refine zx_istore_n dX10_put_49 rfl (Nat.le_of_ble_eq_true rfl) ?_
        refine zx_aload_n dX10_put_50 rfl ?_
        refine zx_getr dX10_put_51 fX10_33 ?_
        refine zx_iload_n dX10_put_54 rfl ?_
        refine zx_iload_n dX10_put_55 rfl ?_
        refine zx_callV (y1 := iX8_moveAllDay) dX10_put_56 lX10_178 vX8_moveAllDay rc_8 (mX8_moveAllDay (k := σ.2.1.1) hT.2.1 h8 (t := z) (x := zn_I (s : Int)) (by omega)) rfl rfl (Nat.le_of_ble_eq_true rfl) ?_
        intro v M1 he
        obtain ⟨rfl, hf, hcc⟩ := he
        refine zx_iload_n dX10_put_59 rfl ?_
        refine zx_iret (st := []) dX10_put_60 rfl rfl ?_
        rw [zk_putS, if_pos ⟨⟨⟨by omega, by omega⟩, by omega, by omega⟩, hnp⟩, Int.toNat_natCast, Int.toNat_natCast]
        refine zO_f (zf_mono hf (by decide)) (zC_th (zf_mono hf (by decide)) (by rw [(hf 8 (by decide)).1]) hC (zT_mv hT hf (fun q hq => by rw [hcc, if_pos (by omega)]) (fun k hk => by rw [hcc, if_neg (by omega)]) (fun q hq => by omega))) (by rw [zk_put, if_neg (fun r => r ⟨⟨by omega, by omega⟩, by omega, by omega⟩), if_neg hnp, zt_place, if_pos ⟨⟨by omega, by omega⟩, by omega, by omega⟩]; rfl)
      · have hpp : zpers σ z := hper.mp h_34
        refine zx_bipush (v := zn_I (-103)) dX10_put_37 (by decide) ?_
        refine zx_iret (st := []) dX10_put_39 rfl rfl ?_
        rw [zk_putS, if_neg (fun r => r.2 hpp)]
        exact zO_i hC (by rw [zk_put, if_neg (by omega), if_pos hpp])
    · refine zx_bipush (v := zn_I (-101)) dX10_put_22 (by decide) ?_
      refine zx_iret (st := []) dX10_put_24 rfl rfl ?_
      rw [zk_putS, if_neg (by omega)]
      exact zO_i hC (by simp only [zk_put, Int.toNat_natCast]; (repeat' split) <;> first | rfl | omega)
set_option maxRecDepth 100000 in
set_option maxHeartbeats 600000 in
theorem mX10_trade {l : zw_Lh} {d : Nat} {M : zw_M} {σ : zZ} (hC : zC_ M σ) {a : Int} (haa : -2147483648 ≤ a ∧ a < 2147483648) {b : Int} (hbb : -2147483648 ≤ b ∧ b < 2147483648) {q : Int} (hqq : -2147483648 ≤ q ∧ q < 2147483648) : zw_C l (d + 3) iX10_trade [.ref 0, .int (zn_I a), .int (zn_I b), .int (zn_I q)] M (zO (zn_I (zk_trade σ a b q)) (zk_tradeS σ a b q) M) := by
  obtain ⟨hI, hT, hG, -, hk⟩ := id hC
  have hp := hI.1
  have h30 := zp_30 hp
  have h8 := hT.1
  refine zw_of (by decide +kernel) (Nat.le_of_ble_eq_true rfl) ?_
  refine zy_loc (L1 := [.ref 0, .int (zn_I a), .int (zn_I b), .int (zn_I q), .retAddr 0, .retAddr 0]) rfl ?_
  refine zx_aload_n dX10_trade_0 rfl ?_
  refine zx_getr dX10_trade_1 fX10_33 ?_
  refine zx_iload_n dX10_trade_4 rfl ?_
  refine zx_callV (y1 := iX8_has) dX10_trade_5 lX10_150 vX8_has rc_8 (mX8_has hT haa) rfl rfl (Nat.le_of_ble_eq_true rfl) ?_
  refine zk_i ?_
  refine zy_ifB_eq (tgt := 29) dX10_trade_8 (by decide) (fun h_8 => ?_) (fun h_8 => ?_)
  · refine zx_bipush (v := zn_I (-101)) dX10_trade_29 (by decide) ?_
    refine zx_iret (st := []) dX10_trade_31 rfl rfl ?_
    rw [zk_tradeS, if_neg (by omega)]
    exact zO_i hC (by simp only [zk_trade, Int.toNat_natCast]; (repeat' split) <;> first | rfl | omega)
  · refine zx_aload_n dX10_trade_11 rfl ?_
    refine zx_getr dX10_trade_12 fX10_33 ?_
    refine zx_iload_n dX10_trade_15 rfl ?_
    refine zx_callV (y1 := iX8_has) dX10_trade_16 lX10_150 vX8_has rc_8 (mX8_has hT hbb) rfl rfl (Nat.le_of_ble_eq_true rfl) ?_
    refine zk_i ?_
    refine zy_ifB_eq (tgt := 29) dX10_trade_19 (by decide) (fun h_19 => ?_) (fun h_19 => ?_)
    · refine zx_bipush (v := zn_I (-101)) dX10_trade_29 (by decide) ?_
      refine zx_iret (st := []) dX10_trade_31 rfl rfl ?_
      rw [zk_tradeS, if_neg (by omega)]
      exact zO_i hC (by simp only [zk_trade, Int.toNat_natCast]; (repeat' split) <;> first | rfl | omega)
    · refine zx_iload_n dX10_trade_22 rfl ?_
      refine zx_callS (y1 := iX10_isQuarter) dX10_trade_23 lX10_171 sX10_isQuarter (mX10_isQuarter hqq) rfl rfl (Nat.le_of_ble_eq_true rfl) ?_
      refine zk_i ?_
      refine zy_ifB_ne (tgt := 32) dX10_trade_26 (by decide) (fun h_26 => ?_) (fun h_26 => ?_)
      · have hpera : zt_isA σ.2.1 (a : Int) 3 ↔ zpers σ (a : Int) := by rw [zt_isA, zpers, zt_per, zt_kind, if_pos (by omega)]; omega
        have hperb : zt_isA σ.2.1 (b : Int) 3 ↔ zpers σ (b : Int) := by rw [zt_isA, zpers, zt_per, zt_kind, if_pos (by omega)]; omega
        refine zx_aload_n dX10_trade_32 rfl ?_
        refine zx_getr dX10_trade_33 fX10_33 ?_
        refine zx_iload_n dX10_trade_36 rfl ?_
        refine zx_iconst (v := zn_I 3) dX10_trade_37 rfl ?_
        refine zx_callV (y1 := iX8_isA) dX10_trade_38 lX10_167 vX8_isA rc_8 (mX8_isA hT haa (a := 3) (by omega)) rfl rfl (Nat.le_of_ble_eq_true rfl) ?_
        refine zk_i ?_
        refine zy_ifB_eq (tgt := 56) dX10_trade_41 (by decide) (fun h_41 => ?_) (fun h_41 => ?_)
        · have hnp : ¬ (zpers σ a ∧ zpers σ b) := fun r => h_41 (hpera.mpr r.1)
          refine zx_bipush (v := zn_I (-103)) dX10_trade_56 (by decide) ?_
          refine zx_iret (st := []) dX10_trade_58 rfl rfl ?_
          rw [zk_tradeS, if_neg (fun r => hnp r.2)]
          exact zO_i hC (by rw [zk_trade, if_neg (by omega), if_pos hnp])
        · refine zx_aload_n dX10_trade_44 rfl ?_
          refine zx_getr dX10_trade_45 fX10_33 ?_
          refine zx_iload_n dX10_trade_48 rfl ?_
          refine zx_iconst (v := zn_I 3) dX10_trade_49 rfl ?_
          refine zx_callV (y1 := iX8_isA) dX10_trade_50 lX10_167 vX8_isA rc_8 (mX8_isA hT hbb (a := 3) (by omega)) rfl rfl (Nat.le_of_ble_eq_true rfl) ?_
          refine zk_i ?_
          refine zy_ifB_ne (tgt := 59) dX10_trade_53 (by decide) (fun h_53 => ?_) (fun h_53 => ?_)
          · have hpa : zpers σ a := hpera.mp h_41
            have hpb : zpers σ b := hperb.mp h_53
            have ea : zt_place σ.2.1 a q = (zpl σ a q : Nat) := by rw [zt_place, if_pos ⟨by omega, by omega⟩]; rfl
            have eb : zt_place σ.2.1 b q = (zpl σ b q : Nat) := by rw [zt_place, if_pos ⟨by omega, by omega⟩]; rfl
            obtain ⟨a, rfl⟩ : ∃ n : Nat, a = (n : Int) := ⟨a.toNat, by omega⟩
            obtain ⟨b, rfl⟩ : ∃ n : Nat, b = (n : Int) := ⟨b.toNat, by omega⟩
            obtain ⟨q, rfl⟩ : ∃ n : Nat, q = (n : Int) := ⟨q.toNat, by omega⟩
            have hp1 : zpl σ a q < zp_n σ.1 := hT.2.2.2.2.2.2.2 _ (by rw [Int.toNat_natCast]; omega) _ (by rw [Int.toNat_natCast]; omega)
            have hp2 : zpl σ b q < zp_n σ.1 := hT.2.2.2.2.2.2.2 _ (by rw [Int.toNat_natCast]; omega) _ (by rw [Int.toNat_natCast]; omega)
            refine zx_aload_n dX10_trade_59 rfl ?_
            refine zx_getr dX10_trade_60 fX10_33 ?_
            refine zx_iload_n dX10_trade_63 rfl ?_
            refine zx_iload_n dX10_trade_64 rfl ?_
            refine zx_callV (y1 := iX8_place) dX10_trade_65 lX10_154 vX8_place rc_8 (mX8_place hT haa hqq) rfl rfl (Nat.le_of_ble_eq_true rfl) ?_
            refine zk_i ?_
            rw [ea]
            refine zx_istore dX10_trade_68 rfl (Nat.le_of_ble_eq_true rfl) ?_
            refine zx_aload_n dX10_trade_70 rfl ?_
            refine zx_getr dX10_trade_71 fX10_33 ?_
            refine zx_iload_n dX10_trade_74 rfl ?_
            refine zx_iload_n dX10_trade_75 rfl ?_
            refine zx_callV (y1 := iX8_place) dX10_trade_76 lX10_154 vX8_place rc_8 (mX8_place hT hbb hqq) rfl rfl (Nat.le_of_ble_eq_true rfl) ?_
            refine zk_i ?_
            rw [eb]
            refine zx_istore dX10_trade_79 rfl (Nat.le_of_ble_eq_true rfl) ?_
            refine zx_aload_n dX10_trade_81 rfl ?_
            refine zx_getr dX10_trade_82 fX10_33 ?_
            refine zx_iload_n dX10_trade_85 rfl ?_
            refine zx_iload_n dX10_trade_86 rfl ?_
            refine zx_iload dX10_trade_87 rfl ?_
            refine zx_callV (y1 := iX8_move) dX10_trade_89 lX10_174 vX8_move rc_8 (mX8_move hT (t := a) (q := q) (x := zn_I (zpl σ b q : Nat)) (by omega) (by omega)) rfl rfl (Nat.le_of_ble_eq_true rfl) ?_
            refine zk_u ?_
            refine zx_aload_n dX10_trade_92 rfl ?_
            refine zx_getr dX10_trade_93 fX10_33 ?_
            refine zx_iload_n dX10_trade_96 rfl ?_
            refine zx_iload_n dX10_trade_97 rfl ?_
            refine zx_iload dX10_trade_98 rfl ?_
            refine zx_callV (y1 := iX8_move) dX10_trade_100 lX10_174 vX8_move rc_8 (mX8_move (M := (zw_s M 11 (a * 8 + q) (zn_I (zpl σ b q : Nat)))) (zT_at hT (by omega) (by omega) hp2) (t := b) (q := q) (x := zn_I (zpl σ a q : Nat)) (by show b < σ.2.1.1; omega) (by omega)) rfl rfl (Nat.le_of_ble_eq_true rfl) ?_
            refine zk_u ?_
            refine zx_iload dX10_trade_103 rfl ?_
            refine zx_iload dX10_trade_105 rfl ?_
            refine zy_icmp_ne (tgt := 114) dX10_trade_107 (by decide) (by omega) (fun h_107 => ?_) (fun h_107 => ?_)
            · refine zx_iconst (v := zn_I 1) dX10_trade_114 rfl ?_
              refine zx_iret (st := []) dX10_trade_115 rfl rfl ?_
              rw [zk_tradeS, if_pos ⟨⟨⟨by omega, by omega⟩, ⟨by omega, by omega⟩, by omega, by omega⟩, hpa, hpb⟩, Int.toNat_natCast, Int.toNat_natCast, Int.toNat_natCast]
              refine zO_f (zf_s (zf_s zf_rf (by decide)) (by decide)) (zC_th (zf_s (zf_s zf_rf (by decide)) (by decide)) (by simp [zw_s]) hC (zT_at (zT_at hT (by omega) (by omega) hp2) (by show b < σ.2.1.1; omega) (by omega) hp1)) ?_
              rw [zk_trade, if_neg (fun r => r ⟨⟨by omega, by omega⟩, ⟨by omega, by omega⟩, by omega, by omega⟩), if_neg (fun r => r ⟨hpa, hpb⟩)]
              split <;> first | rfl | omega
            · refine zx_iconst (v := zn_I 0) dX10_trade_110 rfl ?_
              refine zx_goto (tgt := 115) dX10_trade_111 (by decide) ?_
              refine zx_iret (st := []) dX10_trade_115 rfl rfl ?_
              rw [zk_tradeS, if_pos ⟨⟨⟨by omega, by omega⟩, ⟨by omega, by omega⟩, by omega, by omega⟩, hpa, hpb⟩, Int.toNat_natCast, Int.toNat_natCast, Int.toNat_natCast]
              refine zO_f (zf_s (zf_s zf_rf (by decide)) (by decide)) (zC_th (zf_s (zf_s zf_rf (by decide)) (by decide)) (by simp [zw_s]) hC (zT_at (zT_at hT (by omega) (by omega) hp2) (by show b < σ.2.1.1; omega) (by omega) hp1)) ?_
              rw [zk_trade, if_neg (fun r => r ⟨⟨by omega, by omega⟩, ⟨by omega, by omega⟩, by omega, by omega⟩), if_neg (fun r => r ⟨hpa, hpb⟩)]
              split <;> first | rfl | omega
          · have hnp : ¬ (zpers σ a ∧ zpers σ b) := fun r => h_53 (hperb.mpr r.2)
            refine zx_bipush (v := zn_I (-103)) dX10_trade_56 (by decide) ?_
            refine zx_iret (st := []) dX10_trade_58 rfl rfl ?_
            rw [zk_tradeS, if_neg (fun r => hnp r.2)]
            exact zO_i hC (by rw [zk_trade, if_neg (by omega), if_pos hnp])
      · refine zx_bipush (v := zn_I (-101)) dX10_trade_29 (by decide) ?_
        refine zx_iret (st := []) dX10_trade_31 rfl rfl ?_
        rw [zk_tradeS, if_neg (by omega)]
        exact zO_i hC (by simp only [zk_trade, Int.toNat_natCast]; (repeat' split) <;> first | rfl | omega)
