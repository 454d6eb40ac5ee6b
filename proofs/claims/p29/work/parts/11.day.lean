/-! WHAT STAYS: memories that agree but at some cells -/
def zw_fr (S : List Nat) (M M' : zw_M) : Prop := ∀ p, p ∉ S → M'.1 p = M.1 p ∧ M'.2 p = M.2 p
theorem zf_rf {S : List Nat} {M : zw_M} : zw_fr S M M := fun _ _ => ⟨rfl, rfl⟩
theorem zf_tr {S : List Nat} {M M1 M2 : zw_M} (h : zw_fr S M M1) (h2 : zw_fr S M1 M2) : zw_fr S M M2 := fun p hp => ⟨(h2 p hp).1.trans (h p hp).1, (h2 p hp).2.trans (h p hp).2⟩
theorem zf_mono {S S1 : List Nat} {M M1 : zw_M} (h : zw_fr S M M1) (hs : ∀ p ∈ S, p ∈ S1) : zw_fr S1 M M1 := fun p hp => h p (fun q => hp (hs p q))
theorem zf_s {S : List Nat} {M M1 : zw_M} {q k : Nat} {x : Int32} (h : zw_fr S M M1) (hq : q ∈ S) : zw_fr S M (zw_s M1 q k x) := fun p hp => by
  have hne : p ≠ q := fun e => hp (e ▸ hq)
  refine ⟨Eq.trans ?_ (h p hp).1, (h p hp).2⟩
  funext j
  simp [zw_s, hne]
theorem zf_sl {S : List Nat} {M M1 : zw_M} {q k : Nat} {x : Int64} (h : zw_fr S M M1) (hq : q ∈ S) : zw_fr S M (zw_sl M1 q k x) := fun p hp => by
  have hne : p ≠ q := fun e => hp (e ▸ hq)
  refine ⟨(h p hp).1, Eq.trans ?_ (h p hp).2⟩
  funext j
  simp [zw_sl, hne]
theorem zf_sr {S : List Nat} {M M1 : zw_M} {q : Nat} {f : Nat → Int32} (h : zw_fr S M M1) (hq : q ∈ S) : zw_fr S M (zw_sr M1 q f) := fun p hp => by
  have hne : p ≠ q := fun e => hp (e ▸ hq)
  refine ⟨Eq.trans ?_ (h p hp).1, (h p hp).2⟩
  simp [zw_sr, hne]
theorem zI_f {S : List Nat} {M M1 : zw_M} {π : zP} (h : zw_fr S M M1) (hI : zI M π) (hS : ∀ p ∈ [4, 5, 6, 7], p ∉ S) : zI M1 π := by
  have h4 := (h 4 (hS 4 (by decide))).1
  have h5 := (h 5 (hS 5 (by decide))).1
  have h6 := (h 6 (hS 6 (by decide))).1
  have h7 := (h 7 (hS 7 (by decide))).1
  unfold zI at hI ⊢
  rw [h4, h5, h6, h7]
  exact hI
theorem zT_f {S : List Nat} {M M1 : zw_M} {n : Nat} {τ : zQ} (h : zw_fr S M M1) (hT : zT M n τ) (hS : ∀ p ∈ [8, 9, 10, 11], p ∉ S) : zT M1 n τ := by
  have h4 := (h 8 (hS 8 (by decide))).1
  have h5 := (h 9 (hS 9 (by decide))).1
  have h6 := (h 10 (hS 10 (by decide))).1
  have h7 := (h 11 (hS 11 (by decide))).1
  unfold zT at hT ⊢
  rw [h4, h5, h6, h7]
  exact hT
/-! contracts at squares and things that there are -/
section ZIN
variable {l : zw_Lh} {d : Nat} {M : zw_M} {π : zP} {n : Nat} {τ : zQ}
theorem mX1_east_in (hI : zI M π) {s : Nat} (hs : s < zp_n π) : zw_C l (d + 1) iX1_east [.ref 4, .int (zn_I (s : Int))] M (zw_i (zn_I (zp_e π s)) M) := by
  have h30 := zp_30 hI.1
  have := mX1_east (l := l) (d := d) hI (z := (s : Int)) ⟨by omega, by omega⟩
  rwa [zp_at_in hs] at this
theorem mX1_south_in (hI : zI M π) {s : Nat} (hs : s < zp_n π) : zw_C l (d + 1) iX1_south [.ref 4, .int (zn_I (s : Int))] M (zw_i (zn_I (zp_s π s)) M) := by
  have h30 := zp_30 hI.1
  have := mX1_south (l := l) (d := d) hI (z := (s : Int)) ⟨by omega, by omega⟩
  rwa [zp_at_in hs] at this
theorem mX8_weighs_in (hT : zT M n τ) {t : Nat} (ht : t < τ.1) : zw_C l (d + 1) iX8_weighs [.ref 8, .int (zn_I (t : Int))] M (zw_i (zn_I (zt_w τ t)) M) := by
  have h8 := hT.1
  have := mX8_weighs (l := l) (d := d) hT (z := (t : Int)) ⟨by omega, by omega⟩
  rwa [zt_weighs_in ht] at this
theorem mX8_place_in (hT : zT M n τ) {t q : Nat} (ht : t < τ.1) (hq : q < 8) : zw_C l (d + 1) iX8_place [.ref 8, .int (zn_I (t : Int)), .int (zn_I (q : Int))] M (zw_i (zn_I (τ.2.2.2 t q : Nat)) M) := by
  have h8 := hT.1
  have := mX8_place (l := l) (d := d) hT (z := (t : Int)) (q := (q : Int)) ⟨by omega, by omega⟩ ⟨by omega, by omega⟩
  rwa [zt_place_in ht hq] at this
end ZIN
/-! THE DAY -/
/-- how far it leans by the first things -/
def zl_e (π : zP) (τ : zQ) (q : Nat) : Nat → Int
  | 0 => 0
  | t + 1 => zl_e π τ q t + zt_w τ t * zp_e π (τ.2.2.2 t q)
def zl_s (π : zP) (τ : zQ) (q : Nat) : Nat → Int
  | 0 => 0
  | t + 1 => zl_s π τ q t + zt_w τ t * zp_s π (τ.2.2.2 t q)
def zl_E (π : zP) (τ : zQ) (q : Nat) : Int := zl_e π τ q τ.1
def zl_S (π : zP) (τ : zQ) (q : Nat) : Int := zl_s π τ q τ.1
theorem zl_e_rng {M : zw_M} {π : zP} {τ : zQ} (hp : π.1 ≤ 5 ∧ π.2.1 ≤ 6) (hT : zT M (zp_n π) τ) {q : Nat} (hq : q < 8) : ∀ t, t ≤ τ.1 → -(1000 * (t : Int)) ≤ zl_e π τ q t ∧ zl_e π τ q t ≤ 1000 * (t : Int)
  | 0, _ => by simp [zl_e]
  | t + 1, h => by
    have ih := zl_e_rng hp hT hq t (by omega)
    have h1 := zt_w_rng hT (show t < τ.1 by omega)
    have h2 := zp_e_rng hp (hT.2.2.2.2.2.2.2 t (by omega) q hq)
    have h3 := zp_mul_rng (a := zt_w τ t) (B := 198) h2.1 h2.2 (by omega) (by omega)
    rw [zl_e]
    omega
theorem zl_s_rng {M : zw_M} {π : zP} {τ : zQ} (hp : π.1 ≤ 5 ∧ π.2.1 ≤ 6) (hT : zT M (zp_n π) τ) {q : Nat} (hq : q < 8) : ∀ t, t ≤ τ.1 → -(1000 * (t : Int)) ≤ zl_s π τ q t ∧ zl_s π τ q t ≤ 1000 * (t : Int)
  | 0, _ => by simp [zl_s]
  | t + 1, h => by
    have ih := zl_s_rng hp hT hq t (by omega)
    have h1 := zt_w_rng hT (show t < τ.1 by omega)
    have h2 := zp_s_rng hp (hT.2.2.2.2.2.2.2 t (by omega) q hq)
    have h3 := zp_mul_rng (a := zt_w τ t) (e := zp_s π (τ.2.2.2 t q)) (B := 198) (by omega) (by omega) (by omega) (by omega)
    rw [zl_s]
    omega
theorem zl_rng {M : zw_M} {π : zP} {τ : zQ} (hp : π.1 ≤ 5 ∧ π.2.1 ≤ 6) (hT : zT M (zp_n π) τ) {q : Nat} (hq : q < 8) : (-8000 ≤ zl_E π τ q ∧ zl_E π τ q ≤ 8000) ∧ -8000 ≤ zl_S π τ q ∧ zl_S π τ q ≤ 8000 := by
  have h1 := zl_e_rng hp hT hq τ.1 (Nat.le_refl _)
  have h2 := zl_s_rng hp hT hq τ.1 (Nat.le_refl _)
  have h8 := hT.1
  unfold zl_E zl_S
  omega
set_option maxRecDepth 100000 in
set_option maxHeartbeats 600000 in
theorem mX0_leanEast {l : zw_Lh} {d : Nat} {M : zw_M} {π : zP} {τ : zQ} (hI : zI M π) (hT : zT M (zp_n π) τ) {q : Nat} (hq : q < 8) : zw_C l (d + 3) iX0_leanEast [.ref 13, .int (zn_I (q : Int))] M (zw_i (zn_I (zl_E π τ q)) M) := by
  have hp := hI.1
  have h30 := zp_30 hp
  have h8 := hT.1
  refine zw_of (by decide +kernel) (Nat.le_of_ble_eq_true rfl) ?_
  refine zy_loc (L1 := [.ref 13, .int (zn_I (q : Int)), .retAddr 0, .retAddr 0]) rfl ?_
  have loop : ∀ s : Nat, s ≤ τ.1 → zw_X l (d + 3) iX0_leanEast (zw_i (zn_I (zl_E π τ q)) M) 4 [.ref 13, .int (zn_I (q : Int)), .int (zn_I (zl_e π τ q s)), .int (zn_I (s : Int))] [] M := by
    refine zw_loop τ.1 (P := fun s => zw_X l (d + 3) iX0_leanEast (zw_i (zn_I (zl_E π τ q)) M) 4 [.ref 13, .int (zn_I (q : Int)), .int (zn_I (zl_e π τ q s)), .int (zn_I (s : Int))] [] M) (fun s hs ih => ?_)
    refine zx_iload_n dX0_leanEast_4 rfl ?_
    refine zx_aload_n dX0_leanEast_5 rfl ?_
    refine zx_getr dX0_leanEast_6 fX0_22 ?_
    refine zx_callV (y1 := iX8_size) dX0_leanEast_9 lX0_26 vX8_size rc_8 (mX8_size hT) rfl rfl (Nat.le_of_ble_eq_true rfl) ?_
    refine zk_i ?_
    refine zy_icmp_ge (tgt := 49) dX0_leanEast_12 (by decide) (by omega) (fun h_12 => ?_) (fun h_12 => ?_)
    · refine zx_iload_n dX0_leanEast_49 rfl ?_
      refine zx_iret (st := []) dX0_leanEast_50 rfl rfl ?_
      exact zk_I (by rw [show s = τ.1 by omega]; rfl)
    · refine zx_iload_n dX0_leanEast_15 rfl ?_
      refine zx_aload_n dX0_leanEast_16 rfl ?_
      refine zx_getr dX0_leanEast_17 fX0_22 ?_
      refine zx_iload_n dX0_leanEast_20 rfl ?_
      refine zx_callV (y1 := iX8_weighs) dX0_leanEast_21 lX0_32 vX8_weighs rc_8 (mX8_weighs_in hT (t := s) (by omega)) rfl rfl (Nat.le_of_ble_eq_true rfl) ?_
      refine zk_i ?_
      refine zx_aload_n dX0_leanEast_24 rfl ?_
      refine zx_getr dX0_leanEast_25 fX0_18 ?_
      refine zx_aload_n dX0_leanEast_28 rfl ?_
      refine zx_getr dX0_leanEast_29 fX0_22 ?_
      refine zx_iload_n dX0_leanEast_32 rfl ?_
      refine zx_iload_n dX0_leanEast_33 rfl ?_
      refine zx_callV (y1 := iX8_place) dX0_leanEast_34 lX0_36 vX8_place rc_8 (mX8_place_in hT (t := s) (q := q) (by omega) hq) rfl rfl (Nat.le_of_ble_eq_true rfl) ?_
      refine zk_i ?_
      refine zx_callV (y1 := iX1_east) dX0_leanEast_37 lX0_40 vX1_east rc_4 (mX1_east_in hI (hT.2.2.2.2.2.2.2 s (by omega) q hq)) rfl rfl (Nat.le_of_ble_eq_true rfl) ?_
      refine zk_i ?_
      refine zy_imul dX0_leanEast_40 ?_
      refine zy_iadd dX0_leanEast_41 ?_
      refine zx_istore_n dX0_leanEast_42 rfl (Nat.le_of_ble_eq_true rfl) ?_
      refine zy_iinc dX0_leanEast_43 rfl rfl ?_
      refine zx_goto (tgt := 4) dX0_leanEast_46 (by decide) ?_
      exact ih (by omega)
  refine zx_iconst (v := zn_I 0) dX0_leanEast_0 rfl ?_
  refine zx_istore_n dX0_leanEast_1 rfl (Nat.le_of_ble_eq_true rfl) ?_
  refine zx_iconst (v := zn_I 0) dX0_leanEast_2 rfl ?_
  refine zx_istore_n dX0_leanEast_3 rfl (Nat.le_of_ble_eq_true rfl) ?_
  exact loop 0 (by omega)
set_option maxRecDepth 100000 in
set_option maxHeartbeats 600000 in
theorem mX0_leanSouth {l : zw_Lh} {d : Nat} {M : zw_M} {π : zP} {τ : zQ} (hI : zI M π) (hT : zT M (zp_n π) τ) {q : Nat} (hq : q < 8) : zw_C l (d + 3) iX0_leanSouth [.ref 13, .int (zn_I (q : Int))] M (zw_i (zn_I (zl_S π τ q)) M) := by
  have hp := hI.1
  have h30 := zp_30 hp
  have h8 := hT.1
  refine zw_of (by decide +kernel) (Nat.le_of_ble_eq_true rfl) ?_
  refine zy_loc (L1 := [.ref 13, .int (zn_I (q : Int)), .retAddr 0, .retAddr 0]) rfl ?_
  have loop : ∀ s : Nat, s ≤ τ.1 → zw_X l (d + 3) iX0_leanSouth (zw_i (zn_I (zl_S π τ q)) M) 4 [.ref 13, .int (zn_I (q : Int)), .int (zn_I (zl_s π τ q s)), .int (zn_I (s : Int))] [] M := by
    refine zw_loop τ.1 (P := fun s => zw_X l (d + 3) iX0_leanSouth (zw_i (zn_I (zl_S π τ q)) M) 4 [.ref 13, .int (zn_I (q : Int)), .int (zn_I (zl_s π τ q s)), .int (zn_I (s : Int))] [] M) (fun s hs ih => ?_)
    refine zx_iload_n dX0_leanSouth_4 rfl ?_
    refine zx_aload_n dX0_leanSouth_5 rfl ?_
    refine zx_getr dX0_leanSouth_6 fX0_22 ?_
    refine zx_callV (y1 := iX8_size) dX0_leanSouth_9 lX0_26 vX8_size rc_8 (mX8_size hT) rfl rfl (Nat.le_of_ble_eq_true rfl) ?_
    refine zk_i ?_
    refine zy_icmp_ge (tgt := 49) dX0_leanSouth_12 (by decide) (by omega) (fun h_12 => ?_) (fun h_12 => ?_)
    · refine zx_iload_n dX0_leanSouth_49 rfl ?_
      refine zx_iret (st := []) dX0_leanSouth_50 rfl rfl ?_
      exact zk_I (by rw [show s = τ.1 by omega]; rfl)
    · refine zx_iload_n dX0_leanSouth_15 rfl ?_
      refine zx_aload_n dX0_leanSouth_16 rfl ?_
      refine zx_getr dX0_leanSouth_17 fX0_22 ?_
      refine zx_iload_n dX0_leanSouth_20 rfl ?_
      refine zx_callV (y1 := iX8_weighs) dX0_leanSouth_21 lX0_32 vX8_weighs rc_8 (mX8_weighs_in hT (t := s) (by omega)) rfl rfl (Nat.le_of_ble_eq_true rfl) ?_
      refine zk_i ?_
      refine zx_aload_n dX0_leanSouth_24 rfl ?_
      refine zx_getr dX0_leanSouth_25 fX0_18 ?_
      refine zx_aload_n dX0_leanSouth_28 rfl ?_
      refine zx_getr dX0_leanSouth_29 fX0_22 ?_
      refine zx_iload_n dX0_leanSouth_32 rfl ?_
      refine zx_iload_n dX0_leanSouth_33 rfl ?_
      refine zx_callV (y1 := iX8_place) dX0_leanSouth_34 lX0_36 vX8_place rc_8 (mX8_place_in hT (t := s) (q := q) (by omega) hq) rfl rfl (Nat.le_of_ble_eq_true rfl) ?_
      refine zk_i ?_
      refine zx_callV (y1 := iX1_south) dX0_leanSouth_37 lX0_45 vX1_south rc_4 (mX1_south_in hI (hT.2.2.2.2.2.2.2 s (by omega) q hq)) rfl rfl (Nat.le_of_ble_eq_true rfl) ?_
      refine zk_i ?_
      refine zy_imul dX0_leanSouth_40 ?_
      refine zy_iadd dX0_leanSouth_41 ?_
      refine zx_istore_n dX0_leanSouth_42 rfl (Nat.le_of_ble_eq_true rfl) ?_
      refine zy_iinc dX0_leanSouth_43 rfl rfl ?_
      refine zx_goto (tgt := 4) dX0_leanSouth_46 (by decide) ?_
      exact ih (by omega)
  refine zx_iconst (v := zn_I 0) dX0_leanSouth_0 rfl ?_
  refine zx_istore_n dX0_leanSouth_1 rfl (Nat.le_of_ble_eq_true rfl) ?_
  refine zx_iconst (v := zn_I 0) dX0_leanSouth_2 rfl ?_
  refine zx_istore_n dX0_leanSouth_3 rfl (Nat.le_of_ble_eq_true rfl) ?_
  exact loop 0 (by omega)
set_option maxRecDepth 100000 in
set_option maxHeartbeats 600000 in
theorem mX0_wetIn {l : zw_Lh} {d : Nat} {M : zw_M} {π : zP} {τ : zQ} (hI : zI M π) (hT : zT M (zp_n π) τ) {q : Nat} (hq : q < 8) : zw_C l (d + 4) iX0_wetIn [.ref 13, .int (zn_I (q : Int))] M (zw_i (zn_I (zp_bits π (zl_E π τ q) (zl_S π τ q) (zp_n π) : Nat)) M) := by
  have hp := hI.1
  have h30 := zp_30 hp
  have h8 := hT.1
  have hr := zl_rng hp hT hq
  refine zw_of (by decide +kernel) (Nat.le_of_ble_eq_true rfl) ?_
  refine zy_loc (L1 := [.ref 13, .int (zn_I (q : Int))]) rfl ?_
  refine zx_aload_n dX0_wetIn_0 rfl ?_
  refine zx_getr dX0_wetIn_1 fX0_18 ?_
  refine zx_aload_n dX0_wetIn_4 rfl ?_
  refine zx_iload_n dX0_wetIn_5 rfl ?_
  refine zx_callV (y1 := iX0_leanEast) dX0_wetIn_6 lX0_48 vX0_leanEast rc_13 (mX0_leanEast hI hT hq) rfl rfl (Nat.le_of_ble_eq_true rfl) ?_
  refine zk_i ?_
  refine zx_aload_n dX0_wetIn_9 rfl ?_
  refine zx_iload_n dX0_wetIn_10 rfl ?_
  refine zx_callV (y1 := iX0_leanSouth) dX0_wetIn_11 lX0_51 vX0_leanSouth rc_13 (mX0_leanSouth hI hT hq) rfl rfl (Nat.le_of_ble_eq_true rfl) ?_
  refine zk_i ?_
  refine zx_callV (y1 := iX1_wetDoors) dX0_wetIn_14 lX0_54 vX1_wetDoors rc_4 (mX1_wetDoors hI ⟨by omega, by omega⟩ ⟨by omega, by omega⟩) rfl rfl (Nat.le_of_ble_eq_true rfl) ?_
  refine zk_i ?_
  refine zx_iret (st := []) dX0_wetIn_17 rfl rfl ?_
  exact ⟨rfl, rfl⟩
/-- the leans that the day keeps -/
def zd (M : zw_M) (E S : Nat → Int) : Prop := ∀ q, q < 8 → (M.1 14 q = zn_I (E q) ∧ M.1 15 q = zn_I (S q)) ∧ (-1000000 ≤ E q ∧ E q ≤ 1000000) ∧ -1000000 ≤ S q ∧ S q ≤ 1000000
theorem zd_f {S1 : List Nat} {M M1 : zw_M} {E S : Nat → Int} (h : zw_fr S1 M M1) (hd : zd M E S) (hS : ∀ p ∈ [14, 15], p ∉ S1) : zd M1 E S := by
  have h4 := (h 14 (hS 14 (by decide))).1
  have h5 := (h 15 (hS 15 (by decide))).1
  unfold zd at hd ⊢
  rw [h4, h5]
  exact hd


def zc_sum (f : Nat → Nat) : Nat → Nat
  | 0 => 0
  | q + 1 => zc_sum f q + f q
theorem zc_sum_le {f : Nat → Nat} {B : Nat} (h : ∀ q, f q ≤ B) : ∀ n, zc_sum f n ≤ n * B
  | 0 => by simp [zc_sum]
  | n + 1 => by
    have := zc_sum_le h n
    have := h n
    rw [zc_sum, Nat.succ_mul]
    omega
/-- how many doors are wet in all quarters together, with what comes to the leans -/
def zp_day (π : zP) (E S : Nat → Int) (a b : Int) : Nat := zc_sum (fun q => zp_wc π (E q + a) (S q + b)) 8
theorem zp_day_le (π : zP) (E S : Nat → Int) (a b : Int) : zp_day π E S a b ≤ 256 := zc_sum_le (fun q => zp_wc_le π _ _) 8
/-- the first square of the least, -1 ahead of any; the least -/
def zc_b (f : Nat → Nat) : Nat → Int × Int
  | 0 => (-1, 0)
  | s + 1 => if (zc_b f s).1 = -1 ∨ (f s : Int) < (zc_b f s).2 then ((s : Int), (f s : Int)) else zc_b f s
theorem zc_b_rng {f : Nat → Nat} {B : Nat} (h : ∀ q, f q ≤ B) : ∀ s, -1 ≤ (zc_b f s).1 ∧ (zc_b f s).1 < (s : Int) + 1 ∧ 0 ≤ (zc_b f s).2 ∧ (zc_b f s).2 ≤ (B : Int)
  | 0 => by simp [zc_b]
  | s + 1 => by
    have ih := zc_b_rng h s
    have hs := h s
    rw [zc_b]
    split
    · dsimp only; omega
    · omega
def zc_max (f : Nat → Int) : Nat → Int
  | 0 => f 0
  | q + 1 => if zc_max f q < f (q + 1) then f (q + 1) else zc_max f q
theorem zn_max {a b : Int} (h : -2147483648 ≤ a ∧ a < 2147483648 ∧ -2147483648 ≤ b ∧ b < 2147483648) : (if zn_I a < zn_I b then zn_I b else zn_I a) = zn_I (if a < b then b else a) := by
  by_cases q : a < b
  · rw [if_pos q, if_pos ((zn_lt h).mpr q)]
  · rw [if_neg q, if_neg (fun z => q ((zn_lt h).mp z))]

def zp_site (π : zP) (E S : Nat → Int) (w : Int) (s : Nat) : Nat := zp_day π E S (w * zp_e π s) (w * zp_s π s)
theorem zp_w99 {π : zP} (hp : π.1 ≤ 5 ∧ π.2.1 ≤ 6) {s : Nat} (hs : s < zp_n π) {w : Int} (hw : 1 ≤ w ∧ w ≤ 99) : (-1000 ≤ w * zp_e π s ∧ w * zp_e π s ≤ 1000) ∧ -1000 ≤ w * zp_s π s ∧ w * zp_s π s ≤ 1000 := by
  have h1 := zp_e_rng hp hs
  have h2 := zp_s_rng hp hs
  have h3 := zp_mul_rng (a := w) (e := zp_e π s) (B := 99) (by omega) (by omega) (by omega) (by omega)
  have h4 := zp_mul_rng (a := w) (e := zp_s π s) (B := 99) (by omega) (by omega) (by omega) (by omega)
  omega
theorem zp_at_rng {π : zP} {f : Nat → Int} {B : Int} (hB : 0 ≤ B) (h : ∀ s, s < zp_n π → -B ≤ f s ∧ f s ≤ B) (z : Int) : -B ≤ zp_at π f z ∧ zp_at π f z ≤ B := by
  unfold zp_at
  split
  · exact h _ (by omega)
  · omega
theorem zc_max_rng {f : Nat → Int} {B : Int} : ∀ n, (∀ q, q ≤ n → -B ≤ f q ∧ f q ≤ B) → -B ≤ zc_max f n ∧ zc_max f n ≤ B
  | 0, h => h 0 (Nat.le_refl 0)
  | n + 1, h => by
    have ih := zc_max_rng n (fun q hq => h q (by omega))
    have hs := h (n + 1) (Nat.le_refl _)
    rw [zc_max]
    split <;> omega
/-- how far a square dips in the quarter in which it dips most -/
def zp_top (π : zP) (E S : Nat → Int) (z : Int) : Int := zc_max (fun q => zp_at π (fun s => zp_dip π s (E q) (S q)) z) 7


