/-! THE REFERENCE'S MEMORY: the same values in its own cells -/
def mI (M : zw_M) (π : zP) : Prop := (π.1 ≤ 5 ∧ π.2.1 ≤ 6) ∧ M.1 33 0 = zn_I π.1 ∧ M.1 33 1 = zn_I π.2.1 ∧ M.1 33 2 = zn_I (zp_n π) ∧ (∀ s, s < zp_n π → M.1 34 s = zn_I (π.2.2 s)) ∧ (∀ s, s < zp_n π → 0 ≤ π.2.2 s ∧ π.2.2 s ≤ 9)
def mT (M : zw_M) (n : Nat) (τ : zQ) : Prop :=
  τ.1 ≤ 8 ∧ M.1 33 5 = zn_I τ.1 ∧ (∀ t, t < τ.1 → M.1 35 t = zn_I (τ.2.1 t)) ∧ (∀ t, t < τ.1 → M.1 36 t = zn_I (τ.2.2.1 t)) ∧ (∀ t, t < τ.1 → ∀ q, q < 8 → M.1 37 (8 * t + q) = zn_I (τ.2.2.2 t q : Nat)) ∧ (∀ t, t < τ.1 → 0 ≤ τ.2.1 t ∧ τ.2.1 t ≤ 4) ∧ (∀ t, t < τ.1 → 1 ≤ τ.2.2.1 t ∧ τ.2.2.1 t ≤ 99) ∧ (∀ t, t < τ.1 → ∀ q, q < 8 → τ.2.2.2 t q < n)
def mG (M : zw_M) (ρ : zR) : Prop := ρ.1 ≤ 40 ∧ M.1 33 11 = zn_I ρ.1 ∧ (∀ i, i < ρ.1 → M.1 38 i = zn_I (ρ.2 i : Nat)) ∧ (∀ i, i < ρ.1 → 1 ≤ ρ.2 i ∧ ρ.2 i ≤ 126)
/-- what comes to the leans, and the moss -/
def mM (M : zw_M) (me ms mo : Int) : Prop := (M.1 33 19 = zn_I me ∧ M.1 33 20 = zn_I ms ∧ M.1 33 21 = zn_I mo) ∧ (-10000 ≤ me ∧ me ≤ 10000) ∧ (-10000 ≤ ms ∧ ms ≤ 10000) ∧ 0 ≤ mo ∧ mo ≤ 99
/-- what may change: whole cells, and fields of the reference -/
def mfr (S F : List Nat) (M M1 : zw_M) : Prop := (∀ p, p ∉ S → p ≠ 33 → M1.1 p = M.1 p ∧ M1.2 p = M.2 p) ∧ ∀ k, k ∉ F → M1.1 33 k = M.1 33 k ∧ M1.2 33 k = M.2 33 k
theorem mf_rf {S F : List Nat} {M : zw_M} : mfr S F M M := ⟨fun _ _ _ => ⟨rfl, rfl⟩, fun _ _ => ⟨rfl, rfl⟩⟩
theorem mf_tr {S F : List Nat} {M M1 M2 : zw_M} (h : mfr S F M M1) (h2 : mfr S F M1 M2) : mfr S F M M2 := ⟨fun p hp h33 => ⟨(h2.1 p hp h33).1.trans (h.1 p hp h33).1, (h2.1 p hp h33).2.trans (h.1 p hp h33).2⟩, fun k hk => ⟨(h2.2 k hk).1.trans (h.2 k hk).1, (h2.2 k hk).2.trans (h.2 k hk).2⟩⟩
theorem mf_mono {S F S1 F1 : List Nat} {M M1 : zw_M} (h : mfr S F M M1) (hs : (∀ p ∈ S, p ∈ S1) ∧ ∀ p ∈ F, p ∈ F1) : mfr S1 F1 M M1 := ⟨fun p hp h33 => h.1 p (fun q => hp (hs.1 p q)) h33, fun k hk => h.2 k (fun q => hk (hs.2 k q))⟩
theorem mf_s {S F : List Nat} {M M1 : zw_M} {q k : Nat} {x : Int32} (h : mfr S F M M1) (hq : q ∈ S) (h33 : q ≠ 33) : mfr S F M (zw_s M1 q k x) := by
  refine ⟨fun p hp hp33 => ⟨?_, (h.1 p hp hp33).2⟩, fun j hj => ⟨?_, (h.2 j hj).2⟩⟩
  · have e : p ≠ q := fun e => hp (e ▸ hq)
    funext j
    simp only [zw_s, e, false_and, if_false, (h.1 p hp hp33).1]
  · have e : 33 ≠ q := Ne.symm h33
    simp only [zw_s, e, false_and, if_false, (h.2 j hj).1]
theorem mf_f {S F : List Nat} {M M1 : zw_M} {k : Nat} {x : Int32} (h : mfr S F M M1) (hk : k ∈ F) : mfr S F M (zw_s M1 33 k x) := by
  refine ⟨fun p hp hp33 => ⟨?_, (h.1 p hp hp33).2⟩, fun j hj => ⟨?_, (h.2 j hj).2⟩⟩
  · funext j
    simp only [zw_s, hp33, false_and, if_false, (h.1 p hp hp33).1]
  · have e : j ≠ k := fun e => hj (e ▸ hk)
    simp only [zw_s, e, and_false, if_false, (h.2 j hj).1]
theorem mf_l {S F : List Nat} {M M1 : zw_M} {k : Nat} {x : Int64} (h : mfr S F M M1) (hk : k ∈ F) : mfr S F M (zw_sl M1 33 k x) := by
  refine ⟨fun p hp hp33 => ⟨(h.1 p hp hp33).1, ?_⟩, fun j hj => ⟨(h.2 j hj).1, ?_⟩⟩
  · funext j
    simp only [zw_sl, hp33, false_and, if_false, (h.1 p hp hp33).2]
  · have e : j ≠ k := fun e => hj (e ▸ hk)
    simp only [zw_sl, e, and_false, if_false, (h.2 j hj).2]
theorem mI_f {S F : List Nat} {M M1 : zw_M} {π : zP} (h : mfr S F M M1) (hI : mI M π) (hS : 34 ∉ S ∧ 0 ∉ F ∧ 1 ∉ F ∧ 2 ∉ F) : mI M1 π := by
  obtain ⟨h1, h2, h3, h4, h5, h6⟩ := hI
  exact ⟨h1, by rw [(h.2 0 hS.2.1).1]; exact h2, by rw [(h.2 1 hS.2.2.1).1]; exact h3, by rw [(h.2 2 hS.2.2.2).1]; exact h4, fun s hs => by rw [(h.1 34 hS.1 (by decide)).1]; exact h5 s hs, h6⟩
theorem mT_f {S F : List Nat} {M M1 : zw_M} {n : Nat} {τ : zQ} (h : mfr S F M M1) (hT : mT M n τ) (hS : 35 ∉ S ∧ 36 ∉ S ∧ 37 ∉ S ∧ 5 ∉ F) : mT M1 n τ := by
  obtain ⟨h1, h2, h3, h4, h5, h6⟩ := hT
  exact ⟨h1, by rw [(h.2 5 hS.2.2.2).1]; exact h2, fun t ht => by rw [(h.1 35 hS.1 (by decide)).1]; exact h3 t ht, fun t ht => by rw [(h.1 36 hS.2.1 (by decide)).1]; exact h4 t ht, fun t ht q hq => by rw [(h.1 37 hS.2.2.1 (by decide)).1]; exact h5 t ht q hq, h6⟩
theorem mG_f {S F : List Nat} {M M1 : zw_M} {ρ : zR} (h : mfr S F M M1) (hG : mG M ρ) (hS : 38 ∉ S ∧ 11 ∉ F) : mG M1 ρ := by
  obtain ⟨h1, h2, h3, h4⟩ := hG
  exact ⟨h1, by rw [(h.2 11 hS.2).1]; exact h2, fun i hi => by rw [(h.1 38 hS.1 (by decide)).1]; exact h3 i hi, h4⟩
theorem mM_f {S F : List Nat} {M M1 : zw_M} {me ms mo : Int} (h : mfr S F M M1) (hM : mM M me ms mo) (hS : 19 ∉ F ∧ 20 ∉ F ∧ 21 ∉ F) : mM M1 me ms mo :=
  ⟨⟨by rw [(h.2 19 hS.1).1]; exact hM.1.1, by rw [(h.2 20 hS.2.1).1]; exact hM.1.2.1, by rw [(h.2 21 hS.2.2).1]; exact hM.1.2.2⟩, hM.2⟩
theorem mt_w_rng {M : zw_M} {n : Nat} {τ : zQ} (hT : mT M n τ) {t : Nat} (h : t < τ.1) : 1 ≤ zt_w τ t ∧ zt_w τ t ≤ 198 := by
  have := hT.2.2.2.2.2.2.1 t h
  unfold zt_w
  split <;> omega
/-- what a thing weighs under moss -/
def ml_w (τ : zQ) (mo : Int) (t : Nat) : Int := zt_w τ t + (if τ.2.1 t = 1 then mo else 0)
def ml_e (π : zP) (τ : zQ) (mo : Int) (q : Nat) : Nat → Int
  | 0 => 0
  | t + 1 => ml_e π τ mo q t + ml_w τ mo t * zp_e π (τ.2.2.2 t q)
def ml_s (π : zP) (τ : zQ) (mo : Int) (q : Nat) : Nat → Int
  | 0 => 0
  | t + 1 => ml_s π τ mo q t + ml_w τ mo t * zp_s π (τ.2.2.2 t q)
theorem ml_rng {M : zw_M} {π : zP} {τ : zQ} (hp : π.1 ≤ 5 ∧ π.2.1 ≤ 6) (hT : mT M (zp_n π) τ) {mo : Int} (hmo : 0 ≤ mo ∧ mo ≤ 99) {q : Nat} (hq : q < 8) : ∀ t : Nat, t ≤ τ.1 → (-(1500 * (t : Int)) ≤ ml_e π τ mo q t ∧ ml_e π τ mo q t ≤ 1500 * (t : Int)) ∧ -(1500 * (t : Int)) ≤ ml_s π τ mo q t ∧ ml_s π τ mo q t ≤ 1500 * (t : Int)
  | 0, _ => by simp [ml_e, ml_s]
  | t + 1, h => by
    have ih := ml_rng hp hT hmo hq t (by omega)
    have hw := mt_w_rng hT (t := t) (by omega)
    have hl := hT.2.2.2.2.2.2.2 t (by omega) q hq
    have h2 := zp_e_rng hp hl
    have h3 := zp_s_rng hp hl
    have hm : -297 ≤ ml_w τ mo t ∧ ml_w τ mo t ≤ 297 := by unfold ml_w; split <;> omega
    have h4 := zp_mul_rng (a := ml_w τ mo t) (e := zp_e π (τ.2.2.2 t q)) (B := 297) h2.1 h2.2 hm.1 hm.2
    have h5 := zp_mul_rng (a := ml_w τ mo t) (e := zp_s π (τ.2.2.2 t q)) (B := 297) (by omega) (by omega) hm.1 hm.2
    rw [ml_e, ml_s]
    omega
theorem ml_0 (π : zP) (τ : zQ) (q : Nat) : ∀ t, ml_e π τ 0 q t = zl_e π τ q t ∧ ml_s π τ 0 q t = zl_s π τ q t
  | 0 => ⟨rfl, rfl⟩
  | t + 1 => by
    have ih := ml_0 π τ q t
    have hw : ml_w τ 0 t = zt_w τ t := by unfold ml_w; split <;> omega
    rw [ml_e, ml_s, zl_e, zl_s, ih.1, ih.2, hw]
    exact ⟨rfl, rfl⟩
/-- which doors are wet, with what comes to the leans -/
def mwet (π : zP) (τ : zQ) (me ms mo : Int) (q : Nat) : Nat := zp_bits π (me + ml_e π τ mo q τ.1) (ms + ml_s π τ mo q τ.1) (zp_n π)
theorem mwet_0 (π : zP) (τ : zQ) (q : Nat) : mwet π τ 0 0 0 q = zwet π τ q := by
  rw [mwet, (ml_0 π τ q τ.1).1, (ml_0 π τ q τ.1).2, Int.zero_add, Int.zero_add]
  rfl
theorem mwet_30 {π : zP} (hp : π.1 ≤ 5 ∧ π.2.1 ≤ 6) (τ : zQ) (me ms mo : Int) (q : Nat) : mwet π τ me ms mo q < 1073741824 := zp_bits_30 hp _ _
theorem zb_shr : ∀ k : Nat, k < 31 → ((zn_I (k : Int) &&& 31).toBitVec.smod 32).toNat = k := by decide +kernel
theorem zb_sr {x k : Nat} (hx : x < 1073741824) (hk : k < 31) : zn_I (x : Int) >>> (zn_I (k : Int) &&& 31) = zn_I ((x / 2 ^ k : Nat) : Int) := by
  rw [← zn_nat, pk_shrN (by omega) _ k (zb_shr k hk), zn_nat]
theorem zb_a1 (x : Nat) : x &&& 1 = x % 2 := Nat.and_one_is_mod x
theorem zb_bit {x k : Nat} : (x / 2 ^ k % 2 = 1) ↔ x.testBit k = true := by
  rw [Nat.testBit_eq_decide_div_mod_eq, decide_eq_true_eq]
theorem zb_pop_30 {x : Nat} (hx : x < 1073741824) : zb_pop 32 x = zb_pop 30 x := zb_pop_more (k := 30) 2 (by omega)
theorem zt_pl_len (τ : zQ) (t : Nat) : (zt_pl τ (t + 1)).length = (zt_pl τ t).length + (if zt_per τ t then 1 else 0) := by
  rw [zt_pl]
  split
  · rw [List.length_append]; rfl
  · rfl
theorem zt_pl_le (τ : zQ) : ∀ t, (zt_pl τ t).length ≤ t
  | 0 => Nat.le_refl 0
  | t + 1 => by
    have ih := zt_pl_le τ t
    rw [zt_pl_len]
    split <;> omega
set_option maxRecDepth 100000 in
set_option maxHeartbeats 600000 in
theorem mX11_within {l : Launch} {d : Nat} {M : zw_M} {v : Int} (hvv : -2147483648 ≤ v ∧ v < 2147483648) {a : Int} (haa : -2147483648 ≤ a ∧ a < 2147483648) {b : Int} (hbb : -2147483648 ≤ b ∧ b < 2147483648) : zw_C l d iX11_within [.int (zn_I v), .int (zn_I a), .int (zn_I b)] M (zw_i (zn_B (a ≤ v ∧ v ≤ b)) M) := by
  refine zw_of (by decide +kernel) (Nat.le_of_ble_eq_true rfl) ?_
  refine zy_loc (L1 := [.int (zn_I v), .int (zn_I a), .int (zn_I b)]) rfl ?_
  refine zx_iload_n dX11_within_0 rfl ?_
  refine zx_iload_n dX11_within_1 rfl ?_
  refine zy_icmp_lt (tgt := 14) dX11_within_2 (by decide) (by omega) (fun h_2 => ?_) (fun h_2 => ?_)
  · refine zx_iconst (v := zn_I 0) dX11_within_14 rfl ?_
    refine zx_iret (st := []) dX11_within_15 rfl rfl ?_
    first | exact zk_B (zn_Bt (by omega)) | exact zk_B (zn_Bf (by omega))
  · refine zx_iload_n dX11_within_5 rfl ?_
    refine zx_iload_n dX11_within_6 rfl ?_
    refine zy_icmp_gt (tgt := 14) dX11_within_7 (by decide) (by omega) (fun h_7 => ?_) (fun h_7 => ?_)
    · refine zx_iconst (v := zn_I 0) dX11_within_14 rfl ?_
      refine zx_iret (st := []) dX11_within_15 rfl rfl ?_
      first | exact zk_B (zn_Bt (by omega)) | exact zk_B (zn_Bf (by omega))
    · refine zx_iconst (v := zn_I 1) dX11_within_10 rfl ?_
      refine zx_goto (tgt := 15) dX11_within_11 (by decide) ?_
      refine zx_iret (st := []) dX11_within_15 rfl rfl ?_
      first | exact zk_B (zn_Bt (by omega)) | exact zk_B (zn_Bf (by omega))
set_option maxRecDepth 100000 in
set_option maxHeartbeats 600000 in
theorem mX11_has {l : Launch} {d : Nat} {M : zw_M} {x k : Nat} (hx : x < 1073741824) (hk : k < 30) : zw_C l d iX11_has [.int (zn_I (x : Int)), .int (zn_I (k : Int))] M (zw_i (zn_B (x.testBit k = true)) M) := by
  refine zw_of (by decide +kernel) (Nat.le_of_ble_eq_true rfl) ?_
  refine zy_loc (L1 := [.int (zn_I (x : Int)), .int (zn_I (k : Int))]) rfl ?_
  refine zx_iload_n dX11_has_0 rfl ?_
  refine zx_iload_n dX11_has_1 rfl ?_
  refine zx_ishr dX11_has_2 ?_
  refine zy_top (zb_sr hx (by omega)) ?_
  refine zx_iconst (v := zn_I 1) dX11_has_3 rfl ?_
  refine zx_iand dX11_has_4 ?_
  refine zy_top (zb_and _ 1) ?_
  rw [zb_a1]
  refine zx_iconst (v := zn_I 1) dX11_has_5 rfl ?_
  refine zy_icmp_ne (tgt := 13) dX11_has_6 (by decide) (by have := Nat.mod_lt (x / 2 ^ k) (show 0 < 2 by omega); omega) (fun h_6 => ?_) (fun h_6 => ?_)
  · refine zx_iconst (v := zn_I 0) dX11_has_13 rfl ?_
    refine zx_iret (st := []) dX11_has_14 rfl rfl ?_
    first | exact zk_B (zn_Bt (zb_bit.mp (by omega))) | exact zk_B (zn_Bf (fun r => by have := zb_bit.mpr r; omega))
  · refine zx_iconst (v := zn_I 1) dX11_has_9 rfl ?_
    refine zx_goto (tgt := 14) dX11_has_10 (by decide) ?_
    refine zx_iret (st := []) dX11_has_14 rfl rfl ?_
    first | exact zk_B (zn_Bt (zb_bit.mp (by omega))) | exact zk_B (zn_Bf (fun r => by have := zb_bit.mpr r; omega))
set_option maxRecDepth 100000 in
set_option maxHeartbeats 600000 in
theorem mX11_isSquare {l : Launch} {d : Nat} {M : zw_M} {π : zP} (hI : mI M π) {z : Int} (hzz : -2147483648 ≤ z ∧ z < 2147483648) : zw_C l (d + 1) iX11_isSquare [.ref 33, .int (zn_I z)] M (zw_i (zn_B (0 ≤ z ∧ z < zp_n π)) M) := by
  have hp := hI.1
  have h30 := zp_30 hp
  have hr0 : M.1 33 0 = zn_I π.1 := hI.2.1
  have hr1 : M.1 33 1 = zn_I π.2.1 := hI.2.2.1
  have hr2 : M.1 33 2 = zn_I (zp_n π) := hI.2.2.2.1
  refine zw_of (by decide +kernel) (Nat.le_of_ble_eq_true rfl) ?_
  refine zy_loc (L1 := [.ref 33, .int (zn_I z)]) rfl ?_
  refine zx_iload_n dX11_isSquare_0 rfl ?_
  refine zx_iconst (v := zn_I 0) dX11_isSquare_1 rfl ?_
  refine zx_aload_n dX11_isSquare_2 rfl ?_
  refine zy_geti dX11_isSquare_3 fX11_92 (hr2) ?_
  refine zx_iconst (v := zn_I 1) dX11_isSquare_6 rfl ?_
  refine zy_isub dX11_isSquare_7 ?_
  refine zx_callS (y1 := iX11_within) dX11_isSquare_8 lX11_65 sX11_within (mX11_within (by omega) (by omega) (by omega)) rfl rfl (Nat.le_of_ble_eq_true rfl) ?_
  refine zk_i ?_
  refine zx_iret (st := []) dX11_isSquare_11 rfl zn_Bn ?_
  refine zk_B (zn_Bc ?_)
  omega
set_option maxRecDepth 100000 in
set_option maxHeartbeats 600000 in
theorem mX11_isThing {l : Launch} {d : Nat} {M : zw_M} {n : Nat} {τ : zQ} (hT : mT M n τ) {z : Int} (hzz : -2147483648 ≤ z ∧ z < 2147483648) : zw_C l (d + 1) iX11_isThing [.ref 33, .int (zn_I z)] M (zw_i (zn_B (0 ≤ z ∧ z < τ.1)) M) := by
  have h8 := hT.1
  have ht5 : M.1 33 5 = zn_I τ.1 := hT.2.1
  refine zw_of (by decide +kernel) (Nat.le_of_ble_eq_true rfl) ?_
  refine zy_loc (L1 := [.ref 33, .int (zn_I z)]) rfl ?_
  refine zx_iload_n dX11_isThing_0 rfl ?_
  refine zx_iconst (v := zn_I 0) dX11_isThing_1 rfl ?_
  refine zx_aload_n dX11_isThing_2 rfl ?_
  refine zy_geti dX11_isThing_3 fX11_95 (ht5) ?_
  refine zx_iconst (v := zn_I 1) dX11_isThing_6 rfl ?_
  refine zy_isub dX11_isThing_7 ?_
  refine zx_callS (y1 := iX11_within) dX11_isThing_8 lX11_65 sX11_within (mX11_within (by omega) (by omega) (by omega)) rfl rfl (Nat.le_of_ble_eq_true rfl) ?_
  refine zk_i ?_
  refine zx_iret (st := []) dX11_isThing_11 rfl zn_Bn ?_
  refine zk_B (zn_Bc ?_)
  omega
set_option maxRecDepth 100000 in
set_option maxHeartbeats 600000 in
theorem mX11_isQuarter {l : Launch} {d : Nat} {M : zw_M} {z : Int} (hzz : -2147483648 ≤ z ∧ z < 2147483648) : zw_C l (d + 1) iX11_isQuarter [.int (zn_I z)] M (zw_i (zn_B (0 ≤ z ∧ z < 8)) M) := by
  refine zw_of (by decide +kernel) (Nat.le_of_ble_eq_true rfl) ?_
  refine zy_loc (L1 := [.int (zn_I z)]) rfl ?_
  refine zx_iload_n dX11_isQuarter_0 rfl ?_
  refine zx_iconst (v := zn_I 0) dX11_isQuarter_1 rfl ?_
  refine zx_bipush (v := zn_I 7) dX11_isQuarter_2 (by decide) ?_
  refine zx_callS (y1 := iX11_within) dX11_isQuarter_4 lX11_65 sX11_within (mX11_within (by omega) (by omega) (by omega)) rfl rfl (Nat.le_of_ble_eq_true rfl) ?_
  refine zk_i ?_
  refine zx_iret (st := []) dX11_isQuarter_7 rfl zn_Bn ?_
  refine zk_B (zn_Bc ?_)
  omega
set_option maxRecDepth 100000 in
set_option maxHeartbeats 600000 in
theorem mX11_isPerson {l : Launch} {d : Nat} {M : zw_M} {n : Nat} {τ : zQ} (hT : mT M n τ) {t : Nat} (ht : t < τ.1) : zw_C l d iX11_isPerson [.ref 33, .int (zn_I (t : Int))] M (zw_i (zn_B (zt_per τ t)) M) := by
  have h8 := hT.1
  have ht5 : M.1 33 5 = zn_I τ.1 := hT.2.1
  refine zw_of (by decide +kernel) (Nat.le_of_ble_eq_true rfl) ?_
  refine zy_loc (L1 := [.ref 33, .int (zn_I (t : Int))]) rfl ?_
  refine zx_aload_n dX11_isPerson_0 rfl ?_
  refine zx_getr dX11_isPerson_1 fX11_13 ?_
  refine zx_iload_n dX11_isPerson_4 rfl ?_
  refine zy_iald dX11_isPerson_5 rfl (by decide) rfl (by omega) (hT.2.2.1 t ht) ?_
  refine zx_iconst (v := zn_I 3) dX11_isPerson_6 rfl ?_
  refine zy_icmp_eq (tgt := 20) dX11_isPerson_7 (by decide) (by have := hT.2.2.2.2.2.1 t ht; omega) (fun h_7 => ?_) (fun h_7 => ?_)
  · refine zx_iconst (v := zn_I 1) dX11_isPerson_20 rfl ?_
    refine zx_goto (tgt := 25) dX11_isPerson_21 (by decide) ?_
    refine zx_iret (st := []) dX11_isPerson_25 rfl rfl ?_
    first | exact zk_B (zn_Bt (by omega)) | exact zk_B (zn_Bf (by omega))
  · refine zx_aload_n dX11_isPerson_10 rfl ?_
    refine zx_getr dX11_isPerson_11 fX11_13 ?_
    refine zx_iload_n dX11_isPerson_14 rfl ?_
    refine zy_iald dX11_isPerson_15 rfl (by decide) rfl (by omega) (hT.2.2.1 t ht) ?_
    refine zx_iconst (v := zn_I 4) dX11_isPerson_16 rfl ?_
    refine zy_icmp_ne (tgt := 24) dX11_isPerson_17 (by decide) (by have := hT.2.2.2.2.2.1 t ht; omega) (fun h_17 => ?_) (fun h_17 => ?_)
    · refine zx_iconst (v := zn_I 0) dX11_isPerson_24 rfl ?_
      refine zx_iret (st := []) dX11_isPerson_25 rfl rfl ?_
      first | exact zk_B (zn_Bt (by omega)) | exact zk_B (zn_Bf (by omega))
    · refine zx_iconst (v := zn_I 1) dX11_isPerson_20 rfl ?_
      refine zx_goto (tgt := 25) dX11_isPerson_21 (by decide) ?_
      refine zx_iret (st := []) dX11_isPerson_25 rfl rfl ?_
      first | exact zk_B (zn_Bt (by omega)) | exact zk_B (zn_Bf (by omega))
set_option maxRecDepth 100000 in
set_option maxHeartbeats 600000 in
theorem mX11_weighs {l : Launch} {d : Nat} {M : zw_M} {n : Nat} {τ : zQ} (hT : mT M n τ) {t : Nat} (ht : t < τ.1) : zw_C l d iX11_weighs [.ref 33, .int (zn_I (t : Int))] M (zw_i (zn_I (zt_w τ t)) M) := by
  have h8 := hT.1
  have ht5 : M.1 33 5 = zn_I τ.1 := hT.2.1
  refine zw_of (by decide +kernel) (Nat.le_of_ble_eq_true rfl) ?_
  refine zy_loc (L1 := [.ref 33, .int (zn_I (t : Int))]) rfl ?_
  refine zx_aload_n dX11_weighs_0 rfl ?_
  refine zx_getr dX11_weighs_1 fX11_13 ?_
  refine zx_iload_n dX11_weighs_4 rfl ?_
  refine zy_iald dX11_weighs_5 rfl (by decide) rfl (by omega) (hT.2.2.1 t ht) ?_
  refine zx_iconst (v := zn_I 4) dX11_weighs_6 rfl ?_
  refine zy_icmp_ne (tgt := 21) dX11_weighs_7 (by decide) (by have := hT.2.2.2.2.2.1 t ht; omega) (fun h_7 => ?_) (fun h_7 => ?_)
  · refine zx_aload_n dX11_weighs_21 rfl ?_
    refine zx_getr dX11_weighs_22 fX11_16 ?_
    refine zx_iload_n dX11_weighs_25 rfl ?_
    refine zy_iald dX11_weighs_26 rfl (by decide) rfl (by omega) (hT.2.2.2.1 t ht) ?_
    refine zx_iret (st := []) dX11_weighs_27 rfl rfl ?_
    exact zk_I (by rw [zt_w, if_neg h_7])
  · refine zx_iconst (v := zn_I 2) dX11_weighs_10 rfl ?_
    refine zx_aload_n dX11_weighs_11 rfl ?_
    refine zx_getr dX11_weighs_12 fX11_16 ?_
    refine zx_iload_n dX11_weighs_15 rfl ?_
    refine zy_iald dX11_weighs_16 rfl (by decide) rfl (by omega) (hT.2.2.2.1 t ht) ?_
    refine zy_imul dX11_weighs_17 ?_
    refine zx_goto (tgt := 27) dX11_weighs_18 (by decide) ?_
    refine zx_iret (st := []) dX11_weighs_27 rfl rfl ?_
    exact zk_I (by rw [zt_w, if_pos h_7])
set_option maxRecDepth 100000 in
set_option maxHeartbeats 600000 in
theorem mX11_eastOf {l : Launch} {d : Nat} {M : zw_M} {π : zP} (hI : mI M π) {s : Nat} (hs : s < zp_n π) : zw_C l d iX11_eastOf [.ref 33, .int (zn_I (s : Int))] M (zw_i (zn_I (zp_e π s)) M) := by
  have hp := hI.1
  have h30 := zp_30 hp
  have hr0 : M.1 33 0 = zn_I π.1 := hI.2.1
  have hr1 : M.1 33 1 = zn_I π.2.1 := hI.2.2.1
  have hr2 : M.1 33 2 = zn_I (zp_n π) := hI.2.2.2.1
  refine zw_of (by decide +kernel) (Nat.le_of_ble_eq_true rfl) ?_
  refine zy_loc (L1 := [.ref 33, .int (zn_I (s : Int))]) rfl ?_
  refine zx_iconst (v := zn_I 2) dX11_eastOf_0 rfl ?_
  refine zx_iload_n dX11_eastOf_1 rfl ?_
  refine zx_aload_n dX11_eastOf_2 rfl ?_
  refine zy_geti dX11_eastOf_3 fX11_89 (hr1) ?_
  refine zy_irem dX11_eastOf_6 (by have := zp_w0 hs; omega) ?_
  refine zy_imul dX11_eastOf_7 ?_
  refine zx_aload_n dX11_eastOf_8 rfl ?_
  refine zy_geti dX11_eastOf_9 fX11_89 (hr1) ?_
  refine zy_isub dX11_eastOf_12 ?_
  refine zx_iconst (v := zn_I 1) dX11_eastOf_13 rfl ?_
  refine zy_iadd dX11_eastOf_14 ?_
  refine zx_iret (st := []) dX11_eastOf_15 rfl rfl ?_
  exact zk_I (by unfold zp_e; omega)
set_option maxRecDepth 100000 in
set_option maxHeartbeats 600000 in
theorem mX11_southOf {l : Launch} {d : Nat} {M : zw_M} {π : zP} (hI : mI M π) {s : Nat} (hs : s < zp_n π) : zw_C l d iX11_southOf [.ref 33, .int (zn_I (s : Int))] M (zw_i (zn_I (zp_s π s)) M) := by
  have hp := hI.1
  have h30 := zp_30 hp
  have hr0 : M.1 33 0 = zn_I π.1 := hI.2.1
  have hr1 : M.1 33 1 = zn_I π.2.1 := hI.2.2.1
  have hr2 : M.1 33 2 = zn_I (zp_n π) := hI.2.2.2.1
  refine zw_of (by decide +kernel) (Nat.le_of_ble_eq_true rfl) ?_
  refine zy_loc (L1 := [.ref 33, .int (zn_I (s : Int))]) rfl ?_
  refine zx_iconst (v := zn_I 2) dX11_southOf_0 rfl ?_
  refine zx_iload_n dX11_southOf_1 rfl ?_
  refine zx_aload_n dX11_southOf_2 rfl ?_
  refine zy_geti dX11_southOf_3 fX11_89 (hr1) ?_
  refine zy_idiv dX11_southOf_6 (by have := zp_w0 hs; omega) ?_
  refine zy_imul dX11_southOf_7 ?_
  refine zx_aload_n dX11_southOf_8 rfl ?_
  refine zy_geti dX11_southOf_9 fX11_86 (hr0) ?_
  refine zy_isub dX11_southOf_12 ?_
  refine zx_iconst (v := zn_I 1) dX11_southOf_13 rfl ?_
  refine zy_iadd dX11_southOf_14 ?_
  refine zx_iret (st := []) dX11_southOf_15 rfl rfl ?_
  exact zk_I (by unfold zp_s; omega)
set_option maxRecDepth 100000 in
set_option maxHeartbeats 600000 in
theorem mX11_size {l : Launch} {d : Nat} {M : zw_M} {x : Nat} (hx : x < 1073741824) : zw_C l d iX11_size [.int (zn_I (x : Int))] M (zw_i (zn_I (zb_pop 32 x : Nat)) M) := by
  refine zw_of (by decide +kernel) (Nat.le_of_ble_eq_true rfl) ?_
  refine zy_loc (L1 := [.int (zn_I (x : Int)), .retAddr 0, .retAddr 0]) rfl ?_
  have loop : ∀ k : Nat, k ≤ 30 → zw_X l d iX11_size (zw_i (zn_I (zb_pop 32 x : Nat)) M) 4 [.int (zn_I (x : Int)), .int (zn_I (zb_pop k x : Nat)), .int (zn_I (k : Int))] [] M := by
    refine zw_loop 30 (P := fun k => zw_X l d iX11_size (zw_i (zn_I (zb_pop 32 x : Nat)) M) 4 [.int (zn_I (x : Int)), .int (zn_I (zb_pop k x : Nat)), .int (zn_I (k : Int))] [] M) (fun k hk ih => ?_)
    refine zx_iload_n dX11_size_4 rfl ?_
    refine zx_bipush (v := zn_I 30) dX11_size_5 (by decide) ?_
    refine zy_icmp_ge (tgt := 24) dX11_size_7 (by decide) (by omega) (fun h_7 => ?_) (fun h_7 => ?_)
    · refine zx_iload_n dX11_size_24 rfl ?_
      refine zx_iret (st := []) dX11_size_25 rfl rfl ?_
      exact zk_I (by rw [zb_pop_30 hx, show k = 30 by omega])
    · refine zx_iload_n dX11_size_10 rfl ?_
      refine zx_iload_n dX11_size_11 rfl ?_
      refine zx_iload_n dX11_size_12 rfl ?_
      refine zx_ishr dX11_size_13 ?_
      refine zy_top (zb_sr hx (by omega)) ?_
      refine zx_iconst (v := zn_I 1) dX11_size_14 rfl ?_
      refine zx_iand dX11_size_15 ?_
      refine zy_top (zb_and _ 1) ?_
      rw [zb_a1]
      refine zy_iadd dX11_size_16 ?_
      refine zx_istore_n dX11_size_17 rfl (Nat.le_of_ble_eq_true rfl) ?_
      refine zy_iinc dX11_size_18 rfl rfl ?_
      refine zx_goto (tgt := 4) dX11_size_21 (by decide) ?_
      rw [show ((zb_pop k x : Nat) : Int) + ((x / 2 ^ k % 2 : Nat) : Int) = ((zb_pop (k + 1) x : Nat) : Int) by rw [zb_pop_succ]; omega]
      exact ih (by omega)
  refine zx_iconst (v := zn_I 0) dX11_size_0 rfl ?_
  refine zx_istore_n dX11_size_1 rfl (Nat.le_of_ble_eq_true rfl) ?_
  refine zx_iconst (v := zn_I 0) dX11_size_2 rfl ?_
  refine zx_istore_n dX11_size_3 rfl (Nat.le_of_ble_eq_true rfl) ?_
  exact loop 0 (by omega)
set_option maxRecDepth 100000 in
set_option maxHeartbeats 600000 in
theorem mX11_leanOf_e {l : Launch} {d : Nat} {M : zw_M} {π : zP} {τ : zQ} (hI : mI M π) (hT : mT M (zp_n π) τ) {me ms mo : Int} (hM : mM M me ms mo) {q : Nat} (hq : q < 8) : zw_C l (d + 1) iX11_leanOf [.ref 33, .int (zn_I (q : Int)), .int (zn_I 0)] M (zw_i (zn_I (me + ml_e π τ mo q τ.1)) M) := by
  have hp := hI.1
  have h30 := zp_30 hp
  have hr0 : M.1 33 0 = zn_I π.1 := hI.2.1
  have hr1 : M.1 33 1 = zn_I π.2.1 := hI.2.2.1
  have hr2 : M.1 33 2 = zn_I (zp_n π) := hI.2.2.2.1
  have h8 := hT.1
  have ht5 : M.1 33 5 = zn_I τ.1 := hT.2.1
  obtain ⟨⟨hme, hms, hmo⟩, hmr⟩ := hM
  refine zw_of (by decide +kernel) (Nat.le_of_ble_eq_true rfl) ?_
  refine zy_loc (L1 := [.ref 33, .int (zn_I (q : Int)), .int (zn_I 0), .retAddr 0, .retAddr 0, .retAddr 0, .retAddr 0]) rfl ?_
  have loop : ∀ t : Nat, t ≤ τ.1 → ∀ v5 v6 : Value, zw_X l (d + 1) iX11_leanOf (zw_i (zn_I (me + ml_e π τ mo q τ.1)) M) 19 [.ref 33, .int (zn_I (q : Int)), .int (zn_I 0), .int (zn_I (me + ml_e π τ mo q t)), .int (zn_I (t : Int)), v5, v6] [] M := by
    refine zw_loop τ.1 (P := fun t => ∀ v5 v6 : Value, zw_X l (d + 1) iX11_leanOf (zw_i (zn_I (me + ml_e π τ mo q τ.1)) M) 19 [.ref 33, .int (zn_I (q : Int)), .int (zn_I 0), .int (zn_I (me + ml_e π τ mo q t)), .int (zn_I (t : Int)), v5, v6] [] M) (fun t ht ih v5 v6 => ?_)
    refine zx_iload dX11_leanOf_19 rfl ?_
    refine zx_aload_n dX11_leanOf_21 rfl ?_
    refine zy_geti dX11_leanOf_22 fX11_95 (ht5) ?_
    refine zy_icmp_ge (tgt := 101) dX11_leanOf_25 (by decide) (by omega) (fun h_25 => ?_) (fun h_25 => ?_)
    · refine zx_iload_n dX11_leanOf_101 rfl ?_
      refine zx_iret (st := []) dX11_leanOf_102 rfl rfl ?_
      exact zk_I (by rw [show t = τ.1 by omega])
    · refine zx_aload_n dX11_leanOf_28 rfl ?_
      refine zx_getr dX11_leanOf_29 fX11_19 ?_
      refine zx_bipush (v := zn_I 8) dX11_leanOf_32 (by decide) ?_
      refine zx_iload dX11_leanOf_34 rfl ?_
      refine zy_imul dX11_leanOf_36 ?_
      refine zx_iload_n dX11_leanOf_37 rfl ?_
      refine zy_iadd dX11_leanOf_38 ?_
      refine zy_iald (i := 8 * t + q) dX11_leanOf_39 rfl (by decide) (by omega) (by omega) ((show _ = zn_I (τ.2.2.2 t q : Nat) from hT.2.2.2.2.1 t (by omega) q hq)) ?_
      refine zx_istore dX11_leanOf_40 rfl (Nat.le_of_ble_eq_true rfl) ?_
      refine zx_aload_n dX11_leanOf_42 rfl ?_
      refine zx_iload dX11_leanOf_43 rfl ?_
      refine zx_callV (y1 := iX11_weighs) dX11_leanOf_45 lX11_116 vX11_weighs rc_33 (mX11_weighs hT (t := t) (by omega)) rfl rfl (Nat.le_of_ble_eq_true rfl) ?_
      refine zk_i ?_
      refine zx_aload_n dX11_leanOf_48 rfl ?_
      refine zx_getr dX11_leanOf_49 fX11_13 ?_
      refine zx_iload dX11_leanOf_52 rfl ?_
      refine zy_iald dX11_leanOf_54 rfl (by decide) rfl (by omega) (hT.2.2.1 t (by omega)) ?_
      refine zx_iconst (v := zn_I 1) dX11_leanOf_55 rfl ?_
      refine zy_icmp_ne (tgt := 66) dX11_leanOf_56 (by decide) (by have := hT.2.2.2.2.2.1 t (by omega); omega) (fun h_56 => ?_) (fun h_56 => ?_)
      · refine zx_iconst (v := zn_I 0) dX11_leanOf_66 rfl ?_
        refine zy_iadd dX11_leanOf_67 ?_
        refine zx_istore dX11_leanOf_68 rfl (Nat.le_of_ble_eq_true rfl) ?_
        refine zx_iload_n dX11_leanOf_70 rfl ?_
        refine zx_iload dX11_leanOf_71 rfl ?_
        refine zx_iload_n dX11_leanOf_73 rfl ?_
        refine zy_if_eq (tgt := 86) dX11_leanOf_74 (by decide) (by omega) (fun h_74 => ?_) (fun h_74 => ?_)
        · refine zx_aload_n dX11_leanOf_86 rfl ?_
          refine zx_iload dX11_leanOf_87 rfl ?_
          refine zx_callV (y1 := iX11_eastOf) dX11_leanOf_89 lX11_107 vX11_eastOf rc_33 (mX11_eastOf hI (hT.2.2.2.2.2.2.2 t (by omega) q hq)) rfl rfl (Nat.le_of_ble_eq_true rfl) ?_
          refine zk_i ?_
          refine zy_imul dX11_leanOf_92 ?_
          refine zy_iadd dX11_leanOf_93 ?_
          refine zx_istore_n dX11_leanOf_94 rfl (Nat.le_of_ble_eq_true rfl) ?_
          refine zy_iinc dX11_leanOf_95 rfl rfl ?_
          refine zx_goto (tgt := 19) dX11_leanOf_98 (by decide) ?_
          rw [show me + ml_e π τ mo q t + (zt_w τ t + 0) * zp_e π (τ.2.2.2 t q) = me + ml_e π τ mo q (t + 1) by rw [ml_e, ml_w, if_neg h_56]; omega]
          exact ih (by omega) _ _
        · exact absurd rfl h_74
      · refine zx_aload_n dX11_leanOf_59 rfl ?_
        refine zy_geti dX11_leanOf_60 fX11_135 (hmo) ?_
        refine zx_goto (tgt := 67) dX11_leanOf_63 (by decide) ?_
        refine zy_iadd dX11_leanOf_67 ?_
        refine zx_istore dX11_leanOf_68 rfl (Nat.le_of_ble_eq_true rfl) ?_
        refine zx_iload_n dX11_leanOf_70 rfl ?_
        refine zx_iload dX11_leanOf_71 rfl ?_
        refine zx_iload_n dX11_leanOf_73 rfl ?_
        refine zy_if_eq (tgt := 86) dX11_leanOf_74 (by decide) (by omega) (fun h_74 => ?_) (fun h_74 => ?_)
        · refine zx_aload_n dX11_leanOf_86 rfl ?_
          refine zx_iload dX11_leanOf_87 rfl ?_
          refine zx_callV (y1 := iX11_eastOf) dX11_leanOf_89 lX11_107 vX11_eastOf rc_33 (mX11_eastOf hI (hT.2.2.2.2.2.2.2 t (by omega) q hq)) rfl rfl (Nat.le_of_ble_eq_true rfl) ?_
          refine zk_i ?_
          refine zy_imul dX11_leanOf_92 ?_
          refine zy_iadd dX11_leanOf_93 ?_
          refine zx_istore_n dX11_leanOf_94 rfl (Nat.le_of_ble_eq_true rfl) ?_
          refine zy_iinc dX11_leanOf_95 rfl rfl ?_
          refine zx_goto (tgt := 19) dX11_leanOf_98 (by decide) ?_
          rw [show me + ml_e π τ mo q t + (zt_w τ t + mo) * zp_e π (τ.2.2.2 t q) = me + ml_e π τ mo q (t + 1) by rw [ml_e, ml_w, if_pos h_56]; omega]
          exact ih (by omega) _ _
        · exact absurd rfl h_74
  refine zx_iload_n dX11_leanOf_0 rfl ?_
  refine zy_if_eq (tgt := 11) dX11_leanOf_1 (by decide) (by omega) (fun h_1 => ?_) (fun h_1 => ?_)
  · refine zx_aload_n dX11_leanOf_11 rfl ?_
    refine zy_geti dX11_leanOf_12 fX11_132 (hme) ?_
    refine zx_istore_n dX11_leanOf_15 rfl (Nat.le_of_ble_eq_true rfl) ?_
    refine zx_iconst (v := zn_I 0) dX11_leanOf_16 rfl ?_
    refine zx_istore dX11_leanOf_17 rfl (Nat.le_of_ble_eq_true rfl) ?_
    have h9 := loop 0 (by omega) (.retAddr 0) (.retAddr 0)
    rw [ml_e, Int.add_zero] at h9
    exact h9
  · exact absurd rfl h_1
set_option maxRecDepth 100000 in
set_option maxHeartbeats 600000 in
theorem mX11_leanOf_s {l : Launch} {d : Nat} {M : zw_M} {π : zP} {τ : zQ} (hI : mI M π) (hT : mT M (zp_n π) τ) {me ms mo : Int} (hM : mM M me ms mo) {q : Nat} (hq : q < 8) : zw_C l (d + 1) iX11_leanOf [.ref 33, .int (zn_I (q : Int)), .int (zn_I 1)] M (zw_i (zn_I (ms + ml_s π τ mo q τ.1)) M) := by
  have hp := hI.1
  have h30 := zp_30 hp
  have hr0 : M.1 33 0 = zn_I π.1 := hI.2.1
  have hr1 : M.1 33 1 = zn_I π.2.1 := hI.2.2.1
  have hr2 : M.1 33 2 = zn_I (zp_n π) := hI.2.2.2.1
  have h8 := hT.1
  have ht5 : M.1 33 5 = zn_I τ.1 := hT.2.1
  obtain ⟨⟨hme, hms, hmo⟩, hmr⟩ := hM
  refine zw_of (by decide +kernel) (Nat.le_of_ble_eq_true rfl) ?_
  refine zy_loc (L1 := [.ref 33, .int (zn_I (q : Int)), .int (zn_I 1), .retAddr 0, .retAddr 0, .retAddr 0, .retAddr 0]) rfl ?_
  have loop : ∀ t : Nat, t ≤ τ.1 → ∀ v5 v6 : Value, zw_X l (d + 1) iX11_leanOf (zw_i (zn_I (ms + ml_s π τ mo q τ.1)) M) 19 [.ref 33, .int (zn_I (q : Int)), .int (zn_I 1), .int (zn_I (ms + ml_s π τ mo q t)), .int (zn_I (t : Int)), v5, v6] [] M := by
    refine zw_loop τ.1 (P := fun t => ∀ v5 v6 : Value, zw_X l (d + 1) iX11_leanOf (zw_i (zn_I (ms + ml_s π τ mo q τ.1)) M) 19 [.ref 33, .int (zn_I (q : Int)), .int (zn_I 1), .int (zn_I (ms + ml_s π τ mo q t)), .int (zn_I (t : Int)), v5, v6] [] M) (fun t ht ih v5 v6 => ?_)
    refine zx_iload dX11_leanOf_19 rfl ?_
    refine zx_aload_n dX11_leanOf_21 rfl ?_
    refine zy_geti dX11_leanOf_22 fX11_95 (ht5) ?_
    refine zy_icmp_ge (tgt := 101) dX11_leanOf_25 (by decide) (by omega) (fun h_25 => ?_) (fun h_25 => ?_)
    · refine zx_iload_n dX11_leanOf_101 rfl ?_
      refine zx_iret (st := []) dX11_leanOf_102 rfl rfl ?_
      exact zk_I (by rw [show t = τ.1 by omega])
    · refine zx_aload_n dX11_leanOf_28 rfl ?_
      refine zx_getr dX11_leanOf_29 fX11_19 ?_
      refine zx_bipush (v := zn_I 8) dX11_leanOf_32 (by decide) ?_
      refine zx_iload dX11_leanOf_34 rfl ?_
      refine zy_imul dX11_leanOf_36 ?_
      refine zx_iload_n dX11_leanOf_37 rfl ?_
      refine zy_iadd dX11_leanOf_38 ?_
      refine zy_iald (i := 8 * t + q) dX11_leanOf_39 rfl (by decide) (by omega) (by omega) ((show _ = zn_I (τ.2.2.2 t q : Nat) from hT.2.2.2.2.1 t (by omega) q hq)) ?_
      refine zx_istore dX11_leanOf_40 rfl (Nat.le_of_ble_eq_true rfl) ?_
      refine zx_aload_n dX11_leanOf_42 rfl ?_
      refine zx_iload dX11_leanOf_43 rfl ?_
      refine zx_callV (y1 := iX11_weighs) dX11_leanOf_45 lX11_116 vX11_weighs rc_33 (mX11_weighs hT (t := t) (by omega)) rfl rfl (Nat.le_of_ble_eq_true rfl) ?_
      refine zk_i ?_
      refine zx_aload_n dX11_leanOf_48 rfl ?_
      refine zx_getr dX11_leanOf_49 fX11_13 ?_
      refine zx_iload dX11_leanOf_52 rfl ?_
      refine zy_iald dX11_leanOf_54 rfl (by decide) rfl (by omega) (hT.2.2.1 t (by omega)) ?_
      refine zx_iconst (v := zn_I 1) dX11_leanOf_55 rfl ?_
      refine zy_icmp_ne (tgt := 66) dX11_leanOf_56 (by decide) (by have := hT.2.2.2.2.2.1 t (by omega); omega) (fun h_56 => ?_) (fun h_56 => ?_)
      · refine zx_iconst (v := zn_I 0) dX11_leanOf_66 rfl ?_
        refine zy_iadd dX11_leanOf_67 ?_
        refine zx_istore dX11_leanOf_68 rfl (Nat.le_of_ble_eq_true rfl) ?_
        refine zx_iload_n dX11_leanOf_70 rfl ?_
        refine zx_iload dX11_leanOf_71 rfl ?_
        refine zx_iload_n dX11_leanOf_73 rfl ?_
        refine zy_if_eq (tgt := 86) dX11_leanOf_74 (by decide) (by omega) (fun h_74 => ?_) (fun h_74 => ?_)
        · exact absurd h_74 (by decide)
        · refine zx_aload_n dX11_leanOf_77 rfl ?_
          refine zx_iload dX11_leanOf_78 rfl ?_
          refine zx_callV (y1 := iX11_southOf) dX11_leanOf_80 lX11_110 vX11_southOf rc_33 (mX11_southOf hI (hT.2.2.2.2.2.2.2 t (by omega) q hq)) rfl rfl (Nat.le_of_ble_eq_true rfl) ?_
          refine zk_i ?_
          refine zx_goto (tgt := 92) dX11_leanOf_83 (by decide) ?_
          refine zy_imul dX11_leanOf_92 ?_
          refine zy_iadd dX11_leanOf_93 ?_
          refine zx_istore_n dX11_leanOf_94 rfl (Nat.le_of_ble_eq_true rfl) ?_
          refine zy_iinc dX11_leanOf_95 rfl rfl ?_
          refine zx_goto (tgt := 19) dX11_leanOf_98 (by decide) ?_
          rw [show ms + ml_s π τ mo q t + (zt_w τ t + 0) * zp_s π (τ.2.2.2 t q) = ms + ml_s π τ mo q (t + 1) by rw [ml_s, ml_w, if_neg h_56]; omega]
          exact ih (by omega) _ _
      · refine zx_aload_n dX11_leanOf_59 rfl ?_
        refine zy_geti dX11_leanOf_60 fX11_135 (hmo) ?_
        refine zx_goto (tgt := 67) dX11_leanOf_63 (by decide) ?_
        refine zy_iadd dX11_leanOf_67 ?_
        refine zx_istore dX11_leanOf_68 rfl (Nat.le_of_ble_eq_true rfl) ?_
        refine zx_iload_n dX11_leanOf_70 rfl ?_
        refine zx_iload dX11_leanOf_71 rfl ?_
        refine zx_iload_n dX11_leanOf_73 rfl ?_
        refine zy_if_eq (tgt := 86) dX11_leanOf_74 (by decide) (by omega) (fun h_74 => ?_) (fun h_74 => ?_)
        · exact absurd h_74 (by decide)
        · refine zx_aload_n dX11_leanOf_77 rfl ?_
          refine zx_iload dX11_leanOf_78 rfl ?_
          refine zx_callV (y1 := iX11_southOf) dX11_leanOf_80 lX11_110 vX11_southOf rc_33 (mX11_southOf hI (hT.2.2.2.2.2.2.2 t (by omega) q hq)) rfl rfl (Nat.le_of_ble_eq_true rfl) ?_
          refine zk_i ?_
          refine zx_goto (tgt := 92) dX11_leanOf_83 (by decide) ?_
          refine zy_imul dX11_leanOf_92 ?_
          refine zy_iadd dX11_leanOf_93 ?_
          refine zx_istore_n dX11_leanOf_94 rfl (Nat.le_of_ble_eq_true rfl) ?_
          refine zy_iinc dX11_leanOf_95 rfl rfl ?_
          refine zx_goto (tgt := 19) dX11_leanOf_98 (by decide) ?_
          rw [show ms + ml_s π τ mo q t + (zt_w τ t + mo) * zp_s π (τ.2.2.2 t q) = ms + ml_s π τ mo q (t + 1) by rw [ml_s, ml_w, if_pos h_56]; omega]
          exact ih (by omega) _ _
  refine zx_iload_n dX11_leanOf_0 rfl ?_
  refine zy_if_eq (tgt := 11) dX11_leanOf_1 (by decide) (by omega) (fun h_1 => ?_) (fun h_1 => ?_)
  · exact absurd h_1 (by decide)
  · refine zx_aload_n dX11_leanOf_4 rfl ?_
    refine zy_geti dX11_leanOf_5 fX11_129 (hms) ?_
    refine zx_goto (tgt := 15) dX11_leanOf_8 (by decide) ?_
    refine zx_istore_n dX11_leanOf_15 rfl (Nat.le_of_ble_eq_true rfl) ?_
    refine zx_iconst (v := zn_I 0) dX11_leanOf_16 rfl ?_
    refine zx_istore dX11_leanOf_17 rfl (Nat.le_of_ble_eq_true rfl) ?_
    have h9 := loop 0 (by omega) (.retAddr 0) (.retAddr 0)
    rw [ml_s, Int.add_zero] at h9
    exact h9
theorem zb_or0 {a : Int} : zn_I a ||| zn_I 0 = zn_I a := by rw [show zn_I 0 = 0 from rfl]; simp
set_option maxRecDepth 100000 in
set_option maxHeartbeats 600000 in
theorem mX11_wetIn {l : Launch} {d : Nat} {M : zw_M} {π : zP} {τ : zQ} (hI : mI M π) (hT : mT M (zp_n π) τ) {me ms mo : Int} (hM : mM M me ms mo) {q : Nat} (hq : q < 8) : zw_C l (d + 2) iX11_wetIn [.ref 33, .int (zn_I (q : Int))] M (zw_i (zn_I (mwet π τ me ms mo q : Nat)) M) := by
  have hp := hI.1
  have h30 := zp_30 hp
  have hr0 : M.1 33 0 = zn_I π.1 := hI.2.1
  have hr1 : M.1 33 1 = zn_I π.2.1 := hI.2.2.1
  have hr2 : M.1 33 2 = zn_I (zp_n π) := hI.2.2.2.1
  have h8 := hT.1
  have ht5 : M.1 33 5 = zn_I τ.1 := hT.2.1
  have hrg := ml_rng hp hT hM.2.2.2 hq τ.1 (Nat.le_refl _)
  have hmr := hM.2
  refine zw_of (by decide +kernel) (Nat.le_of_ble_eq_true rfl) ?_
  refine zy_loc (L1 := [.ref 33, .int (zn_I (q : Int)), .retAddr 0, .retAddr 0, .retAddr 0, .retAddr 0, .retAddr 0]) rfl ?_
  have loop : ∀ s : Nat, s ≤ zp_n π → ∀ v6 : Value, zw_X l (d + 2) iX11_wetIn (zw_i (zn_I (mwet π τ me ms mo q : Nat)) M) 20 [.ref 33, .int (zn_I (q : Int)), .int (zn_I (me + ml_e π τ mo q τ.1)), .int (zn_I (ms + ml_s π τ mo q τ.1)), .int (zn_I (zp_bits π (me + ml_e π τ mo q τ.1) (ms + ml_s π τ mo q τ.1) s : Nat)), .int (zn_I (s : Int)), v6] [] M := by
    refine zw_loop (zp_n π) (P := fun s => ∀ v6 : Value, zw_X l (d + 2) iX11_wetIn (zw_i (zn_I (mwet π τ me ms mo q : Nat)) M) 20 [.ref 33, .int (zn_I (q : Int)), .int (zn_I (me + ml_e π τ mo q τ.1)), .int (zn_I (ms + ml_s π τ mo q τ.1)), .int (zn_I (zp_bits π (me + ml_e π τ mo q τ.1) (ms + ml_s π τ mo q τ.1) s : Nat)), .int (zn_I (s : Int)), v6] [] M) (fun s hs ih v6 => ?_)
    refine zx_iload dX11_wetIn_20 rfl ?_
    refine zx_aload_n dX11_wetIn_22 rfl ?_
    refine zy_geti dX11_wetIn_23 fX11_92 (hr2) ?_
    refine zy_icmp_ge (tgt := 100) dX11_wetIn_26 (by decide) (by omega) (fun h_26 => ?_) (fun h_26 => ?_)
    · refine zx_iload dX11_wetIn_100 rfl ?_
      refine zx_iret (st := []) dX11_wetIn_102 rfl rfl ?_
      exact zk_I (by rw [show s = zp_n π by omega]; rfl)
    · refine zx_aload_n dX11_wetIn_29 rfl ?_
      refine zx_getr dX11_wetIn_30 fX11_7 ?_
      refine zx_iload dX11_wetIn_33 rfl ?_
      refine zy_iald dX11_wetIn_35 rfl (by decide) rfl (by omega) (hI.2.2.2.2.1 s (by omega)) ?_
      refine zy_if_le (tgt := 73) dX11_wetIn_36 (by decide) (by have hh := hI.2.2.2.2.2 s (by omega); omega) (fun h_36 => ?_) (fun h_36 => ?_)
      · have hnw : ¬ zp_wet π (me + ml_e π τ mo q τ.1) (ms + ml_s π τ mo q τ.1) s := fun r => absurd r.1 (by omega)
        refine zx_iconst (v := zn_I 0) dX11_wetIn_73 rfl ?_
        refine zx_istore dX11_wetIn_74 rfl (Nat.le_of_ble_eq_true rfl) ?_
        refine zx_iload dX11_wetIn_76 rfl ?_
        refine zx_iload dX11_wetIn_78 rfl ?_
        refine zy_if_eq (tgt := 90) dX11_wetIn_80 (by decide) (by omega) (fun h_80 => ?_) (fun h_80 => ?_)
        · refine zx_iconst (v := zn_I 0) dX11_wetIn_90 rfl ?_
          refine zx_ior dX11_wetIn_91 ?_
          refine zx_istore dX11_wetIn_92 rfl (Nat.le_of_ble_eq_true rfl) ?_
          refine zy_iinc dX11_wetIn_94 rfl rfl ?_
          refine zx_goto (tgt := 20) dX11_wetIn_97 (by decide) ?_
          rw [zb_or0, show zp_bits π (me + ml_e π τ mo q τ.1) (ms + ml_s π τ mo q τ.1) s = zp_bits π (me + ml_e π τ mo q τ.1) (ms + ml_s π τ mo q τ.1) (s + 1) by rw [zp_bits, if_neg hnw, Nat.add_zero]]
          exact ih (by omega) _
        · exact absurd rfl h_80
      · have hh := hI.2.2.2.2.2 s (by omega)
        have hdr := zp_dip_rng hp (s := s) (by omega) (a := (me + ml_e π τ mo q τ.1)) (b := (ms + ml_s π τ mo q τ.1)) (B := 100000) (by omega) (by omega)
        have hde : (me + ml_e π τ mo q τ.1) * zp_e π s + (ms + ml_s π τ mo q τ.1) * zp_s π s = zp_dip π s (me + ml_e π τ mo q τ.1) (ms + ml_s π τ mo q τ.1) := rfl
        refine zx_iload_n dX11_wetIn_39 rfl ?_
        refine zx_aload_n dX11_wetIn_40 rfl ?_
        refine zx_iload dX11_wetIn_41 rfl ?_
        refine zx_callV (y1 := iX11_eastOf) dX11_wetIn_43 lX11_107 vX11_eastOf rc_33 (mX11_eastOf hI (s := s) (by omega)) rfl rfl (Nat.le_of_ble_eq_true rfl) ?_
        refine zk_i ?_
        refine zy_imul dX11_wetIn_46 ?_
        refine zx_iload_n dX11_wetIn_47 rfl ?_
        refine zx_aload_n dX11_wetIn_48 rfl ?_
        refine zx_iload dX11_wetIn_49 rfl ?_
        refine zx_callV (y1 := iX11_southOf) dX11_wetIn_51 lX11_110 vX11_southOf rc_33 (mX11_southOf hI (s := s) (by omega)) rfl rfl (Nat.le_of_ble_eq_true rfl) ?_
        refine zk_i ?_
        refine zy_imul dX11_wetIn_54 ?_
        refine zy_iadd dX11_wetIn_55 ?_
        refine zx_bipush (v := zn_I 50) dX11_wetIn_56 (by decide) ?_
        refine zx_aload_n dX11_wetIn_58 rfl ?_
        refine zx_getr dX11_wetIn_59 fX11_7 ?_
        refine zx_iload dX11_wetIn_62 rfl ?_
        refine zy_iald dX11_wetIn_64 rfl (by decide) rfl (by omega) (hI.2.2.2.2.1 s (by omega)) ?_
        refine zy_imul dX11_wetIn_65 ?_
        refine zy_icmp_lt (tgt := 73) dX11_wetIn_66 (by decide) (by omega) (fun h_66 => ?_) (fun h_66 => ?_)
        · have hnw : ¬ zp_wet π (me + ml_e π τ mo q τ.1) (ms + ml_s π τ mo q τ.1) s := fun r => absurd r.2 (by omega)
          refine zx_iconst (v := zn_I 0) dX11_wetIn_73 rfl ?_
          refine zx_istore dX11_wetIn_74 rfl (Nat.le_of_ble_eq_true rfl) ?_
          refine zx_iload dX11_wetIn_76 rfl ?_
          refine zx_iload dX11_wetIn_78 rfl ?_
          refine zy_if_eq (tgt := 90) dX11_wetIn_80 (by decide) (by omega) (fun h_80 => ?_) (fun h_80 => ?_)
          · refine zx_iconst (v := zn_I 0) dX11_wetIn_90 rfl ?_
            refine zx_ior dX11_wetIn_91 ?_
            refine zx_istore dX11_wetIn_92 rfl (Nat.le_of_ble_eq_true rfl) ?_
            refine zy_iinc dX11_wetIn_94 rfl rfl ?_
            refine zx_goto (tgt := 20) dX11_wetIn_97 (by decide) ?_
            rw [zb_or0, show zp_bits π (me + ml_e π τ mo q τ.1) (ms + ml_s π τ mo q τ.1) s = zp_bits π (me + ml_e π τ mo q τ.1) (ms + ml_s π τ mo q τ.1) (s + 1) by rw [zp_bits, if_neg hnw, Nat.add_zero]]
            exact ih (by omega) _
          · exact absurd rfl h_80
        · have hyw : zp_wet π (me + ml_e π τ mo q τ.1) (ms + ml_s π τ mo q τ.1) s := ⟨by omega, by omega⟩
          refine zx_iconst (v := zn_I 1) dX11_wetIn_69 rfl ?_
          refine zx_goto (tgt := 74) dX11_wetIn_70 (by decide) ?_
          refine zx_istore dX11_wetIn_74 rfl (Nat.le_of_ble_eq_true rfl) ?_
          refine zx_iload dX11_wetIn_76 rfl ?_
          refine zx_iload dX11_wetIn_78 rfl ?_
          refine zy_if_eq (tgt := 90) dX11_wetIn_80 (by decide) (by omega) (fun h_80 => ?_) (fun h_80 => ?_)
          · exact absurd h_80 (by decide)
          · refine zx_iconst (v := zn_I 1) dX11_wetIn_83 rfl ?_
            refine zx_iload dX11_wetIn_84 rfl ?_
            refine zx_ishl dX11_wetIn_86 ?_
            refine zx_goto (tgt := 91) dX11_wetIn_87 (by decide) ?_
            refine zx_ior dX11_wetIn_91 ?_
            refine zy_top (zb_or (by omega) (zp_bits_lt π (me + ml_e π τ mo q τ.1) (ms + ml_s π τ mo q τ.1) s)) ?_
            rw [show zp_bits π (me + ml_e π τ mo q τ.1) (ms + ml_s π τ mo q τ.1) s + 2 ^ s = zp_bits π (me + ml_e π τ mo q τ.1) (ms + ml_s π τ mo q τ.1) (s + 1) by rw [zp_bits, if_pos hyw]]
            refine zx_istore dX11_wetIn_92 rfl (Nat.le_of_ble_eq_true rfl) ?_
            refine zy_iinc dX11_wetIn_94 rfl rfl ?_
            refine zx_goto (tgt := 20) dX11_wetIn_97 (by decide) ?_
            exact ih (by omega) _
  refine zx_aload_n dX11_wetIn_0 rfl ?_
  refine zx_iload_n dX11_wetIn_1 rfl ?_
  refine zx_iconst (v := zn_I 0) dX11_wetIn_2 rfl ?_
  refine zx_callV (y1 := iX11_leanOf) dX11_wetIn_3 lX11_138 vX11_leanOf rc_33 (mX11_leanOf_e hI hT hM hq) rfl rfl (Nat.le_of_ble_eq_true rfl) ?_
  refine zk_i ?_
  refine zx_istore_n dX11_wetIn_6 rfl (Nat.le_of_ble_eq_true rfl) ?_
  refine zx_aload_n dX11_wetIn_7 rfl ?_
  refine zx_iload_n dX11_wetIn_8 rfl ?_
  refine zx_iconst (v := zn_I 1) dX11_wetIn_9 rfl ?_
  refine zx_callV (y1 := iX11_leanOf) dX11_wetIn_10 lX11_138 vX11_leanOf rc_33 (mX11_leanOf_s hI hT hM hq) rfl rfl (Nat.le_of_ble_eq_true rfl) ?_
  refine zk_i ?_
  refine zx_istore_n dX11_wetIn_13 rfl (Nat.le_of_ble_eq_true rfl) ?_
  refine zx_iconst (v := zn_I 0) dX11_wetIn_14 rfl ?_
  refine zx_istore dX11_wetIn_15 rfl (Nat.le_of_ble_eq_true rfl) ?_
  refine zx_iconst (v := zn_I 0) dX11_wetIn_17 rfl ?_
  refine zx_istore dX11_wetIn_18 rfl (Nat.le_of_ble_eq_true rfl) ?_
  exact loop 0 (by omega) _
def mday (π : zP) (τ : zQ) (me ms mo : Int) : Nat := zc_sum (fun q => zb_pop 32 (mwet π τ me ms mo q)) 8
theorem mday_le (π : zP) (τ : zQ) (me ms mo : Int) : mday π τ me ms mo ≤ 256 := zc_sum_le (fun q => zb_pop_le _ _) 8
set_option maxRecDepth 100000 in
set_option maxHeartbeats 600000 in
theorem mX11_wetAll {l : Launch} {d : Nat} {M : zw_M} {π : zP} {τ : zQ} (hI : mI M π) (hT : mT M (zp_n π) τ) {me ms mo : Int} (hM : mM M me ms mo) : zw_C l (d + 3) iX11_wetAll [.ref 33] M (zw_i (zn_I (mday π τ me ms mo : Nat)) M) := by
  have hp := hI.1
  have h30 := zp_30 hp
  have hr0 : M.1 33 0 = zn_I π.1 := hI.2.1
  have hr1 : M.1 33 1 = zn_I π.2.1 := hI.2.2.1
  have hr2 : M.1 33 2 = zn_I (zp_n π) := hI.2.2.2.1
  have h8 := hT.1
  have ht5 : M.1 33 5 = zn_I τ.1 := hT.2.1
  refine zw_of (by decide +kernel) (Nat.le_of_ble_eq_true rfl) ?_
  refine zy_loc (L1 := [.ref 33, .retAddr 0, .retAddr 0]) rfl ?_
  have loop : ∀ q : Nat, q ≤ 8 → zw_X l (d + 3) iX11_wetAll (zw_i (zn_I (mday π τ me ms mo : Nat)) M) 4 [.ref 33, .int (zn_I (zc_sum (fun q => zb_pop 32 (mwet π τ me ms mo q)) q : Nat)), .int (zn_I (q : Int))] [] M := by
    refine zw_loop 8 (P := fun q => zw_X l (d + 3) iX11_wetAll (zw_i (zn_I (mday π τ me ms mo : Nat)) M) 4 [.ref 33, .int (zn_I (zc_sum (fun q => zb_pop 32 (mwet π τ me ms mo q)) q : Nat)), .int (zn_I (q : Int))] [] M) (fun q hq ih => ?_)
    refine zx_iload_n dX11_wetAll_4 rfl ?_
    refine zx_bipush (v := zn_I 8) dX11_wetAll_5 (by decide) ?_
    refine zy_icmp_ge (tgt := 27) dX11_wetAll_7 (by decide) (by omega) (fun h_7 => ?_) (fun h_7 => ?_)
    · refine zx_iload_n dX11_wetAll_27 rfl ?_
      refine zx_iret (st := []) dX11_wetAll_28 rfl rfl ?_
      exact zk_I (by rw [show q = 8 by omega]; rfl)
    · refine zx_iload_n dX11_wetAll_10 rfl ?_
      refine zx_aload_n dX11_wetAll_11 rfl ?_
      refine zx_iload_n dX11_wetAll_12 rfl ?_
      refine zx_callV (y1 := iX11_wetIn) dX11_wetAll_13 lX11_143 vX11_wetIn rc_33 (mX11_wetIn hI hT hM (q := q) (by omega)) rfl rfl (Nat.le_of_ble_eq_true rfl) ?_
      refine zk_i ?_
      refine zx_callS (y1 := iX11_size) dX11_wetAll_16 lX11_146 sX11_size (mX11_size (mwet_30 hp τ me ms mo q)) rfl rfl (Nat.le_of_ble_eq_true rfl) ?_
      refine zk_i ?_
      refine zy_iadd dX11_wetAll_19 ?_
      refine zx_istore_n dX11_wetAll_20 rfl (Nat.le_of_ble_eq_true rfl) ?_
      refine zy_iinc dX11_wetAll_21 rfl rfl ?_
      refine zx_goto (tgt := 4) dX11_wetAll_24 (by decide) ?_
      exact ih (by omega)
  refine zx_iconst (v := zn_I 0) dX11_wetAll_0 rfl ?_
  refine zx_istore_n dX11_wetAll_1 rfl (Nat.le_of_ble_eq_true rfl) ?_
  refine zx_iconst (v := zn_I 0) dX11_wetAll_2 rfl ?_
  refine zx_istore_n dX11_wetAll_3 rfl (Nat.le_of_ble_eq_true rfl) ?_
  exact loop 0 (by omega)
set_option maxRecDepth 100000 in
set_option maxHeartbeats 600000 in
theorem mX11_peopleMany {l : Launch} {d : Nat} {M : zw_M} {n : Nat} {τ : zQ} (hT : mT M n τ) : zw_C l (d + 1) iX11_peopleMany [.ref 33] M (zw_i (zn_I (zt_m τ : Nat)) M) := by
  have h8 := hT.1
  have ht5 : M.1 33 5 = zn_I τ.1 := hT.2.1
  refine zw_of (by decide +kernel) (Nat.le_of_ble_eq_true rfl) ?_
  refine zy_loc (L1 := [.ref 33, .retAddr 0, .retAddr 0]) rfl ?_
  have loop : ∀ t : Nat, t ≤ τ.1 → zw_X l (d + 1) iX11_peopleMany (zw_i (zn_I (zt_m τ : Nat)) M) 4 [.ref 33, .int (zn_I ((zt_pl τ t).length : Nat)), .int (zn_I (t : Int))] [] M := by
    refine zw_loop τ.1 (P := fun t => zw_X l (d + 1) iX11_peopleMany (zw_i (zn_I (zt_m τ : Nat)) M) 4 [.ref 33, .int (zn_I ((zt_pl τ t).length : Nat)), .int (zn_I (t : Int))] [] M) (fun t ht ih => ?_)
    refine zx_iload_n dX11_peopleMany_4 rfl ?_
    refine zx_aload_n dX11_peopleMany_5 rfl ?_
    refine zy_geti dX11_peopleMany_6 fX11_95 (ht5) ?_
    refine zy_icmp_ge (tgt := 34) dX11_peopleMany_9 (by decide) (by omega) (fun h_9 => ?_) (fun h_9 => ?_)
    · refine zx_iload_n dX11_peopleMany_34 rfl ?_
      refine zx_iret (st := []) dX11_peopleMany_35 rfl rfl ?_
      exact zk_I (by rw [show t = τ.1 by omega]; rfl)
    · refine zx_iload_n dX11_peopleMany_12 rfl ?_
      refine zx_aload_n dX11_peopleMany_13 rfl ?_
      refine zx_iload_n dX11_peopleMany_14 rfl ?_
      refine zx_callV (y1 := iX11_isPerson) dX11_peopleMany_15 lX11_122 vX11_isPerson rc_33 (mX11_isPerson hT (t := t) (by omega)) rfl rfl (Nat.le_of_ble_eq_true rfl) ?_
      refine zk_i ?_
      refine zy_ifB_eq (tgt := 25) dX11_peopleMany_18 (by decide) (fun h_18 => ?_) (fun h_18 => ?_)
      · refine zx_iconst (v := zn_I 0) dX11_peopleMany_25 rfl ?_
        refine zy_iadd dX11_peopleMany_26 ?_
        refine zx_istore_n dX11_peopleMany_27 rfl (Nat.le_of_ble_eq_true rfl) ?_
        refine zy_iinc dX11_peopleMany_28 rfl rfl ?_
        refine zx_goto (tgt := 4) dX11_peopleMany_31 (by decide) ?_
        rw [show (((zt_pl τ t).length : Nat) : Int) + 0 = (((zt_pl τ (t + 1)).length : Nat) : Int) by rw [zt_pl_len, if_neg h_18]; omega]
        exact ih (by omega)
      · refine zx_iconst (v := zn_I 1) dX11_peopleMany_21 rfl ?_
        refine zx_goto (tgt := 26) dX11_peopleMany_22 (by decide) ?_
        refine zy_iadd dX11_peopleMany_26 ?_
        refine zx_istore_n dX11_peopleMany_27 rfl (Nat.le_of_ble_eq_true rfl) ?_
        refine zy_iinc dX11_peopleMany_28 rfl rfl ?_
        refine zx_goto (tgt := 4) dX11_peopleMany_31 (by decide) ?_
        rw [show (((zt_pl τ t).length : Nat) : Int) + 1 = (((zt_pl τ (t + 1)).length : Nat) : Int) by rw [zt_pl_len, if_pos h_18]; omega]
        exact ih (by omega)
  refine zx_iconst (v := zn_I 0) dX11_peopleMany_0 rfl ?_
  refine zx_istore_n dX11_peopleMany_1 rfl (Nat.le_of_ble_eq_true rfl) ?_
  refine zx_iconst (v := zn_I 0) dX11_peopleMany_2 rfl ?_
  refine zx_istore_n dX11_peopleMany_3 rfl (Nat.le_of_ble_eq_true rfl) ?_
  exact loop 0 (by omega)
