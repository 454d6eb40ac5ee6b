/-! TRADES: who takes whose square, as lists of numbers; the best, first met -/
abbrev zE : Type := Option (Nat × Nat × List Nat)
def ze_upd (ev : List Nat → Nat × Nat) (acc : zE) (a : List Nat) : zE := match acc with
  | none => some ((ev a).1, (ev a).2, a)
  | some (w, m, b) => if (ev a).1 < w ∨ ((ev a).1 = w ∧ (ev a).2 < m) then some ((ev a).1, (ev a).2, a) else some (w, m, b)
def ze_ext (m : Nat) : Nat → List Nat → List (List Nat)
  | 0, p => [p]
  | k + 1, p => (List.range m).flatMap (fun x => if x ∈ p then [] else ze_ext m k (p ++ [x]))
def ze_fold (ev : List Nat → Nat × Nat) (acc : zE) (L : List (List Nat)) : zE := L.foldl (ze_upd ev) acc
theorem ze_fold_app {ev : List Nat → Nat × Nat} {acc : zE} {L1 L2 : List (List Nat)} : ze_fold ev acc (L1 ++ L2) = ze_fold ev (ze_fold ev acc L1) L2 := List.foldl_append
/-- the first ones of a row of choices -/
def ze_part (m k : Nat) (p : List Nat) (s : Nat) : List (List Nat) := (List.range s).flatMap (fun x => if x ∈ p then [] else ze_ext m k (p ++ [x]))
theorem ze_part_succ (m k : Nat) (p : List Nat) (s : Nat) : ze_part m k p (s + 1) = ze_part m k p s ++ (if s ∈ p then [] else ze_ext m k (p ++ [s])) := by
  unfold ze_part
  rw [List.range_succ, List.flatMap_append]
  simp
def ze_mask : List Nat → Nat
  | [] => 0
  | x :: r => ze_mask r ||| 2 ^ x
theorem ze_mask_snoc : ∀ (p : List Nat) (x : Nat), ze_mask (p ++ [x]) = ze_mask p ||| 2 ^ x
  | [], x => rfl
  | y :: r, x => by
    rw [List.cons_append, ze_mask, ze_mask, ze_mask_snoc r x, Nat.or_assoc, Nat.or_assoc, Nat.or_comm (2 ^ x)]
theorem ze_mask_bit : ∀ (p : List Nat) (x : Nat), (ze_mask p).testBit x = decide (x ∈ p)
  | [], x => by simp [ze_mask]
  | y :: r, x => by
    rw [ze_mask, Nat.testBit_or, ze_mask_bit r x, Nat.testBit_two_pow]
    by_cases h : x = y
    · subst h; simp
    · simp [h, Ne.symm h]
theorem ze_mask_lt : ∀ (p : List Nat) (m : Nat), (∀ x ∈ p, x < m) → ze_mask p < 2 ^ m
  | [], m, _ => Nat.two_pow_pos m
  | y :: r, m, h => by
    have h1 := ze_mask_lt r m (fun x hx => h x (List.mem_cons_of_mem _ hx))
    have h2 : 2 ^ y < 2 ^ m := Nat.pow_lt_pow_right (by decide) (h y List.mem_cons_self)
    exact Nat.or_lt_two_pow h1 h2
theorem ze_mask_and (p : List Nat) (x : Nat) : ze_mask p &&& 2 ^ x = 0 ↔ x ∉ p := by
  have h := ze_mask_bit p x
  constructor
  · intro e hx
    have h1 : (ze_mask p &&& 2 ^ x).testBit x = true := by rw [Nat.testBit_and, h, Nat.testBit_two_pow]; simp [hx]
    rw [e] at h1
    simp at h1
  · intro hx
    apply Nat.eq_of_testBit_eq
    intro i
    rw [Nat.testBit_and, Nat.testBit_two_pow, Nat.zero_testBit]
    by_cases e : x = i
    · subst e; rw [h]; simp [hx]
    · simp [e]
theorem zb_or2 (a b : Nat) : zn_I (a : Int) ||| zn_I (b : Int) = zn_I ((a ||| b : Nat) : Int) := by
  rw [← zn_nat, ← zn_nat, ← zn_nat]
  apply Int32.toBitVec_inj.1
  show BitVec.ofNat 32 a ||| BitVec.ofNat 32 b = BitVec.ofNat 32 (a ||| b)
  apply BitVec.eq_of_getLsbD_eq
  intro i hi
  simp [hi]
/-- sums along a row of choices -/
def zx_e (E0 : Int) (f : Nat → Nat → Int) (p : List Nat) : Nat → Int
  | 0 => E0
  | i + 1 => zx_e E0 f p i + f i (p.getD i 0)
def zx_m (sq : Nat → Nat) (p : List Nat) : Nat → Nat
  | 0 => 0
  | i + 1 => zx_m sq p i + (if sq (p.getD i 0) = sq i then 0 else 1)
theorem ze_getD {p : List Nat} {x i : Nat} (h : i < p.length) : (p ++ [x]).getD i 0 = p.getD i 0 := by
  simp [List.getD, List.getElem?_append_left h]
theorem ze_getD_last {p : List Nat} {x : Nat} : (p ++ [x]).getD p.length 0 = x := by
  simp [List.getD]
theorem zx_e_snoc {E0 : Int} {f : Nat → Nat → Int} {p : List Nat} {x : Nat} : ∀ i, i ≤ p.length → zx_e E0 f (p ++ [x]) i = zx_e E0 f p i
  | 0, _ => rfl
  | i + 1, h => by rw [zx_e, zx_e, zx_e_snoc i (by omega), ze_getD (by omega)]
theorem zx_m_snoc {sq : Nat → Nat} {p : List Nat} {x : Nat} : ∀ i, i ≤ p.length → zx_m sq (p ++ [x]) i = zx_m sq p i
  | 0, _ => rfl
  | i + 1, h => by rw [zx_m, zx_m, zx_m_snoc i (by omega), ze_getD (by omega)]
theorem zx_m_le (sq : Nat → Nat) (p : List Nat) : ∀ i, zx_m sq p i ≤ i
  | 0 => Nat.le_refl 0
  | i + 1 => by
    have := zx_m_le sq p i
    rw [zx_m]
    split <;> omega
theorem zx_e_rng {E0 : Int} {f : Nat → Nat → Int} {p : List Nat} {m : Nat} (h0 : -20000 ≤ E0 ∧ E0 ≤ 20000) (hf : ∀ i x, i < m → x < m → -1000 ≤ f i x ∧ f i x ≤ 1000) : ∀ i, i ≤ m → (∀ j, j < i → p.getD j 0 < m) → -(20000 + 1000 * (i : Int)) ≤ zx_e E0 f p i ∧ zx_e E0 f p i ≤ 20000 + 1000 * (i : Int)
  | 0, _, _ => by rw [zx_e]; omega
  | i + 1, h, hp => by
    have ih := zx_e_rng h0 hf i (by omega) (fun j hj => hp j (by omega))
    have h1 := hf i (p.getD i 0) (by omega) (hp i (by omega))
    rw [zx_e]
    omega
/-- the world of a search for trades -/
def zHT (M : zw_M) (π : zP) (τ : zQ) (m : Nat) (pe sq : Nat → Nat) : Prop := zI M π ∧ zT M (zp_n π) τ ∧ M.1 19 7 = zn_I m ∧ m ≤ 6 ∧ ∀ i, i < m → M.1 20 i = zn_I (pe i : Nat) ∧ M.1 21 i = zn_I (sq i : Nat) ∧ pe i < τ.1 ∧ sq i < zp_n π
theorem zHT_f {M M1 : zw_M} {π : zP} {τ : zQ} {m : Nat} {pe sq : Nat → Nat} (h : zw_fr [19, 22, 23] M M1) (h7 : M1.1 19 7 = M.1 19 7) (hT : zHT M π τ m pe sq) : zHT M1 π τ m pe sq := by
  refine ⟨zI_f h hT.1 (by decide), zT_f h hT.2.1 (by decide), h7.trans hT.2.2.1, hT.2.2.2.1, ?_⟩
  rw [(h 20 (by decide)).1, (h 21 (by decide)).1]
  exact hT.2.2.2.2
def zAcc (M : zw_M) (m : Nat) (sq : Nat → Nat) (acc : zE) : Prop := match acc with
  | none => M.1 19 8 = zn_I 0
  | some (w, e, b) => M.1 19 8 = zn_I 1 ∧ M.1 19 9 = zn_I (w : Nat) ∧ M.1 19 10 = zn_I (e : Nat) ∧ w ≤ 32 ∧ e ≤ 6 ∧ ∀ i, i < m → M.1 23 i = zn_I (sq (b.getD i 0) : Nat)
def zg_e (π : zP) (τ : zQ) (pe sq : Nat → Nat) (i x : Nat) : Int := zt_w τ (pe i) * zp_e π (sq x)
def zg_s (π : zP) (τ : zQ) (pe sq : Nat → Nat) (i x : Nat) : Int := zt_w τ (pe i) * zp_s π (sq x)
/-- what a whole row of choices comes to -/
def ze_ev (π : zP) (τ : zQ) (m : Nat) (pe sq : Nat → Nat) (E0 S0 : Int) (a : List Nat) : Nat × Nat := (zp_wc π (zx_e E0 (zg_e π τ pe sq) a m) (zx_e S0 (zg_s π τ pe sq) a m), zx_m sq a m)
theorem zg_rng {M : zw_M} {π : zP} {τ : zQ} {m : Nat} {pe sq : Nat → Nat} (h : zHT M π τ m pe sq) {i x : Nat} (hi : i < m) (hx : x < m) : (-1000 ≤ zg_e π τ pe sq i x ∧ zg_e π τ pe sq i x ≤ 1000) ∧ -1000 ≤ zg_s π τ pe sq i x ∧ zg_s π τ pe sq i x ≤ 1000 := by
  have h1 := zt_w_rng h.2.1 (h.2.2.2.2 i hi).2.2.1
  have h2 := zp_e_rng h.1.1 (h.2.2.2.2 x hx).2.2.2
  have h3 := zp_s_rng h.1.1 (h.2.2.2.2 x hx).2.2.2
  have h4 := zp_mul_rng (a := zt_w τ (pe i)) (e := zp_e π (sq x)) (B := 198) (by omega) (by omega) (by omega) (by omega)
  have h5 := zp_mul_rng (a := zt_w τ (pe i)) (e := zp_s π (sq x)) (B := 198) (by omega) (by omega) (by omega) (by omega)
  unfold zg_e zg_s
  omega
theorem zw_cpy6 (f g : Nat → Int32) {i : Nat} (h : i < 6) : va_cpy f g (zn_I 0).toNatClampNeg (zn_I 0).toNatClampNeg (zn_I 6).toNatClampNeg i = f i := by
  have e0 : (zn_I 0).toNatClampNeg = 0 := by decide
  have e6 : (zn_I 6).toNatClampNeg = 6 := by decide
  rw [e0, e6]
  simp [va_cpy, h]
set_option maxRecDepth 100000 in
set_option maxHeartbeats 600000 in
theorem mX9_judge {l : Launch} {d : Nat} {M : zw_M} {π : zP} {τ : zQ} {m : Nat} {pe sq : Nat → Nat} {acc : zE} {ev : List Nat → Nat × Nat} {a : List Nat} {E S : Int} {mv : Nat} (hH : zHT M π τ m pe sq) (hA : zAcc M m sq acc) (hE : -1000000 ≤ E ∧ E ≤ 1000000) (hS : -1000000 ≤ S ∧ S ≤ 1000000) (hmv : mv ≤ 6) (hev : ev a = (zp_wc π E S, mv)) (htk : ∀ i, i < m → M.1 22 i = zn_I (sq (a.getD i 0) : Nat)) : zw_C l (d + 2) iX9_judge [.ref 19, .int (zn_I E), .int (zn_I S), .int (zn_I (mv : Int))] M (fun v M1 => v = none ∧ zw_fr [19, 22, 23] M M1 ∧ M1.1 19 7 = M.1 19 7 ∧ M1.1 22 = M.1 22 ∧ zAcc M1 m sq (ze_upd ev acc a)) := by
  have h6 := hH.2.2.2.1
  refine zw_of (by decide +kernel) (Nat.le_of_ble_eq_true rfl) ?_
  refine zy_loc (L1 := [.ref 19, .int (zn_I E), .int (zn_I S), .int (zn_I (mv : Int)), .retAddr 0, .retAddr 0]) rfl ?_
  rcases acc with _ | ⟨w, e, b⟩
  · obtain ⟨fw, hfw1, hfw2, hfw⟩ := zn_ex (M.1 19 9)
    obtain ⟨fe, hfe1, hfe2, hfe⟩ := zn_ex (M.1 19 10)
    have hF : M.1 19 8 = zn_I 0 ∧ M.1 19 9 = zn_I fw ∧ M.1 19 10 = zn_I fe := ⟨hA, hfw, hfe⟩
    refine zx_aload_n dX9_judge_0 rfl ?_
    refine zx_getr dX9_judge_1 fX9_24 ?_
    refine zx_iload_n dX9_judge_4 rfl ?_
    refine zx_iload_n dX9_judge_5 rfl ?_
    refine zx_callV (y1 := iX1_wetDoorsTold) dX9_judge_6 lX9_95 vX1_wetDoorsTold rc_4 (mX1_wetDoorsTold hH.1 ⟨by omega, by omega⟩ ⟨by omega, by omega⟩) rfl rfl (Nat.le_of_ble_eq_true rfl) ?_
    refine zk_i ?_
    refine zx_istore dX9_judge_9 rfl (Nat.le_of_ble_eq_true rfl) ?_
    have hwl := zp_wc_le π E S
    refine zx_iload dX9_judge_11 rfl ?_
    refine zx_aload_n dX9_judge_13 rfl ?_
    refine zy_geti dX9_judge_14 fX9_36 (hF.2.1) ?_
    refine zy_icmp_lt (tgt := 37) dX9_judge_17 (by decide) (by omega) (fun h_17 => ?_) (fun h_17 => ?_)
    · refine zx_iconst (v := zn_I 1) dX9_judge_37 rfl ?_
      refine zx_goto (tgt := 42) dX9_judge_38 (by decide) ?_
      refine zx_istore dX9_judge_42 rfl (Nat.le_of_ble_eq_true rfl) ?_
      refine zx_aload_n dX9_judge_44 rfl ?_
      refine zy_geti dX9_judge_45 fX9_46 (hF.1) ?_
      refine zy_if_eq (tgt := 57) dX9_judge_48 (by decide) (by omega) (fun h_48 => ?_) (fun h_48 => ?_)
      · refine zx_aload_n dX9_judge_57 rfl ?_
        refine zx_iconst (v := zn_I 1) dX9_judge_58 rfl ?_
        refine zx_putz dX9_judge_59 fX9_46 rfl rfl ?_
        refine zx_aload_n dX9_judge_62 rfl ?_
        refine zx_iload dX9_judge_63 rfl ?_
        refine zx_puti dX9_judge_65 fX9_36 ?_
        refine zx_aload_n dX9_judge_68 rfl ?_
        refine zx_iload_n dX9_judge_69 rfl ?_
        refine zx_puti dX9_judge_70 fX9_40 ?_
        refine zx_aload_n dX9_judge_73 rfl ?_
        refine zx_getr dX9_judge_74 fX9_18 ?_
        refine zx_iconst (v := zn_I 0) dX9_judge_77 rfl ?_
        refine zx_aload_n dX9_judge_78 rfl ?_
        refine zx_getr dX9_judge_79 fX9_21 ?_
        refine zx_iconst (v := zn_I 0) dX9_judge_82 rfl ?_
        refine zx_bipush (v := zn_I 6) dX9_judge_83 (by decide) ?_
        refine zx_copy dX9_judge_85 acX9_98 rfl rfl (by decide) (by decide) (by decide) (by decide) (by decide) (by decide) ?_
        refine zx_vret (st := []) dX9_judge_88 rfl ?_
        refine ⟨rfl, zf_sr (zf_s (zf_s (zf_s zf_rf (by decide)) (by decide)) (by decide)) (by decide), by simp [zw_s, zw_sr], by funext j; simp [zw_s, zw_sr], ?_⟩
        have eu : ze_upd ev none a = some (zp_wc π E S, mv, a) := by
          unfold ze_upd
          rw [hev]
          skip
        rw [eu]
        refine ⟨by simp [zw_s, zw_sr], by simp [zw_s, zw_sr], by simp [zw_s, zw_sr], zp_wc_le _ _ _, hmv, fun i hi => ?_⟩
        show va_cpy _ _ _ _ _ i = _
        rw [zw_cpy6 _ _ (by omega)]
        have := htk i hi
        simp [zw_s, this]
      · exact absurd rfl h_48
    · refine zx_iload dX9_judge_20 rfl ?_
      refine zx_aload_n dX9_judge_22 rfl ?_
      refine zy_geti dX9_judge_23 fX9_36 (hF.2.1) ?_
      refine zy_icmp_ne (tgt := 41) dX9_judge_26 (by decide) (by omega) (fun h_26 => ?_) (fun h_26 => ?_)
      · refine zx_iconst (v := zn_I 0) dX9_judge_41 rfl ?_
        refine zx_istore dX9_judge_42 rfl (Nat.le_of_ble_eq_true rfl) ?_
        refine zx_aload_n dX9_judge_44 rfl ?_
        refine zy_geti dX9_judge_45 fX9_46 (hF.1) ?_
        refine zy_if_eq (tgt := 57) dX9_judge_48 (by decide) (by omega) (fun h_48 => ?_) (fun h_48 => ?_)
        · refine zx_aload_n dX9_judge_57 rfl ?_
          refine zx_iconst (v := zn_I 1) dX9_judge_58 rfl ?_
          refine zx_putz dX9_judge_59 fX9_46 rfl rfl ?_
          refine zx_aload_n dX9_judge_62 rfl ?_
          refine zx_iload dX9_judge_63 rfl ?_
          refine zx_puti dX9_judge_65 fX9_36 ?_
          refine zx_aload_n dX9_judge_68 rfl ?_
          refine zx_iload_n dX9_judge_69 rfl ?_
          refine zx_puti dX9_judge_70 fX9_40 ?_
          refine zx_aload_n dX9_judge_73 rfl ?_
          refine zx_getr dX9_judge_74 fX9_18 ?_
          refine zx_iconst (v := zn_I 0) dX9_judge_77 rfl ?_
          refine zx_aload_n dX9_judge_78 rfl ?_
          refine zx_getr dX9_judge_79 fX9_21 ?_
          refine zx_iconst (v := zn_I 0) dX9_judge_82 rfl ?_
          refine zx_bipush (v := zn_I 6) dX9_judge_83 (by decide) ?_
          refine zx_copy dX9_judge_85 acX9_98 rfl rfl (by decide) (by decide) (by decide) (by decide) (by decide) (by decide) ?_
          refine zx_vret (st := []) dX9_judge_88 rfl ?_
          refine ⟨rfl, zf_sr (zf_s (zf_s (zf_s zf_rf (by decide)) (by decide)) (by decide)) (by decide), by simp [zw_s, zw_sr], by funext j; simp [zw_s, zw_sr], ?_⟩
          have eu : ze_upd ev none a = some (zp_wc π E S, mv, a) := by
            unfold ze_upd
            rw [hev]
            skip
          rw [eu]
          refine ⟨by simp [zw_s, zw_sr], by simp [zw_s, zw_sr], by simp [zw_s, zw_sr], zp_wc_le _ _ _, hmv, fun i hi => ?_⟩
          show va_cpy _ _ _ _ _ i = _
          rw [zw_cpy6 _ _ (by omega)]
          have := htk i hi
          simp [zw_s, this]
        · exact absurd rfl h_48
      · refine zx_iload_n dX9_judge_29 rfl ?_
        refine zx_aload_n dX9_judge_30 rfl ?_
        refine zy_geti dX9_judge_31 fX9_40 (hF.2.2) ?_
        refine zy_icmp_ge (tgt := 41) dX9_judge_34 (by decide) (by omega) (fun h_34 => ?_) (fun h_34 => ?_)
        · refine zx_iconst (v := zn_I 0) dX9_judge_41 rfl ?_
          refine zx_istore dX9_judge_42 rfl (Nat.le_of_ble_eq_true rfl) ?_
          refine zx_aload_n dX9_judge_44 rfl ?_
          refine zy_geti dX9_judge_45 fX9_46 (hF.1) ?_
          refine zy_if_eq (tgt := 57) dX9_judge_48 (by decide) (by omega) (fun h_48 => ?_) (fun h_48 => ?_)
          · refine zx_aload_n dX9_judge_57 rfl ?_
            refine zx_iconst (v := zn_I 1) dX9_judge_58 rfl ?_
            refine zx_putz dX9_judge_59 fX9_46 rfl rfl ?_
            refine zx_aload_n dX9_judge_62 rfl ?_
            refine zx_iload dX9_judge_63 rfl ?_
            refine zx_puti dX9_judge_65 fX9_36 ?_
            refine zx_aload_n dX9_judge_68 rfl ?_
            refine zx_iload_n dX9_judge_69 rfl ?_
            refine zx_puti dX9_judge_70 fX9_40 ?_
            refine zx_aload_n dX9_judge_73 rfl ?_
            refine zx_getr dX9_judge_74 fX9_18 ?_
            refine zx_iconst (v := zn_I 0) dX9_judge_77 rfl ?_
            refine zx_aload_n dX9_judge_78 rfl ?_
            refine zx_getr dX9_judge_79 fX9_21 ?_
            refine zx_iconst (v := zn_I 0) dX9_judge_82 rfl ?_
            refine zx_bipush (v := zn_I 6) dX9_judge_83 (by decide) ?_
            refine zx_copy dX9_judge_85 acX9_98 rfl rfl (by decide) (by decide) (by decide) (by decide) (by decide) (by decide) ?_
            refine zx_vret (st := []) dX9_judge_88 rfl ?_
            refine ⟨rfl, zf_sr (zf_s (zf_s (zf_s zf_rf (by decide)) (by decide)) (by decide)) (by decide), by simp [zw_s, zw_sr], by funext j; simp [zw_s, zw_sr], ?_⟩
            have eu : ze_upd ev none a = some (zp_wc π E S, mv, a) := by
              unfold ze_upd
              rw [hev]
              skip
            rw [eu]
            refine ⟨by simp [zw_s, zw_sr], by simp [zw_s, zw_sr], by simp [zw_s, zw_sr], zp_wc_le _ _ _, hmv, fun i hi => ?_⟩
            show va_cpy _ _ _ _ _ i = _
            rw [zw_cpy6 _ _ (by omega)]
            have := htk i hi
            simp [zw_s, this]
          · exact absurd rfl h_48
        · refine zx_iconst (v := zn_I 1) dX9_judge_37 rfl ?_
          refine zx_goto (tgt := 42) dX9_judge_38 (by decide) ?_
          refine zx_istore dX9_judge_42 rfl (Nat.le_of_ble_eq_true rfl) ?_
          refine zx_aload_n dX9_judge_44 rfl ?_
          refine zy_geti dX9_judge_45 fX9_46 (hF.1) ?_
          refine zy_if_eq (tgt := 57) dX9_judge_48 (by decide) (by omega) (fun h_48 => ?_) (fun h_48 => ?_)
          · refine zx_aload_n dX9_judge_57 rfl ?_
            refine zx_iconst (v := zn_I 1) dX9_judge_58 rfl ?_
            refine zx_putz dX9_judge_59 fX9_46 rfl rfl ?_
            refine zx_aload_n dX9_judge_62 rfl ?_
            refine zx_iload dX9_judge_63 rfl ?_
            refine zx_puti dX9_judge_65 fX9_36 ?_
            refine zx_aload_n dX9_judge_68 rfl ?_
            refine zx_iload_n dX9_judge_69 rfl ?_
            refine zx_puti dX9_judge_70 fX9_40 ?_
            refine zx_aload_n dX9_judge_73 rfl ?_
            refine zx_getr dX9_judge_74 fX9_18 ?_
            refine zx_iconst (v := zn_I 0) dX9_judge_77 rfl ?_
            refine zx_aload_n dX9_judge_78 rfl ?_
            refine zx_getr dX9_judge_79 fX9_21 ?_
            refine zx_iconst (v := zn_I 0) dX9_judge_82 rfl ?_
            refine zx_bipush (v := zn_I 6) dX9_judge_83 (by decide) ?_
            refine zx_copy dX9_judge_85 acX9_98 rfl rfl (by decide) (by decide) (by decide) (by decide) (by decide) (by decide) ?_
            refine zx_vret (st := []) dX9_judge_88 rfl ?_
            refine ⟨rfl, zf_sr (zf_s (zf_s (zf_s zf_rf (by decide)) (by decide)) (by decide)) (by decide), by simp [zw_s, zw_sr], by funext j; simp [zw_s, zw_sr], ?_⟩
            have eu : ze_upd ev none a = some (zp_wc π E S, mv, a) := by
              unfold ze_upd
              rw [hev]
              skip
            rw [eu]
            refine ⟨by simp [zw_s, zw_sr], by simp [zw_s, zw_sr], by simp [zw_s, zw_sr], zp_wc_le _ _ _, hmv, fun i hi => ?_⟩
            show va_cpy _ _ _ _ _ i = _
            rw [zw_cpy6 _ _ (by omega)]
            have := htk i hi
            simp [zw_s, this]
          · exact absurd rfl h_48
  · have hF : M.1 19 8 = zn_I 1 ∧ M.1 19 9 = zn_I (w : Nat) ∧ M.1 19 10 = zn_I (e : Nat) ∧ w ≤ 32 ∧ e ≤ 6 ∧ ∀ i, i < m → M.1 23 i = zn_I (sq (b.getD i 0) : Nat) := hA
    have hF4 := hF.2.2.2.1
    have hF5 := hF.2.2.2.2.1
    refine zx_aload_n dX9_judge_0 rfl ?_
    refine zx_getr dX9_judge_1 fX9_24 ?_
    refine zx_iload_n dX9_judge_4 rfl ?_
    refine zx_iload_n dX9_judge_5 rfl ?_
    refine zx_callV (y1 := iX1_wetDoorsTold) dX9_judge_6 lX9_95 vX1_wetDoorsTold rc_4 (mX1_wetDoorsTold hH.1 ⟨by omega, by omega⟩ ⟨by omega, by omega⟩) rfl rfl (Nat.le_of_ble_eq_true rfl) ?_
    refine zk_i ?_
    refine zx_istore dX9_judge_9 rfl (Nat.le_of_ble_eq_true rfl) ?_
    have hwl := zp_wc_le π E S
    refine zx_iload dX9_judge_11 rfl ?_
    refine zx_aload_n dX9_judge_13 rfl ?_
    refine zy_geti dX9_judge_14 fX9_36 (hF.2.1) ?_
    refine zy_icmp_lt (tgt := 37) dX9_judge_17 (by decide) (by omega) (fun h_17 => ?_) (fun h_17 => ?_)
    · refine zx_iconst (v := zn_I 1) dX9_judge_37 rfl ?_
      refine zx_goto (tgt := 42) dX9_judge_38 (by decide) ?_
      refine zx_istore dX9_judge_42 rfl (Nat.le_of_ble_eq_true rfl) ?_
      refine zx_aload_n dX9_judge_44 rfl ?_
      refine zy_geti dX9_judge_45 fX9_46 (hF.1) ?_
      refine zy_if_eq (tgt := 57) dX9_judge_48 (by decide) (by omega) (fun h_48 => ?_) (fun h_48 => ?_)
      · exact absurd h_48 (by decide)
      · refine zx_iload dX9_judge_51 rfl ?_
        refine zy_if_ne (tgt := 57) dX9_judge_53 (by decide) (by omega) (fun h_53 => ?_) (fun h_53 => ?_)
        · refine zx_aload_n dX9_judge_57 rfl ?_
          refine zx_iconst (v := zn_I 1) dX9_judge_58 rfl ?_
          refine zx_putz dX9_judge_59 fX9_46 rfl rfl ?_
          refine zx_aload_n dX9_judge_62 rfl ?_
          refine zx_iload dX9_judge_63 rfl ?_
          refine zx_puti dX9_judge_65 fX9_36 ?_
          refine zx_aload_n dX9_judge_68 rfl ?_
          refine zx_iload_n dX9_judge_69 rfl ?_
          refine zx_puti dX9_judge_70 fX9_40 ?_
          refine zx_aload_n dX9_judge_73 rfl ?_
          refine zx_getr dX9_judge_74 fX9_18 ?_
          refine zx_iconst (v := zn_I 0) dX9_judge_77 rfl ?_
          refine zx_aload_n dX9_judge_78 rfl ?_
          refine zx_getr dX9_judge_79 fX9_21 ?_
          refine zx_iconst (v := zn_I 0) dX9_judge_82 rfl ?_
          refine zx_bipush (v := zn_I 6) dX9_judge_83 (by decide) ?_
          refine zx_copy dX9_judge_85 acX9_98 rfl rfl (by decide) (by decide) (by decide) (by decide) (by decide) (by decide) ?_
          refine zx_vret (st := []) dX9_judge_88 rfl ?_
          refine ⟨rfl, zf_sr (zf_s (zf_s (zf_s zf_rf (by decide)) (by decide)) (by decide)) (by decide), by simp [zw_s, zw_sr], by funext j; simp [zw_s, zw_sr], ?_⟩
          have eu : ze_upd ev (some (w, e, b)) a = some (zp_wc π E S, mv, a) := by
            unfold ze_upd
            rw [hev]
            dsimp only
            rw [if_pos (by omega)]
          rw [eu]
          refine ⟨by simp [zw_s, zw_sr], by simp [zw_s, zw_sr], by simp [zw_s, zw_sr], zp_wc_le _ _ _, hmv, fun i hi => ?_⟩
          show va_cpy _ _ _ _ _ i = _
          rw [zw_cpy6 _ _ (by omega)]
          have := htk i hi
          simp [zw_s, this]
        · refine zx_vret (st := []) dX9_judge_56 rfl ?_
          refine ⟨rfl, zf_rf, rfl, rfl, ?_⟩
          have eu : ze_upd ev (some (w, e, b)) a = some (w, e, b) := by
            unfold ze_upd
            rw [hev]
            dsimp only
            rw [if_neg (by omega)]
          rw [eu]
          exact ⟨hF.1, hF.2.1, hF.2.2.1, hF.2.2.2.1, hF.2.2.2.2.1, hF.2.2.2.2.2⟩
    · refine zx_iload dX9_judge_20 rfl ?_
      refine zx_aload_n dX9_judge_22 rfl ?_
      refine zy_geti dX9_judge_23 fX9_36 (hF.2.1) ?_
      refine zy_icmp_ne (tgt := 41) dX9_judge_26 (by decide) (by omega) (fun h_26 => ?_) (fun h_26 => ?_)
      · refine zx_iconst (v := zn_I 0) dX9_judge_41 rfl ?_
        refine zx_istore dX9_judge_42 rfl (Nat.le_of_ble_eq_true rfl) ?_
        refine zx_aload_n dX9_judge_44 rfl ?_
        refine zy_geti dX9_judge_45 fX9_46 (hF.1) ?_
        refine zy_if_eq (tgt := 57) dX9_judge_48 (by decide) (by omega) (fun h_48 => ?_) (fun h_48 => ?_)
        · exact absurd h_48 (by decide)
        · refine zx_iload dX9_judge_51 rfl ?_
          refine zy_if_ne (tgt := 57) dX9_judge_53 (by decide) (by omega) (fun h_53 => ?_) (fun h_53 => ?_)
          · refine zx_aload_n dX9_judge_57 rfl ?_
            refine zx_iconst (v := zn_I 1) dX9_judge_58 rfl ?_
            refine zx_putz dX9_judge_59 fX9_46 rfl rfl ?_
            refine zx_aload_n dX9_judge_62 rfl ?_
            refine zx_iload dX9_judge_63 rfl ?_
            refine zx_puti dX9_judge_65 fX9_36 ?_
            refine zx_aload_n dX9_judge_68 rfl ?_
            refine zx_iload_n dX9_judge_69 rfl ?_
            refine zx_puti dX9_judge_70 fX9_40 ?_
            refine zx_aload_n dX9_judge_73 rfl ?_
            refine zx_getr dX9_judge_74 fX9_18 ?_
            refine zx_iconst (v := zn_I 0) dX9_judge_77 rfl ?_
            refine zx_aload_n dX9_judge_78 rfl ?_
            refine zx_getr dX9_judge_79 fX9_21 ?_
            refine zx_iconst (v := zn_I 0) dX9_judge_82 rfl ?_
            refine zx_bipush (v := zn_I 6) dX9_judge_83 (by decide) ?_
            refine zx_copy dX9_judge_85 acX9_98 rfl rfl (by decide) (by decide) (by decide) (by decide) (by decide) (by decide) ?_
            refine zx_vret (st := []) dX9_judge_88 rfl ?_
            refine ⟨rfl, zf_sr (zf_s (zf_s (zf_s zf_rf (by decide)) (by decide)) (by decide)) (by decide), by simp [zw_s, zw_sr], by funext j; simp [zw_s, zw_sr], ?_⟩
            have eu : ze_upd ev (some (w, e, b)) a = some (zp_wc π E S, mv, a) := by
              unfold ze_upd
              rw [hev]
              dsimp only
              rw [if_pos (by omega)]
            rw [eu]
            refine ⟨by simp [zw_s, zw_sr], by simp [zw_s, zw_sr], by simp [zw_s, zw_sr], zp_wc_le _ _ _, hmv, fun i hi => ?_⟩
            show va_cpy _ _ _ _ _ i = _
            rw [zw_cpy6 _ _ (by omega)]
            have := htk i hi
            simp [zw_s, this]
          · refine zx_vret (st := []) dX9_judge_56 rfl ?_
            refine ⟨rfl, zf_rf, rfl, rfl, ?_⟩
            have eu : ze_upd ev (some (w, e, b)) a = some (w, e, b) := by
              unfold ze_upd
              rw [hev]
              dsimp only
              rw [if_neg (by omega)]
            rw [eu]
            exact ⟨hF.1, hF.2.1, hF.2.2.1, hF.2.2.2.1, hF.2.2.2.2.1, hF.2.2.2.2.2⟩
      · refine zx_iload_n dX9_judge_29 rfl ?_
        refine zx_aload_n dX9_judge_30 rfl ?_
        refine zy_geti dX9_judge_31 fX9_40 (hF.2.2.1) ?_
        refine zy_icmp_ge (tgt := 41) dX9_judge_34 (by decide) (by omega) (fun h_34 => ?_) (fun h_34 => ?_)
        · refine zx_iconst (v := zn_I 0) dX9_judge_41 rfl ?_
          refine zx_istore dX9_judge_42 rfl (Nat.le_of_ble_eq_true rfl) ?_
          refine zx_aload_n dX9_judge_44 rfl ?_
          refine zy_geti dX9_judge_45 fX9_46 (hF.1) ?_
          refine zy_if_eq (tgt := 57) dX9_judge_48 (by decide) (by omega) (fun h_48 => ?_) (fun h_48 => ?_)
          · exact absurd h_48 (by decide)
          · refine zx_iload dX9_judge_51 rfl ?_
            refine zy_if_ne (tgt := 57) dX9_judge_53 (by decide) (by omega) (fun h_53 => ?_) (fun h_53 => ?_)
            · refine zx_aload_n dX9_judge_57 rfl ?_
              refine zx_iconst (v := zn_I 1) dX9_judge_58 rfl ?_
              refine zx_putz dX9_judge_59 fX9_46 rfl rfl ?_
              refine zx_aload_n dX9_judge_62 rfl ?_
              refine zx_iload dX9_judge_63 rfl ?_
              refine zx_puti dX9_judge_65 fX9_36 ?_
              refine zx_aload_n dX9_judge_68 rfl ?_
              refine zx_iload_n dX9_judge_69 rfl ?_
              refine zx_puti dX9_judge_70 fX9_40 ?_
              refine zx_aload_n dX9_judge_73 rfl ?_
              refine zx_getr dX9_judge_74 fX9_18 ?_
              refine zx_iconst (v := zn_I 0) dX9_judge_77 rfl ?_
              refine zx_aload_n dX9_judge_78 rfl ?_
              refine zx_getr dX9_judge_79 fX9_21 ?_
              refine zx_iconst (v := zn_I 0) dX9_judge_82 rfl ?_
              refine zx_bipush (v := zn_I 6) dX9_judge_83 (by decide) ?_
              refine zx_copy dX9_judge_85 acX9_98 rfl rfl (by decide) (by decide) (by decide) (by decide) (by decide) (by decide) ?_
              refine zx_vret (st := []) dX9_judge_88 rfl ?_
              refine ⟨rfl, zf_sr (zf_s (zf_s (zf_s zf_rf (by decide)) (by decide)) (by decide)) (by decide), by simp [zw_s, zw_sr], by funext j; simp [zw_s, zw_sr], ?_⟩
              have eu : ze_upd ev (some (w, e, b)) a = some (zp_wc π E S, mv, a) := by
                unfold ze_upd
                rw [hev]
                dsimp only
                rw [if_pos (by omega)]
              rw [eu]
              refine ⟨by simp [zw_s, zw_sr], by simp [zw_s, zw_sr], by simp [zw_s, zw_sr], zp_wc_le _ _ _, hmv, fun i hi => ?_⟩
              show va_cpy _ _ _ _ _ i = _
              rw [zw_cpy6 _ _ (by omega)]
              have := htk i hi
              simp [zw_s, this]
            · refine zx_vret (st := []) dX9_judge_56 rfl ?_
              refine ⟨rfl, zf_rf, rfl, rfl, ?_⟩
              have eu : ze_upd ev (some (w, e, b)) a = some (w, e, b) := by
                unfold ze_upd
                rw [hev]
                dsimp only
                rw [if_neg (by omega)]
              rw [eu]
              exact ⟨hF.1, hF.2.1, hF.2.2.1, hF.2.2.2.1, hF.2.2.2.2.1, hF.2.2.2.2.2⟩
        · refine zx_iconst (v := zn_I 1) dX9_judge_37 rfl ?_
          refine zx_goto (tgt := 42) dX9_judge_38 (by decide) ?_
          refine zx_istore dX9_judge_42 rfl (Nat.le_of_ble_eq_true rfl) ?_
          refine zx_aload_n dX9_judge_44 rfl ?_
          refine zy_geti dX9_judge_45 fX9_46 (hF.1) ?_
          refine zy_if_eq (tgt := 57) dX9_judge_48 (by decide) (by omega) (fun h_48 => ?_) (fun h_48 => ?_)
          · exact absurd h_48 (by decide)
          · refine zx_iload dX9_judge_51 rfl ?_
            refine zy_if_ne (tgt := 57) dX9_judge_53 (by decide) (by omega) (fun h_53 => ?_) (fun h_53 => ?_)
            · refine zx_aload_n dX9_judge_57 rfl ?_
              refine zx_iconst (v := zn_I 1) dX9_judge_58 rfl ?_
              refine zx_putz dX9_judge_59 fX9_46 rfl rfl ?_
              refine zx_aload_n dX9_judge_62 rfl ?_
              refine zx_iload dX9_judge_63 rfl ?_
              refine zx_puti dX9_judge_65 fX9_36 ?_
              refine zx_aload_n dX9_judge_68 rfl ?_
              refine zx_iload_n dX9_judge_69 rfl ?_
              refine zx_puti dX9_judge_70 fX9_40 ?_
              refine zx_aload_n dX9_judge_73 rfl ?_
              refine zx_getr dX9_judge_74 fX9_18 ?_
              refine zx_iconst (v := zn_I 0) dX9_judge_77 rfl ?_
              refine zx_aload_n dX9_judge_78 rfl ?_
              refine zx_getr dX9_judge_79 fX9_21 ?_
              refine zx_iconst (v := zn_I 0) dX9_judge_82 rfl ?_
              refine zx_bipush (v := zn_I 6) dX9_judge_83 (by decide) ?_
              refine zx_copy dX9_judge_85 acX9_98 rfl rfl (by decide) (by decide) (by decide) (by decide) (by decide) (by decide) ?_
              refine zx_vret (st := []) dX9_judge_88 rfl ?_
              refine ⟨rfl, zf_sr (zf_s (zf_s (zf_s zf_rf (by decide)) (by decide)) (by decide)) (by decide), by simp [zw_s, zw_sr], by funext j; simp [zw_s, zw_sr], ?_⟩
              have eu : ze_upd ev (some (w, e, b)) a = some (zp_wc π E S, mv, a) := by
                unfold ze_upd
                rw [hev]
                dsimp only
                rw [if_pos (by omega)]
              rw [eu]
              refine ⟨by simp [zw_s, zw_sr], by simp [zw_s, zw_sr], by simp [zw_s, zw_sr], zp_wc_le _ _ _, hmv, fun i hi => ?_⟩
              show va_cpy _ _ _ _ _ i = _
              rw [zw_cpy6 _ _ (by omega)]
              have := htk i hi
              simp [zw_s, this]
            · refine zx_vret (st := []) dX9_judge_56 rfl ?_
              refine ⟨rfl, zf_rf, rfl, rfl, ?_⟩
              have eu : ze_upd ev (some (w, e, b)) a = some (w, e, b) := by
                unfold ze_upd
                rw [hev]
                dsimp only
                rw [if_neg (by omega)]
              rw [eu]
              exact ⟨hF.1, hF.2.1, hF.2.2.1, hF.2.2.2.1, hF.2.2.2.2.1, hF.2.2.2.2.2⟩
set_option maxRecDepth 100000 in
set_option maxHeartbeats 600000 in
theorem mX9_take {l : Launch} {d : Nat} {π : zP} {τ : zQ} {m : Nat} {pe sq : Nat → Nat} {E0 S0 : Int} (h0 : -20000 ≤ E0 ∧ E0 ≤ 20000) (h1 : -20000 ≤ S0 ∧ S0 ≤ 20000) : ∀ (k : Nat) (p : List Nat) (acc : zE) (M : zw_M), p.length + k = m → zHT M π τ m pe sq → (∀ i, i < p.length → M.1 22 i = zn_I (sq (p.getD i 0) : Nat)) → (∀ x ∈ p, x < m) → zAcc M m sq acc → zw_C l (d + 2 * k + 3) iX9_takeSquares [.ref 19, .int (zn_I (p.length : Int)), .int (zn_I (ze_mask p : Nat)), .int (zn_I (zx_e E0 (zg_e π τ pe sq) p p.length)), .int (zn_I (zx_e S0 (zg_s π τ pe sq) p p.length)), .int (zn_I (zx_m sq p p.length : Nat))] M (fun v M1 => v = none ∧ zw_fr [19, 22, 23] M M1 ∧ M1.1 19 7 = M.1 19 7 ∧ (∀ i, i < p.length → M1.1 22 i = M.1 22 i) ∧ zAcc M1 m sq (ze_fold (ze_ev π τ m pe sq E0 S0) acc (ze_ext m k p))) := by
  intro k
  induction k with
  | zero =>
    intro p acc M hpk hH htk hpm hA
    have h6 := hH.2.2.2.1
    refine zw_of (by decide +kernel) (Nat.le_of_ble_eq_true rfl) ?_
    refine zy_loc (L1 := [.ref 19, .int (zn_I (p.length : Int)), .int (zn_I (ze_mask p : Nat)), .int (zn_I (zx_e E0 (zg_e π τ pe sq) p p.length)), .int (zn_I (zx_e S0 (zg_s π τ pe sq) p p.length)), .int (zn_I (zx_m sq p p.length : Nat)), .retAddr 0]) rfl ?_
    refine zx_iload_n dX9_takeSquares_0 rfl ?_
    refine zx_aload_n dX9_takeSquares_1 rfl ?_
    refine zy_geti dX9_takeSquares_2 fX9_43 (hH.2.2.1) ?_
    refine zy_icmp_ge (tgt := 14) dX9_takeSquares_5 (by decide) (by omega) (fun h_5 => ?_) (fun h_5 => ?_)
    · have hpd : ∀ j, j < m → p.getD j 0 < m := fun j hj => hpm _ (by rw [List.getD_eq_getElem?_getD, List.getElem?_eq_getElem (by omega)]; exact List.getElem_mem _)
      have r1 := zx_e_rng (p := p) h0 (fun i x hi hx => (zg_rng hH hi hx).1) m (Nat.le_refl m) hpd
      have r2 := zx_e_rng (p := p) h1 (fun i x hi hx => (zg_rng hH hi hx).2) m (Nat.le_refl m) hpd
      have r3 := zx_m_le sq p m
      have hpl : p.length = m := by omega
      rw [hpl]
      refine zx_aload_n dX9_takeSquares_14 rfl ?_
      refine zx_iload_n dX9_takeSquares_15 rfl ?_
      refine zx_iload dX9_takeSquares_16 rfl ?_
      refine zx_iload dX9_takeSquares_18 rfl ?_
      refine zx_callV (y1 := iX9_judge) dX9_takeSquares_20 lX9_87 vX9_judge rc_19 (mX9_judge (ev := (ze_ev π τ m pe sq E0 S0)) (a := p) (acc := acc) hH hA (by omega) (by omega) (by omega) (by rw [ze_ev]) (fun i hi => htk i (by omega))) rfl rfl (Nat.le_of_ble_eq_true rfl) ?_
      intro v M1 he
      obtain ⟨rfl, hf, h7, h22, hA1⟩ := he
      refine zx_vret (st := []) dX9_takeSquares_23 rfl ?_
      exact ⟨rfl, hf, h7, fun i _ => by rw [h22], hA1⟩
    · exact absurd h_5 (by omega)
  | succ k ih =>
    intro p acc M hpk hH htk hpm hA
    have h6 := hH.2.2.2.1
    have hof : ∀ s : Nat, s < m → s ∉ p → ∀ (acc1 : zE) (M1 : zw_M), zHT M1 π τ m pe sq → (∀ i, i < p.length → M1.1 22 i = zn_I (sq (p.getD i 0) : Nat)) → zAcc M1 m sq acc1 → zw_C l (d + 2 * k + 2 + 2) iX9_takeSquareOf [.ref 19, .int (zn_I (s : Int)), .int (zn_I (p.length : Int)), .int (zn_I (ze_mask p : Nat)), .int (zn_I (zx_e E0 (zg_e π τ pe sq) p p.length)), .int (zn_I (zx_e S0 (zg_s π τ pe sq) p p.length)), .int (zn_I (zx_m sq p p.length : Nat))] M1 (fun v M2 => v = none ∧ zw_fr [19, 22, 23] M1 M2 ∧ M2.1 19 7 = M1.1 19 7 ∧ (∀ i, i < p.length → M2.1 22 i = M1.1 22 i) ∧ zAcc M2 m sq (ze_fold (ze_ev π τ m pe sq E0 S0) acc1 (ze_ext m k (p ++ [s])))) := by
      intro s hs hsp acc1 M1 hH1 htl hA1
      refine zw_of (by decide +kernel) (Nat.le_of_ble_eq_true rfl) ?_
      refine zy_loc (L1 := [.ref 19, .int (zn_I (s : Int)), .int (zn_I (p.length : Int)), .int (zn_I (ze_mask p : Nat)), .int (zn_I (zx_e E0 (zg_e π τ pe sq) p p.length)), .int (zn_I (zx_e S0 (zg_s π τ pe sq) p p.length)), .int (zn_I (zx_m sq p p.length : Nat)), .retAddr 0, .retAddr 0]) rfl ?_
      refine zx_aload_n dX9_takeSquareOf_0 rfl ?_
      refine zx_getr dX9_takeSquareOf_1 fX9_15 ?_
      refine zx_iload_n dX9_takeSquareOf_4 rfl ?_
      refine zy_iald dX9_takeSquareOf_5 rfl (by decide) rfl (by omega) ((hH1.2.2.2.2 s (by omega)).2.1) ?_
      refine zx_istore dX9_takeSquareOf_6 rfl (Nat.le_of_ble_eq_true rfl) ?_
      refine zx_aload_n dX9_takeSquareOf_8 rfl ?_
      refine zx_getr dX9_takeSquareOf_9 fX9_28 ?_
      refine zx_aload_n dX9_takeSquareOf_12 rfl ?_
      refine zx_getr dX9_takeSquareOf_13 fX9_9 ?_
      refine zx_iload_n dX9_takeSquareOf_16 rfl ?_
      refine zy_iald dX9_takeSquareOf_17 rfl (by decide) rfl (by omega) ((hH1.2.2.2.2 p.length (by omega)).1) ?_
      refine zx_callV (y1 := iX8_weighs) dX9_takeSquareOf_18 lX9_72 vX8_weighs rc_8 (mX8_weighs_in hH1.2.1 (t := pe p.length) (hH1.2.2.2.2 p.length (by omega)).2.2.1) rfl rfl (Nat.le_of_ble_eq_true rfl) ?_
      refine zk_i ?_
      refine zx_istore dX9_takeSquareOf_21 rfl (Nat.le_of_ble_eq_true rfl) ?_
      refine zx_aload_n dX9_takeSquareOf_23 rfl ?_
      refine zx_getr dX9_takeSquareOf_24 fX9_18 ?_
      refine zx_iload_n dX9_takeSquareOf_27 rfl ?_
      refine zx_iload dX9_takeSquareOf_28 rfl ?_
      refine zy_iast dX9_takeSquareOf_30 rfl (by decide) rfl (by omega) ?_
      have hH2 : zHT (zw_s M1 22 p.length (zn_I (sq s : Nat))) π τ m pe sq := zHT_f (zf_s zf_rf (by decide)) (by simp [zw_s]) hH1
      refine zx_aload_n dX9_takeSquareOf_31 rfl ?_
      refine zx_iload_n dX9_takeSquareOf_32 rfl ?_
      refine zx_iconst (v := zn_I 1) dX9_takeSquareOf_33 rfl ?_
      refine zy_iadd dX9_takeSquareOf_34 ?_
      refine zx_iload_n dX9_takeSquareOf_35 rfl ?_
      refine zx_iconst (v := zn_I 1) dX9_takeSquareOf_36 rfl ?_
      refine zx_iload_n dX9_takeSquareOf_37 rfl ?_
      refine zx_ishl dX9_takeSquareOf_38 ?_
      refine zy_top (show _ = zn_I ((2 ^ s : Nat) : Int) from by rw [zb_one s (by omega), zn_nat]) ?_
      refine zx_ior dX9_takeSquareOf_39 ?_
      refine zy_top (zb_or2 _ _) ?_
      refine zx_iload dX9_takeSquareOf_40 rfl ?_
      refine zx_iload dX9_takeSquareOf_42 rfl ?_
      refine zx_aload_n dX9_takeSquareOf_44 rfl ?_
      refine zx_getr dX9_takeSquareOf_45 fX9_24 ?_
      refine zx_iload dX9_takeSquareOf_48 rfl ?_
      refine zx_callV (y1 := iX1_east) dX9_takeSquareOf_50 lX9_75 vX1_east rc_4 (mX1_east_in hH2.1 (s := sq s) (hH1.2.2.2.2 s (by omega)).2.2.2) rfl rfl (Nat.le_of_ble_eq_true rfl) ?_
      refine zk_i ?_
      refine zy_imul dX9_takeSquareOf_53 ?_
      refine zy_iadd dX9_takeSquareOf_54 ?_
      refine zx_iload dX9_takeSquareOf_55 rfl ?_
      refine zx_iload dX9_takeSquareOf_57 rfl ?_
      refine zx_aload_n dX9_takeSquareOf_59 rfl ?_
      refine zx_getr dX9_takeSquareOf_60 fX9_24 ?_
      refine zx_iload dX9_takeSquareOf_63 rfl ?_
      refine zx_callV (y1 := iX1_south) dX9_takeSquareOf_65 lX9_80 vX1_south rc_4 (mX1_south_in hH2.1 (s := sq s) (hH1.2.2.2.2 s (by omega)).2.2.2) rfl rfl (Nat.le_of_ble_eq_true rfl) ?_
      refine zk_i ?_
      refine zy_imul dX9_takeSquareOf_68 ?_
      refine zy_iadd dX9_takeSquareOf_69 ?_
      refine zx_iload dX9_takeSquareOf_70 rfl ?_
      refine zx_aload_n dX9_takeSquareOf_72 rfl ?_
      refine zx_getr dX9_takeSquareOf_73 fX9_15 ?_
      refine zx_iload_n dX9_takeSquareOf_76 rfl ?_
      refine zy_iald dX9_takeSquareOf_77 rfl (by decide) rfl (by omega) ((by simp only [zw_s]; exact (hH1.2.2.2.2 p.length (by omega)).2.1)) ?_
      refine zy_icmp_ne (tgt := 86) dX9_takeSquareOf_78 (by decide) (by have h30 := zp_30 hH.1.1; have q1 := (hH1.2.2.2.2 s (by omega)).2.2.2; have q2 := (hH1.2.2.2.2 p.length (by omega)).2.2.2; omega) (fun h_78 => ?_) (fun h_78 => ?_)
      · refine zx_iload dX9_takeSquareOf_86 rfl ?_
        refine zx_iconst (v := zn_I 1) dX9_takeSquareOf_88 rfl ?_
        refine zy_iadd dX9_takeSquareOf_89 ?_
        have hlen : (p ++ [s]).length = p.length + 1 := by simp
        have hgl : (p ++ [s]).getD p.length 0 = s := ze_getD_last
        have hrec := ih (p ++ [s]) acc1 (zw_s M1 22 p.length (zn_I (sq s : Nat))) (by rw [hlen]; omega) hH2 (fun i hi => by
            rw [hlen] at hi
            by_cases e : i = p.length
            · subst e; rw [hgl]; simp [zw_s]
            · rw [ze_getD (by omega)]
              have := htl i (by omega)
              simp [zw_s, e, this]) (fun x hx => by
            rcases List.mem_append.mp hx with q | q
            · exact hpm x q
            · rw [List.mem_singleton.mp q]; omega) (by
            revert hA1
            cases acc1 with
            | none => exact fun q => by simpa [zAcc, zw_s] using q
            | some z => obtain ⟨w, e, b⟩ := z; exact fun q => by simpa [zAcc, zw_s] using q)
        rw [hlen, ze_mask_snoc, zx_e, zx_e, zx_m, zx_e_snoc _ (Nat.le_refl _), zx_e_snoc _ (Nat.le_refl _), zx_m_snoc _ (Nat.le_refl _), hgl, if_neg (by omega)] at hrec
        refine zx_callV (y1 := iX9_takeSquares) dX9_takeSquareOf_90 lX9_83 vX9_takeSquares rc_19 (hrec) rfl rfl (Nat.le_of_ble_eq_true rfl) ?_
        intro v M2 he
        obtain ⟨rfl, hf2, h72, htk2, hA2⟩ := he
        refine zx_vret (st := []) dX9_takeSquareOf_93 rfl ?_
        refine ⟨rfl, zf_tr (zf_s zf_rf (by decide)) hf2, by rw [h72]; simp [zw_s], fun i hi => ?_, hA2⟩
        rw [htk2 i (by omega)]
        have hne : i ≠ p.length := by omega
        simp [zw_s, hne]
      · refine zx_iload dX9_takeSquareOf_81 rfl ?_
        refine zx_goto (tgt := 90) dX9_takeSquareOf_83 (by decide) ?_
        have hlen : (p ++ [s]).length = p.length + 1 := by simp
        have hgl : (p ++ [s]).getD p.length 0 = s := ze_getD_last
        have hrec := ih (p ++ [s]) acc1 (zw_s M1 22 p.length (zn_I (sq s : Nat))) (by rw [hlen]; omega) hH2 (fun i hi => by
            rw [hlen] at hi
            by_cases e : i = p.length
            · subst e; rw [hgl]; simp [zw_s]
            · rw [ze_getD (by omega)]
              have := htl i (by omega)
              simp [zw_s, e, this]) (fun x hx => by
            rcases List.mem_append.mp hx with q | q
            · exact hpm x q
            · rw [List.mem_singleton.mp q]; omega) (by
            revert hA1
            cases acc1 with
            | none => exact fun q => by simpa [zAcc, zw_s] using q
            | some z => obtain ⟨w, e, b⟩ := z; exact fun q => by simpa [zAcc, zw_s] using q)
        rw [hlen, ze_mask_snoc, zx_e, zx_e, zx_m, zx_e_snoc _ (Nat.le_refl _), zx_e_snoc _ (Nat.le_refl _), zx_m_snoc _ (Nat.le_refl _), hgl, if_pos (by omega), Nat.add_zero] at hrec
        refine zx_callV (y1 := iX9_takeSquares) dX9_takeSquareOf_90 lX9_83 vX9_takeSquares rc_19 (hrec) rfl rfl (Nat.le_of_ble_eq_true rfl) ?_
        intro v M2 he
        obtain ⟨rfl, hf2, h72, htk2, hA2⟩ := he
        refine zx_vret (st := []) dX9_takeSquareOf_93 rfl ?_
        refine ⟨rfl, zf_tr (zf_s zf_rf (by decide)) hf2, by rw [h72]; simp [zw_s], fun i hi => ?_, hA2⟩
        rw [htk2 i (by omega)]
        have hne : i ≠ p.length := by omega
        simp [zw_s, hne]
    show zw_C l (d + 2 * k + 2 + 3) _ _ _ _
    refine zw_of (by decide +kernel) (Nat.le_of_ble_eq_true rfl) ?_
    refine zy_loc (L1 := [.ref 19, .int (zn_I (p.length : Int)), .int (zn_I (ze_mask p : Nat)), .int (zn_I (zx_e E0 (zg_e π τ pe sq) p p.length)), .int (zn_I (zx_e S0 (zg_s π τ pe sq) p p.length)), .int (zn_I (zx_m sq p p.length : Nat)), .retAddr 0]) rfl ?_
    have loop : ∀ s : Nat, s ≤ m → ∀ M1 : zw_M, zw_fr [19, 22, 23] M M1 → M1.1 19 7 = M.1 19 7 → (∀ i, i < p.length → M1.1 22 i = M.1 22 i) → zAcc M1 m sq (ze_fold (ze_ev π τ m pe sq E0 S0) acc (ze_part m k p s)) → zw_X l (d + 2 * k + 2 + 3) iX9_takeSquares (fun v M1 => v = none ∧ zw_fr [19, 22, 23] M M1 ∧ M1.1 19 7 = M.1 19 7 ∧ (∀ i, i < p.length → M1.1 22 i = M.1 22 i) ∧ zAcc M1 m sq (ze_fold (ze_ev π τ m pe sq E0 S0) acc (ze_ext m (k + 1) p))) 27 [.ref 19, .int (zn_I (p.length : Int)), .int (zn_I (ze_mask p : Nat)), .int (zn_I (zx_e E0 (zg_e π τ pe sq) p p.length)), .int (zn_I (zx_e S0 (zg_s π τ pe sq) p p.length)), .int (zn_I (zx_m sq p p.length : Nat)), .int (zn_I (s : Int))] [] M1 := by
      refine zw_loop m (P := fun s => ∀ M1 : zw_M, zw_fr [19, 22, 23] M M1 → M1.1 19 7 = M.1 19 7 → (∀ i, i < p.length → M1.1 22 i = M.1 22 i) → zAcc M1 m sq (ze_fold (ze_ev π τ m pe sq E0 S0) acc (ze_part m k p s)) → zw_X l (d + 2 * k + 2 + 3) iX9_takeSquares (fun v M1 => v = none ∧ zw_fr [19, 22, 23] M M1 ∧ M1.1 19 7 = M.1 19 7 ∧ (∀ i, i < p.length → M1.1 22 i = M.1 22 i) ∧ zAcc M1 m sq (ze_fold (ze_ev π τ m pe sq E0 S0) acc (ze_ext m (k + 1) p))) 27 [.ref 19, .int (zn_I (p.length : Int)), .int (zn_I (ze_mask p : Nat)), .int (zn_I (zx_e E0 (zg_e π τ pe sq) p p.length)), .int (zn_I (zx_e S0 (zg_s π τ pe sq) p p.length)), .int (zn_I (zx_m sq p p.length : Nat)), .int (zn_I (s : Int))] [] M1) (fun s hs ihs M1 hf h7 htl hA1 => ?_)
      have hH1 := zHT_f hf h7 hH
      refine zx_iload dX9_takeSquares_27 rfl ?_
      refine zx_aload_n dX9_takeSquares_29 rfl ?_
      refine zy_geti dX9_takeSquares_30 fX9_43 (hH1.2.2.1) ?_
      refine zy_icmp_ge (tgt := 64) dX9_takeSquares_33 (by decide) (by omega) (fun h_33 => ?_) (fun h_33 => ?_)
      · refine zx_vret (st := []) dX9_takeSquares_64 rfl ?_
        have es : m = s := by omega
        subst es
        exact ⟨rfl, hf, h7, htl, hA1⟩
      · refine zx_iload_n dX9_takeSquares_36 rfl ?_
        refine zx_iconst (v := zn_I 1) dX9_takeSquares_37 rfl ?_
        refine zx_iload dX9_takeSquares_38 rfl ?_
        refine zx_ishl dX9_takeSquares_40 ?_
        refine zy_top (show _ = zn_I ((2 ^ s : Nat) : Int) from by rw [zb_one s (by omega), zn_nat]) ?_
        refine zx_iand dX9_takeSquares_41 ?_
        refine zy_top (zb_and _ _) ?_
        have hml : ze_mask p &&& 2 ^ s ≤ 2 ^ s := Nat.and_le_right
        have h26 : 2 ^ s ≤ 2 ^ 6 := Nat.pow_le_pow_right (by decide) (by omega)
        refine zy_if_ne (tgt := 58) dX9_takeSquares_42 (by decide) (by omega) (fun h_42 => ?_) (fun h_42 => ?_)
        · refine zy_iinc dX9_takeSquares_58 rfl rfl ?_
          refine zx_goto (tgt := 27) dX9_takeSquares_61 (by decide) ?_
          have e : ze_part m k p (s + 1) = ze_part m k p s := by
            rw [ze_part_succ, if_pos (Classical.byContradiction fun q => h_42 (by have := (ze_mask_and p s).mpr q; omega)), List.append_nil]
          exact ihs (by omega) _ hf h7 htl (by rw [e]; exact hA1)
        · have hsp : s ∉ p := (ze_mask_and p s).mp (by omega)
          refine zx_aload_n dX9_takeSquares_45 rfl ?_
          refine zx_iload dX9_takeSquares_46 rfl ?_
          refine zx_iload_n dX9_takeSquares_48 rfl ?_
          refine zx_iload_n dX9_takeSquares_49 rfl ?_
          refine zx_iload_n dX9_takeSquares_50 rfl ?_
          refine zx_iload dX9_takeSquares_51 rfl ?_
          refine zx_iload dX9_takeSquares_53 rfl ?_
          refine zx_callV (y1 := iX9_takeSquareOf) dX9_takeSquares_55 lX9_91 vX9_takeSquareOf rc_19 (hof s (by omega) hsp (ze_fold (ze_ev π τ m pe sq E0 S0) acc (ze_part m k p s)) M1 hH1 (fun i hi => (htl i hi).trans (htk i hi)) hA1) rfl rfl (Nat.le_of_ble_eq_true rfl) ?_
          intro v M2 he
          obtain ⟨rfl, hf2, h72, htk2, hA2⟩ := he
          refine zy_iinc dX9_takeSquares_58 rfl rfl ?_
          refine zx_goto (tgt := 27) dX9_takeSquares_61 (by decide) ?_
          have e : ze_part m k p (s + 1) = ze_part m k p s ++ ze_ext m k (p ++ [s]) := by rw [ze_part_succ, if_neg hsp]
          refine ihs (by omega) _ (zf_tr hf hf2) (h72.trans h7) (fun i hi => (htk2 i hi).trans (htl i hi)) ?_
          rw [e, ze_fold_app]
          exact hA2
    refine zx_iload_n dX9_takeSquares_0 rfl ?_
    refine zx_aload_n dX9_takeSquares_1 rfl ?_
    refine zy_geti dX9_takeSquares_2 fX9_43 (hH.2.2.1) ?_
    refine zy_icmp_ge (tgt := 14) dX9_takeSquares_5 (by decide) (by omega) (fun h_5 => ?_) (fun h_5 => ?_)
    · exact absurd h_5 (by omega)
    · refine zx_iload_n dX9_takeSquares_8 rfl ?_
      refine zx_bipush (v := zn_I 6) dX9_takeSquares_9 (by decide) ?_
      refine zy_icmp_lt (tgt := 24) dX9_takeSquares_11 (by decide) (by omega) (fun h_11 => ?_) (fun h_11 => ?_)
      · refine zx_iconst (v := zn_I 0) dX9_takeSquares_24 rfl ?_
        refine zx_istore dX9_takeSquares_25 rfl (Nat.le_of_ble_eq_true rfl) ?_
        exact loop 0 (by omega) M zf_rf rfl (fun i _ => rfl) hA
      · exact absurd h_11 (by omega)
