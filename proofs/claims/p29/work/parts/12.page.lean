/-! bytes of a long -/
theorem wb_tb (n : Nat) : (lN n).toBitVec = BitVec.ofNat 64 n := rfl
theorem wb_inj {a b : Int64} (h : a.toBitVec = b.toBitVec) : a = b := Int64.toBitVec_inj.mp h
theorem wb_tn {n : Nat} (h : n < 2 ^ 64) : (lN n).toBitVec.toNat = n := by rw [wb_tb, BitVec.toNat_ofNat, Nat.mod_eq_of_lt h]
theorem wb_of (x : Int64) : ∃ n, n < 2 ^ 64 ∧ x = lN n := ⟨x.toBitVec.toNat, x.toBitVec.isLt, wb_inj (by rw [wb_tb]; simp)⟩
theorem wb_c : ∀ k, k < 64 → ((nI k).toInt64 &&& 63) = lN k := by decide +kernel
theorem wb_cu : ∀ k, k < 64 → ((nI k).toInt64.toUInt64 &&& Int64.toUInt64 63) = UInt64.ofNat k := by decide +kernel
theorem wb_shr {n k : Nat} (hn : n < 2 ^ 64) (hk : k < 64) : ((lN n).toUInt64 >>> ((nI k).toInt64.toUInt64 &&& Int64.toUInt64 63)).toInt64 = lN (n / 2 ^ k) := by
  rw [wb_cu k hk]
  apply wb_inj
  apply BitVec.eq_of_toNat_eq
  show ((lN n).toUInt64 >>> UInt64.ofNat k).toNat = (BitVec.ofNat 64 _).toNat
  have h1 : (UInt64.ofNat k).toNat = k := by
    show (BitVec.ofNat 64 k).toNat = k
    rw [BitVec.toNat_ofNat, Nat.mod_eq_of_lt (by omega)]
  have h2 : (lN n).toUInt64.toNat = n := wb_tn hn
  rw [UInt64.toNat_shiftRight, h1, h2, Nat.mod_eq_of_lt hk, Nat.shiftRight_eq_div_pow, BitVec.toNat_ofNat, Nat.mod_eq_of_lt (Nat.lt_of_le_of_lt (Nat.div_le_self _ _) hn)]
theorem wb_255 {n : Nat} (hn : n < 2 ^ 64) : lN n &&& 255 = lN (n % 256) := by
  apply wb_inj
  rw [Int64.toBitVec_and, wb_tb, wb_tb]
  apply BitVec.eq_of_toNat_eq
  rw [BitVec.toNat_and, BitVec.toNat_ofNat, BitVec.toNat_ofNat, Nat.mod_eq_of_lt hn, Nat.mod_eq_of_lt (show n % 256 < 2 ^ 64 by omega)]
  show n &&& (2 ^ 8 - 1) = _
  rw [Nat.and_two_pow_sub_one_eq_mod]
/-- the byte at a place of w -/
def zg_c (w i : Nat) : Nat := w / 256 ^ i % 256
theorem zg_c_lt (w i : Nat) : zg_c w i < 256 := Nat.mod_lt _ (by decide)
theorem zg_pow (i : Nat) : 2 ^ (8 * i) = 256 ^ i := by rw [Nat.pow_mul]
theorem zg_code {w i : Nat} (hw : w < 2 ^ 64) (hi : i < 8) : ((((lN w).toUInt64 >>> ((zn_I (8 * (i : Int))).toInt64.toUInt64 &&& Int64.toUInt64 63)).toInt64) &&& 255).toInt32 = zn_I (zg_c w i : Nat) := by
  rw [show (8 * (i : Int)) = ((8 * i : Nat) : Int) by omega, ← zn_nat, wb_shr hw (by omega), wb_255 (Nat.lt_of_le_of_lt (Nat.div_le_self _ _) hw), lN_i, zn_nat, zg_pow]
  rfl
/-! how many letters a long tells: none where they may not come so -/
def zg_told (w : Nat) : Nat → Option Nat
  | 0 => some 0
  | i + 1 => match zg_told w i with
    | none => none
    | some t => if 126 < zg_c w i ∨ (zg_c w i ≠ 0 ∧ t < i) then none else some (if zg_c w i ≠ 0 then t + 1 else t)
theorem zg_told_none {w : Nat} : ∀ {i j : Nat}, i ≤ j → zg_told w i = none → zg_told w j = none
  | i, 0, h, e => by
    have : i = 0 := by omega
    subst this
    exact e
  | i, j + 1, h, e => by
    rcases Nat.lt_or_ge i (j + 1) with q | q
    · rw [zg_told, zg_told_none (show i ≤ j by omega) e]
    · have : i = j + 1 := by omega
      subst this
      exact e
theorem zg_told_some {w : Nat} : ∀ {i t : Nat}, zg_told w i = some t → t ≤ i ∧ ∀ j, j < t → 1 ≤ zg_c w j ∧ zg_c w j ≤ 126
  | 0, t, h => by
    cases h
    exact ⟨Nat.le_refl 0, fun j hj => absurd hj (Nat.not_lt_zero j)⟩
  | i + 1, t, h => by
    rw [zg_told] at h
    cases e : zg_told w i with
    | none => rw [e] at h; cases h
    | some u =>
      rw [e] at h
      dsimp only at h
      have ih := zg_told_some e
      split at h
      · cases h
      · next hn =>
        have h2 := Option.some.inj h
        by_cases hc : zg_c w i = 0
        · rw [if_neg (fun q => q hc)] at h2
          subst h2
          exact ⟨by omega, ih.2⟩
        · rw [if_pos hc] at h2
          have hu : u = i := by omega
          subst hu
          subst h2
          refine ⟨Nat.le_refl _, fun j hj => ?_⟩
          by_cases hji : j = u
          · subst hji; omega
          · exact ih.2 j (by omega)
def zg_res (w : Nat) : Int := match zg_told w 8 with
  | none => -102
  | some t => (t : Int)
theorem zg_char {c : Nat} (hc : c < 65536) : vp_nar .char ((zn_I (c : Int)).toUInt32 % 65536).toInt32 = zn_I (c : Int) := by
  rw [pk_vc, pk_char, ← zn_nat, pk_tn (by omega), Nat.mod_eq_of_lt hc]
/-! THE PAGE: how many letters, their codes -/
abbrev zR : Type := Nat × (Nat → Nat)
def zG (M : zw_M) (ρ : zR) : Prop := ρ.1 ≤ 40 ∧ M.1 1 1 = zn_I ρ.1 ∧ (∀ i, i < ρ.1 → M.1 2 i = zn_I (ρ.2 i : Nat)) ∧ (∀ i, i < ρ.1 → 1 ≤ ρ.2 i ∧ ρ.2 i ≤ 126)
theorem zG_f {S : List Nat} {M M1 : zw_M} {ρ : zR} (h : zw_fr S M M1) (hG : zG M ρ) (hS : ∀ p ∈ [1, 2], p ∉ S) : zG M1 ρ := by
  have h4 := (h 1 (hS 1 (by decide))).1
  have h5 := (h 2 (hS 2 (by decide))).1
  unfold zG at hG ⊢
  rw [h4, h5]
  exact hG
/-- the letter at a place, 0 where there is none -/
def zg_at (ρ : zR) (z : Int) : Nat := if 0 ≤ z ∧ z < ρ.1 then ρ.2 z.toNat else 0
theorem zg_at_in {ρ : zR} {i : Nat} (h : i < ρ.1) : zg_at ρ (i : Int) = ρ.2 i := by rw [zg_at, if_pos ⟨by omega, by omega⟩, Int.toNat_natCast]
theorem zg_at_lt {M : zw_M} {ρ : zR} (hG : zG M ρ) (z : Int) : zg_at ρ z ≤ 126 := by
  unfold zg_at
  split
  · exact (hG.2.2.2 _ (by omega)).2
  · omega
/-- which way a letter tells: 1 up, 2 right, 3 down, 4 left, 0 none -/
def zg_way (c : Nat) : Int := if c = 110 then 1 else if c = 101 then 2 else if c = 115 then 3 else if c = 119 then 4 else 0
/-- how many letters of a way there are from the first on, seven at most -/
def zg_wf (ρ : zR) : Nat → Nat
  | 0 => 0
  | i + 1 => if zg_wf ρ i < i then zg_wf ρ i else if i < 7 ∧ zg_way (ρ.2 i) ≠ 0 then i + 1 else i
theorem zg_wf_le (ρ : zR) : ∀ i, zg_wf ρ i ≤ i
  | 0 => Nat.le_refl 0
  | i + 1 => by
    have := zg_wf_le ρ i
    rw [zg_wf]
    split
    · omega
    · split <;> omega
theorem zg_wf_stop {ρ : zR} {i : Nat} (h : zg_wf ρ i = i) (h2 : ¬ (i < 7 ∧ zg_way (ρ.2 i) ≠ 0)) : ∀ j, i < j → zg_wf ρ j = i
  | 0, q => absurd q (Nat.not_lt_zero _)
  | j + 1, q => by
    rw [zg_wf]
    rcases Nat.lt_or_ge i j with r | r
    · rw [zg_wf_stop h h2 j r, if_pos r]
    · have : j = i := by omega
      subst this
      rw [h, if_neg (Nat.lt_irrefl _), if_neg h2]
set_option maxRecDepth 100000 in
set_option maxHeartbeats 600000 in
theorem mX3_length {l : zw_Lh} {d : Nat} {M : zw_M} {ρ : zR} (hG : zG M ρ) : zw_C l d iX3_length [.ref 1] M (zw_i (zn_I ρ.1) M) := by
  obtain ⟨h40, hlen, hch, hcr⟩ := id hG
  refine zw_of (by decide +kernel) (Nat.le_of_ble_eq_true rfl) ?_
  refine zy_loc (L1 := [.ref 1]) rfl ?_
  refine zx_aload_n dX3_length_0 rfl ?_
  refine zy_geti dX3_length_1 fX3_15 (hlen) ?_
  refine zx_iret (st := []) dX3_length_4 rfl rfl ?_
  exact ⟨rfl, rfl⟩
set_option maxRecDepth 100000 in
set_option maxHeartbeats 600000 in
theorem mX3_letter {l : zw_Lh} {d : Nat} {M : zw_M} {ρ : zR} (hG : zG M ρ) {z : Int} (hz : -2147483648 ≤ z ∧ z < 2147483648) : zw_C l d iX3_letter [.ref 1, .int (zn_I z)] M (zw_i (zn_I (zg_at ρ z : Nat)) M) := by
  obtain ⟨h40, hlen, hch, hcr⟩ := id hG
  refine zw_of (by decide +kernel) (Nat.le_of_ble_eq_true rfl) ?_
  refine zy_loc (L1 := [.ref 1, .int (zn_I z)]) rfl ?_
  refine zx_iload_n dX3_letter_0 rfl ?_
  refine zy_if_lt (tgt := 21) dX3_letter_1 (by decide) (by omega) (fun h_1 => ?_) (fun h_1 => ?_)
  · refine zx_iconst (v := zn_I 0) dX3_letter_21 rfl ?_
    refine zx_iret (st := []) dX3_letter_22 rfl rfl ?_
    first | exact zk_I (by unfold zg_at; rw [if_pos (by omega)]) | exact zk_I (by unfold zg_at; rw [if_neg (by omega)]; rfl)
  · refine zx_iload_n dX3_letter_4 rfl ?_
    refine zx_aload_n dX3_letter_5 rfl ?_
    refine zy_geti dX3_letter_6 fX3_15 (hlen) ?_
    refine zy_icmp_ge (tgt := 21) dX3_letter_9 (by decide) (by omega) (fun h_9 => ?_) (fun h_9 => ?_)
    · refine zx_iconst (v := zn_I 0) dX3_letter_21 rfl ?_
      refine zx_iret (st := []) dX3_letter_22 rfl rfl ?_
      first | exact zk_I (by unfold zg_at; rw [if_pos (by omega)]) | exact zk_I (by unfold zg_at; rw [if_neg (by omega)]; rfl)
    · refine zx_aload_n dX3_letter_12 rfl ?_
      refine zx_getr dX3_letter_13 fX3_9 ?_
      refine zx_iload_n dX3_letter_16 rfl ?_
      refine zy_cald (i := z.toNat) dX3_letter_17 rfl (by decide) (by omega) (by omega) ((hch z.toNat (by omega))) ?_
      refine zx_goto (tgt := 22) dX3_letter_18 (by decide) ?_
      refine zx_iret (st := []) dX3_letter_22 rfl rfl ?_
      first | exact zk_I (by unfold zg_at; rw [if_pos (by omega)]) | exact zk_I (by unfold zg_at; rw [if_neg (by omega)]; rfl)
set_option maxRecDepth 100000 in
set_option maxHeartbeats 600000 in
theorem mX3_clear {l : zw_Lh} {d : Nat} {M : zw_M}  : zw_C l d iX3_clear [.ref 1] M (zw_u (zw_s M 1 1 (zn_I 0))) := by
  refine zw_of (by decide +kernel) (Nat.le_of_ble_eq_true rfl) ?_
  refine zy_loc (L1 := [.ref 1]) rfl ?_
  refine zx_aload_n dX3_clear_0 rfl ?_
  refine zx_iconst (v := zn_I 0) dX3_clear_1 rfl ?_
  refine zx_puti dX3_clear_2 fX3_15 ?_
  refine zx_vret (st := []) dX3_clear_5 rfl ?_
  exact ⟨rfl, rfl⟩
set_option maxRecDepth 100000 in
set_option maxHeartbeats 600000 in
theorem mX3_codeAt {l : zw_Lh} {d : Nat} {M : zw_M} {w i : Nat} (hw : w < 2 ^ 64) (hi : i < 8) : zw_C l d iX3_codeAt [.long (lN w), .int (zn_I (i : Int))] M (zw_i (zn_I (zg_c w i : Nat)) M) := by
  refine zw_of (by decide +kernel) (Nat.le_of_ble_eq_true rfl) ?_
  refine zy_loc (L1 := [.long (lN w), .retAddr 0, .int (zn_I (i : Int))]) rfl ?_
  refine zx_lload_n dX3_codeAt_0 rfl ?_
  refine zx_bipush (v := zn_I 8) dX3_codeAt_1 (by decide) ?_
  refine zx_iload_n dX3_codeAt_3 rfl ?_
  refine zy_imul dX3_codeAt_4 ?_
  refine zx_lushr dX3_codeAt_5 ?_
  refine zx_ldc2 dX3_codeAt_6 kX3_27 ?_
  refine zx_land dX3_codeAt_9 ?_
  refine zx_l2i dX3_codeAt_10 ?_
  refine zy_top (zg_code hw hi) ?_
  refine zx_iret (st := []) dX3_codeAt_11 rfl rfl ?_
  exact ⟨rfl, rfl⟩
set_option maxRecDepth 100000 in
set_option maxHeartbeats 600000 in
theorem mX3_lettersTold {l : zw_Lh} {d : Nat} {M : zw_M} {w : Nat} (hw : w < 2 ^ 64) : zw_C l (d + 1) iX3_lettersTold [.long (lN w)] M (zw_i (zn_I (zg_res w)) M) := by
  refine zw_of (by decide +kernel) (Nat.le_of_ble_eq_true rfl) ?_
  refine zy_loc (L1 := [.long (lN w), .retAddr 0, .retAddr 0, .retAddr 0, .retAddr 0, .retAddr 0]) rfl ?_
  have loop : ∀ s : Nat, s ≤ 8 → ∀ (t : Nat) (v4 v5 : Value), zg_told w s = some t → zw_X l (d + 1) iX3_lettersTold (zw_i (zn_I (zg_res w)) M) 4 [.long (lN w), .retAddr 0, .int (zn_I (t : Int)), .int (zn_I (s : Int)), v4, v5] [] M := by
    refine zw_loop 8 (P := fun s => ∀ (t : Nat) (v4 v5 : Value), zg_told w s = some t → zw_X l (d + 1) iX3_lettersTold (zw_i (zn_I (zg_res w)) M) 4 [.long (lN w), .retAddr 0, .int (zn_I (t : Int)), .int (zn_I (s : Int)), v4, v5] [] M) (fun s hs ih t v4 v5 ht => ?_)
    have htl := (zg_told_some ht).1
    refine zx_iload_n dX3_lettersTold_4 rfl ?_
    refine zx_bipush (v := zn_I 8) dX3_lettersTold_5 (by decide) ?_
    refine zy_icmp_ge (tgt := 63) dX3_lettersTold_7 (by decide) (by omega) (fun h_7 => ?_) (fun h_7 => ?_)
    · refine zx_iload_n dX3_lettersTold_63 rfl ?_
      refine zx_iret (st := []) dX3_lettersTold_64 rfl rfl ?_
      exact zk_I (by rw [show s = 8 by omega] at ht; rw [zg_res, ht])
    · refine zx_lload_n dX3_lettersTold_10 rfl ?_
      refine zx_iload_n dX3_lettersTold_11 rfl ?_
      refine zx_callS (y1 := iX3_codeAt) dX3_lettersTold_12 lX3_23 sX3_codeAt (mX3_codeAt hw (i := s) (by omega)) rfl rfl (Nat.le_of_ble_eq_true rfl) ?_
      refine zk_i ?_
      have hc := zg_c_lt w s
      refine zx_istore dX3_lettersTold_15 rfl (Nat.le_of_ble_eq_true rfl) ?_
      refine zx_iload dX3_lettersTold_17 rfl ?_
      refine zy_if_eq (tgt := 31) dX3_lettersTold_19 (by decide) (by omega) (fun h_19 => ?_) (fun h_19 => ?_)
      · refine zx_iconst (v := zn_I 0) dX3_lettersTold_31 rfl ?_
        refine zx_istore dX3_lettersTold_32 rfl (Nat.le_of_ble_eq_true rfl) ?_
        refine zx_iload dX3_lettersTold_34 rfl ?_
        refine zx_bipush (v := zn_I 126) dX3_lettersTold_36 (by decide) ?_
        refine zy_icmp_gt (tgt := 46) dX3_lettersTold_38 (by decide) (by omega) (fun h_38 => ?_) (fun h_38 => ?_)
        · refine zx_bipush (v := zn_I (-102)) dX3_lettersTold_46 (by decide) ?_
          refine zx_iret (st := []) dX3_lettersTold_48 rfl rfl ?_
          have hstep : zg_told w (s + 1) = (if 126 < zg_c w s ∨ (zg_c w s ≠ 0 ∧ t < s) then none else some (if zg_c w s ≠ 0 then t + 1 else t)) := by rw [zg_told, ht]
          rw [if_pos (by omega)] at hstep
          exact zk_I (by rw [zg_res, zg_told_none (show s + 1 ≤ 8 by omega) hstep])
        · refine zx_iload dX3_lettersTold_41 rfl ?_
          refine zy_if_eq (tgt := 49) dX3_lettersTold_43 (by decide) (by omega) (fun h_43 => ?_) (fun h_43 => ?_)
          · refine zx_iload dX3_lettersTold_49 rfl ?_
            refine zy_if_eq (tgt := 57) dX3_lettersTold_51 (by decide) (by omega) (fun h_51 => ?_) (fun h_51 => ?_)
            · refine zy_iinc dX3_lettersTold_57 rfl rfl ?_
              refine zx_goto (tgt := 4) dX3_lettersTold_60 (by decide) ?_
              have hstep : zg_told w (s + 1) = (if 126 < zg_c w s ∨ (zg_c w s ≠ 0 ∧ t < s) then none else some (if zg_c w s ≠ 0 then t + 1 else t)) := by rw [zg_told, ht]
              rw [if_neg (by omega)] at hstep
              first
                | (rw [if_pos (by omega)] at hstep; exact ih (by omega) (t + 1) _ _ hstep)
                | (rw [if_neg (by omega)] at hstep; exact ih (by omega) t _ _ hstep)
            · refine zy_iinc dX3_lettersTold_54 rfl rfl ?_
              refine zy_iinc dX3_lettersTold_57 rfl rfl ?_
              refine zx_goto (tgt := 4) dX3_lettersTold_60 (by decide) ?_
              have hstep : zg_told w (s + 1) = (if 126 < zg_c w s ∨ (zg_c w s ≠ 0 ∧ t < s) then none else some (if zg_c w s ≠ 0 then t + 1 else t)) := by rw [zg_told, ht]
              rw [if_neg (by omega)] at hstep
              first
                | (rw [if_pos (by omega)] at hstep; exact ih (by omega) (t + 1) _ _ hstep)
                | (rw [if_neg (by omega)] at hstep; exact ih (by omega) t _ _ hstep)
          · refine zx_bipush (v := zn_I (-102)) dX3_lettersTold_46 (by decide) ?_
            refine zx_iret (st := []) dX3_lettersTold_48 rfl rfl ?_
            have hstep : zg_told w (s + 1) = (if 126 < zg_c w s ∨ (zg_c w s ≠ 0 ∧ t < s) then none else some (if zg_c w s ≠ 0 then t + 1 else t)) := by rw [zg_told, ht]
            rw [if_pos (by omega)] at hstep
            exact zk_I (by rw [zg_res, zg_told_none (show s + 1 ≤ 8 by omega) hstep])
      · refine zx_iload_n dX3_lettersTold_22 rfl ?_
        refine zx_iload_n dX3_lettersTold_23 rfl ?_
        refine zy_icmp_ge (tgt := 31) dX3_lettersTold_24 (by decide) (by omega) (fun h_24 => ?_) (fun h_24 => ?_)
        · refine zx_iconst (v := zn_I 0) dX3_lettersTold_31 rfl ?_
          refine zx_istore dX3_lettersTold_32 rfl (Nat.le_of_ble_eq_true rfl) ?_
          refine zx_iload dX3_lettersTold_34 rfl ?_
          refine zx_bipush (v := zn_I 126) dX3_lettersTold_36 (by decide) ?_
          refine zy_icmp_gt (tgt := 46) dX3_lettersTold_38 (by decide) (by omega) (fun h_38 => ?_) (fun h_38 => ?_)
          · refine zx_bipush (v := zn_I (-102)) dX3_lettersTold_46 (by decide) ?_
            refine zx_iret (st := []) dX3_lettersTold_48 rfl rfl ?_
            have hstep : zg_told w (s + 1) = (if 126 < zg_c w s ∨ (zg_c w s ≠ 0 ∧ t < s) then none else some (if zg_c w s ≠ 0 then t + 1 else t)) := by rw [zg_told, ht]
            rw [if_pos (by omega)] at hstep
            exact zk_I (by rw [zg_res, zg_told_none (show s + 1 ≤ 8 by omega) hstep])
          · refine zx_iload dX3_lettersTold_41 rfl ?_
            refine zy_if_eq (tgt := 49) dX3_lettersTold_43 (by decide) (by omega) (fun h_43 => ?_) (fun h_43 => ?_)
            · refine zx_iload dX3_lettersTold_49 rfl ?_
              refine zy_if_eq (tgt := 57) dX3_lettersTold_51 (by decide) (by omega) (fun h_51 => ?_) (fun h_51 => ?_)
              · refine zy_iinc dX3_lettersTold_57 rfl rfl ?_
                refine zx_goto (tgt := 4) dX3_lettersTold_60 (by decide) ?_
                have hstep : zg_told w (s + 1) = (if 126 < zg_c w s ∨ (zg_c w s ≠ 0 ∧ t < s) then none else some (if zg_c w s ≠ 0 then t + 1 else t)) := by rw [zg_told, ht]
                rw [if_neg (by omega)] at hstep
                first
                  | (rw [if_pos (by omega)] at hstep; exact ih (by omega) (t + 1) _ _ hstep)
                  | (rw [if_neg (by omega)] at hstep; exact ih (by omega) t _ _ hstep)
              · refine zy_iinc dX3_lettersTold_54 rfl rfl ?_
                refine zy_iinc dX3_lettersTold_57 rfl rfl ?_
                refine zx_goto (tgt := 4) dX3_lettersTold_60 (by decide) ?_
                have hstep : zg_told w (s + 1) = (if 126 < zg_c w s ∨ (zg_c w s ≠ 0 ∧ t < s) then none else some (if zg_c w s ≠ 0 then t + 1 else t)) := by rw [zg_told, ht]
                rw [if_neg (by omega)] at hstep
                first
                  | (rw [if_pos (by omega)] at hstep; exact ih (by omega) (t + 1) _ _ hstep)
                  | (rw [if_neg (by omega)] at hstep; exact ih (by omega) t _ _ hstep)
            · refine zx_bipush (v := zn_I (-102)) dX3_lettersTold_46 (by decide) ?_
              refine zx_iret (st := []) dX3_lettersTold_48 rfl rfl ?_
              have hstep : zg_told w (s + 1) = (if 126 < zg_c w s ∨ (zg_c w s ≠ 0 ∧ t < s) then none else some (if zg_c w s ≠ 0 then t + 1 else t)) := by rw [zg_told, ht]
              rw [if_pos (by omega)] at hstep
              exact zk_I (by rw [zg_res, zg_told_none (show s + 1 ≤ 8 by omega) hstep])
        · refine zx_iconst (v := zn_I 1) dX3_lettersTold_27 rfl ?_
          refine zx_goto (tgt := 32) dX3_lettersTold_28 (by decide) ?_
          refine zx_istore dX3_lettersTold_32 rfl (Nat.le_of_ble_eq_true rfl) ?_
          refine zx_iload dX3_lettersTold_34 rfl ?_
          refine zx_bipush (v := zn_I 126) dX3_lettersTold_36 (by decide) ?_
          refine zy_icmp_gt (tgt := 46) dX3_lettersTold_38 (by decide) (by omega) (fun h_38 => ?_) (fun h_38 => ?_)
          · refine zx_bipush (v := zn_I (-102)) dX3_lettersTold_46 (by decide) ?_
            refine zx_iret (st := []) dX3_lettersTold_48 rfl rfl ?_
            have hstep : zg_told w (s + 1) = (if 126 < zg_c w s ∨ (zg_c w s ≠ 0 ∧ t < s) then none else some (if zg_c w s ≠ 0 then t + 1 else t)) := by rw [zg_told, ht]
            rw [if_pos (by omega)] at hstep
            exact zk_I (by rw [zg_res, zg_told_none (show s + 1 ≤ 8 by omega) hstep])
          · refine zx_iload dX3_lettersTold_41 rfl ?_
            refine zy_if_eq (tgt := 49) dX3_lettersTold_43 (by decide) (by omega) (fun h_43 => ?_) (fun h_43 => ?_)
            · refine zx_iload dX3_lettersTold_49 rfl ?_
              refine zy_if_eq (tgt := 57) dX3_lettersTold_51 (by decide) (by omega) (fun h_51 => ?_) (fun h_51 => ?_)
              · refine zy_iinc dX3_lettersTold_57 rfl rfl ?_
                refine zx_goto (tgt := 4) dX3_lettersTold_60 (by decide) ?_
                have hstep : zg_told w (s + 1) = (if 126 < zg_c w s ∨ (zg_c w s ≠ 0 ∧ t < s) then none else some (if zg_c w s ≠ 0 then t + 1 else t)) := by rw [zg_told, ht]
                rw [if_neg (by omega)] at hstep
                first
                  | (rw [if_pos (by omega)] at hstep; exact ih (by omega) (t + 1) _ _ hstep)
                  | (rw [if_neg (by omega)] at hstep; exact ih (by omega) t _ _ hstep)
              · refine zy_iinc dX3_lettersTold_54 rfl rfl ?_
                refine zy_iinc dX3_lettersTold_57 rfl rfl ?_
                refine zx_goto (tgt := 4) dX3_lettersTold_60 (by decide) ?_
                have hstep : zg_told w (s + 1) = (if 126 < zg_c w s ∨ (zg_c w s ≠ 0 ∧ t < s) then none else some (if zg_c w s ≠ 0 then t + 1 else t)) := by rw [zg_told, ht]
                rw [if_neg (by omega)] at hstep
                first
                  | (rw [if_pos (by omega)] at hstep; exact ih (by omega) (t + 1) _ _ hstep)
                  | (rw [if_neg (by omega)] at hstep; exact ih (by omega) t _ _ hstep)
            · refine zx_bipush (v := zn_I (-102)) dX3_lettersTold_46 (by decide) ?_
              refine zx_iret (st := []) dX3_lettersTold_48 rfl rfl ?_
              have hstep : zg_told w (s + 1) = (if 126 < zg_c w s ∨ (zg_c w s ≠ 0 ∧ t < s) then none else some (if zg_c w s ≠ 0 then t + 1 else t)) := by rw [zg_told, ht]
              rw [if_pos (by omega)] at hstep
              exact zk_I (by rw [zg_res, zg_told_none (show s + 1 ≤ 8 by omega) hstep])
  refine zx_iconst (v := zn_I 0) dX3_lettersTold_0 rfl ?_
  refine zx_istore_n dX3_lettersTold_1 rfl (Nat.le_of_ble_eq_true rfl) ?_
  refine zx_iconst (v := zn_I 0) dX3_lettersTold_2 rfl ?_
  refine zx_istore_n dX3_lettersTold_3 rfl (Nat.le_of_ble_eq_true rfl) ?_
  exact loop 0 (by omega) 0 _ _ rfl
def zg_put (ρ : zR) (w t : Nat) : zR := (ρ.1 + t, fun i => if i < ρ.1 then ρ.2 i else zg_c w (i - ρ.1))
/-- what letters(w) answers, and the page behind it -/
def zg_addA (ρ : zR) (w : Nat) : Int := match zg_told w 8 with
  | none => -102
  | some t => if 40 < ρ.1 + t then -104 else ((ρ.1 + t : Nat) : Int)
def zg_addR (ρ : zR) (w : Nat) : zR := match zg_told w 8 with
  | none => ρ
  | some t => if 40 < ρ.1 + t then ρ else zg_put ρ w t
set_option maxRecDepth 100000 in
set_option maxHeartbeats 600000 in
theorem mX3_add {l : zw_Lh} {d : Nat} {M : zw_M} {ρ : zR} (hG : zG M ρ) {w : Nat} (hw : w < 2 ^ 64) : zw_C l (d + 2) iX3_add [.ref 1, .long (lN w)] M (fun v M1 => v = some (.int (zn_I (zg_addA ρ w))) ∧ zw_fr [1, 2] M M1 ∧ zG M1 (zg_addR ρ w)) := by
  obtain ⟨h40, hlen, hch, hcr⟩ := id hG
  have hrr : -102 ≤ zg_res w ∧ zg_res w ≤ 8 := by
    unfold zg_res
    cases e : zg_told w 8 with
    | none => exact ⟨by decide, by decide⟩
    | some t => have := (zg_told_some e).1; dsimp only; omega
  refine zw_of (by decide +kernel) (Nat.le_of_ble_eq_true rfl) ?_
  refine zy_loc (L1 := [.ref 1, .long (lN w), .retAddr 0, .retAddr 0, .retAddr 0]) rfl ?_
  refine zx_lload_n dX3_add_0 rfl ?_
  refine zx_callS (y1 := iX3_lettersTold) dX3_add_1 lX3_19 sX3_lettersTold (mX3_lettersTold hw) rfl rfl (Nat.le_of_ble_eq_true rfl) ?_
  refine zk_i ?_
  refine zx_istore_n dX3_add_4 rfl (Nat.le_of_ble_eq_true rfl) ?_
  refine zx_iload_n dX3_add_5 rfl ?_
  refine zx_bipush (v := zn_I (-102)) dX3_add_6 (by decide) ?_
  refine zy_icmp_ne (tgt := 14) dX3_add_8 (by decide) (by omega) (fun h_8 => ?_) (fun h_8 => ?_)
  · obtain ⟨t, ht⟩ : ∃ t, zg_told w 8 = some t := by
      cases e : zg_told w 8 with
      | none => exact absurd (by rw [zg_res, e]) h_8
      | some t => exact ⟨t, rfl⟩
    obtain ⟨ht8, htc⟩ := zg_told_some ht
    refine zy_loc (L1 := [.ref 1, .long (lN w), .retAddr 0, .int (zn_I (t : Int)), .retAddr 0]) (by rw [zg_res, ht]; rfl) ?_
    refine zx_aload_n dX3_add_14 rfl ?_
    refine zy_geti dX3_add_15 fX3_15 (hlen) ?_
    refine zx_iload_n dX3_add_18 rfl ?_
    refine zy_iadd dX3_add_19 ?_
    refine zx_bipush (v := zn_I 40) dX3_add_20 (by decide) ?_
    refine zy_icmp_le (tgt := 28) dX3_add_22 (by decide) (by omega) (fun h_22 => ?_) (fun h_22 => ?_)
    · have loop : ∀ s : Nat, s ≤ t → ∀ M1 : zw_M, zw_fr [2] M M1 → (∀ i, i < ρ.1 + s → M1.1 2 i = zn_I ((zg_put ρ w t).2 i : Nat)) → zw_X l (d + 2) iX3_add (fun v M1 => v = some (.int (zn_I (zg_addA ρ w))) ∧ zw_fr [1, 2] M M1 ∧ zG M1 (zg_addR ρ w)) 31 [.ref 1, .long (lN w), .retAddr 0, .int (zn_I (t : Int)), .int (zn_I (s : Int))] [] M1 := by
        refine zw_loop t (P := fun s => ∀ M1 : zw_M, zw_fr [2] M M1 → (∀ i, i < ρ.1 + s → M1.1 2 i = zn_I ((zg_put ρ w t).2 i : Nat)) → zw_X l (d + 2) iX3_add (fun v M1 => v = some (.int (zn_I (zg_addA ρ w))) ∧ zw_fr [1, 2] M M1 ∧ zG M1 (zg_addR ρ w)) 31 [.ref 1, .long (lN w), .retAddr 0, .int (zn_I (t : Int)), .int (zn_I (s : Int))] [] M1) (fun s hs ih M1 hf hq => ?_)
        have hlen1 : M1.1 1 1 = zn_I ρ.1 := by rw [(hf 1 (by decide)).1]; exact hlen
        refine zx_iload dX3_add_31 rfl ?_
        refine zx_iload_n dX3_add_33 rfl ?_
        refine zy_icmp_ge (tgt := 62) dX3_add_34 (by decide) (by omega) (fun h_34 => ?_) (fun h_34 => ?_)
        · refine zx_aload_n dX3_add_62 rfl ?_
          refine zx_dup dX3_add_63 rfl ?_
          refine zy_geti dX3_add_64 fX3_15 (hlen1) ?_
          refine zx_iload_n dX3_add_67 rfl ?_
          refine zy_iadd dX3_add_68 ?_
          refine zx_puti dX3_add_69 fX3_15 ?_
          refine zx_aload_n dX3_add_72 rfl ?_
          refine zy_geti dX3_add_73 fX3_15 ((show _ = zn_I ((ρ.1 : Int) + (t : Int)) from by simp [zw_s])) ?_
          refine zx_iret (st := []) dX3_add_76 rfl rfl ?_
          have es : s = t := by omega
          subst es
          refine ⟨?_, zf_s (zf_mono hf (by decide)) (by decide), ?_⟩
          · rw [zg_addA, ht]
            dsimp only
            rw [if_neg (by omega)]
            rfl
          · rw [zg_addR, ht]
            dsimp only
            rw [if_neg (by omega)]
            refine ⟨by show ρ.1 + s ≤ 40; omega, by simp [zw_s, zg_put], fun i hi => ?_, fun i hi => ?_⟩
            · have := hq i hi
              simpa [zw_s] using this
            · have hi2 : i < ρ.1 + s := hi
              show 1 ≤ (if i < ρ.1 then ρ.2 i else zg_c w (i - ρ.1)) ∧ (if i < ρ.1 then ρ.2 i else zg_c w (i - ρ.1)) ≤ 126
              by_cases e : i < ρ.1
              · rw [if_pos e]; exact hcr i e
              · rw [if_neg e]; exact htc _ (by omega)
        · refine zx_aload_n dX3_add_37 rfl ?_
          refine zx_getr dX3_add_38 fX3_9 ?_
          refine zx_aload_n dX3_add_41 rfl ?_
          refine zy_geti dX3_add_42 fX3_15 (hlen1) ?_
          refine zx_iload dX3_add_45 rfl ?_
          refine zy_iadd dX3_add_47 ?_
          refine zx_lload_n dX3_add_48 rfl ?_
          refine zx_iload dX3_add_49 rfl ?_
          refine zx_callS (y1 := iX3_codeAt) dX3_add_51 lX3_23 sX3_codeAt (mX3_codeAt hw (i := s) (by omega)) rfl rfl (Nat.le_of_ble_eq_true rfl) ?_
          refine zk_i ?_
          refine zx_i2c dX3_add_54 ?_
          refine zy_cast (i := ρ.1 + s) dX3_add_55 rfl (by decide) (by omega) (by omega) ?_
          rw [zg_char (by have := zg_c_lt w s; omega)]
          refine zy_iinc dX3_add_56 rfl rfl ?_
          refine zx_goto (tgt := 31) dX3_add_59 (by decide) ?_
          refine ih (by omega) _ (zf_s hf (by decide)) (fun i hi => ?_)
          by_cases e : i = ρ.1 + s
          · subst e; simp [zw_s, zg_put, show ¬ (ρ.1 + s < ρ.1) by omega]
          · have := hq i (by omega)
            simp [zw_s, e, this]
      refine zx_iconst (v := zn_I 0) dX3_add_28 rfl ?_
      refine zx_istore dX3_add_29 rfl (Nat.le_of_ble_eq_true rfl) ?_
      exact loop 0 (by omega) M zf_rf (fun i hi => by
        have hi2 : i < ρ.1 := by omega
        show _ = zn_I ((if i < ρ.1 then ρ.2 i else zg_c w (i - ρ.1) : Nat) : Int)
        rw [if_pos hi2]
        exact hch i hi2)
    · refine zx_bipush (v := zn_I (-104)) dX3_add_25 (by decide) ?_
      refine zx_iret (st := []) dX3_add_27 rfl rfl ?_
      refine ⟨?_, zf_rf, ?_⟩
      · rw [zg_addA, ht]; dsimp only; rw [if_pos (by omega)]
      · rw [zg_addR, ht]; dsimp only; rw [if_pos (by omega)]; exact hG
  · refine zx_bipush (v := zn_I (-102)) dX3_add_11 (by decide) ?_
    refine zx_iret (st := []) dX3_add_13 rfl rfl ?_
    refine ⟨?_, zf_rf, ?_⟩
    · rw [zg_addA]
      cases e : zg_told w 8 with
      | none => rfl
      | some t => rw [zg_res, e] at h_8; have : (t : Int) = -102 := h_8; omega
    · rw [zg_addR]
      cases e : zg_told w 8 with
      | none => exact hG
      | some t => rw [zg_res, e] at h_8; have : (t : Int) = -102 := h_8; omega
set_option maxRecDepth 100000 in
set_option maxHeartbeats 600000 in
theorem mX3_wayAt {l : zw_Lh} {d : Nat} {M : zw_M} {ρ : zR} (hG : zG M ρ) {z : Int} (hz : -2147483648 ≤ z ∧ z < 2147483648) : zw_C l (d + 1) iX3_wayAt [.ref 1, .int (zn_I z)] M (zw_i (zn_I (zg_way (zg_at ρ z))) M) := by
  obtain ⟨h40, hlen, hch, hcr⟩ := id hG
  have hal := zg_at_lt hG z
  refine zw_of (by decide +kernel) (Nat.le_of_ble_eq_true rfl) ?_
  refine zy_loc (L1 := [.ref 1, .int (zn_I z)]) rfl ?_
  refine zx_aload_n dX3_wayAt_0 rfl ?_
  refine zx_iload_n dX3_wayAt_1 rfl ?_
  refine zx_callV (y1 := iX3_letter) dX3_wayAt_2 lX3_37 vX3_letter rc_1 (mX3_letter hG hz) rfl rfl (Nat.le_of_ble_eq_true rfl) ?_
  refine zk_i ?_
  rcases (show zg_at ρ z = 101 ∨ zg_at ρ z = 110 ∨ zg_at ρ z = 115 ∨ zg_at ρ z = 119 ∨ (zg_at ρ z ≠ 101 ∧ zg_at ρ z ≠ 110 ∧ zg_at ρ z ≠ 115 ∧ zg_at ρ z ≠ 119) by omega) with h_5 | h_5 | h_5 | h_5 | h_5
  · refine zx_lookup (off := 45) (tgt := 50) dX3_wayAt_5 (by decide) (by rw [zn_toInt ⟨by omega, by omega⟩]; show Op.lookupswitch.offset [(101, 45), (110, 43), (115, 47), (119, 49)] (51) _ = _; simp only [Op.lookupswitch.offset_cons, Op.lookupswitch.offset_nil]; (repeat' split) <;> omega) (by decide) ?_
    refine zx_iconst (v := zn_I 2) dX3_wayAt_50 rfl ?_
    refine zx_iret (st := []) dX3_wayAt_51 rfl rfl ?_
    exact zk_I (by unfold zg_way; (repeat' split) <;> omega)
  · refine zx_lookup (off := 43) (tgt := 48) dX3_wayAt_5 (by decide) (by rw [zn_toInt ⟨by omega, by omega⟩]; show Op.lookupswitch.offset [(101, 45), (110, 43), (115, 47), (119, 49)] (51) _ = _; simp only [Op.lookupswitch.offset_cons, Op.lookupswitch.offset_nil]; (repeat' split) <;> omega) (by decide) ?_
    refine zx_iconst (v := zn_I 1) dX3_wayAt_48 rfl ?_
    refine zx_iret (st := []) dX3_wayAt_49 rfl rfl ?_
    exact zk_I (by unfold zg_way; (repeat' split) <;> omega)
  · refine zx_lookup (off := 47) (tgt := 52) dX3_wayAt_5 (by decide) (by rw [zn_toInt ⟨by omega, by omega⟩]; show Op.lookupswitch.offset [(101, 45), (110, 43), (115, 47), (119, 49)] (51) _ = _; simp only [Op.lookupswitch.offset_cons, Op.lookupswitch.offset_nil]; (repeat' split) <;> omega) (by decide) ?_
    refine zx_iconst (v := zn_I 3) dX3_wayAt_52 rfl ?_
    refine zx_iret (st := []) dX3_wayAt_53 rfl rfl ?_
    exact zk_I (by unfold zg_way; (repeat' split) <;> omega)
  · refine zx_lookup (off := 49) (tgt := 54) dX3_wayAt_5 (by decide) (by rw [zn_toInt ⟨by omega, by omega⟩]; show Op.lookupswitch.offset [(101, 45), (110, 43), (115, 47), (119, 49)] (51) _ = _; simp only [Op.lookupswitch.offset_cons, Op.lookupswitch.offset_nil]; (repeat' split) <;> omega) (by decide) ?_
    refine zx_iconst (v := zn_I 4) dX3_wayAt_54 rfl ?_
    refine zx_iret (st := []) dX3_wayAt_55 rfl rfl ?_
    exact zk_I (by unfold zg_way; (repeat' split) <;> omega)
  · refine zx_lookup (off := 51) (tgt := 56) dX3_wayAt_5 (by decide) (by rw [zn_toInt ⟨by omega, by omega⟩]; show Op.lookupswitch.offset [(101, 45), (110, 43), (115, 47), (119, 49)] (51) _ = _; simp only [Op.lookupswitch.offset_cons, Op.lookupswitch.offset_nil]; (repeat' split) <;> omega) (by decide) ?_
    refine zx_iconst (v := zn_I 0) dX3_wayAt_56 rfl ?_
    refine zx_iret (st := []) dX3_wayAt_57 rfl rfl ?_
    exact zk_I (by unfold zg_way; (repeat' split) <;> omega)
theorem zg_way_rng (c : Nat) : 0 ≤ zg_way c ∧ zg_way c ≤ 4 := by
  unfold zg_way
  (repeat' split) <;> omega
set_option maxRecDepth 100000 in
set_option maxHeartbeats 600000 in
theorem mX3_wayFault {l : zw_Lh} {d : Nat} {M : zw_M} {ρ : zR} (hG : zG M ρ) : zw_C l (d + 2) iX3_wayFault [.ref 1] M (zw_i (zn_I (zg_wf ρ ρ.1 : Nat)) M) := by
  obtain ⟨h40, hlen, hch, hcr⟩ := id hG
  refine zw_of (by decide +kernel) (Nat.le_of_ble_eq_true rfl) ?_
  refine zy_loc (L1 := [.ref 1, .retAddr 0]) rfl ?_
  have loop : ∀ s : Nat, s ≤ ρ.1 → zg_wf ρ s = s → zw_X l (d + 2) iX3_wayFault (zw_i (zn_I (zg_wf ρ ρ.1 : Nat)) M) 2 [.ref 1, .int (zn_I (s : Int))] [] M := by
    refine zw_loop ρ.1 (P := fun s => zg_wf ρ s = s → zw_X l (d + 2) iX3_wayFault (zw_i (zn_I (zg_wf ρ ρ.1 : Nat)) M) 2 [.ref 1, .int (zn_I (s : Int))] [] M) (fun s hs ih hw => ?_)
    refine zx_iload_n dX3_wayFault_2 rfl ?_
    refine zx_aload_n dX3_wayFault_3 rfl ?_
    refine zy_geti dX3_wayFault_4 fX3_15 (hlen) ?_
    refine zy_icmp_ge (tgt := 32) dX3_wayFault_7 (by decide) (by omega) (fun h_7 => ?_) (fun h_7 => ?_)
    · refine zx_aload_n dX3_wayFault_32 rfl ?_
      refine zy_geti dX3_wayFault_33 fX3_15 (hlen) ?_
      refine zx_iret (st := []) dX3_wayFault_36 rfl rfl ?_
      exact zk_I (by rw [show ρ.1 = s by omega, hw])
    · refine zx_iload_n dX3_wayFault_10 rfl ?_
      refine zx_bipush (v := zn_I 7) dX3_wayFault_11 (by decide) ?_
      refine zy_icmp_ge (tgt := 24) dX3_wayFault_13 (by decide) (by omega) (fun h_13 => ?_) (fun h_13 => ?_)
      · refine zx_iload_n dX3_wayFault_24 rfl ?_
        refine zx_iret (st := []) dX3_wayFault_25 rfl rfl ?_
        exact zk_I (by rw [zg_wf_stop hw (by omega) ρ.1 (by omega)])
      · refine zx_aload_n dX3_wayFault_16 rfl ?_
        refine zx_iload_n dX3_wayFault_17 rfl ?_
        refine zx_callV (y1 := iX3_wayAt) dX3_wayFault_18 lX3_33 vX3_wayAt rc_1 (mX3_wayAt hG (z := (s : Int)) (by omega)) rfl rfl (Nat.le_of_ble_eq_true rfl) ?_
        refine zk_i ?_
        rw [zg_at_in (show s < ρ.1 by omega)]
        have hwr := zg_way_rng (ρ.2 s)
        refine zy_if_ne (tgt := 26) dX3_wayFault_21 (by decide) (by omega) (fun h_21 => ?_) (fun h_21 => ?_)
        · refine zy_iinc dX3_wayFault_26 rfl rfl ?_
          refine zx_goto (tgt := 2) dX3_wayFault_29 (by decide) ?_
          exact ih (by omega) (by rw [zg_wf, if_neg (by omega), if_pos (by omega)])
        · refine zx_iload_n dX3_wayFault_24 rfl ?_
          refine zx_iret (st := []) dX3_wayFault_25 rfl rfl ?_
          exact zk_I (by rw [zg_wf_stop hw (by omega) ρ.1 (by omega)])
  refine zx_iconst (v := zn_I 0) dX3_wayFault_0 rfl ?_
  refine zx_istore_n dX3_wayFault_1 rfl (Nat.le_of_ble_eq_true rfl) ?_
  exact loop 0 (by omega) rfl

