/-! THE REFERENCE'S TEXTS -/
theorem mg_sm : ∀ k : Nat, k ≤ 56 → ((BitVec.ofNat 64 k).smod 64).toNat = k := by decide +kernel
theorem mg_sr {w k : Nat} (hk : k ≤ 56) (hw : w < 2 ^ 64) : ∃ y, y < 2 ^ 64 ∧ lN w >>> ((nI k).toInt64 &&& 63) = lN y ∧ y % 256 = w / 2 ^ k % 256 := by
  obtain ⟨y, hy, e⟩ := wb_of (lN w >>> ((nI k).toInt64 &&& 63))
  refine ⟨y, hy, e, ?_⟩
  have e2 := congrArg Int64.toBitVec e
  rw [wb_c k (by omega), Int64.toBitVec_shiftRight, wb_tb, wb_tb, wb_tb] at e2
  have e3 : (BitVec.ofNat 64 w).sshiftRight k = BitVec.ofNat 64 y := by
    rw [← e2, BitVec.sshiftRight', mg_sm k hk]
  apply Nat.eq_of_testBit_eq
  intro j
  rw [show 256 = 2 ^ 8 from rfl, Nat.testBit_mod_two_pow, Nat.testBit_mod_two_pow]
  by_cases hj : j < 8
  · have e4 := congrArg (fun b => BitVec.getLsbD b j) e3
    simp only [BitVec.getLsbD_sshiftRight, BitVec.getLsbD_ofNat] at e4
    rw [Nat.testBit_div_two_pow]
    have h1 : k + j < 64 := by omega
    have h2 : ¬ 64 ≤ j := by omega
    have h3 : j < 64 := by omega
    simp only [h1, h2, h3, decide_true, decide_false, Bool.not_false, Bool.true_and, if_true] at e4
    rw [← e4]
    simp [hj, Nat.add_comm]
  · simp [hj]
theorem mg_code {w i : Nat} (hw : w < 2 ^ 64) (hi : i < 8) : ((lN w >>> ((zn_I (8 * (i : Int))).toInt64 &&& 63)) &&& 255).toInt32 = zn_I (zg_c w i : Nat) := by
  obtain ⟨y, hy, e, h⟩ := mg_sr (w := w) (k := 8 * i) (by omega) hw
  rw [show (8 * (i : Int)) = ((8 * i : Nat) : Int) by omega, ← zn_nat, e, wb_255 hy, lN_i, zn_nat, h, zg_pow]
  rfl
theorem mg_b8 : ∀ c : Nat, c ≤ 126 → (Int8.ofNat c).toInt32 = zn_I (c : Int) := by decide +kernel
theorem mg_i8 (y : Nat) : (nI y).toInt8 = Int8.ofNat (y % 256) := by
  apply Int8.toBitVec_inj.1
  apply BitVec.eq_of_toNat_eq
  show ((nI y).toBitVec.signExtend 8).toNat = (BitVec.ofNat 8 (y % 256)).toNat
  rw [BitVec.signExtend_eq_setWidth_of_le _ (by decide), BitVec.toNat_setWidth, show (nI y).toBitVec = BitVec.ofNat 32 y from rfl, BitVec.toNat_ofNat, BitVec.toNat_ofNat]
  omega
theorem mg_byte {w i : Nat} (hw : w < 2 ^ 64) (hi : i < 8) (hc : zg_c w i ≤ 126) : vp_nar .byte ((lN w >>> ((zn_I (8 * (i : Int))).toInt64 &&& 63)).toInt32).toInt8.toInt32 = zn_I (zg_c w i : Nat) := by
  obtain ⟨y, hy, e, h⟩ := mg_sr (w := w) (k := 8 * i) (by omega) hw
  rw [show (8 * (i : Int)) = ((8 * i : Nat) : Int) by omega, ← zn_nat, e, lN_i, mg_i8, h, zg_pow]
  show vp_nar .byte (Int8.ofNat (zg_c w i)).toInt32 = _
  rw [vp_nar_byte, mg_b8 _ hc]
  exact (show ∀ c : Nat, c ≤ 126 → (zn_I (c : Int)).toInt8.toInt32 = zn_I (c : Int) by decide +kernel) _ hc
def mK (M : zw_M) (a : Nat) (κ : zK) : Prop := match κ with
  | none => ∃ w p : Nat, M.1 33 35 = zn_I (w : Int) ∧ w ≤ 1 ∧ M.1 33 36 = zn_I (p : Int) ∧ (w = 0 ∨ p < a)
  | some (K, P) => M.1 33 35 = zn_I 1 ∧ M.1 33 36 = zn_I (a : Int) ∧ M.1 33 37 = zn_I (K : Int) ∧ ∀ t, t < K → ∀ q, q < 8 → M.1 46 (8 * t + q) = zn_I (P t q : Nat)
/-- the reference's memory holds a state -/
def zJ_ (M : zw_M) (σ : zZ) : Prop := mI M σ.1 ∧ mT M (zp_n σ.1) σ.2.1 ∧ mG M σ.2.2.1 ∧ (M.1 33 3 = zn_I (σ.2.2.2.1.1 : Nat) ∧ M.1 33 9 = zn_I (σ.2.2.2.1.2.1 : Nat) ∧ M.1 33 10 = zn_I (σ.2.2.2.1.2.2 : Nat)) ∧ mM M 0 0 0 ∧ mK M σ.2.2.2.1.1 σ.2.2.2.2
def zml : List Nat := [34, 35, 36, 37, 38, 39, 40, 41, 42, 43, 44, 45, 46]
def zmf : List Nat := [0, 1, 2, 3, 5, 9, 10, 11, 13, 14, 15, 16, 17, 19, 20, 21, 26, 27, 30, 31, 32, 33, 34, 35, 36, 37, 39]
def mO (x : Int32) (σ : zZ) (M : zw_M) : Option Value → zw_M → Prop := fun v M1 => v = some (.int x) ∧ mfr zml zmf M M1 ∧ zJ_ M1 σ
theorem mO_i {σ : zZ} {M : zw_M} {x z : Int} (hJ : zJ_ M σ) (h : x = z) : mO (zn_I z) σ M (some (.int (zn_I x))) M := ⟨by rw [h], mf_rf, hJ⟩
theorem mO_f {σ : zZ} {M M1 : zw_M} {x z : Int} (hf : mfr zml zmf M M1) (hJ : zJ_ M1 σ) (h : x = z) : mO (zn_I z) σ M (some (.int (zn_I x))) M1 := ⟨by rw [h], hf, hJ⟩
theorem mK_f {S F : List Nat} {M M1 : zw_M} {a : Nat} {κ : zK} (h : mfr S F M M1) (hK : mK M a κ) (hS : 46 ∉ S ∧ 35 ∉ F ∧ 36 ∉ F ∧ 37 ∉ F) : mK M1 a κ := by
  unfold mK at hK ⊢
  have e1 := (h.1 46 hS.1 (by decide)).1
  have e2 := (h.2 35 hS.2.1).1
  have e3 := (h.2 36 hS.2.2.1).1
  have e4 := (h.2 37 hS.2.2.2).1
  split at hK
  · rw [e2, e3]; exact hK
  · rw [e1, e2, e3, e4]; exact hK
theorem zJ_f {S F : List Nat} {M M1 : zw_M} {σ : zZ} (h : mfr S F M M1) (hJ : zJ_ M σ) (hS : (34 ∉ S ∧ 0 ∉ F ∧ 1 ∉ F ∧ 2 ∉ F) ∧ (35 ∉ S ∧ 36 ∉ S ∧ 37 ∉ S ∧ 5 ∉ F) ∧ (38 ∉ S ∧ 11 ∉ F) ∧ (3 ∉ F ∧ 9 ∉ F ∧ 10 ∉ F) ∧ (19 ∉ F ∧ 20 ∉ F ∧ 21 ∉ F) ∧ (46 ∉ S ∧ 35 ∉ F ∧ 36 ∉ F ∧ 37 ∉ F)) : zJ_ M1 σ :=
  ⟨mI_f h hJ.1 hS.1, mT_f h hJ.2.1 hS.2.1, mG_f h hJ.2.2.1 hS.2.2.1, ⟨by rw [(h.2 3 hS.2.2.2.1.1).1]; exact hJ.2.2.2.1.1, by rw [(h.2 9 hS.2.2.2.1.2.1).1]; exact hJ.2.2.2.1.2.1, by rw [(h.2 10 hS.2.2.2.1.2.2).1]; exact hJ.2.2.2.1.2.2⟩, mM_f h hJ.2.2.2.2.1 hS.2.2.2.2.1, mK_f h hJ.2.2.2.2.2 hS.2.2.2.2.2⟩
theorem zJ_page {M M1 : zw_M} {σ : zZ} {ρ : zR} (h : mfr [38] [11] M M1) (hJ : zJ_ M σ) (hG : mG M1 ρ) : zJ_ M1 (σ.1, σ.2.1, ρ, σ.2.2.2) :=
  ⟨mI_f h hJ.1 (by decide), mT_f h hJ.2.1 (by decide), hG, ⟨by rw [(h.2 3 (by decide)).1]; exact hJ.2.2.2.1.1, by rw [(h.2 9 (by decide)).1]; exact hJ.2.2.2.1.2.1, by rw [(h.2 10 (by decide)).1]; exact hJ.2.2.2.1.2.2⟩, mM_f h hJ.2.2.2.2.1 (by decide), mK_f h hJ.2.2.2.2.2 (by decide)⟩
theorem mG_0 {M : zw_M} {f : Nat → Nat} (h : M.1 33 11 = zn_I 0) : mG M (0, f) := ⟨by show 0 ≤ 40; omega, h, fun i hi => absurd hi (Nat.not_lt_zero _), fun i hi => absurd hi (Nat.not_lt_zero _)⟩
theorem mg_told_next {w i t : Nat} (h : zg_told w i = some t) : zg_told w (i + 1) = if 126 < zg_c w i ∨ (zg_c w i ≠ 0 ∧ t < i) then none else some (if zg_c w i ≠ 0 then t + 1 else t) := by rw [zg_told, h]
set_option maxRecDepth 100000 in
set_option maxHeartbeats 600000 in
theorem mX11_letters {l : Launch} {d : Nat} {M : zw_M} {σ : zZ} (hJ : zJ_ M σ) {w : Nat} (hw : w < 2 ^ 64) : zw_C l d iX11_letters [.ref 33, .long (lN w)] M (mO (zn_I (zk_letters σ w)) (zk_lettersS σ w) M) := by
  obtain ⟨hI, hT, hG, ⟨ha, hb, hc⟩, hM, hK⟩ := id hJ
  have h40 := hG.1
  refine zw_of (by decide +kernel) (Nat.le_of_ble_eq_true rfl) ?_
  refine zy_loc (L1 := [.ref 33, .long (lN w), .retAddr 0, .retAddr 0, .retAddr 0, .retAddr 0, .retAddr 0]) rfl ?_
  have JB : ∀ (t : Nat) (v4 v5 : Int32) (v6 : Value), zg_told w 8 = some t → zw_X l d iX11_letters (mO (zn_I (zk_letters σ w)) (zk_lettersS σ w) M) 85 [.ref 33, .long (lN w), .retAddr 0, .int (zn_I (t : Int)), .int v4, .int v5, v6] [] M := by
    intro t v4 v5 v6 ht
    have hts := zg_told_some ht
    have hcs := hts.2
    have hB : σ.2.2.1.1 + t ≤ 40 → ∀ j : Nat, j ≤ t → ∀ (M1 : zw_M), mfr [38] [] M M1 → (∀ k, k < σ.2.2.1.1 → M1.1 38 k = M.1 38 k) → (∀ k, k < j → M1.1 38 (σ.2.2.1.1 + k) = zn_I (zg_c w k : Nat)) → zw_X l d iX11_letters (mO (zn_I (zk_letters σ w)) (zk_lettersS σ w) M) 102 [.ref 33, .long (lN w), .retAddr 0, .int (zn_I (t : Int)), .int v4, .int (zn_I (j : Int)), v6] [] M1 := by
      intro hle
      refine zw_loop t (P := fun j => ∀ (M1 : zw_M), mfr [38] [] M M1 → (∀ k, k < σ.2.2.1.1 → M1.1 38 k = M.1 38 k) → (∀ k, k < j → M1.1 38 (σ.2.2.1.1 + k) = zn_I (zg_c w k : Nat)) → zw_X l d iX11_letters (mO (zn_I (zk_letters σ w)) (zk_lettersS σ w) M) 102 [.ref 33, .long (lN w), .retAddr 0, .int (zn_I (t : Int)), .int v4, .int (zn_I (j : Int)), v6] [] M1) (fun j hj ih M1 hf hold hnew => ?_)
      refine zx_iload dX11_letters_102 rfl ?_
      refine zx_iload_n dX11_letters_104 rfl ?_
      refine zy_icmp_ge (tgt := 135) dX11_letters_105 (by decide) (by omega) (fun h_105 => ?_) (fun h_105 => ?_)
      · refine zx_aload_n dX11_letters_135 rfl ?_
        refine zx_dup dX11_letters_136 rfl ?_
        refine zy_geti dX11_letters_137 fX11_52 ((show _ = zn_I (σ.2.2.1.1 : Int) from by rw [(hf.2 11 (by decide)).1]; exact hG.2.1)) ?_
        refine zx_iload_n dX11_letters_140 rfl ?_
        refine zy_iadd dX11_letters_141 ?_
        refine zx_puti dX11_letters_142 fX11_52 ?_
        refine zx_aload_n dX11_letters_145 rfl ?_
        refine zy_geti dX11_letters_146 fX11_52 (show _ = zn_I ((σ.2.2.1.1 : Int) + j) from by rw [show j = t by omega]; simp only [zw_s, and_self, if_true]) ?_
        refine zx_iret (st := []) dX11_letters_149 rfl rfl ?_
        have et : t = j := by omega
        subst et
        have hmf : mfr [38] [11] M (zw_s M1 33 11 (zn_I ((σ.2.2.1.1 : Int) + t))) := mf_f (mf_mono hf (by decide)) (by decide)
        refine mO_f (mf_mono hmf (by decide)) ?_ (by rw [zk_letters, zg_addA, ht]; dsimp only; rw [if_neg (by omega)]; omega)
        rw [zk_lettersS, zg_addR, ht]
        dsimp only
        rw [if_neg (by omega)]
        refine zJ_page hmf hJ ⟨by show σ.2.2.1.1 + t ≤ 40; omega, by simp only [zw_s, and_self, if_true]; rfl, fun k hk => ?_, fun k hk => ?_⟩
        · have hk2 : k < σ.2.2.1.1 + t := hk
          show _ = zn_I ((if k < σ.2.2.1.1 then σ.2.2.1.2 k else zg_c w (k - σ.2.2.1.1) : Nat) : Int)
          simp only [zw_s]
          by_cases r : k < σ.2.2.1.1
          · rw [if_pos r, if_neg (by omega), hold k r]; exact hG.2.2.1 k r
          · rw [if_neg r, if_neg (by omega)]
            have := hnew (k - σ.2.2.1.1) (by omega)
            rw [show σ.2.2.1.1 + (k - σ.2.2.1.1) = k by omega] at this
            exact this
        · have hk2 : k < σ.2.2.1.1 + t := hk
          show 1 ≤ (if k < σ.2.2.1.1 then σ.2.2.1.2 k else zg_c w (k - σ.2.2.1.1)) ∧ (if k < σ.2.2.1.1 then σ.2.2.1.2 k else zg_c w (k - σ.2.2.1.1)) ≤ 126
          by_cases r : k < σ.2.2.1.1
          · rw [if_pos r]; exact hG.2.2.2 k r
          · rw [if_neg r]; exact hcs _ (by omega)
      · refine zx_aload_n dX11_letters_108 rfl ?_
        refine zx_getr dX11_letters_109 fX11_22 ?_
        refine zx_aload_n dX11_letters_112 rfl ?_
        refine zy_geti dX11_letters_113 fX11_52 ((show _ = zn_I (σ.2.2.1.1 : Int) from by rw [(hf.2 11 (by decide)).1]; exact hG.2.1)) ?_
        refine zx_iload dX11_letters_116 rfl ?_
        refine zy_iadd dX11_letters_118 ?_
        refine zx_lload_n dX11_letters_119 rfl ?_
        refine zx_bipush (v := zn_I 8) dX11_letters_120 (by decide) ?_
        refine zx_iload dX11_letters_122 rfl ?_
        refine zy_imul dX11_letters_124 ?_
        refine zx_lshr dX11_letters_125 ?_
        refine zx_l2i dX11_letters_126 ?_
        refine zx_i2b dX11_letters_127 ?_
        refine zy_bast (i := σ.2.2.1.1 + j) dX11_letters_128 rfl (by decide) (by omega) (by omega) ?_
        refine zy_iinc dX11_letters_129 rfl rfl ?_
        refine zx_goto (tgt := 102) dX11_letters_132 (by decide) ?_
        refine ih (by omega) _ (mf_s hf (by decide) (by decide)) (fun k hk => ?_) (fun k hk => ?_)
        · have : ¬ k = σ.2.2.1.1 + j := by omega
          simp only [zw_s, this, and_false, if_false]
          exact hold k hk
        · by_cases e : k = j
          · subst e
            simp only [zw_s, and_self, if_true]
            rw [mg_byte hw (by omega) (hcs _ (by omega)).2]
          · have h1 := hnew k (by omega)
            have : ¬ σ.2.2.1.1 + k = σ.2.2.1.1 + j := by omega
            simp only [zw_s, this, and_false, if_false]
            exact h1
    refine zx_aload_n dX11_letters_85 rfl ?_
    refine zy_geti dX11_letters_86 fX11_52 (hG.2.1) ?_
    refine zx_iload_n dX11_letters_89 rfl ?_
    refine zy_iadd dX11_letters_90 ?_
    refine zx_bipush (v := zn_I 40) dX11_letters_91 (by decide) ?_
    refine zy_icmp_le (tgt := 99) dX11_letters_93 (by decide) (by omega) (fun h_93 => ?_) (fun h_93 => ?_)
    · refine zx_iconst (v := zn_I 0) dX11_letters_99 rfl ?_
      refine zx_istore dX11_letters_100 rfl (Nat.le_of_ble_eq_true rfl) ?_
      exact hB (by omega) 0 (by omega) M mf_rf (fun _ _ => rfl) (fun k hk => absurd hk (Nat.not_lt_zero _))
    · refine zx_bipush (v := zn_I (-104)) dX11_letters_96 (by decide) ?_
      refine zx_iret (st := []) dX11_letters_98 rfl rfl ?_
      exact mO_f mf_rf (by rw [zk_lettersS, zg_addR, ht]; dsimp only; rw [if_pos (by omega)]; exact hJ) (by rw [zk_letters, zg_addA, ht]; dsimp only; rw [if_pos (by omega)])
  have hA : ∀ i : Nat, i ≤ 8 → ∀ (t : Nat) (v6 : Value), zg_told w i = some t → zw_X l d iX11_letters (mO (zn_I (zk_letters σ w)) (zk_lettersS σ w) M) 8 [.ref 33, .long (lN w), .retAddr 0, .int (zn_I (t : Int)), .int (zn_B (t < i)), .int (zn_I (i : Int)), v6] [] M := by
    refine zw_loop 8 (P := fun i => ∀ (t : Nat) (v6 : Value), zg_told w i = some t → zw_X l d iX11_letters (mO (zn_I (zk_letters σ w)) (zk_lettersS σ w) M) 8 [.ref 33, .long (lN w), .retAddr 0, .int (zn_I (t : Int)), .int (zn_B (t < i)), .int (zn_I (i : Int)), v6] [] M) (fun i hi ih t v6 ht => ?_)
    have htl := (zg_told_some ht).1
    refine zx_iload dX11_letters_8 rfl ?_
    refine zx_bipush (v := zn_I 8) dX11_letters_10 (by decide) ?_
    refine zy_icmp_ge (tgt := 85) dX11_letters_12 (by decide) (by omega) (fun h_12 => ?_) (fun h_12 => ?_)
    · have h8 : i = 8 := by omega
      subst h8
      exact JB t _ _ _ ht
    · refine zx_lload_n dX11_letters_15 rfl ?_
      refine zx_bipush (v := zn_I 8) dX11_letters_16 (by decide) ?_
      refine zx_iload dX11_letters_18 rfl ?_
      refine zy_imul dX11_letters_20 ?_
      refine zx_lshr dX11_letters_21 ?_
      refine zx_ldc2 dX11_letters_22 kX11_50 ?_
      refine zx_land dX11_letters_25 ?_
      refine zx_l2i dX11_letters_26 ?_
      refine zy_top (mg_code hw (by omega)) ?_
      refine zx_istore dX11_letters_27 rfl (Nat.le_of_ble_eq_true rfl) ?_
      refine zx_iload dX11_letters_29 rfl ?_
      refine zx_bipush (v := zn_I 126) dX11_letters_31 (by decide) ?_
      refine zy_icmp_gt (tgt := 46) dX11_letters_33 (by decide) (by have := zg_c_lt w i; omega) (fun h_33 => ?_) (fun h_33 => ?_)
      · have hno : zg_told w 8 = none := zg_told_none (i := i + 1) (by omega) (by rw [mg_told_next ht, if_pos (Or.inl (by omega))])
        refine zx_bipush (v := zn_I (-102)) dX11_letters_46 (by decide) ?_
        refine zx_iret (st := []) dX11_letters_48 rfl rfl ?_
        exact mO_f mf_rf (by rw [zk_lettersS, zg_addR, hno]; exact hJ) (by rw [zk_letters, zg_addA, hno])
      · refine zx_iload dX11_letters_36 rfl ?_
        refine zy_ifB_eq (tgt := 49) dX11_letters_38 (by decide) (fun h_38 => ?_) (fun h_38 => ?_)
        · refine zx_iload dX11_letters_49 rfl ?_
          refine zy_ifB_ne (tgt := 59) dX11_letters_51 (by decide) (fun h_51 => ?_) (fun h_51 => ?_)
          · exact absurd h_51 h_38
          · refine zx_iload dX11_letters_54 rfl ?_
            refine zy_if_ne (tgt := 63) dX11_letters_56 (by decide) (by have := zg_c_lt w i; omega) (fun h_56 => ?_) (fun h_56 => ?_)
            · refine zx_iconst (v := zn_I 0) dX11_letters_63 rfl ?_
              refine zx_istore dX11_letters_64 rfl (Nat.le_of_ble_eq_true rfl) ?_
              refine zx_iload_n dX11_letters_66 rfl ?_
              refine zx_iload dX11_letters_67 rfl ?_
              refine zy_if_ne (tgt := 76) dX11_letters_69 (by decide) (by have := zg_c_lt w i; omega) (fun h_69 => ?_) (fun h_69 => ?_)
              · refine zx_iconst (v := zn_I 1) dX11_letters_76 rfl ?_
                refine zy_iadd dX11_letters_77 ?_
                refine zx_istore_n dX11_letters_78 rfl (Nat.le_of_ble_eq_true rfl) ?_
                refine zy_iinc dX11_letters_79 rfl rfl ?_
                refine zx_goto (tgt := 8) dX11_letters_82 (by decide) ?_
                rw [show zn_I 0 = zn_B (t + 1 < i + 1) from zn_Bf (by omega)]
                exact ih (by omega) (t + 1) _ (by rw [mg_told_next ht, if_neg (by omega), if_pos (by omega)])
              · exact absurd h_69 h_56
            · refine zx_iconst (v := zn_I 1) dX11_letters_59 rfl ?_
              refine zx_goto (tgt := 64) dX11_letters_60 (by decide) ?_
              refine zx_istore dX11_letters_64 rfl (Nat.le_of_ble_eq_true rfl) ?_
              refine zx_iload_n dX11_letters_66 rfl ?_
              refine zx_iload dX11_letters_67 rfl ?_
              refine zy_if_ne (tgt := 76) dX11_letters_69 (by decide) (by have := zg_c_lt w i; omega) (fun h_69 => ?_) (fun h_69 => ?_)
              · exact absurd h_56 h_69
              · refine zx_iconst (v := zn_I 0) dX11_letters_72 rfl ?_
                refine zx_goto (tgt := 77) dX11_letters_73 (by decide) ?_
                refine zy_iadd dX11_letters_77 ?_
                refine zx_istore_n dX11_letters_78 rfl (Nat.le_of_ble_eq_true rfl) ?_
                refine zy_iinc dX11_letters_79 rfl rfl ?_
                refine zx_goto (tgt := 8) dX11_letters_82 (by decide) ?_
                rw [Int.add_zero, show zn_I 1 = zn_B (t < i + 1) from zn_Bt (by omega)]
                exact ih (by omega) t _ (by rw [mg_told_next ht, if_neg (by omega), if_neg (by omega)])
        · refine zx_iload dX11_letters_41 rfl ?_
          refine zy_if_eq (tgt := 49) dX11_letters_43 (by decide) (by have := zg_c_lt w i; omega) (fun h_43 => ?_) (fun h_43 => ?_)
          · refine zx_iload dX11_letters_49 rfl ?_
            refine zy_ifB_ne (tgt := 59) dX11_letters_51 (by decide) (fun h_51 => ?_) (fun h_51 => ?_)
            · refine zx_iconst (v := zn_I 1) dX11_letters_59 rfl ?_
              refine zx_goto (tgt := 64) dX11_letters_60 (by decide) ?_
              refine zx_istore dX11_letters_64 rfl (Nat.le_of_ble_eq_true rfl) ?_
              refine zx_iload_n dX11_letters_66 rfl ?_
              refine zx_iload dX11_letters_67 rfl ?_
              refine zy_if_ne (tgt := 76) dX11_letters_69 (by decide) (by have := zg_c_lt w i; omega) (fun h_69 => ?_) (fun h_69 => ?_)
              · exact absurd h_43 h_69
              · refine zx_iconst (v := zn_I 0) dX11_letters_72 rfl ?_
                refine zx_goto (tgt := 77) dX11_letters_73 (by decide) ?_
                refine zy_iadd dX11_letters_77 ?_
                refine zx_istore_n dX11_letters_78 rfl (Nat.le_of_ble_eq_true rfl) ?_
                refine zy_iinc dX11_letters_79 rfl rfl ?_
                refine zx_goto (tgt := 8) dX11_letters_82 (by decide) ?_
                rw [Int.add_zero, show zn_I 1 = zn_B (t < i + 1) from zn_Bt (by omega)]
                exact ih (by omega) t _ (by rw [mg_told_next ht, if_neg (by omega), if_neg (by omega)])
            · exact absurd h_38 h_51
          · have hno : zg_told w 8 = none := zg_told_none (i := i + 1) (by omega) (by rw [mg_told_next ht, if_pos (Or.inr ⟨by omega, h_38⟩)])
            refine zx_bipush (v := zn_I (-102)) dX11_letters_46 (by decide) ?_
            refine zx_iret (st := []) dX11_letters_48 rfl rfl ?_
            exact mO_f mf_rf (by rw [zk_lettersS, zg_addR, hno]; exact hJ) (by rw [zk_letters, zg_addA, hno])
  refine zx_iconst (v := zn_I 0) dX11_letters_0 rfl ?_
  refine zx_istore_n dX11_letters_1 rfl (Nat.le_of_ble_eq_true rfl) ?_
  refine zx_iconst (v := zn_I 0) dX11_letters_2 rfl ?_
  refine zx_istore dX11_letters_3 rfl (Nat.le_of_ble_eq_true rfl) ?_
  refine zx_iconst (v := zn_I 0) dX11_letters_5 rfl ?_
  refine zx_istore dX11_letters_6 rfl (Nat.le_of_ble_eq_true rfl) ?_
  exact hA 0 (by omega) 0 _ rfl
set_option maxRecDepth 100000 in
set_option maxHeartbeats 600000 in
theorem mX11_blank {l : Launch} {d : Nat} {M : zw_M} {σ : zZ} (hJ : zJ_ M σ) : zw_C l d iX11_blank [.ref 33] M (mO (zn_I (zk_blank σ)) (zk_blankS σ) M) := by
  obtain ⟨hI, hT, hG, ⟨ha, hb, hc⟩, hM, hK⟩ := id hJ
  refine zw_of (by decide +kernel) (Nat.le_of_ble_eq_true rfl) ?_
  refine zy_loc (L1 := [.ref 33, .retAddr 0]) rfl ?_
  refine zx_aload_n dX11_blank_0 rfl ?_
  refine zy_geti dX11_blank_1 fX11_52 (hG.2.1) ?_
  refine zx_istore_n dX11_blank_4 rfl (Nat.le_of_ble_eq_true rfl) ?_
  refine zx_aload_n dX11_blank_5 rfl ?_
  refine zx_iconst (v := zn_I 0) dX11_blank_6 rfl ?_
  refine zx_puti dX11_blank_7 fX11_52 ?_
  refine zx_iload_n dX11_blank_10 rfl ?_
  refine zx_iret (st := []) dX11_blank_11 rfl rfl ?_
  exact mO_f (mf_f mf_rf (by decide)) (zJ_page (mf_f mf_rf (by decide)) hJ (mG_0 (by simp only [zw_s, and_self, if_true]))) rfl
set_option maxRecDepth 100000 in
set_option maxHeartbeats 600000 in
theorem mX11_wayBy {l : Launch} {d : Nat} {M : zw_M} {c : Nat} (hc : c ≤ 126) : zw_C l d iX11_wayBy [.int (zn_I (c : Int))] M (zw_i (zn_I (zg_way c - 1)) M) := by
  refine zw_of (by decide +kernel) (Nat.le_of_ble_eq_true rfl) ?_
  refine zy_loc (L1 := [.int (zn_I (c : Int))]) rfl ?_
  refine zx_iload_n dX11_wayBy_0 rfl ?_
  refine zx_bipush (v := zn_I 110) dX11_wayBy_1 (by decide) ?_
  refine zy_icmp_ne (tgt := 10) dX11_wayBy_3 (by decide) (by omega) (fun h_3 => ?_) (fun h_3 => ?_)
  · refine zx_iload_n dX11_wayBy_10 rfl ?_
    refine zx_bipush (v := zn_I 101) dX11_wayBy_11 (by decide) ?_
    refine zy_icmp_ne (tgt := 20) dX11_wayBy_13 (by decide) (by omega) (fun h_13 => ?_) (fun h_13 => ?_)
    · refine zx_iload_n dX11_wayBy_20 rfl ?_
      refine zx_bipush (v := zn_I 115) dX11_wayBy_21 (by decide) ?_
      refine zy_icmp_ne (tgt := 30) dX11_wayBy_23 (by decide) (by omega) (fun h_23 => ?_) (fun h_23 => ?_)
      · refine zx_iload_n dX11_wayBy_30 rfl ?_
        refine zx_bipush (v := zn_I 119) dX11_wayBy_31 (by decide) ?_
        refine zy_icmp_ne (tgt := 40) dX11_wayBy_33 (by decide) (by omega) (fun h_33 => ?_) (fun h_33 => ?_)
        · refine zx_iconst (v := zn_I (-1)) dX11_wayBy_40 rfl ?_
          refine zx_iret (st := []) dX11_wayBy_41 rfl rfl ?_
          exact zk_I (by unfold zg_way; (repeat' split) <;> first | rfl | omega)
        · refine zx_iconst (v := zn_I 3) dX11_wayBy_36 rfl ?_
          refine zx_goto (tgt := 41) dX11_wayBy_37 (by decide) ?_
          refine zx_iret (st := []) dX11_wayBy_41 rfl rfl ?_
          exact zk_I (by unfold zg_way; (repeat' split) <;> first | rfl | omega)
      · refine zx_iconst (v := zn_I 2) dX11_wayBy_26 rfl ?_
        refine zx_goto (tgt := 41) dX11_wayBy_27 (by decide) ?_
        refine zx_iret (st := []) dX11_wayBy_41 rfl rfl ?_
        exact zk_I (by unfold zg_way; (repeat' split) <;> first | rfl | omega)
    · refine zx_iconst (v := zn_I 1) dX11_wayBy_16 rfl ?_
      refine zx_goto (tgt := 41) dX11_wayBy_17 (by decide) ?_
      refine zx_iret (st := []) dX11_wayBy_41 rfl rfl ?_
      exact zk_I (by unfold zg_way; (repeat' split) <;> first | rfl | omega)
  · refine zx_iconst (v := zn_I 0) dX11_wayBy_6 rfl ?_
    refine zx_goto (tgt := 41) dX11_wayBy_7 (by decide) ?_
    refine zx_iret (st := []) dX11_wayBy_41 rfl rfl ?_
    exact zk_I (by unfold zg_way; (repeat' split) <;> first | rfl | omega)
set_option maxRecDepth 100000 in
set_option maxHeartbeats 600000 in
theorem mX11_readWay {l : Launch} {d : Nat} {M : zw_M} {ρ : zR} (hG : mG M ρ) : zw_C l (d + 1) iX11_readWay [.ref 33] M (fun v M1 => v = none ∧ mfr [] [13, 14] M M1 ∧ M1.1 33 13 = zn_I (zg_wf ρ ρ.1 : Nat) ∧ M1.1 33 14 = zn_B (0 < ρ.1 ∧ zg_wf ρ ρ.1 = ρ.1)) := by
  have h40 := hG.1
  refine zw_of (by decide +kernel) (Nat.le_of_ble_eq_true rfl) ?_
  refine zy_loc (L1 := [.ref 33, .retAddr 0]) rfl ?_
  have JJ : ∀ i : Nat, i ≤ ρ.1 → zg_wf ρ ρ.1 = i → zw_X l (d + 1) iX11_readWay (fun v M1 => v = none ∧ mfr [] [13, 14] M M1 ∧ M1.1 33 13 = zn_I (zg_wf ρ ρ.1 : Nat) ∧ M1.1 33 14 = zn_B (0 < ρ.1 ∧ zg_wf ρ ρ.1 = ρ.1)) 35 [.ref 33, .int (zn_I (i : Int))] [] M := by
    intro i hi hw
    refine zx_aload_n dX11_readWay_35 rfl ?_
    refine zx_iload_n dX11_readWay_36 rfl ?_
    refine zx_puti dX11_readWay_37 fX11_69 ?_
    refine zx_aload_n dX11_readWay_40 rfl ?_
    refine zx_iload_n dX11_readWay_41 rfl ?_
    refine zx_aload_n dX11_readWay_42 rfl ?_
    refine zy_geti dX11_readWay_43 fX11_52 ((show _ = zn_I (ρ.1 : Int) from by simp [zw_s, hG.2.1])) ?_
    refine zy_icmp_ne (tgt := 57) dX11_readWay_46 (by decide) (by omega) (fun h_46 => ?_) (fun h_46 => ?_)
    · refine zx_iconst (v := zn_I 0) dX11_readWay_57 rfl ?_
      refine zx_putz dX11_readWay_58 fX11_72 rfl rfl ?_
      refine zx_vret (st := []) dX11_readWay_61 rfl ?_
      refine ⟨rfl, mf_f (mf_f mf_rf (by decide)) (by decide), by rw [hw]; simp [zw_s], ?_⟩
      simp only [zw_s, and_self, if_true]
      first | exact zn_Bt (by omega) | exact zn_Bf (by omega)
    · refine zx_iload_n dX11_readWay_49 rfl ?_
      refine zy_if_le (tgt := 57) dX11_readWay_50 (by decide) (by omega) (fun h_50 => ?_) (fun h_50 => ?_)
      · refine zx_iconst (v := zn_I 0) dX11_readWay_57 rfl ?_
        refine zx_putz dX11_readWay_58 fX11_72 rfl rfl ?_
        refine zx_vret (st := []) dX11_readWay_61 rfl ?_
        refine ⟨rfl, mf_f (mf_f mf_rf (by decide)) (by decide), by rw [hw]; simp [zw_s], ?_⟩
        simp only [zw_s, and_self, if_true]
        first | exact zn_Bt (by omega) | exact zn_Bf (by omega)
      · refine zx_iconst (v := zn_I 1) dX11_readWay_53 rfl ?_
        refine zx_goto (tgt := 58) dX11_readWay_54 (by decide) ?_
        refine zx_putz dX11_readWay_58 fX11_72 rfl rfl ?_
        refine zx_vret (st := []) dX11_readWay_61 rfl ?_
        refine ⟨rfl, mf_f (mf_f mf_rf (by decide)) (by decide), by rw [hw]; simp [zw_s], ?_⟩
        simp only [zw_s, and_self, if_true]
        first | exact zn_Bt (by omega) | exact zn_Bf (by omega)
  have loop : ∀ i : Nat, i ≤ ρ.1 → zg_wf ρ i = i → zw_X l (d + 1) iX11_readWay (fun v M1 => v = none ∧ mfr [] [13, 14] M M1 ∧ M1.1 33 13 = zn_I (zg_wf ρ ρ.1 : Nat) ∧ M1.1 33 14 = zn_B (0 < ρ.1 ∧ zg_wf ρ ρ.1 = ρ.1)) 2 [.ref 33, .int (zn_I (i : Int))] [] M := by
    refine zw_loop ρ.1 (P := fun i => zg_wf ρ i = i → zw_X l (d + 1) iX11_readWay (fun v M1 => v = none ∧ mfr [] [13, 14] M M1 ∧ M1.1 33 13 = zn_I (zg_wf ρ ρ.1 : Nat) ∧ M1.1 33 14 = zn_B (0 < ρ.1 ∧ zg_wf ρ ρ.1 = ρ.1)) 2 [.ref 33, .int (zn_I (i : Int))] [] M) (fun i hi ih hw => ?_)
    refine zx_iload_n dX11_readWay_2 rfl ?_
    refine zx_aload_n dX11_readWay_3 rfl ?_
    refine zy_geti dX11_readWay_4 fX11_52 (hG.2.1) ?_
    refine zy_icmp_ge (tgt := 35) dX11_readWay_7 (by decide) (by omega) (fun h_7 => ?_) (fun h_7 => ?_)
    · exact JJ i hi (by rw [show i = ρ.1 by omega] at hw; rw [show i = ρ.1 by omega]; exact hw)
    · refine zx_iload_n dX11_readWay_10 rfl ?_
      refine zx_bipush (v := zn_I 7) dX11_readWay_11 (by decide) ?_
      refine zy_icmp_ge (tgt := 35) dX11_readWay_13 (by decide) (by omega) (fun h_13 => ?_) (fun h_13 => ?_)
      · exact JJ i hi (zg_wf_stop hw (fun r => by omega) ρ.1 (by omega))
      · refine zx_aload_n dX11_readWay_16 rfl ?_
        refine zx_getr dX11_readWay_17 fX11_22 ?_
        refine zx_iload_n dX11_readWay_20 rfl ?_
        refine zy_bald dX11_readWay_21 rfl (by decide) rfl (by omega) (hG.2.2.1 i (by omega)) ?_
        refine zx_callS (y1 := iX11_wayBy) dX11_readWay_22 lX11_76 sX11_wayBy (mX11_wayBy (c := ρ.2 i) (hG.2.2.2 i (by omega)).2) rfl rfl (Nat.le_of_ble_eq_true rfl) ?_
        refine zk_i ?_
        refine zx_iconst (v := zn_I (-1)) dX11_readWay_25 rfl ?_
        refine zy_icmp_eq (tgt := 35) dX11_readWay_26 (by decide) (by have := zg_way_rng (ρ.2 i); omega) (fun h_26 => ?_) (fun h_26 => ?_)
        · exact JJ i hi (zg_wf_stop hw (fun r => r.2 (by omega)) ρ.1 (by omega))
        · refine zy_iinc dX11_readWay_29 rfl rfl ?_
          refine zx_goto (tgt := 2) dX11_readWay_32 (by decide) ?_
          exact ih (by omega) (by rw [zg_wf, if_neg (by omega), if_pos ⟨by omega, by omega⟩])
  refine zx_iconst (v := zn_I 0) dX11_readWay_0 rfl ?_
  refine zx_istore_n dX11_readWay_1 rfl (Nat.le_of_ble_eq_true rfl) ?_
  exact loop 0 (by omega) rfl
