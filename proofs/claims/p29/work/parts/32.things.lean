/-! THE LAW: things are told -/
theorem lB_w {M : zw_M} {τ : zQ} {t j : Nat} {x : Int32} (hB : lB M τ t) (hj : 10 * t ≤ j) : lB (zw_s M 35 j x) τ t := fun u hu => by
  obtain ⟨⟨h1, h2⟩, h3⟩ := hB u hu
  refine ⟨⟨?_, ?_⟩, fun q hq => ?_⟩
  · simp [zw_s, show ¬ 10 * u = j by omega, h1]
  · simp [zw_s, show ¬ 10 * u + 1 = j by omega, h2]
  · simp [zw_s, show ¬ 10 * u + 2 + q = j by omega, h3 q hq]
theorem lB_ext {M : zw_M} {τ τ1 : zQ} {t : Nat} (hB : lB M τ t) (h : ∀ u, u < t → τ1.2.1 u = τ.2.1 u ∧ τ1.2.2.1 u = τ.2.2.1 u ∧ τ1.2.2.2 u = τ.2.2.2 u) : lB M τ1 t := fun u hu => by
  obtain ⟨e1, e2, e3⟩ := h u hu
  rw [e1, e2, e3]
  exact hB u hu
set_option maxRecDepth 100000 in
set_option maxHeartbeats 600000 in
theorem mL_things {l : zw_Lh} {d : Nat} {M : zw_M} {σ : zZ} (hC : zC_ M σ) (hA : lA M σ.1) (hσ0 : σ.2.1.1 = 0) (hπ : 2 ≤ σ.1.1 ∧ 2 ≤ σ.1.2.1) {m : Nat} (hm : 1 ≤ m ∧ m ≤ 6) (hL : l.2.1 ≤ 260) : zw_C l (d + 6) iL_things [.ref 0, .ref 37, .int (zn_I 8), .int (zn_I (m : Int)), .ref 33, .ref 35] M (fun v M1 => v = some (.int (zn_I 1)) ∧ zw_fr (35 :: zcl) M M1 ∧ ∃ τ1 : zQ, zC_ M1 (zst σ τ1) ∧ τ1.1 = m ∧ lB M1 τ1 m) := by
  refine zw_of (by decide +kernel) (Nat.le_of_ble_eq_true rfl) ?_
  refine zy_loc (L1 := [.ref 0, .ref 37, .int (zn_I 8), .int (zn_I (m : Int)), .ref 33, .ref 35, .retAddr 0, .retAddr 0, .retAddr 0, .retAddr 0, .retAddr 0, .retAddr 0, .retAddr 0]) rfl ?_
  have hp := hC.1.1
  have h30 := zp_30 hp
  have hn0 : 0 < zp_n σ.1 := Nat.mul_pos (by omega) (by omega)
  have hs0 := hA.1
  have hs1 := hA.2.1
  have loop : ∀ t : Nat, t ≤ m → ∀ (τ1 : zQ) (M1 : zw_M) (v9 v10 v11 v12 : Value), zw_fr (35 :: zcl) M M1 → zC_ M1 (zst σ τ1) → τ1.1 = t → lB M1 τ1 t → zw_X l (d + 6) iL_things (fun v M1 => v = some (.int (zn_I 1)) ∧ zw_fr (35 :: zcl) M M1 ∧ ∃ τ1 : zQ, zC_ M1 (zst σ τ1) ∧ τ1.1 = m ∧ lB M1 τ1 m) 17 [.ref 0, .ref 37, .int (zn_I 8), .int (zn_I (m : Int)), .ref 33, .ref 35, .int (zn_I (zp_n σ.1 : Nat)), .int (zn_I 1), .int (zn_I (t : Int)), v9, v10, v11, v12] [] M1 := by
    refine zw_loop m (P := fun t => ∀ (τ1 : zQ) (M1 : zw_M) (v9 v10 v11 v12 : Value), zw_fr (35 :: zcl) M M1 → zC_ M1 (zst σ τ1) → τ1.1 = t → lB M1 τ1 t → zw_X l (d + 6) iL_things (fun v M1 => v = some (.int (zn_I 1)) ∧ zw_fr (35 :: zcl) M M1 ∧ ∃ τ1 : zQ, zC_ M1 (zst σ τ1) ∧ τ1.1 = m ∧ lB M1 τ1 m) 17 [.ref 0, .ref 37, .int (zn_I 8), .int (zn_I (m : Int)), .ref 33, .ref 35, .int (zn_I (zp_n σ.1 : Nat)), .int (zn_I 1), .int (zn_I (t : Int)), v9, v10, v11, v12] [] M1) (fun t ht ih τ1 M1 v9 v10 v11 v12 hf1 hC1 ht1 hB1 => ?_)
    have inner (htm : t < m) (x y wt : Nat) (hxl : x < 2147483648) : ∀ q : Nat, q ≤ 8 → ∀ (τ2 : zQ) (M2 : zw_M) (v12 : Value), zw_fr (35 :: zcl) M M2 → zC_ M2 (zst σ τ2) → τ2.1 = t + 1 → (τ2.2.1 t = ((x % 5 : Nat) : Int) ∧ τ2.2.2.1 t = (wt : Int)) → lB M2 τ2 t → (M2.1 35 (10 * t) = zn_I ((x % 5 : Nat) : Int) ∧ M2.1 35 (10 * t + 1) = zn_I (wt : Int)) → (x % 5 < 3 → ∀ u, u < 8 → τ2.2.2.2 t u = x / 1024 % zp_n σ.1) → (∀ u, u < q → M2.1 35 (10 * t + 2 + u) = zn_I (τ2.2.2.2 t u : Nat)) → zw_X l (d + 6) iL_things (fun v M1 => v = some (.int (zn_I 1)) ∧ zw_fr (35 :: zcl) M M1 ∧ ∃ τ1 : zQ, zC_ M1 (zst σ τ1) ∧ τ1.1 = m ∧ lB M1 τ1 m) 135 [.ref 0, .ref 37, .int (zn_I 8), .int (zn_I (m : Int)), .ref 33, .ref 35, .int (zn_I (zp_n σ.1 : Nat)), .int (zn_I 1), .int (zn_I (t : Int)), .int (zn_I (x : Int)), .int (zn_I (y : Int)), .int (zn_I (q : Int)), v12] [] M2 := by
      refine zw_loop 8 (P := fun q => ∀ (τ2 : zQ) (M2 : zw_M) (v12 : Value), zw_fr (35 :: zcl) M M2 → zC_ M2 (zst σ τ2) → τ2.1 = t + 1 → (τ2.2.1 t = ((x % 5 : Nat) : Int) ∧ τ2.2.2.1 t = (wt : Int)) → lB M2 τ2 t → (M2.1 35 (10 * t) = zn_I ((x % 5 : Nat) : Int) ∧ M2.1 35 (10 * t + 1) = zn_I (wt : Int)) → (x % 5 < 3 → ∀ u, u < 8 → τ2.2.2.2 t u = x / 1024 % zp_n σ.1) → (∀ u, u < q → M2.1 35 (10 * t + 2 + u) = zn_I (τ2.2.2.2 t u : Nat)) → zw_X l (d + 6) iL_things (fun v M1 => v = some (.int (zn_I 1)) ∧ zw_fr (35 :: zcl) M M1 ∧ ∃ τ1 : zQ, zC_ M1 (zst σ τ1) ∧ τ1.1 = m ∧ lB M1 τ1 m) 135 [.ref 0, .ref 37, .int (zn_I 8), .int (zn_I (m : Int)), .ref 33, .ref 35, .int (zn_I (zp_n σ.1 : Nat)), .int (zn_I 1), .int (zn_I (t : Int)), .int (zn_I (x : Int)), .int (zn_I (y : Int)), .int (zn_I (q : Int)), v12] [] M2) (fun q hq ih2 τ2 M2 v12 hf2 hC2 ht2 hkw hB2 hm2 hkd hq2 => ?_)
      have put (hq8 : q < 8) : ∀ (p : Nat) (v12 : Value), p < zp_n σ.1 → (x % 5 < 3 → p = x / 1024 % zp_n σ.1) → zw_X l (d + 6) iL_things (fun v M1 => v = some (.int (zn_I 1)) ∧ zw_fr (35 :: zcl) M M1 ∧ ∃ τ1 : zQ, zC_ M1 (zst σ τ1) ∧ τ1.1 = m ∧ lB M1 τ1 m) 175 [.ref 0, .ref 37, .int (zn_I 8), .int (zn_I (m : Int)), .ref 33, .ref 35, .int (zn_I (zp_n σ.1 : Nat)), .int (zn_I 1), .int (zn_I (t : Int)), .int (zn_I (x : Int)), .int (zn_I (y : Int)), .int (zn_I (q : Int)), v12] [.int (zn_I (p : Int))] M2 := by
        intro p v12 hpn hps
        refine zx_istore dL_things_175 rfl (Nat.le_of_ble_eq_true rfl) ?_
        refine zx_aload dL_things_177 rfl ?_
        refine zx_bipush (v := zn_I 10) dL_things_179 (by decide) ?_
        refine zx_iload dL_things_181 rfl ?_
        refine zy_imul dL_things_183 ?_
        refine zx_iconst (v := zn_I 2) dL_things_184 rfl ?_
        refine zy_iadd dL_things_185 ?_
        refine zx_iload dL_things_186 rfl ?_
        refine zy_iadd dL_things_188 ?_
        refine zx_iload dL_things_189 rfl ?_
        refine zy_iast (i := 10 * t + 2 + q) dL_things_191 rfl (by decide) (by omega) (by omega) ?_
        have hC3 : zC_ (zw_s M2 35 (10 * t + 2 + q) (zn_I (p : Int))) (zst σ τ2) := zC_f (S := [35]) (zf_s zf_rf (by decide)) hC2 (by decide)
        refine zx_iload dL_things_192 rfl ?_
        refine zy_if_eq (tgt := 222) dL_things_194 (by decide) (by omega) (fun h_194 => ?_) (fun h_194 => ?_)
        · exact absurd h_194 (by omega)
        · refine zx_iload dL_things_197 rfl ?_
          refine zx_iconst (v := zn_I 5) dL_things_199 rfl ?_
          refine zy_irem (a := x) (b := 5) dL_things_200 (by omega) ?_
          refine zx_iconst (v := zn_I 3) dL_things_201 rfl ?_
          refine zy_icmp_lt (tgt := 218) dL_things_202 (by decide) (by omega) (fun h_202 => ?_) (fun h_202 => ?_)
          · refine zx_iconst (v := zn_I 1) dL_things_218 rfl ?_
            refine zx_goto (tgt := 223) dL_things_219 (by decide) ?_
            refine zx_istore dL_things_223 rfl (Nat.le_of_ble_eq_true rfl) ?_
            refine zy_iinc dL_things_225 rfl rfl ?_
            refine zx_goto (tgt := 135) dL_things_228 (by decide) ?_
            refine ih2 (by omega) τ2 _ _ (zf_s hf2 (by decide)) hC3 ht2 hkw (lB_w hB2 (by omega)) ⟨by simp [zw_s, show ¬ 10 * t = 10 * t + 2 + q by omega, hm2.1], by simp [zw_s, show ¬ 10 * t + 1 = 10 * t + 2 + q by omega, hm2.2]⟩ hkd (fun u hu => ?_)
            by_cases e : u = q
            · subst e
              simp [zw_s, hkd (by omega) u (by omega), hps (by omega)]
            · simp [zw_s, e, hq2 u (by omega)]
          · refine zx_aload_n dL_things_205 rfl ?_
            refine zx_iload dL_things_206 rfl ?_
            refine zx_iload dL_things_208 rfl ?_
            refine zx_iload dL_things_210 rfl ?_
            refine zx_callV (y1 := iX10_stand) dL_things_212 lL_39 vX10_stand rc_0 (mX10_stand hC3 (z := (t : Int)) (q := (q : Int)) (s := (p : Int)) (by omega) (by omega) (by omega)) rfl rfl (Nat.le_of_ble_eq_true rfl) ?_
            intro v M3 he
            obtain ⟨rfl, hf3, hC4⟩ := he
            have hpr : (zthing (zst σ τ2) (t : Int) ∧ zqu (q : Int) ∧ zhas (zst σ τ2) (p : Int)) := ⟨⟨by omega, by show (t : Int) < τ2.1; omega⟩, ⟨by omega, by omega⟩, by omega, by show (p : Int) < zp_n σ.1; omega⟩
            have hpp : zpers (zst σ τ2) (t : Int) := by
              show τ2.2.1 (Int.toNat (t : Int)) = 3 ∨ τ2.2.1 (Int.toNat (t : Int)) = 4
              rw [Int.toNat_natCast, hkw.1]
              omega
            have hst : zk_stand (zst σ τ2) (t : Int) (q : Int) (p : Int) = (τ2.2.2.2 t q : Int) := by
              rw [zk_stand, if_neg (fun r => r hpr), if_neg (fun r => r hpp), zpl, Int.toNat_natCast, Int.toNat_natCast]
              rfl
            have hpq : τ2.2.2.2 t q < zp_n σ.1 := hC2.2.1.2.2.2.2.2.2.2 t (by show t < τ2.1; omega) q (by omega)
            rw [zk_standS, if_pos ⟨hpr, hpp⟩, Int.toNat_natCast, Int.toNat_natCast, Int.toNat_natCast] at hC4
            rw [hst]
            refine zy_if_lt (tgt := 222) dL_things_215 (by decide) (by omega) (fun h_215 => ?_) (fun h_215 => ?_)
            · exact absurd h_215 (by omega)
            · refine zx_iconst (v := zn_I 1) dL_things_218 rfl ?_
              refine zx_goto (tgt := 223) dL_things_219 (by decide) ?_
              refine zx_istore dL_things_223 rfl (Nat.le_of_ble_eq_true rfl) ?_
              refine zy_iinc dL_things_225 rfl rfl ?_
              refine zx_goto (tgt := 135) dL_things_228 (by decide) ?_
              have e35 : M3.1 35 = (zw_s M2 35 (10 * t + 2 + q) (zn_I (p : Int))).1 35 := (hf3 35 (by decide)).1
              have hB3 : lB M3 τ2 t := lB_f hf3 (lB_w hB2 (by omega)) (by decide)
              refine ih2 (by omega) (zt_at τ2 t q p) _ _ (zf_tr (zf_s hf2 (by decide)) (zf_mono hf3 (by decide))) hC4 ht2 hkw (lB_ext hB3 (fun u hu => ⟨rfl, rfl, by simp [zt_at, zt_mv, show u ≠ t by omega]⟩)) ⟨by rw [e35]; simp [zw_s, show ¬ 10 * t = 10 * t + 2 + q by omega, hm2.1], by rw [e35]; simp [zw_s, show ¬ 10 * t + 1 = 10 * t + 2 + q by omega, hm2.2]⟩ (fun r => absurd r (by omega)) (fun u hu => ?_)
              rw [e35]
              by_cases e : u = q
              · subst e
                simp [zw_s, zt_at, zt_mv]
              · simp [zw_s, zt_at, zt_mv, e, hq2 u (by omega)]
      refine zx_iload dL_things_135 rfl ?_
      refine zx_bipush (v := zn_I 8) dL_things_137 (by decide) ?_
      refine zy_icmp_ge (tgt := 231) dL_things_139 (by decide) (by omega) (fun h_139 => ?_) (fun h_139 => ?_)
      · refine zy_iinc dL_things_231 rfl rfl ?_
        refine zx_goto (tgt := 17) dL_things_234 (by decide) ?_
        have eq8 : q = 8 := by omega
        subst eq8
        refine ih (by omega) τ2 M2 _ _ _ _ hf2 hC2 ht2 (fun u hu => ?_)
        by_cases e : u = t
        · subst e
          rw [hkw.1, hkw.2]
          exact ⟨hm2, fun q hq => hq2 q hq⟩
        · exact hB2 u (by omega)
      · refine zx_iload dL_things_142 rfl ?_
        refine zx_iconst (v := zn_I 5) dL_things_144 rfl ?_
        refine zy_irem (a := x) (b := 5) dL_things_145 (by omega) ?_
        refine zx_iconst (v := zn_I 3) dL_things_146 rfl ?_
        refine zy_icmp_ge (tgt := 162) dL_things_147 (by decide) (by omega) (fun h_147 => ?_) (fun h_147 => ?_)
        · refine zx_iload dL_things_162 rfl ?_
          refine zx_iconst (v := zn_I 3) dL_things_164 rfl ?_
          refine zx_iload dL_things_165 rfl ?_
          refine zy_imul dL_things_167 ?_
          refine zx_ishr dL_things_168 ?_
          refine zx_bipush (v := zn_I 127) dL_things_169 (by decide) ?_
          refine zx_iand dL_things_171 ?_
          refine zy_mask 127 (by decide) (fun v hv => ?_)
          refine zx_iload dL_things_172 rfl ?_
          refine zy_irem (a := v) (b := zp_n σ.1) dL_things_174 (by omega) ?_
          exact put (by omega) _ _ (Nat.mod_lt _ hn0) (fun r => absurd r (by omega))
        · refine zx_iload dL_things_150 rfl ?_
          refine zx_sipush (v := zn_I 1024) dL_things_152 (by decide) ?_
          refine zy_idiv (a := x) (b := 1024) dL_things_155 (by omega) ?_
          refine zx_iload dL_things_156 rfl ?_
          refine zy_irem (a := x / 1024) (b := zp_n σ.1) dL_things_158 (by omega) ?_
          refine zx_goto (tgt := 175) dL_things_159 (by decide) ?_
          exact put (by omega) _ _ (Nat.mod_lt _ hn0) (fun _ => rfl)
    refine zx_iload dL_things_17 rfl ?_
    refine zx_iload_n dL_things_19 rfl ?_
    refine zy_icmp_ge (tgt := 237) dL_things_20 (by decide) (by omega) (fun h_20 => ?_) (fun h_20 => ?_)
    · have et : t = m := by omega
      subst et
      refine zx_iload dL_things_237 rfl ?_
      refine zx_iret (st := []) dL_things_239 rfl rfl ?_
      exact ⟨rfl, hf1, τ1, hC1, ht1, hB1⟩
    · refine zx_aload_n dL_things_23 rfl ?_
      refine zx_iload_n dL_things_24 rfl ?_
      refine zx_iconst (v := zn_I 2) dL_things_25 rfl ?_
      refine zx_iload dL_things_26 rfl ?_
      refine zy_imul dL_things_28 ?_
      refine zy_iadd dL_things_29 ?_
      refine zy_top (show _ = zn_I ((8 + 2 * t : Nat) : Int) from congrArg zn_I (by omega)) ?_
      refine zx_callS (y1 := iL_cell) dL_things_30 lL_14 sL_cell (mL_cell hL (k := 8 + 2 * t) (by omega)) rfl rfl (Nat.le_of_ble_eq_true rfl) ?_
      refine zk_i ?_
      have hxl := lS_lt l (8 + 2 * t)
      generalize lS l (8 + 2 * t) = x at hxl ⊢
      refine zx_istore dL_things_33 rfl (Nat.le_of_ble_eq_true rfl) ?_
      refine zx_aload_n dL_things_35 rfl ?_
      refine zx_iload_n dL_things_36 rfl ?_
      refine zx_iconst (v := zn_I 2) dL_things_37 rfl ?_
      refine zx_iload dL_things_38 rfl ?_
      refine zy_imul dL_things_40 ?_
      refine zy_iadd dL_things_41 ?_
      refine zx_iconst (v := zn_I 1) dL_things_42 rfl ?_
      refine zy_iadd dL_things_43 ?_
      refine zy_top (show _ = zn_I ((8 + 2 * t + 1 : Nat) : Int) from congrArg zn_I (by omega)) ?_
      refine zx_callS (y1 := iL_cell) dL_things_44 lL_14 sL_cell (mL_cell hL (k := 8 + 2 * t + 1) (by omega)) rfl rfl (Nat.le_of_ble_eq_true rfl) ?_
      refine zk_i ?_
      have hyl := lS_lt l (8 + 2 * t + 1)
      generalize lS l (8 + 2 * t + 1) = y at hyl ⊢
      refine zx_istore dL_things_47 rfl (Nat.le_of_ble_eq_true rfl) ?_
      refine zx_aload dL_things_49 rfl ?_
      refine zx_bipush (v := zn_I 10) dL_things_51 (by decide) ?_
      refine zx_iload dL_things_53 rfl ?_
      refine zy_imul dL_things_55 ?_
      refine zx_iload dL_things_56 rfl ?_
      refine zx_iconst (v := zn_I 5) dL_things_58 rfl ?_
      refine zy_irem (a := x) (b := 5) dL_things_59 (by omega) ?_
      refine zy_iast (i := 10 * t) dL_things_60 rfl (by decide) (by omega) (by omega) ?_
      refine zx_aload dL_things_61 rfl ?_
      refine zx_bipush (v := zn_I 10) dL_things_63 (by decide) ?_
      refine zx_iload dL_things_65 rfl ?_
      refine zy_imul dL_things_67 ?_
      refine zx_iconst (v := zn_I 1) dL_things_68 rfl ?_
      refine zy_iadd dL_things_69 ?_
      refine zx_iconst (v := zn_I 1) dL_things_70 rfl ?_
      refine zx_iload dL_things_71 rfl ?_
      refine zx_bipush (v := zn_I 8) dL_things_73 (by decide) ?_
      refine zy_idiv (a := x) (b := 8) dL_things_75 (by omega) ?_
      refine zx_bipush (v := zn_I 99) dL_things_76 (by decide) ?_
      refine zy_irem (a := x / 8) (b := 99) dL_things_78 (by omega) ?_
      refine zx_iload dL_things_79 rfl ?_
      refine zx_iconst (v := zn_I 2) dL_things_81 rfl ?_
      refine zy_irem (a := x) (b := 2) dL_things_82 (by omega) ?_
      refine zx_iconst (v := zn_I 1) dL_things_83 rfl ?_
      refine zy_iadd dL_things_84 ?_
      refine zy_top (show _ = zn_I ((x % 2 + 1 : Nat) : Int) from congrArg zn_I (by omega)) ?_
      refine zy_idiv (a := x / 8 % 99) (b := x % 2 + 1) dL_things_85 (by omega) ?_
      refine zy_iadd dL_things_86 ?_
      refine zy_top (show _ = zn_I ((1 + x / 8 % 99 / (x % 2 + 1) : Nat) : Int) from congrArg zn_I (by omega)) ?_
      refine zy_iast (i := 10 * t + 1) dL_things_87 rfl (by decide) (by omega) (by omega) ?_
      have hwt : 1 + x / 8 % 99 / (x % 2 + 1) ≤ 99 := by have := Nat.div_le_self (x / 8 % 99) (x % 2 + 1); omega
      obtain ⟨wt, ewt⟩ : ∃ wt, 1 + x / 8 % 99 / (x % 2 + 1) = wt := ⟨_, rfl⟩
      have hwt1 : 1 ≤ wt ∧ wt ≤ 99 := by rw [← ewt]; exact ⟨Nat.le_add_right _ _, hwt⟩
      rw [ewt]
      have hC2 : zC_ (zw_s (zw_s M1 35 (10 * t) (zn_I ((x % 5 : Nat) : Int))) 35 (10 * t + 1) (zn_I (wt : Int))) (zst σ τ1) := zC_f (S := [35]) (zf_s (zf_s zf_rf (by decide)) (by decide)) hC1 (by decide)
      refine zx_iload dL_things_88 rfl ?_
      refine zy_if_eq (tgt := 129) dL_things_90 (by decide) (by omega) (fun h_90 => ?_) (fun h_90 => ?_)
      · exact absurd h_90 (by omega)
      · refine zx_aload_n dL_things_93 rfl ?_
        refine zx_iload dL_things_94 rfl ?_
        refine zx_iconst (v := zn_I 5) dL_things_96 rfl ?_
        refine zy_irem (a := x) (b := 5) dL_things_97 (by omega) ?_
        refine zx_aload dL_things_98 rfl ?_
        refine zx_bipush (v := zn_I 10) dL_things_100 (by decide) ?_
        refine zx_iload dL_things_102 rfl ?_
        refine zy_imul dL_things_104 ?_
        refine zx_iconst (v := zn_I 1) dL_things_105 rfl ?_
        refine zy_iadd dL_things_106 ?_
        refine zy_iald (i := 10 * t + 1) dL_things_107 rfl (by decide) (by omega) (by omega) ((show _ = zn_I (wt : Int) from by simp [zw_s])) ?_
        refine zx_iload dL_things_108 rfl ?_
        refine zx_sipush (v := zn_I 1024) dL_things_110 (by decide) ?_
        refine zy_idiv (a := x) (b := 1024) dL_things_113 (by omega) ?_
        refine zx_iload dL_things_114 rfl ?_
        refine zy_irem (a := x / 1024) (b := zp_n σ.1) dL_things_116 (by omega) ?_
        refine zx_callV (y1 := iX10_thing) dL_things_117 lL_35 vX10_thing rc_0 (mX10_thing hC2 (k := ((x % 5 : Nat) : Int)) (w := (wt : Int)) (s := ((x / 1024 % zp_n σ.1 : Nat) : Int)) (by omega) (by omega) (by have := Nat.mod_lt (x / 1024) hn0; omega)) rfl rfl (Nat.le_of_ble_eq_true rfl) ?_
        intro v M2 he
        obtain ⟨rfl, hf2, hC3⟩ := he
        have hsq := Nat.mod_lt (x / 1024) hn0
        have hc1 : ((0 ≤ ((x % 5 : Nat) : Int) ∧ ((x % 5 : Nat) : Int) ≤ 4) ∧ 1 ≤ (wt : Int) ∧ (wt : Int) ≤ 99) := by omega
        have hc2 : zhas (zst σ τ1) ((x / 1024 % zp_n σ.1 : Nat) : Int) := ⟨by omega, by show _ < ((zp_n σ.1 : Nat) : Int); omega⟩
        have hc3 : (zst σ τ1).2.1.1 < 8 := by show τ1.1 < 8; omega
        have hth : zk_thing (zst σ τ1) ((x % 5 : Nat) : Int) (wt : Int) ((x / 1024 % zp_n σ.1 : Nat) : Int) = (t : Int) := by
          rw [zk_thing, if_neg (fun r => r hc1), if_neg (fun r => r hc2), if_neg (by omega)]
          show ((τ1.1 : Nat) : Int) = _
          omega
        rw [zk_thingS, if_pos ⟨hc1, hc2, hc3⟩, Int.toNat_natCast] at hC3
        rw [hth]
        refine zx_iload dL_things_120 rfl ?_
        refine zy_icmp_ne (tgt := 129) dL_things_122 (by decide) (by omega) (fun h_122 => ?_) (fun h_122 => ?_)
        · exact absurd rfl h_122
        · refine zx_iconst (v := zn_I 1) dL_things_125 rfl ?_
          refine zx_goto (tgt := 130) dL_things_126 (by decide) ?_
          refine zx_istore dL_things_130 rfl (Nat.le_of_ble_eq_true rfl) ?_
          refine zx_iconst (v := zn_I 0) dL_things_132 rfl ?_
          refine zx_istore dL_things_133 rfl (Nat.le_of_ble_eq_true rfl) ?_
          have e35 : M2.1 35 = (zw_s (zw_s M1 35 (10 * t) (zn_I ((x % 5 : Nat) : Int))) 35 (10 * t + 1) (zn_I (wt : Int))).1 35 := (hf2 35 (by decide)).1
          have hB2 : lB M2 τ1 t := lB_f hf2 (lB_w (lB_w hB1 (Nat.le_refl _)) (by omega)) (by decide)
          exact inner (by omega) x y wt hxl 0 (Nat.zero_le _) (zt_new τ1 ((x % 5 : Nat) : Int) (wt : Int) (x / 1024 % zp_n σ.1)) M2 _ (zf_tr (zf_s (zf_s hf1 (by decide)) (by decide)) (zf_mono hf2 (by decide))) hC3 (by show τ1.1 + 1 = _; omega) ⟨by simp [zt_new, ht1], by simp [zt_new, ht1]⟩ (lB_ext hB2 (fun u hu => ⟨by simp [zt_new, show u ≠ τ1.1 by omega], by simp [zt_new, show u ≠ τ1.1 by omega], by simp [zt_new, show u ≠ τ1.1 by omega]⟩)) ⟨by rw [e35]; simp [zw_s], by rw [e35]; simp [zw_s]⟩ (fun _ u hu => by simp [zt_new, ht1]) (fun u hu => absurd hu (Nat.not_lt_zero _))
  refine zx_aload dL_things_0 rfl ?_
  refine zx_iconst (v := zn_I 0) dL_things_2 rfl ?_
  refine zy_iald (i := 0) dL_things_3 rfl (by decide) (by omega) (by omega) (hs0) ?_
  refine zx_aload dL_things_4 rfl ?_
  refine zx_iconst (v := zn_I 1) dL_things_6 rfl ?_
  refine zy_iald (i := 1) dL_things_7 rfl (by decide) (by omega) (by omega) (hs1) ?_
  refine zy_imul dL_things_8 ?_
  refine zy_top (show _ = zn_I (zp_n σ.1 : Nat) from congrArg zn_I (Int.natCast_mul σ.1.1 σ.1.2.1).symm) ?_
  refine zx_istore dL_things_9 rfl (Nat.le_of_ble_eq_true rfl) ?_
  refine zx_iconst (v := zn_I 1) dL_things_11 rfl ?_
  refine zx_istore dL_things_12 rfl (Nat.le_of_ble_eq_true rfl) ?_
  refine zx_iconst (v := zn_I 0) dL_things_14 rfl ?_
  refine zx_istore dL_things_15 rfl (Nat.le_of_ble_eq_true rfl) ?_
  exact loop 0 (Nat.zero_le _) σ.2.1 M _ _ _ _ zf_rf hC hσ0 (fun u hu => absurd hu (Nat.not_lt_zero _))
