/-! THE REFERENCE READS A PLAN -/
theorem zr_H_rng {ρ : zR} (hw : zq_whole ρ) : ∀ i, i ≤ ρ.1 → ∀ s, s < zr_k ρ i → 0 ≤ zr_H ρ i s ∧ zr_H ρ i s ≤ 9
  | 0, _, s, hs => absurd hs (by simp [zr_k])
  | i + 1, h, s, hs => by
    have ih := zr_H_rng hw i (by omega) s
    rw [zr_k] at hs
    rw [zr_H]
    rcases zq_case hw (show i < ρ.1 by omega) with ⟨c1, -, -, -⟩ | ⟨c1, -, -, -⟩
    · rw [if_pos c1] at hs ⊢
      exact ih hs
    · rw [if_neg (by omega)] at hs ⊢
      split
      · exact zr_g_rng c1
      · exact ih (by omega)
/-- what the reference has read -/
def mq (M : zw_M) (ρ : zR) (i : Nat) (σ : zA) : Prop := M.1 33 15 = zn_I ((σ.1 : Int) - 1) ∧ M.1 33 16 = zn_I (σ.2.1 : Int) ∧ M.1 33 17 = zn_I (zr_k ρ i : Nat) ∧ ∀ s, s < zr_k ρ i → M.1 39 s = zn_I (zr_H ρ i s)
/-- how many squares there are as far as it is read -/
def mqk (σ : zA) (k : Nat) : Prop := zq_ok σ ∧ (2 ≤ σ.1 → σ.2.2 ≤ σ.2.1) ∧ (σ.1 = 1 → σ.2.1 = 0) ∧ k = (σ.1 - 1) * σ.2.1 + σ.2.2
abbrev mq_sq (σ : zA) (c : Nat) : Prop := (c = 46 ∨ (49 ≤ c ∧ c ≤ 57)) ∧ ((σ.1 = 1 ∧ σ.2.2 < 6) ∨ (σ.1 ≠ 1 ∧ σ.2.2 < σ.2.1))
abbrev mq_rw (σ : zA) (c : Nat) : Prop := c = 47 ∧ ((σ.1 = 1 ∧ 2 ≤ σ.2.2) ∨ (σ.1 ≠ 1 ∧ σ.2.1 ≤ σ.2.2)) ∧ σ.1 < 5
theorem mq_take {σ : zA} {k : Nat} (h : mqk σ k) (c : Nat) : (mq_sq σ c → zq_take σ c = some (σ.1, σ.2.1, σ.2.2 + 1) ∧ mqk (σ.1, σ.2.1, σ.2.2 + 1) (k + 1) ∧ k < 30) ∧ (mq_rw σ c → zq_take σ c = some (σ.1 + 1, σ.2.2, 0) ∧ mqk (σ.1 + 1, σ.2.2, 0) k) ∧ (¬ mq_sq σ c → ¬ mq_rw σ c → zq_take σ c = none) := by
  obtain ⟨⟨h1, h2, h3, h4⟩, h5, h6, h7⟩ := h
  refine ⟨fun q => ?_, fun q => ?_, fun q1 q2 => ?_⟩
  · refine ⟨by rw [zq_take, if_neg (by omega), if_pos q], ⟨⟨h1, h2, h3, by dsimp only; omega⟩, by dsimp only; omega, h6, by dsimp only; omega⟩, ?_⟩
    rcases Nat.lt_or_ge σ.1 2 with r | r
    · have : σ.1 - 1 = 0 := by omega
      rw [this, Nat.zero_mul] at h7
      omega
    · have h8 : (σ.1 - 1) * σ.2.1 ≤ 4 * σ.2.1 := Nat.mul_le_mul_right _ (by omega)
      omega
  · refine ⟨by rw [zq_take, if_pos q.1, if_pos ⟨by omega, q.2.2⟩], ⟨⟨by dsimp only; omega, by dsimp only; omega, h4, by dsimp only; omega⟩, by dsimp only; omega, by dsimp only; omega, ?_⟩⟩
    dsimp only
    rw [Nat.add_sub_cancel, Nat.add_zero, h7]
    rcases Nat.lt_or_ge σ.1 2 with r | r
    · have e1 : σ.1 - 1 = 0 := by omega
      have e2 : σ.1 = 1 := by omega
      rw [e1, e2, Nat.zero_mul, Nat.zero_add, Nat.one_mul]
    · have e1 : σ.2.2 = σ.2.1 := by have := h5 r; omega
      obtain ⟨a, ha⟩ : ∃ a, σ.1 = a + 1 := ⟨σ.1 - 1, by omega⟩
      rw [ha, e1, Nat.add_sub_cancel, Nat.succ_mul]
  · unfold zq_take
    by_cases c1 : c = 47
    · rw [if_pos c1, if_neg (fun r => q2 ⟨c1, by omega, r.2⟩)]
    · rw [if_neg c1, if_neg q1]
theorem mq_stop {ρ : zR} {i : Nat} (h : (zq_go ρ i).1 = i) (h2 : zq_take (zq_go ρ i).2 (ρ.2 i) = none) (hi : i ≤ ρ.1) : zq_go ρ ρ.1 = zq_go ρ i := zq_go_stop h h2 ρ.1 hi
set_option maxRecDepth 100000 in
set_option maxHeartbeats 600000 in
theorem mX11_readPlan {l : Launch} {d : Nat} {M : zw_M} {ρ : zR} (hG : mG M ρ) : zw_C l (d + 1) iX11_readPlan [.ref 33] M (fun v M1 => v = none ∧ mfr [39] [13, 14, 15, 16, 17] M M1 ∧ M1.1 33 13 = zn_I (zq_go ρ ρ.1).1 ∧ M1.1 33 14 = zn_B (zq_whole ρ) ∧ (zq_whole ρ → mq M1 ρ ρ.1 (zq_go ρ ρ.1).2)) := by
  have h40 := hG.1
  refine zw_of (by decide +kernel) (Nat.le_of_ble_eq_true rfl) ?_
  refine zy_loc (L1 := [.ref 33, .retAddr 0, .retAddr 0, .retAddr 0, .retAddr 0, .retAddr 0, .retAddr 0, .retAddr 0, .retAddr 0]) rfl ?_
  have JE : ∀ (M1 : zw_M) (i : Nat) (σ : zA) (g : Int) (v4 v5 v6 v7 v8 : Value), mfr [39] [15, 16, 17] M M1 → zq_go ρ ρ.1 = (i, σ) → i ≤ ρ.1 → mq M1 ρ i σ → zq_ok σ → zw_X l (d + 1) iX11_readPlan (fun v M1 => v = none ∧ mfr [39] [13, 14, 15, 16, 17] M M1 ∧ M1.1 33 13 = zn_I (zq_go ρ ρ.1).1 ∧ M1.1 33 14 = zn_B (zq_whole ρ) ∧ (zq_whole ρ → mq M1 ρ ρ.1 (zq_go ρ ρ.1).2)) 232 [.ref 33, .int (zn_I (σ.2.2 : Int)), .int (zn_I (i : Int)), .int (zn_I g), v4, v5, v6, v7, v8] [] M1 := by
    intro M1 i σ g v4 v5 v6 v7 v8 hf hgo hi hq hok
    obtain ⟨hq1, hq2, hq3, hq4⟩ := id hq
    unfold zq_ok at hok
    refine zx_aload_n dX11_readPlan_232 rfl ?_
    refine zx_iload_n dX11_readPlan_233 rfl ?_
    refine zx_puti dX11_readPlan_234 fX11_69 ?_
    refine zx_aload_n dX11_readPlan_237 rfl ?_
    refine zx_iload_n dX11_readPlan_238 rfl ?_
    refine zx_aload_n dX11_readPlan_239 rfl ?_
    refine zy_geti dX11_readPlan_240 fX11_52 ((show _ = zn_I (ρ.1 : Int) from by simp [zw_s, (hf.2 11 (by decide)).1, hG.2.1])) ?_
    refine zy_icmp_ne (tgt := 265) dX11_readPlan_243 (by decide) (by omega) (fun h_243 => ?_) (fun h_243 => ?_)
    · refine zx_iconst (v := zn_I 0) dX11_readPlan_265 rfl ?_
      refine zx_putz dX11_readPlan_266 fX11_72 rfl rfl ?_
      refine zx_vret (st := []) dX11_readPlan_269 rfl ?_
      refine ⟨rfl, mf_f (mf_f (mf_mono hf (by decide)) (by decide)) (by decide), by rw [hgo]; simp [zw_s], ?_, fun hw => ?_⟩
      · simp only [zw_s, and_self, if_true]
        unfold zq_whole
        rw [hgo]
        dsimp only
        first | exact zn_Bt (by omega) | exact zn_Bf (by omega)
      · have hi2 : i = ρ.1 := by have := hw.1; rw [hgo] at this; exact this
        rw [hgo]
        subst hi2
        exact ⟨by simp [zw_s, hq1], by simp [zw_s, hq2], by simp [zw_s, hq3], fun s hs => by have := hq4 s hs; simp [zw_s, this]⟩
    · refine zx_aload_n dX11_readPlan_246 rfl ?_
      refine zy_geti dX11_readPlan_247 fX11_56 ((show _ = zn_I ((σ.1 : Int) - 1) from by simp [zw_s, hq1])) ?_
      refine zy_if_le (tgt := 265) dX11_readPlan_250 (by decide) (by omega) (fun h_250 => ?_) (fun h_250 => ?_)
      · refine zx_iconst (v := zn_I 0) dX11_readPlan_265 rfl ?_
        refine zx_putz dX11_readPlan_266 fX11_72 rfl rfl ?_
        refine zx_vret (st := []) dX11_readPlan_269 rfl ?_
        refine ⟨rfl, mf_f (mf_f (mf_mono hf (by decide)) (by decide)) (by decide), by rw [hgo]; simp [zw_s], ?_, fun hw => ?_⟩
        · simp only [zw_s, and_self, if_true]
          unfold zq_whole
          rw [hgo]
          dsimp only
          first | exact zn_Bt (by omega) | exact zn_Bf (by omega)
        · have hi2 : i = ρ.1 := by have := hw.1; rw [hgo] at this; exact this
          rw [hgo]
          subst hi2
          exact ⟨by simp [zw_s, hq1], by simp [zw_s, hq2], by simp [zw_s, hq3], fun s hs => by have := hq4 s hs; simp [zw_s, this]⟩
      · refine zx_iload_n dX11_readPlan_253 rfl ?_
        refine zx_aload_n dX11_readPlan_254 rfl ?_
        refine zy_geti dX11_readPlan_255 fX11_59 ((show _ = zn_I (σ.2.1 : Int) from by simp [zw_s, hq2])) ?_
        refine zy_icmp_ne (tgt := 265) dX11_readPlan_258 (by decide) (by omega) (fun h_258 => ?_) (fun h_258 => ?_)
        · refine zx_iconst (v := zn_I 0) dX11_readPlan_265 rfl ?_
          refine zx_putz dX11_readPlan_266 fX11_72 rfl rfl ?_
          refine zx_vret (st := []) dX11_readPlan_269 rfl ?_
          refine ⟨rfl, mf_f (mf_f (mf_mono hf (by decide)) (by decide)) (by decide), by rw [hgo]; simp [zw_s], ?_, fun hw => ?_⟩
          · simp only [zw_s, and_self, if_true]
            unfold zq_whole
            rw [hgo]
            dsimp only
            first | exact zn_Bt (by omega) | exact zn_Bf (by omega)
          · have hi2 : i = ρ.1 := by have := hw.1; rw [hgo] at this; exact this
            rw [hgo]
            subst hi2
            exact ⟨by simp [zw_s, hq1], by simp [zw_s, hq2], by simp [zw_s, hq3], fun s hs => by have := hq4 s hs; simp [zw_s, this]⟩
        · refine zx_iconst (v := zn_I 1) dX11_readPlan_261 rfl ?_
          refine zx_goto (tgt := 266) dX11_readPlan_262 (by decide) ?_
          refine zx_putz dX11_readPlan_266 fX11_72 rfl rfl ?_
          refine zx_vret (st := []) dX11_readPlan_269 rfl ?_
          refine ⟨rfl, mf_f (mf_f (mf_mono hf (by decide)) (by decide)) (by decide), by rw [hgo]; simp [zw_s], ?_, fun hw => ?_⟩
          · simp only [zw_s, and_self, if_true]
            unfold zq_whole
            rw [hgo]
            dsimp only
            first | exact zn_Bt (by omega) | exact zn_Bf (by omega)
          · have hi2 : i = ρ.1 := by have := hw.1; rw [hgo] at this; exact this
            rw [hgo]
            subst hi2
            exact ⟨by simp [zw_s, hq1], by simp [zw_s, hq2], by simp [zw_s, hq3], fun s hs => by have := hq4 s hs; simp [zw_s, this]⟩
  have loop : ∀ i : Nat, i ≤ ρ.1 → ∀ (M1 : zw_M) (σ : zA) (v4 v5 v6 v7 v8 : Value), mfr [39] [15, 16, 17] M M1 → zq_go ρ i = (i, σ) → mqk σ (zr_k ρ i) → mq M1 ρ i σ → zw_X l (d + 1) iX11_readPlan (fun v M1 => v = none ∧ mfr [39] [13, 14, 15, 16, 17] M M1 ∧ M1.1 33 13 = zn_I (zq_go ρ ρ.1).1 ∧ M1.1 33 14 = zn_B (zq_whole ρ) ∧ (zq_whole ρ → mq M1 ρ ρ.1 (zq_go ρ ρ.1).2)) 21 [.ref 33, .int (zn_I (σ.2.2 : Int)), .int (zn_I (i : Int)), .int (zn_I 1), v4, v5, v6, v7, v8] [] M1 := by
    refine zw_loop ρ.1 (P := fun i => ∀ (M1 : zw_M) (σ : zA) (v4 v5 v6 v7 v8 : Value), mfr [39] [15, 16, 17] M M1 → zq_go ρ i = (i, σ) → mqk σ (zr_k ρ i) → mq M1 ρ i σ → zw_X l (d + 1) iX11_readPlan (fun v M1 => v = none ∧ mfr [39] [13, 14, 15, 16, 17] M M1 ∧ M1.1 33 13 = zn_I (zq_go ρ ρ.1).1 ∧ M1.1 33 14 = zn_B (zq_whole ρ) ∧ (zq_whole ρ → mq M1 ρ ρ.1 (zq_go ρ ρ.1).2)) 21 [.ref 33, .int (zn_I (σ.2.2 : Int)), .int (zn_I (i : Int)), .int (zn_I 1), v4, v5, v6, v7, v8] [] M1) (fun i hi ih M1 σ v4 v5 v6 v7 v8 hf hgo hkk hq => ?_)
    obtain ⟨hq1, hq2, hq3, hq4⟩ := id hq
    obtain ⟨hok, hk2, hk3, hk4⟩ := id hkk
    have hok2 := hok
    unfold zq_ok at hok
    refine zx_iload_n dX11_readPlan_21 rfl ?_
    refine zx_aload_n dX11_readPlan_22 rfl ?_
    refine zy_geti dX11_readPlan_23 fX11_52 ((show _ = zn_I (ρ.1 : Int) from by rw [(hf.2 11 (by decide)).1]; exact hG.2.1)) ?_
    refine zy_icmp_ge (tgt := 232) dX11_readPlan_26 (by decide) (by omega) (fun h_26 => ?_) (fun h_26 => ?_)
    · have ei : i = ρ.1 := by omega
      exact JE M1 i σ 1 _ _ _ _ _ hf (by rw [← ei]; exact hgo) hi hq hok2
    · have hc : ρ.2 i ≤ 126 := (hG.2.2.2 i (by omega)).2
      obtain ⟨hsq, hrw, hno⟩ := mq_take hkk (ρ.2 i)
      have hgo1 : (zq_go ρ i).1 = i := by rw [hgo]
      have hgo2 : (zq_go ρ i).2 = σ := by rw [hgo]
      have J8 : ∀ (x1 x2 : Value), zw_X l (d + 1) iX11_readPlan (fun v M1 => v = none ∧ mfr [39] [13, 14, 15, 16, 17] M M1 ∧ M1.1 33 13 = zn_I (zq_go ρ ρ.1).1 ∧ M1.1 33 14 = zn_B (zq_whole ρ) ∧ (zq_whole ρ → mq M1 ρ ρ.1 (zq_go ρ ρ.1).2)) 136 [.ref 33, .int (zn_I (σ.2.2 : Int)), .int (zn_I (i : Int)), .int (zn_I 1), .int (zn_I (ρ.2 i : Nat)), x1, x2, .int (zn_B (mq_sq σ (ρ.2 i))), .int (zn_B (mq_rw σ (ρ.2 i)))] [] M1 := by
        intro x1 x2
        refine zx_iload dX11_readPlan_136 rfl ?_
        refine zy_ifB_ne (tgt := 146) dX11_readPlan_138 (by decide) (fun h_138 => ?_) (fun h_138 => ?_)
        · refine zx_iconst (v := zn_I 1) dX11_readPlan_146 rfl ?_
          refine zx_goto (tgt := 151) dX11_readPlan_147 (by decide) ?_
          refine zx_istore_n dX11_readPlan_151 rfl (Nat.le_of_ble_eq_true rfl) ?_
          refine zx_iload dX11_readPlan_152 rfl ?_
          refine zy_ifB_eq (tgt := 195) dX11_readPlan_154 (by decide) (fun h_154 => ?_) (fun h_154 => ?_)
          · exact absurd h_138 h_154
          · refine zx_aload_n dX11_readPlan_157 rfl ?_
            refine zx_getr dX11_readPlan_158 fX11_26 ?_
            refine zx_aload_n dX11_readPlan_161 rfl ?_
            refine zy_geti dX11_readPlan_162 fX11_62 ((show _ = zn_I (zr_k ρ i : Nat) from by simp [zw_s, hq3])) ?_
            refine zx_iload dX11_readPlan_165 rfl ?_
            refine zx_bipush (v := zn_I 46) dX11_readPlan_167 (by decide) ?_
            refine zy_icmp_ne (tgt := 176) dX11_readPlan_169 (by decide) (by omega) (fun h_169 => ?_) (fun h_169 => ?_)
            · refine zx_iload dX11_readPlan_176 rfl ?_
              refine zx_bipush (v := zn_I 48) dX11_readPlan_178 (by decide) ?_
              refine zy_isub dX11_readPlan_180 ?_
              rw [show ((ρ.2 i : Nat) : Int) - 48 = zr_g (ρ.2 i) by rw [zr_g, if_neg (by omega)]]
              refine zy_iast (i := zr_k ρ i) dX11_readPlan_181 rfl (by decide) (by omega) (by have := (hsq h_138).2.2; omega) ?_
              refine zx_aload_n dX11_readPlan_182 rfl ?_
              refine zx_dup dX11_readPlan_183 rfl ?_
              refine zy_geti dX11_readPlan_184 fX11_62 ((show _ = zn_I (zr_k ρ i : Nat) from by simp [zw_s, hq3])) ?_
              refine zx_iconst (v := zn_I 1) dX11_readPlan_187 rfl ?_
              refine zy_iadd dX11_readPlan_188 ?_
              refine zx_puti dX11_readPlan_189 fX11_62 ?_
              refine zy_iinc dX11_readPlan_192 rfl rfl ?_
              refine zx_iload dX11_readPlan_195 rfl ?_
              refine zy_ifB_eq (tgt := 217) dX11_readPlan_197 (by decide) (fun h_197 => ?_) (fun h_197 => ?_)
              · refine zx_iload_n dX11_readPlan_217 rfl ?_
                refine zx_iload_n dX11_readPlan_218 rfl ?_
                refine zy_if_eq (tgt := 226) dX11_readPlan_219 (by decide) (by omega) (fun h_219 => ?_) (fun h_219 => ?_)
                · exact absurd h_219 (by decide)
                · refine zx_iconst (v := zn_I 1) dX11_readPlan_222 rfl ?_
                  refine zx_goto (tgt := 227) dX11_readPlan_223 (by decide) ?_
                  refine zy_iadd dX11_readPlan_227 ?_
                  refine zx_istore_n dX11_readPlan_228 rfl (Nat.le_of_ble_eq_true rfl) ?_
                  refine zx_goto (tgt := 21) dX11_readPlan_229 (by decide) ?_
                  have hkn : zr_k ρ (i + 1) = zr_k ρ i + 1 := by rw [zr_k, if_neg (by omega)]
                  refine ih (by omega) (zw_s (zw_s M1 39 (zr_k ρ i) (zn_I (zr_g (ρ.2 i)))) 33 17 (zn_I ((zr_k ρ i : Int) + 1))) (σ.1, σ.2.1, σ.2.2 + 1) _ _ _ _ _ (mf_f (mf_s hf (by decide) (by decide)) (by decide)) (zq_go_next hgo1 (by rw [hgo2]; exact (hsq h_138).1)) (by rw [hkn]; exact (hsq h_138).2.1) ⟨by simp [zw_s, hq1], by simp [zw_s, hq2], by rw [hkn]; simp [zw_s], fun s hs => ?_⟩
                  rw [hkn] at hs
                  rw [zr_H, if_neg (by omega)]
                  by_cases e : s = zr_k ρ i
                  · subst e; simp [zw_s]
                  · have h1 := hq4 s (by omega)
                    simp [zw_s, e, h1]
              · exact absurd h_197.1 (by omega)
            · refine zx_iconst (v := zn_I 0) dX11_readPlan_172 rfl ?_
              refine zx_goto (tgt := 181) dX11_readPlan_173 (by decide) ?_
              rw [show (0 : Int) = zr_g (ρ.2 i) by rw [zr_g, if_pos (by omega)]]
              refine zy_iast (i := zr_k ρ i) dX11_readPlan_181 rfl (by decide) (by omega) (by have := (hsq h_138).2.2; omega) ?_
              refine zx_aload_n dX11_readPlan_182 rfl ?_
              refine zx_dup dX11_readPlan_183 rfl ?_
              refine zy_geti dX11_readPlan_184 fX11_62 ((show _ = zn_I (zr_k ρ i : Nat) from by simp [zw_s, hq3])) ?_
              refine zx_iconst (v := zn_I 1) dX11_readPlan_187 rfl ?_
              refine zy_iadd dX11_readPlan_188 ?_
              refine zx_puti dX11_readPlan_189 fX11_62 ?_
              refine zy_iinc dX11_readPlan_192 rfl rfl ?_
              refine zx_iload dX11_readPlan_195 rfl ?_
              refine zy_ifB_eq (tgt := 217) dX11_readPlan_197 (by decide) (fun h_197 => ?_) (fun h_197 => ?_)
              · refine zx_iload_n dX11_readPlan_217 rfl ?_
                refine zx_iload_n dX11_readPlan_218 rfl ?_
                refine zy_if_eq (tgt := 226) dX11_readPlan_219 (by decide) (by omega) (fun h_219 => ?_) (fun h_219 => ?_)
                · exact absurd h_219 (by decide)
                · refine zx_iconst (v := zn_I 1) dX11_readPlan_222 rfl ?_
                  refine zx_goto (tgt := 227) dX11_readPlan_223 (by decide) ?_
                  refine zy_iadd dX11_readPlan_227 ?_
                  refine zx_istore_n dX11_readPlan_228 rfl (Nat.le_of_ble_eq_true rfl) ?_
                  refine zx_goto (tgt := 21) dX11_readPlan_229 (by decide) ?_
                  have hkn : zr_k ρ (i + 1) = zr_k ρ i + 1 := by rw [zr_k, if_neg (by omega)]
                  refine ih (by omega) (zw_s (zw_s M1 39 (zr_k ρ i) (zn_I (zr_g (ρ.2 i)))) 33 17 (zn_I ((zr_k ρ i : Int) + 1))) (σ.1, σ.2.1, σ.2.2 + 1) _ _ _ _ _ (mf_f (mf_s hf (by decide) (by decide)) (by decide)) (zq_go_next hgo1 (by rw [hgo2]; exact (hsq h_138).1)) (by rw [hkn]; exact (hsq h_138).2.1) ⟨by simp [zw_s, hq1], by simp [zw_s, hq2], by rw [hkn]; simp [zw_s], fun s hs => ?_⟩
                  rw [hkn] at hs
                  rw [zr_H, if_neg (by omega)]
                  by_cases e : s = zr_k ρ i
                  · subst e; simp [zw_s]
                  · have h1 := hq4 s (by omega)
                    simp [zw_s, e, h1]
              · exact absurd h_197.1 (by omega)
        · refine zx_iload dX11_readPlan_141 rfl ?_
          refine zy_ifB_eq (tgt := 150) dX11_readPlan_143 (by decide) (fun h_143 => ?_) (fun h_143 => ?_)
          · refine zx_iconst (v := zn_I 0) dX11_readPlan_150 rfl ?_
            refine zx_istore_n dX11_readPlan_151 rfl (Nat.le_of_ble_eq_true rfl) ?_
            refine zx_iload dX11_readPlan_152 rfl ?_
            refine zy_ifB_eq (tgt := 195) dX11_readPlan_154 (by decide) (fun h_154 => ?_) (fun h_154 => ?_)
            · refine zx_iload dX11_readPlan_195 rfl ?_
              refine zy_ifB_eq (tgt := 217) dX11_readPlan_197 (by decide) (fun h_197 => ?_) (fun h_197 => ?_)
              · refine zx_iload_n dX11_readPlan_217 rfl ?_
                refine zx_iload_n dX11_readPlan_218 rfl ?_
                refine zy_if_eq (tgt := 226) dX11_readPlan_219 (by decide) (by omega) (fun h_219 => ?_) (fun h_219 => ?_)
                · refine zx_iconst (v := zn_I 0) dX11_readPlan_226 rfl ?_
                  refine zy_iadd dX11_readPlan_227 ?_
                  refine zx_istore_n dX11_readPlan_228 rfl (Nat.le_of_ble_eq_true rfl) ?_
                  refine zx_goto (tgt := 21) dX11_readPlan_229 (by decide) ?_
                  refine zx_iload_n dX11_readPlan_21 rfl ?_
                  refine zx_aload_n dX11_readPlan_22 rfl ?_
                  refine zy_geti dX11_readPlan_23 fX11_52 (show _ = zn_I (ρ.1 : Int) from by rw [(hf.2 11 (by decide)).1]; exact hG.2.1) ?_
                  refine zy_icmp_ge (tgt := 232) dX11_readPlan_26 (by decide) (by omega) (fun h_26b => absurd h_26b (by omega)) (fun h_26b => ?_)
                  refine zx_iload_n dX11_readPlan_29 rfl ?_
                  refine zy_if_eq (tgt := 232) dX11_readPlan_30 (by decide) (by omega) (fun h_30b => ?_) (fun h_30b => absurd rfl h_30b)
                  rw [Int.add_zero]
                  exact JE M1 i σ 0 _ _ _ _ _ hf (by rw [mq_stop hgo1 (by rw [hgo2]; exact hno h_138 h_143) hi, hgo]) hi hq hok2
                · exact absurd rfl h_219
              · exact absurd h_197 h_143
            · exact absurd h_154 h_138
          · refine zx_iconst (v := zn_I 1) dX11_readPlan_146 rfl ?_
            refine zx_goto (tgt := 151) dX11_readPlan_147 (by decide) ?_
            refine zx_istore_n dX11_readPlan_151 rfl (Nat.le_of_ble_eq_true rfl) ?_
            refine zx_iload dX11_readPlan_152 rfl ?_
            refine zy_ifB_eq (tgt := 195) dX11_readPlan_154 (by decide) (fun h_154 => ?_) (fun h_154 => ?_)
            · refine zx_iload dX11_readPlan_195 rfl ?_
              refine zy_ifB_eq (tgt := 217) dX11_readPlan_197 (by decide) (fun h_197 => ?_) (fun h_197 => ?_)
              · exact absurd h_143 h_197
              · refine zx_aload_n dX11_readPlan_200 rfl ?_
                refine zx_iload_n dX11_readPlan_201 rfl ?_
                refine zx_puti dX11_readPlan_202 fX11_59 ?_
                refine zx_aload_n dX11_readPlan_205 rfl ?_
                refine zx_dup dX11_readPlan_206 rfl ?_
                refine zy_geti dX11_readPlan_207 fX11_56 ((show _ = zn_I ((σ.1 : Int) - 1) from by simp [zw_s, hq1])) ?_
                refine zx_iconst (v := zn_I 1) dX11_readPlan_210 rfl ?_
                refine zy_iadd dX11_readPlan_211 ?_
                refine zx_puti dX11_readPlan_212 fX11_56 ?_
                refine zx_iconst (v := zn_I 0) dX11_readPlan_215 rfl ?_
                refine zx_istore_n dX11_readPlan_216 rfl (Nat.le_of_ble_eq_true rfl) ?_
                refine zx_iload_n dX11_readPlan_217 rfl ?_
                refine zx_iload_n dX11_readPlan_218 rfl ?_
                refine zy_if_eq (tgt := 226) dX11_readPlan_219 (by decide) (by omega) (fun h_219 => ?_) (fun h_219 => ?_)
                · exact absurd h_219 (by decide)
                · refine zx_iconst (v := zn_I 1) dX11_readPlan_222 rfl ?_
                  refine zx_goto (tgt := 227) dX11_readPlan_223 (by decide) ?_
                  refine zy_iadd dX11_readPlan_227 ?_
                  refine zx_istore_n dX11_readPlan_228 rfl (Nat.le_of_ble_eq_true rfl) ?_
                  refine zx_goto (tgt := 21) dX11_readPlan_229 (by decide) ?_
                  have hkn : zr_k ρ (i + 1) = zr_k ρ i := by rw [zr_k, if_pos h_143.1]
                  have hH : zr_H ρ (i + 1) = zr_H ρ i := by rw [zr_H, if_pos h_143.1]
                  refine ih (by omega) (zw_s (zw_s M1 33 16 (zn_I (σ.2.2 : Int))) 33 15 (zn_I ((σ.1 : Int) - 1 + 1))) (σ.1 + 1, σ.2.2, 0) _ _ _ _ _ (mf_f (mf_f hf (by decide)) (by decide)) (zq_go_next hgo1 (by rw [hgo2]; exact (hrw h_143).1)) (by rw [hkn]; exact (hrw h_143).2) ⟨?_, by simp [zw_s], by rw [hkn]; simp [zw_s, hq3], fun s hs => ?_⟩
                  · simp only [zw_s, and_self, if_true]
                    exact congrArg zn_I (by show (σ.1 : Int) - 1 + 1 = ((σ.1 + 1 : Nat) : Int) - 1; omega)
                  · rw [hkn] at hs
                    rw [hH]
                    have h1 := hq4 s hs
                    simp [zw_s, h1]
            · exact absurd h_154 h_138
      have J7 : ∀ (v8 : Value), zw_X l (d + 1) iX11_readPlan (fun v M1 => v = none ∧ mfr [39] [13, 14, 15, 16, 17] M M1 ∧ M1.1 33 13 = zn_I (zq_go ρ ρ.1).1 ∧ M1.1 33 14 = zn_B (zq_whole ρ) ∧ (zq_whole ρ → mq M1 ρ ρ.1 (zq_go ρ ρ.1).2)) 108 [.ref 33, .int (zn_I (σ.2.2 : Int)), .int (zn_I (i : Int)), .int (zn_I 1), .int (zn_I (ρ.2 i : Nat)), .int (zn_I (if σ.1 = 1 then 6 else (σ.2.1 : Int))), .int (zn_I (if σ.1 = 1 then 2 else (σ.2.1 : Int))), .int (zn_B (mq_sq σ (ρ.2 i))), v8] [] M1 := by
        intro v8
        refine zx_iload dX11_readPlan_108 rfl ?_
        refine zx_bipush (v := zn_I 47) dX11_readPlan_110 (by decide) ?_
        refine zy_icmp_ne (tgt := 133) dX11_readPlan_112 (by decide) (by omega) (fun h_112 => ?_) (fun h_112 => ?_)
        · refine zx_iconst (v := zn_I 0) dX11_readPlan_133 rfl ?_
          first | refine zy_top (zn_Bt (p := mq_rw σ (ρ.2 i)) (by first | omega | (split at h_118 <;> omega))) ?_ | refine zy_top (zn_Bf (p := mq_rw σ (ρ.2 i)) (by first | omega | (split at h_118 <;> omega))) ?_
          refine zx_istore dX11_readPlan_134 rfl (Nat.le_of_ble_eq_true rfl) ?_
          exact J8 _ _
        · refine zx_iload_n dX11_readPlan_115 rfl ?_
          refine zx_iload dX11_readPlan_116 rfl ?_
          refine zy_icmp_lt (tgt := 133) dX11_readPlan_118 (by decide) (by split <;> omega) (fun h_118 => ?_) (fun h_118 => ?_)
          · refine zx_iconst (v := zn_I 0) dX11_readPlan_133 rfl ?_
            first | refine zy_top (zn_Bt (p := mq_rw σ (ρ.2 i)) (by first | omega | (split at h_118 <;> omega))) ?_ | refine zy_top (zn_Bf (p := mq_rw σ (ρ.2 i)) (by first | omega | (split at h_118 <;> omega))) ?_
            refine zx_istore dX11_readPlan_134 rfl (Nat.le_of_ble_eq_true rfl) ?_
            exact J8 _ _
          · refine zx_aload_n dX11_readPlan_121 rfl ?_
            refine zy_geti dX11_readPlan_122 fX11_56 (hq1) ?_
            refine zx_iconst (v := zn_I 4) dX11_readPlan_125 rfl ?_
            refine zy_icmp_ge (tgt := 133) dX11_readPlan_126 (by decide) (by omega) (fun h_126 => ?_) (fun h_126 => ?_)
            · refine zx_iconst (v := zn_I 0) dX11_readPlan_133 rfl ?_
              first | refine zy_top (zn_Bt (p := mq_rw σ (ρ.2 i)) (by first | omega | (split at h_118 <;> omega))) ?_ | refine zy_top (zn_Bf (p := mq_rw σ (ρ.2 i)) (by first | omega | (split at h_118 <;> omega))) ?_
              refine zx_istore dX11_readPlan_134 rfl (Nat.le_of_ble_eq_true rfl) ?_
              exact J8 _ _
            · refine zx_iconst (v := zn_I 1) dX11_readPlan_129 rfl ?_
              refine zx_goto (tgt := 134) dX11_readPlan_130 (by decide) ?_
              first | refine zy_top (zn_Bt (p := mq_rw σ (ρ.2 i)) (by first | omega | (split at h_118 <;> omega))) ?_ | refine zy_top (zn_Bf (p := mq_rw σ (ρ.2 i)) (by first | omega | (split at h_118 <;> omega))) ?_
              refine zx_istore dX11_readPlan_134 rfl (Nat.le_of_ble_eq_true rfl) ?_
              exact J8 _ _
      have J6 : ∀ (v7 v8 : Value), zw_X l (d + 1) iX11_readPlan (fun v M1 => v = none ∧ mfr [39] [13, 14, 15, 16, 17] M M1 ∧ M1.1 33 13 = zn_I (zq_go ρ ρ.1).1 ∧ M1.1 33 14 = zn_B (zq_whole ρ) ∧ (zq_whole ρ → mq M1 ρ ρ.1 (zq_go ρ ρ.1).2)) 76 [.ref 33, .int (zn_I (σ.2.2 : Int)), .int (zn_I (i : Int)), .int (zn_I 1), .int (zn_I (ρ.2 i : Nat)), .int (zn_I (if σ.1 = 1 then 6 else (σ.2.1 : Int))), .int (zn_I (if σ.1 = 1 then 2 else (σ.2.1 : Int))), v7, v8] [] M1 := by
        intro v7 v8
        refine zx_iload dX11_readPlan_76 rfl ?_
        refine zx_bipush (v := zn_I 46) dX11_readPlan_78 (by decide) ?_
        refine zy_icmp_eq (tgt := 95) dX11_readPlan_80 (by decide) (by omega) (fun h_80 => ?_) (fun h_80 => ?_)
        · refine zx_iload_n dX11_readPlan_95 rfl ?_
          refine zx_iload dX11_readPlan_96 rfl ?_
          refine zy_icmp_ge (tgt := 105) dX11_readPlan_98 (by decide) (by split <;> omega) (fun h_98 => ?_) (fun h_98 => ?_)
          · refine zx_iconst (v := zn_I 0) dX11_readPlan_105 rfl ?_
            first | refine zy_top (zn_Bt (p := mq_sq σ (ρ.2 i)) (by first | omega | (split at h_98 <;> omega))) ?_ | refine zy_top (zn_Bf (p := mq_sq σ (ρ.2 i)) (by first | omega | (split at h_98 <;> omega))) ?_
            refine zx_istore dX11_readPlan_106 rfl (Nat.le_of_ble_eq_true rfl) ?_
            exact J7 _
          · refine zx_iconst (v := zn_I 1) dX11_readPlan_101 rfl ?_
            refine zx_goto (tgt := 106) dX11_readPlan_102 (by decide) ?_
            first | refine zy_top (zn_Bt (p := mq_sq σ (ρ.2 i)) (by first | omega | (split at h_98 <;> omega))) ?_ | refine zy_top (zn_Bf (p := mq_sq σ (ρ.2 i)) (by first | omega | (split at h_98 <;> omega))) ?_
            refine zx_istore dX11_readPlan_106 rfl (Nat.le_of_ble_eq_true rfl) ?_
            exact J7 _
        · refine zx_iload dX11_readPlan_83 rfl ?_
          refine zx_bipush (v := zn_I 49) dX11_readPlan_85 (by decide) ?_
          refine zx_bipush (v := zn_I 57) dX11_readPlan_87 (by decide) ?_
          refine zx_callS (y1 := iX11_within) dX11_readPlan_89 lX11_65 sX11_within (mX11_within (v := (ρ.2 i : Nat)) (a := 49) (b := 57) (by omega) (by omega) (by omega)) rfl rfl (Nat.le_of_ble_eq_true rfl) ?_
          refine zk_i ?_
          refine zy_ifB_eq (tgt := 105) dX11_readPlan_92 (by decide) (fun h_92 => ?_) (fun h_92 => ?_)
          · refine zx_iconst (v := zn_I 0) dX11_readPlan_105 rfl ?_
            first | refine zy_top (zn_Bt (p := mq_sq σ (ρ.2 i)) (by first | omega | (split at h_98 <;> omega))) ?_ | refine zy_top (zn_Bf (p := mq_sq σ (ρ.2 i)) (by first | omega | (split at h_98 <;> omega))) ?_
            refine zx_istore dX11_readPlan_106 rfl (Nat.le_of_ble_eq_true rfl) ?_
            exact J7 _
          · refine zx_iload_n dX11_readPlan_95 rfl ?_
            refine zx_iload dX11_readPlan_96 rfl ?_
            refine zy_icmp_ge (tgt := 105) dX11_readPlan_98 (by decide) (by split <;> omega) (fun h_98 => ?_) (fun h_98 => ?_)
            · refine zx_iconst (v := zn_I 0) dX11_readPlan_105 rfl ?_
              first | refine zy_top (zn_Bt (p := mq_sq σ (ρ.2 i)) (by first | omega | (split at h_98 <;> omega))) ?_ | refine zy_top (zn_Bf (p := mq_sq σ (ρ.2 i)) (by first | omega | (split at h_98 <;> omega))) ?_
              refine zx_istore dX11_readPlan_106 rfl (Nat.le_of_ble_eq_true rfl) ?_
              exact J7 _
            · refine zx_iconst (v := zn_I 1) dX11_readPlan_101 rfl ?_
              refine zx_goto (tgt := 106) dX11_readPlan_102 (by decide) ?_
              first | refine zy_top (zn_Bt (p := mq_sq σ (ρ.2 i)) (by first | omega | (split at h_98 <;> omega))) ?_ | refine zy_top (zn_Bf (p := mq_sq σ (ρ.2 i)) (by first | omega | (split at h_98 <;> omega))) ?_
              refine zx_istore dX11_readPlan_106 rfl (Nat.le_of_ble_eq_true rfl) ?_
              exact J7 _
      have J5 : ∀ (v6 v7 v8 : Value), zw_X l (d + 1) iX11_readPlan (fun v M1 => v = none ∧ mfr [39] [13, 14, 15, 16, 17] M M1 ∧ M1.1 33 13 = zn_I (zq_go ρ ρ.1).1 ∧ M1.1 33 14 = zn_B (zq_whole ρ) ∧ (zq_whole ρ → mq M1 ρ ρ.1 (zq_go ρ ρ.1).2)) 59 [.ref 33, .int (zn_I (σ.2.2 : Int)), .int (zn_I (i : Int)), .int (zn_I 1), .int (zn_I (ρ.2 i : Nat)), .int (zn_I (if σ.1 = 1 then 6 else (σ.2.1 : Int))), v6, v7, v8] [] M1 := by
        intro v6 v7 v8
        refine zx_aload_n dX11_readPlan_59 rfl ?_
        refine zy_geti dX11_readPlan_60 fX11_56 (hq1) ?_
        refine zy_if_ne (tgt := 70) dX11_readPlan_63 (by decide) (by omega) (fun h_63 => ?_) (fun h_63 => ?_)
        · refine zx_aload_n dX11_readPlan_70 rfl ?_
          refine zy_geti dX11_readPlan_71 fX11_59 (hq2) ?_
          refine zy_top (show _ = zn_I (if σ.1 = 1 then 2 else (σ.2.1 : Int)) from by rw [if_neg (by omega)]) ?_
          refine zx_istore dX11_readPlan_74 rfl (Nat.le_of_ble_eq_true rfl) ?_
          exact J6 _ _
        · refine zx_iconst (v := zn_I 2) dX11_readPlan_66 rfl ?_
          refine zx_goto (tgt := 74) dX11_readPlan_67 (by decide) ?_
          refine zy_top (show _ = zn_I (if σ.1 = 1 then 2 else (σ.2.1 : Int)) from by rw [if_pos (by omega)]) ?_
          refine zx_istore dX11_readPlan_74 rfl (Nat.le_of_ble_eq_true rfl) ?_
          exact J6 _ _
      refine zx_iload_n dX11_readPlan_29 rfl ?_
      refine zy_if_eq (tgt := 232) dX11_readPlan_30 (by decide) (by omega) (fun h_30 => ?_) (fun h_30 => ?_)
      · exact absurd h_30 (by decide)
      · refine zx_aload_n dX11_readPlan_33 rfl ?_
        refine zx_getr dX11_readPlan_34 fX11_22 ?_
        refine zx_iload_n dX11_readPlan_37 rfl ?_
        refine zy_bald dX11_readPlan_38 rfl (by decide) rfl (by omega) ((show _ = zn_I (ρ.2 i : Nat) from by rw [(hf.1 38 (by decide) (by decide)).1]; exact hG.2.2.1 i (by omega))) ?_
        refine zx_istore dX11_readPlan_39 rfl (Nat.le_of_ble_eq_true rfl) ?_
        refine zx_aload_n dX11_readPlan_41 rfl ?_
        refine zy_geti dX11_readPlan_42 fX11_56 (hq1) ?_
        refine zy_if_ne (tgt := 53) dX11_readPlan_45 (by decide) (by omega) (fun h_45 => ?_) (fun h_45 => ?_)
        · refine zx_aload_n dX11_readPlan_53 rfl ?_
          refine zy_geti dX11_readPlan_54 fX11_59 (hq2) ?_
          refine zy_top (show _ = zn_I (if σ.1 = 1 then 6 else (σ.2.1 : Int)) from by rw [if_neg (by omega)]) ?_
          refine zx_istore dX11_readPlan_57 rfl (Nat.le_of_ble_eq_true rfl) ?_
          exact J5 _ _ _
        · refine zx_bipush (v := zn_I 6) dX11_readPlan_48 (by decide) ?_
          refine zx_goto (tgt := 57) dX11_readPlan_50 (by decide) ?_
          refine zy_top (show _ = zn_I (if σ.1 = 1 then 6 else (σ.2.1 : Int)) from by rw [if_pos (by omega)]) ?_
          refine zx_istore dX11_readPlan_57 rfl (Nat.le_of_ble_eq_true rfl) ?_
          exact J5 _ _ _
  refine zx_aload_n dX11_readPlan_0 rfl ?_
  refine zx_iconst (v := zn_I 0) dX11_readPlan_1 rfl ?_
  refine zx_puti dX11_readPlan_2 fX11_56 ?_
  refine zx_aload_n dX11_readPlan_5 rfl ?_
  refine zx_iconst (v := zn_I 0) dX11_readPlan_6 rfl ?_
  refine zx_puti dX11_readPlan_7 fX11_59 ?_
  refine zx_aload_n dX11_readPlan_10 rfl ?_
  refine zx_iconst (v := zn_I 0) dX11_readPlan_11 rfl ?_
  refine zx_puti dX11_readPlan_12 fX11_62 ?_
  refine zx_iconst (v := zn_I 0) dX11_readPlan_15 rfl ?_
  refine zx_istore_n dX11_readPlan_16 rfl (Nat.le_of_ble_eq_true rfl) ?_
  refine zx_iconst (v := zn_I 0) dX11_readPlan_17 rfl ?_
  refine zx_istore_n dX11_readPlan_18 rfl (Nat.le_of_ble_eq_true rfl) ?_
  refine zx_iconst (v := zn_I 1) dX11_readPlan_19 rfl ?_
  refine zx_istore_n dX11_readPlan_20 rfl (Nat.le_of_ble_eq_true rfl) ?_
  exact loop 0 (by omega) _ (1, 0, 0) _ _ _ _ _ (mf_f (mf_f (mf_f mf_rf (by decide)) (by decide)) (by decide)) rfl ⟨by unfold zq_ok; dsimp only; omega, by dsimp only; omega, fun _ => rfl, rfl⟩ ⟨by simp [zw_s], by simp [zw_s], by simp [zw_s, zr_k], fun s hs => absurd hs (Nat.not_lt_zero _)⟩
set_option maxRecDepth 100000 in
set_option maxHeartbeats 600000 in
theorem mX11_fault {l : Launch} {d : Nat} {M : zw_M} {σ : zZ} (hJ : zJ_ M σ) {z : Int} (hzz : -2147483648 ≤ z ∧ z < 2147483648) : zw_C l (d + 2) iX11_fault [.ref 33, .int (zn_I z)] M (mO (zn_I (zk_fault σ z)) σ M) := by
  obtain ⟨hI, hT, hG, ⟨ha, hb, hc⟩, hM, hK⟩ := id hJ
  refine zw_of (by decide +kernel) (Nat.le_of_ble_eq_true rfl) ?_
  refine zy_loc (L1 := [.ref 33, .int (zn_I z)]) rfl ?_
  refine zx_iload_n dX11_fault_0 rfl ?_
  refine zx_iconst (v := zn_I 0) dX11_fault_1 rfl ?_
  refine zx_iconst (v := zn_I 1) dX11_fault_2 rfl ?_
  refine zx_callS (y1 := iX11_within) dX11_fault_3 lX11_65 sX11_within (mX11_within (v := z) (a := 0) (b := 1) (by omega) (by omega) (by omega)) rfl rfl (Nat.le_of_ble_eq_true rfl) ?_
  refine zk_i ?_
  refine zy_ifB_ne (tgt := 12) dX11_fault_6 (by decide) (fun h_6 => ?_) (fun h_6 => ?_)
  · refine zx_iload_n dX11_fault_12 rfl ?_
    refine zy_if_ne (tgt := 23) dX11_fault_13 (by decide) (by omega) (fun h_13 => ?_) (fun h_13 => ?_)
    · refine zx_aload_n dX11_fault_23 rfl ?_
      refine zx_callV (y1 := iX11_readWay) dX11_fault_24 lX11_83 vX11_readWay rc_33 (mX11_readWay hG) rfl rfl (Nat.le_of_ble_eq_true rfl) ?_
      intro v M1 he
      obtain ⟨rfl, hf, hq1, -⟩ := he
      refine zx_aload_n dX11_fault_27 rfl ?_
      refine zy_geti dX11_fault_28 fX11_69 (hq1) ?_
      refine zx_iret (st := []) dX11_fault_31 rfl rfl ?_
      exact mO_f (mf_mono hf (by decide)) (zJ_f hf hJ (by decide)) (by simp only [zk_fault, Int.toNat_natCast]; (repeat' split) <;> first | rfl | omega)
    · refine zx_aload_n dX11_fault_16 rfl ?_
      refine zx_callV (y1 := iX11_readPlan) dX11_fault_17 lX11_80 vX11_readPlan rc_33 (mX11_readPlan hG) rfl rfl (Nat.le_of_ble_eq_true rfl) ?_
      intro v M1 he
      obtain ⟨rfl, hf, hq1, -, -⟩ := he
      refine zx_goto (tgt := 27) dX11_fault_20 (by decide) ?_
      refine zx_aload_n dX11_fault_27 rfl ?_
      refine zy_geti dX11_fault_28 fX11_69 (hq1) ?_
      refine zx_iret (st := []) dX11_fault_31 rfl rfl ?_
      exact mO_f (mf_mono hf (by decide)) (zJ_f hf hJ (by decide)) (by simp only [zk_fault, Int.toNat_natCast]; (repeat' split) <;> first | rfl | omega)
  · refine zx_bipush (v := zn_I (-102)) dX11_fault_9 (by decide) ?_
    refine zx_iret (st := []) dX11_fault_11 rfl rfl ?_
    exact mO_i hJ (by simp only [zk_fault, Int.toNat_natCast]; (repeat' split) <;> first | rfl | omega)
set_option maxRecDepth 100000 in
set_option maxHeartbeats 600000 in
theorem mX11_plan {l : Launch} {d : Nat} {M : zw_M} {σ : zZ} (hJ : zJ_ M σ) : zw_C l (d + 2) iX11_plan [.ref 33] M (mO (zn_I (zk_plan σ)) (zk_planS σ) M) := by
  obtain ⟨hI, hT, hG, ⟨ha, hb, hc⟩, hM, hK⟩ := id hJ
  refine zw_of (by decide +kernel) (Nat.le_of_ble_eq_true rfl) ?_
  refine zy_loc (L1 := [.ref 33, .retAddr 0]) rfl ?_
  have lp : zq_whole σ.2.2.1 → ∀ k : Nat, k ≤ zp_n (zr_P σ.2.2.1) → ∀ M1 : zw_M, mfr [34, 39] [0, 1, 2, 13, 14, 15, 16, 17] M M1 → (M1.1 33 0 = zn_I ((zr_P σ.2.2.1).1 : Nat) ∧ M1.1 33 1 = zn_I ((zr_P σ.2.2.1).2.1 : Nat) ∧ M1.1 33 2 = zn_I (zp_n (zr_P σ.2.2.1) : Nat)) → (∀ s, s < zp_n (zr_P σ.2.2.1) → M1.1 39 s = zn_I ((zr_P σ.2.2.1).2.2 s)) → (∀ s, s < k → M1.1 34 s = zn_I ((zr_P σ.2.2.1).2.2 s)) → zw_X l (d + 2) iX11_plan (mO (zn_I (zk_plan σ)) (zk_planS σ) M) 42 [.ref 33, .int (zn_I (k : Int))] [] M1 := by
    intro hwh
    have hok0 := zq_go_ok σ.2.2.1 σ.2.2.1.1
    unfold zq_ok at hok0
    have h30 : zp_n (zr_P σ.2.2.1) ≤ 30 := zp_30 ⟨hok0.2.1, hok0.2.2.1⟩
    refine zw_loop (zp_n (zr_P σ.2.2.1)) (P := fun k => ∀ M1 : zw_M, mfr [34, 39] [0, 1, 2, 13, 14, 15, 16, 17] M M1 → (M1.1 33 0 = zn_I ((zr_P σ.2.2.1).1 : Nat) ∧ M1.1 33 1 = zn_I ((zr_P σ.2.2.1).2.1 : Nat) ∧ M1.1 33 2 = zn_I (zp_n (zr_P σ.2.2.1) : Nat)) → (∀ s, s < zp_n (zr_P σ.2.2.1) → M1.1 39 s = zn_I ((zr_P σ.2.2.1).2.2 s)) → (∀ s, s < k → M1.1 34 s = zn_I ((zr_P σ.2.2.1).2.2 s)) → zw_X l (d + 2) iX11_plan (mO (zn_I (zk_plan σ)) (zk_planS σ) M) 42 [.ref 33, .int (zn_I (k : Int))] [] M1) (fun k hk ih M1 hf h012 h39 h34 => ?_)
    refine zx_iload_n dX11_plan_42 rfl ?_
    refine zx_aload_n dX11_plan_43 rfl ?_
    refine zy_geti dX11_plan_44 fX11_92 ((show _ = zn_I (zp_n (zr_P σ.2.2.1) : Nat) from by simp [zw_s, h012.2.2])) ?_
    refine zy_icmp_ge (tgt := 68) dX11_plan_47 (by decide) (by omega) (fun h_47 => ?_) (fun h_47 => ?_)
    · refine zx_aload_n dX11_plan_68 rfl ?_
      refine zx_iconst (v := zn_I 0) dX11_plan_69 rfl ?_
      refine zx_puti dX11_plan_70 fX11_95 ?_
      refine zx_aload_n dX11_plan_73 rfl ?_
      refine zx_dup dX11_plan_74 rfl ?_
      refine zy_geti dX11_plan_75 fX11_98 ((show _ = zn_I (σ.2.2.2.1.1 : Nat) from by simp [zw_s, (hf.2 3 (by decide)).1, ha])) ?_
      refine zx_iconst (v := zn_I 1) dX11_plan_78 rfl ?_
      refine zy_iadd dX11_plan_79 ?_
      refine zx_puti dX11_plan_80 fX11_98 ?_
      refine zx_aload_n dX11_plan_83 rfl ?_
      refine zx_iconst (v := zn_I 0) dX11_plan_84 rfl ?_
      refine zx_puti dX11_plan_85 fX11_52 ?_
      refine zx_aload_n dX11_plan_88 rfl ?_
      refine zy_geti dX11_plan_89 fX11_92 ((show _ = zn_I (zp_n (zr_P σ.2.2.1) : Nat) from by simp [zw_s, h012.2.2])) ?_
      refine zx_iret (st := []) dX11_plan_92 rfl rfl ?_
      have hk : k = zp_n (zr_P σ.2.2.1) := by omega
      subst hk
      have hff : mfr [34, 39] [0, 1, 2, 3, 5, 11, 13, 14, 15, 16, 17] M (zw_s (zw_s (zw_s M1 33 5 (zn_I 0)) 33 3 (zn_I ((σ.2.2.2.1.1 : Int) + 1))) 33 11 (zn_I 0)) := mf_f (mf_f (mf_f (mf_mono hf (by decide)) (by decide)) (by decide)) (by decide)
      refine mO_f (mf_mono hff (by decide)) ?_ (by rw [zk_plan, if_pos hwh])
      rw [zk_planS, if_pos hwh]
      have hok := zq_go_ok σ.2.2.1 σ.2.2.1.1
      unfold zq_ok at hok
      refine ⟨⟨⟨hok.2.1, hok.2.2.1⟩, by simp [zw_s, h012.1], by simp [zw_s, h012.2.1], by simp [zw_s, h012.2.2], fun s hs => by have := h34 s hs; simp [zw_s, this], fun s hs => zr_H_rng hwh _ (Nat.le_refl _) s (by rw [zr_P_n hwh]; exact hs)⟩, ⟨by show 0 ≤ 8; omega, by simp [zw_s], fun t ht => absurd ht (Nat.not_lt_zero _), fun t ht => absurd ht (Nat.not_lt_zero _), fun t ht => absurd ht (Nat.not_lt_zero _), fun t ht => absurd ht (Nat.not_lt_zero _), fun t ht => absurd ht (Nat.not_lt_zero _), fun t ht => absurd ht (Nat.not_lt_zero _)⟩, mG_0 (by simp [zw_s]), ⟨by simp [zw_s], ?_, ?_⟩, ?_, ?_⟩
      · simp [zw_s, (hf.2 9 (by decide)).1, hb]
      · simp [zw_s, (hf.2 10 (by decide)).1, hc]
      · exact mM_f hff hM (by decide)
      · have hK2 := mK_f hff hK (by decide)
        revert hK2
        unfold mK
        intro hK2
        split at hK2
        · obtain ⟨w, p, w1, w2, w3, w4⟩ := hK2
          exact ⟨w, p, w1, w2, w3, by show w = 0 ∨ p < σ.2.2.2.1.1 + 1; omega⟩
        · obtain ⟨w1, w2, w3, w4⟩ := hK2
          exact ⟨1, σ.2.2.2.1.1, w1, Nat.le_refl _, w2, Or.inr (Nat.lt_succ_self _)⟩
    · refine zx_aload_n dX11_plan_50 rfl ?_
      refine zx_getr dX11_plan_51 fX11_7 ?_
      refine zx_iload_n dX11_plan_54 rfl ?_
      refine zx_aload_n dX11_plan_55 rfl ?_
      refine zx_getr dX11_plan_56 fX11_26 ?_
      refine zx_iload_n dX11_plan_59 rfl ?_
      refine zy_iald (i := k) dX11_plan_60 rfl (by decide) (by omega) (by omega) ((h39 k (by omega))) ?_
      refine zy_iast (i := k) dX11_plan_61 rfl (by decide) (by omega) (by omega) ?_
      refine zy_iinc dX11_plan_62 rfl rfl ?_
      refine zx_goto (tgt := 42) dX11_plan_65 (by decide) ?_
      refine ih (by omega) _ (mf_s hf (by decide) (by decide)) (by simpa [zw_s] using h012) (fun s hs => by have := h39 s hs; simp [zw_s, this]) (fun s hs => ?_)
      by_cases e : s = k
      · subst e; simp [zw_s]
      · have := h34 s (by omega)
        simp [zw_s, e, this]
  refine zx_aload_n dX11_plan_0 rfl ?_
  refine zx_callV (y1 := iX11_readPlan) dX11_plan_1 lX11_80 vX11_readPlan rc_33 (mX11_readPlan hG) rfl rfl (Nat.le_of_ble_eq_true rfl) ?_
  intro v M1 he
  obtain ⟨rfl, hf, hq1, hq2, hq3⟩ := he
  refine zx_aload_n dX11_plan_4 rfl ?_
  refine zy_geti dX11_plan_5 fX11_72 (hq2) ?_
  refine zy_ifB_ne (tgt := 14) dX11_plan_8 (by decide) (fun h_8 => ?_) (fun h_8 => ?_)
  · refine zx_aload_n dX11_plan_14 rfl ?_
    refine zx_aload_n dX11_plan_15 rfl ?_
    refine zy_geti dX11_plan_16 fX11_56 ((hq3 h_8).1) ?_
    refine zx_iconst (v := zn_I 1) dX11_plan_19 rfl ?_
    refine zy_iadd dX11_plan_20 ?_
    refine zx_puti dX11_plan_21 fX11_86 ?_
    refine zx_aload_n dX11_plan_24 rfl ?_
    refine zx_aload_n dX11_plan_25 rfl ?_
    refine zy_geti dX11_plan_26 fX11_59 ((show _ = zn_I ((zq_go σ.2.2.1 σ.2.2.1.1).2.2.1 : Nat) from by simp [zw_s, (hq3 h_8).2.1])) ?_
    refine zx_puti dX11_plan_29 fX11_89 ?_
    refine zx_aload_n dX11_plan_32 rfl ?_
    refine zx_aload_n dX11_plan_33 rfl ?_
    refine zy_geti dX11_plan_34 fX11_62 ((show _ = zn_I (zr_k σ.2.2.1 σ.2.2.1.1 : Nat) from by simp [zw_s, (hq3 h_8).2.2.1])) ?_
    refine zx_puti dX11_plan_37 fX11_92 ?_
    refine zx_iconst (v := zn_I 0) dX11_plan_40 rfl ?_
    refine zx_istore_n dX11_plan_41 rfl (Nat.le_of_ble_eq_true rfl) ?_
    refine lp h_8 0 (Nat.zero_le _) _ (mf_f (mf_f (mf_f (mf_mono hf (by decide)) (by decide)) (by decide)) (by decide)) ⟨?_, by simp [zw_s]; rfl, ?_⟩ (fun s hs => ?_) (fun s hs => absurd hs (Nat.not_lt_zero _))
    · simp only [zw_s]
      simp
      rfl
    · simp only [zw_s]
      simp
      rw [zr_P_n h_8]
    · have := (hq3 h_8).2.2.2 s (by rw [zr_P_n h_8]; exact hs)
      simp [zw_s, this]
      rfl
  · refine zx_bipush (v := zn_I (-103)) dX11_plan_11 (by decide) ?_
    refine zx_iret (st := []) dX11_plan_13 rfl rfl ?_
    exact mO_f (mf_mono hf (by decide)) (by rw [zk_planS, if_neg h_8]; exact zJ_f hf hJ (by decide)) (by rw [zk_plan, if_neg h_8])
