/-! THE LAW: a plan is written and read -/
/-- the plan's writing at square c -/
def lV (M M1 : zw_M) (σ : zZ) (ρ : zR) (w r c : Nat) (σA : zA) : Prop := zw_fr (33 :: 34 :: zcl) M M1 ∧ zC_ M1 (σ.1, σ.2.1, ρ, σ.2.2.2) ∧ (M1.1 33 0 = zn_I r ∧ M1.1 33 1 = zn_I w) ∧ lW ρ w r c σA ∧ ∀ s, s < c → M1.1 34 s = zn_I (zr_H ρ ρ.1 s)
theorem lV_row {M M1 M2 : zw_M} {σ : zZ} {ρ : zR} {w r c : Nat} {σA : zA} {h : Nat} (hw : 2 ≤ w ∧ w ≤ 6) (hr : 2 ≤ r ∧ r ≤ 5) (hV : lV M M1 σ ρ w r c σA) (hh : M1.1 34 c = zn_I (h : Int)) (h0 : 0 < c) (hc : c < r * w) (hm : c % w = 0) (hp : 0 < σA.2.2) (hf : zw_fr zcl M1 M2) (hC : zC_ M2 (σ.1, σ.2.1, zg_put ρ 47 1, σ.2.2.2)) : ∃ σB, lV M M2 σ (zg_put ρ 47 1) w r c σB ∧ σB.2.2 < w ∧ M2.1 34 c = zn_I (h : Int) := by
  obtain ⟨hf0, hC0, hs, hW, hH⟩ := hV
  obtain ⟨σB, e1, e2, e3⟩ := lW_row hw hr hW h0 hc hm hp
  have e33 := (hf 33 (by decide)).1
  have e34 := (hf 34 (by decide)).1
  exact ⟨σB, ⟨zf_tr hf0 (zf_mono hf (by decide)), hC, by rw [e33]; exact hs, e1, fun s hs2 => by rw [e34, e3]; exact hH s hs2⟩, e2, by rw [e34]; exact hh⟩
theorem lV_sq {M M1 M2 : zw_M} {σ : zZ} {ρ : zR} {w r c x h : Nat} {σA : zA} (hw : 2 ≤ w ∧ w ≤ 6) (hV : lV M M1 σ ρ w r c σA) (hh : M1.1 34 c = zn_I (h : Int)) (hf1 : σA.2.2 < w) (hx : x = 46 ∨ (49 ≤ x ∧ x ≤ 57)) (hxh : zr_g x = (h : Int)) (hf : zw_fr zcl M1 M2) (hC : zC_ M2 (σ.1, σ.2.1, zg_put ρ x 1, σ.2.2.2)) : ∃ σB, lV M M2 σ (zg_put ρ x 1) w r (c + 1) σB ∧ 0 < σB.2.2 := by
  obtain ⟨hf0, hC0, hs, hW, hH⟩ := hV
  obtain ⟨σB, e1, e2, e3⟩ := lW_sq hw hW hf1 hx
  have e33 := (hf 33 (by decide)).1
  have e34 := (hf 34 (by decide)).1
  refine ⟨σB, ⟨zf_tr hf0 (zf_mono hf (by decide)), hC, by rw [e33]; exact hs, e1, fun s hs2 => ?_⟩, e2⟩
  rw [e34, e3]
  dsimp only
  by_cases q : s = c
  · rw [if_pos q, q, hh, hxh]
  · rw [if_neg q]
    exact hH s (by omega)
set_option maxRecDepth 100000 in
set_option maxHeartbeats 600000 in
theorem mL_plan {l : zw_Lh} {d : Nat} {M : zw_M} {σ : zZ} (hC : zC_ M σ) (hρ : σ.2.2.1.1 = 0) (hL : l.2.1 ≤ 260) {r w : Nat} (hr0 : r = 2 + lS l 0 % 4) (hw0 : w = 2 + lS l 0 / 8 % 5) : zw_C l (d + 6) iL_plan [.ref 0, .ref 37, .int (zn_I 0), .int (zn_I 5), .ref 33, .ref 34] M (fun v M1 => v = some (.int (zn_I 1)) ∧ zw_fr (33 :: 34 :: zcl) M M1 ∧ ∃ σ1 : zZ, zC_ M1 σ1 ∧ lA M1 σ1.1 ∧ σ1.1.1 = r ∧ σ1.1.2.1 = w ∧ σ1.2.1.1 = 0) := by
  refine zw_of (by decide +kernel) (Nat.le_of_ble_eq_true rfl) ?_
  refine zy_loc (L1 := [.ref 0, .ref 37, .int (zn_I 0), .int (zn_I 5), .ref 33, .ref 34, .retAddr 0, .retAddr 0, .retAddr 0]) rfl ?_
  have hw : 2 ≤ w ∧ w ≤ 6 := by omega
  have hr : 2 ≤ r ∧ r ≤ 5 := by omega
  have hn30 : r * w ≤ 30 := Nat.mul_le_mul hr.2 hw.2
  have loop : ∀ c : Nat, c ≤ r * w → ∀ (ρ : zR) (σA : zA) (M1 : zw_M) (v8 : Value), lV M M1 σ ρ w r c σA → (0 < c → 0 < σA.2.2) → zw_X l (d + 6) iL_plan (fun v M1 => v = some (.int (zn_I 1)) ∧ zw_fr (33 :: 34 :: zcl) M M1 ∧ ∃ σ1 : zZ, zC_ M1 σ1 ∧ lA M1 σ1.1 ∧ σ1.1.1 = r ∧ σ1.1.2.1 = w ∧ σ1.2.1.1 = 0) 37 [.ref 0, .ref 37, .int (zn_I 0), .int (zn_I 5), .ref 33, .ref 34, .int (zn_I 1), .int (zn_I (c : Int)), v8] [] M1 := by
    refine zw_loop (r * w) (P := fun c => ∀ (ρ : zR) (σA : zA) (M1 : zw_M) (v8 : Value), lV M M1 σ ρ w r c σA → (0 < c → 0 < σA.2.2) → zw_X l (d + 6) iL_plan (fun v M1 => v = some (.int (zn_I 1)) ∧ zw_fr (33 :: 34 :: zcl) M M1 ∧ ∃ σ1 : zZ, zC_ M1 σ1 ∧ lA M1 σ1.1 ∧ σ1.1.1 = r ∧ σ1.1.2.1 = w ∧ σ1.2.1.1 = 0) 37 [.ref 0, .ref 37, .int (zn_I 0), .int (zn_I 5), .ref 33, .ref 34, .int (zn_I 1), .int (zn_I (c : Int)), v8] [] M1) (fun c hc ih ρ σA M1 v8 hV hfp => ?_)
    have sq (hcn : c < r * w) : ∀ (ρ : zR) (σA : zA) (M1 : zw_M) (v8 : Value) (h : Nat), lV M M1 σ ρ w r c σA → M1.1 34 c = zn_I (h : Int) → σA.2.2 < w → h ≤ 9 → zw_X l (d + 6) iL_plan (fun v M1 => v = some (.int (zn_I 1)) ∧ zw_fr (33 :: 34 :: zcl) M M1 ∧ ∃ σ1 : zZ, zC_ M1 σ1 ∧ lA M1 σ1.1 ∧ σ1.1.1 = r ∧ σ1.1.2.1 = w ∧ σ1.2.1.1 = 0) 147 [.ref 0, .ref 37, .int (zn_I 0), .int (zn_I 5), .ref 33, .ref 34, .int (zn_I 1), .int (zn_I (c : Int)), v8] [] M1 := by
      intro ρ σA M1 v8 h hV hh hf1 h9
      obtain ⟨hf0, hC1, ⟨hs0, hs1⟩, hW, hH⟩ := id hV
      have h40 := lW_40 hr.2 hW (by omega)
      refine zx_aload_n dL_plan_147 rfl ?_
      refine zx_aload dL_plan_148 rfl ?_
      refine zx_iload dL_plan_150 rfl ?_
      refine zy_iald (i := c) dL_plan_152 rfl (by decide) (by omega) (by omega) (hh) ?_
      refine zy_if_ne (tgt := 161) dL_plan_153 (by decide) (by omega) (fun h_153 => ?_) (fun h_153 => ?_)
      · refine zx_bipush (v := zn_I 48) dL_plan_161 (by decide) ?_
        refine zx_aload dL_plan_163 rfl ?_
        refine zx_iload dL_plan_165 rfl ?_
        refine zy_iald (i := c) dL_plan_167 rfl (by decide) (by omega) (by omega) (hh) ?_
        refine zy_iadd dL_plan_168 ?_
        refine zy_top (show _ = zn_I ((48 + h : Nat) : Int) from congrArg zn_I (by omega)) ?_
        refine zx_callS (y1 := iL_put) dL_plan_169 lL_20 sL_put (mL_put hC1 (c := 48 + h) (by omega) (by omega) h40) rfl rfl (Nat.le_of_ble_eq_true rfl) ?_
        intro v M2 he
        obtain ⟨rfl, hf2, hC2⟩ := he
        obtain ⟨σB, hV2, hp2⟩ := lV_sq (x := 48 + h) hw hV hh hf1 (Or.inr ⟨by omega, by omega⟩) (by rw [zr_g, if_neg (by omega)]; omega) hf2 hC2
        refine zy_if_eq (tgt := 179) dL_plan_172 (by decide) (by omega) (fun h_172 => ?_) (fun h_172 => ?_)
        · exact absurd h_172 (by omega)
        · refine zx_iconst (v := zn_I 1) dL_plan_175 rfl ?_
          refine zx_goto (tgt := 180) dL_plan_176 (by decide) ?_
          refine zx_istore dL_plan_180 rfl (Nat.le_of_ble_eq_true rfl) ?_
          refine zy_iinc dL_plan_182 rfl rfl ?_
          refine zx_goto (tgt := 37) dL_plan_185 (by decide) ?_
          exact ih hcn _ _ _ _ hV2 (fun _ => hp2)
      · refine zx_bipush (v := zn_I 46) dL_plan_156 (by decide) ?_
        refine zx_goto (tgt := 169) dL_plan_158 (by decide) ?_
        refine zx_callS (y1 := iL_put) dL_plan_169 lL_20 sL_put (mL_put hC1 (c := 46) (by omega) (by omega) h40) rfl rfl (Nat.le_of_ble_eq_true rfl) ?_
        intro v M2 he
        obtain ⟨rfl, hf2, hC2⟩ := he
        obtain ⟨σB, hV2, hp2⟩ := lV_sq (x := 46) hw hV hh hf1 (Or.inl rfl) (by rw [zr_g, if_pos rfl]; omega) hf2 hC2
        refine zy_if_eq (tgt := 179) dL_plan_172 (by decide) (by omega) (fun h_172 => ?_) (fun h_172 => ?_)
        · exact absurd h_172 (by omega)
        · refine zx_iconst (v := zn_I 1) dL_plan_175 rfl ?_
          refine zx_goto (tgt := 180) dL_plan_176 (by decide) ?_
          refine zx_istore dL_plan_180 rfl (Nat.le_of_ble_eq_true rfl) ?_
          refine zy_iinc dL_plan_182 rfl rfl ?_
          refine zx_goto (tgt := 37) dL_plan_185 (by decide) ?_
          exact ih hcn _ _ _ _ hV2 (fun _ => hp2)
    have store (hcn : c < r * w) : ∀ (h : Nat) (v8 : Value), h ≤ 9 → zw_X l (d + 6) iL_plan (fun v M1 => v = some (.int (zn_I 1)) ∧ zw_fr (33 :: 34 :: zcl) M M1 ∧ ∃ σ1 : zZ, zC_ M1 σ1 ∧ lA M1 σ1.1 ∧ σ1.1.1 = r ∧ σ1.1.2.1 = w ∧ σ1.2.1.1 = 0) 117 [.ref 0, .ref 37, .int (zn_I 0), .int (zn_I 5), .ref 33, .ref 34, .int (zn_I 1), .int (zn_I (c : Int)), v8] [.int (zn_I (h : Int)), .int (zn_I (c : Int)), .ref 34] M1 := by
      intro h v8 h9
      obtain ⟨hf0, hC1, ⟨hs0, hs1⟩, hW, hH⟩ := id hV
      have h40 := lW_40 hr.2 hW (by omega)
      refine zy_iast (i := c) dL_plan_117 rfl (by decide) (by omega) (by omega) ?_
      have hV2 : lV M (zw_s M1 34 c (zn_I (h : Int))) σ ρ w r c σA := ⟨zf_s hf0 (by decide), zC_f (S := [34]) (zf_s zf_rf (by decide)) hC1 (by decide), ⟨by simp [zw_s, hs0], by simp [zw_s, hs1]⟩, hW, fun s hs2 => by simp [zw_s, show s ≠ c by omega, hH s hs2]⟩
      have hh2 : (zw_s M1 34 c (zn_I (h : Int))).1 34 c = zn_I (h : Int) := by simp [zw_s]
      refine zx_iload dL_plan_118 rfl ?_
      refine zy_if_eq (tgt := 179) dL_plan_120 (by decide) (by omega) (fun h_120 => ?_) (fun h_120 => ?_)
      · exact absurd h_120 (by omega)
      · refine zx_iload dL_plan_123 rfl ?_
        refine zy_if_eq (tgt := 147) dL_plan_125 (by decide) (by omega) (fun h_125 => ?_) (fun h_125 => ?_)
        · exact sq hcn _ _ _ _ _ hV2 hh2 (lJ_in hW.2.1 hw.1 (Or.inl (by omega))) h9
        · refine zx_iload dL_plan_128 rfl ?_
          refine zx_aload dL_plan_130 rfl ?_
          refine zx_iconst (v := zn_I 1) dL_plan_132 rfl ?_
          refine zy_iald (i := 1) dL_plan_133 rfl (by decide) (by omega) (by omega) ((show _ = zn_I (w : Int) from by simp [zw_s, hs1])) ?_
          refine zy_irem (a := c) (b := w) dL_plan_134 (by omega) ?_
          refine zy_if_gt (tgt := 147) dL_plan_135 (by decide) (by have := Nat.mod_lt c (show 0 < w by omega); omega) (fun h_135 => ?_) (fun h_135 => ?_)
          · exact sq hcn _ _ _ _ _ hV2 hh2 (lJ_in hW.2.1 hw.1 (Or.inr (by omega))) h9
          · refine zx_aload_n dL_plan_138 rfl ?_
            refine zx_bipush (v := zn_I 47) dL_plan_139 (by decide) ?_
            refine zx_callS (y1 := iL_put) dL_plan_141 lL_20 sL_put (mL_put hV2.2.1 (c := 47) (by decide) (by decide) h40) rfl rfl (Nat.le_of_ble_eq_true rfl) ?_
            intro v M2 he
            obtain ⟨rfl, hf2, hC2⟩ := he
            obtain ⟨σB, hV3, hf3, hh3⟩ := lV_row hw hr hV2 hh2 (by omega) hcn (by omega) (hfp (by omega)) hf2 hC2
            refine zy_if_eq (tgt := 179) dL_plan_144 (by decide) (by omega) (fun h_144 => ?_) (fun h_144 => ?_)
            · exact absurd h_144 (by omega)
            · exact sq hcn _ _ _ _ _ hV3 hh3 hf3 h9
    have fin_ (ec : r * w = c) : zw_X l (d + 6) iL_plan (fun v M1 => v = some (.int (zn_I 1)) ∧ zw_fr (33 :: 34 :: zcl) M M1 ∧ ∃ σ1 : zZ, zC_ M1 σ1 ∧ lA M1 σ1.1 ∧ σ1.1.1 = r ∧ σ1.1.2.1 = w ∧ σ1.2.1.1 = 0) 188 [.ref 0, .ref 37, .int (zn_I 0), .int (zn_I 5), .ref 33, .ref 34, .int (zn_I 1), .int (zn_I (c : Int)), v8] [] M1 := by
      subst ec
      obtain ⟨hf0, hC1, ⟨hs0, hs1⟩, hW, hH⟩ := id hV
      have hp2 := hfp (Nat.mul_pos (by omega) (by omega))
      obtain ⟨g1, g2, g3⟩ := lJ_end hw.1 hr.1 hW.2.1 hp2
      have hwh : zq_whole ρ := by
        show (zq_go ρ ρ.1).1 = ρ.1 ∧ 2 ≤ (zq_go ρ ρ.1).2.1 ∧ (zq_go ρ ρ.1).2.2.2 = (zq_go ρ ρ.1).2.2.1
        rw [hW.1.1]
        exact ⟨rfl, by dsimp only; omega, by dsimp only; omega⟩
      have hPr : zr_P ρ = (r, w, zr_H ρ ρ.1) := by
        unfold zr_P
        rw [hW.1.1]
        dsimp only
        rw [g1, g2]
      have hfa : zk_fault (σ.1, σ.2.1, ρ, σ.2.2.2) 0 = (ρ.1 : Int) := by
        rw [zk_fault, if_pos rfl]
        dsimp only
        rw [hW.1.1]
      have hca : zk_count (σ.1, σ.2.1, ρ, σ.2.2.2) 4 = (ρ.1 : Int) := by simp [zk_count]
      have hpa : zk_plan (σ.1, σ.2.1, ρ, σ.2.2.2) = ((r * w : Nat) : Int) := by
        rw [zk_plan, if_pos hwh]
        dsimp only
        rw [hPr]
        rfl
      have hS : zk_planS (σ.1, σ.2.1, ρ, σ.2.2.2) = (zr_P ρ, (0, σ.2.1.2), (0, ρ.2), (σ.2.2.2.1.1 + 1, σ.2.2.2.1.2), none) := by rw [zk_planS, if_pos hwh]
      have h40 := lW_40 hr.2 hW (by omega)
      refine zx_iload dL_plan_188 rfl ?_
      refine zy_if_eq (tgt := 226) dL_plan_190 (by decide) (by omega) (fun h_190 => ?_) (fun h_190 => ?_)
      · exact absurd h_190 (by omega)
      · refine zx_aload_n dL_plan_193 rfl ?_
        refine zx_iconst (v := zn_I 0) dL_plan_194 rfl ?_
        refine zx_callV (y1 := iX10_fault) dL_plan_195 lL_24 vX10_fault rc_0 (mX10_fault hC1 (z := 0) (by omega)) rfl rfl (Nat.le_of_ble_eq_true rfl) ?_
        intro v M2 he
        obtain ⟨rfl, hf2, hC2⟩ := he
        rw [hfa]
        refine zx_aload_n dL_plan_198 rfl ?_
        refine zx_iconst (v := zn_I 4) dL_plan_199 rfl ?_
        refine zx_callV (y1 := iX10_count) dL_plan_200 lL_28 vX10_count rc_0 (mX10_count hC2 (w := 4) (by omega)) rfl rfl (Nat.le_of_ble_eq_true rfl) ?_
        refine zk_i ?_
        rw [hca]
        refine zy_icmp_ne (tgt := 226) dL_plan_203 (by decide) (by omega) (fun h_203 => ?_) (fun h_203 => ?_)
        · exact absurd rfl h_203
        · refine zx_aload_n dL_plan_206 rfl ?_
          refine zx_callV (y1 := iX10_plan) dL_plan_207 lL_31 vX10_plan rc_0 (mX10_plan hC2) rfl rfl (Nat.le_of_ble_eq_true rfl) ?_
          intro v M3 he
          obtain ⟨rfl, hf3, hC3⟩ := he
          rw [hpa]
          have e33 : M3.1 33 = M1.1 33 := ((hf3 33 (by decide)).1).trans (hf2 33 (by decide)).1
          have e34 : M3.1 34 = M1.1 34 := ((hf3 34 (by decide)).1).trans (hf2 34 (by decide)).1
          refine zx_aload dL_plan_210 rfl ?_
          refine zx_iconst (v := zn_I 0) dL_plan_212 rfl ?_
          refine zy_iald (i := 0) dL_plan_213 rfl (by decide) (by omega) (by omega) ((show _ = zn_I (r : Int) from by rw [e33]; exact hs0)) ?_
          refine zx_aload dL_plan_214 rfl ?_
          refine zx_iconst (v := zn_I 1) dL_plan_216 rfl ?_
          refine zy_iald (i := 1) dL_plan_217 rfl (by decide) (by omega) (by omega) ((show _ = zn_I (w : Int) from by rw [e33]; exact hs1)) ?_
          refine zy_imul dL_plan_218 ?_
          rw [← Int.natCast_mul]
          refine zy_icmp_ne (tgt := 226) dL_plan_219 (by decide) (by omega) (fun h_219 => ?_) (fun h_219 => ?_)
          · exact absurd rfl h_219
          · refine zx_iconst (v := zn_I 1) dL_plan_222 rfl ?_
            refine zx_goto (tgt := 227) dL_plan_223 (by decide) ?_
            refine zx_iret (st := []) dL_plan_227 rfl rfl ?_
            refine ⟨rfl, zf_tr hf0 (zf_tr (zf_mono hf2 (by decide)) (zf_mono hf3 (by decide))), zk_planS (σ.1, σ.2.1, ρ, σ.2.2.2), hC3, ?_⟩
            rw [hS]
            dsimp only
            rw [hPr]
            exact ⟨⟨by rw [e33]; exact hs0, by rw [e33]; exact hs1, fun c hc => by rw [e34]; exact hH c hc⟩, rfl, rfl, rfl⟩
    obtain ⟨hf0, hC1, ⟨hs0, hs1⟩, hW, hH⟩ := id hV
    refine zx_iload dL_plan_37 rfl ?_
    refine zx_aload dL_plan_39 rfl ?_
    refine zx_iconst (v := zn_I 0) dL_plan_41 rfl ?_
    refine zy_iald (i := 0) dL_plan_42 rfl (by decide) (by omega) (by omega) (hs0) ?_
    refine zx_aload dL_plan_43 rfl ?_
    refine zx_iconst (v := zn_I 1) dL_plan_45 rfl ?_
    refine zy_iald (i := 1) dL_plan_46 rfl (by decide) (by omega) (by omega) (hs1) ?_
    refine zy_imul dL_plan_47 ?_
    rw [← Int.natCast_mul]
    refine zy_icmp_ge (tgt := 188) dL_plan_48 (by decide) (by omega) (fun h_48 => ?_) (fun h_48 => ?_)
    · have ec : r * w = c := by omega
      exact fin_ ec
    · have hcn : c < r * w := by omega
      refine zx_aload_n dL_plan_51 rfl ?_
      refine zx_iload_n dL_plan_52 rfl ?_
      refine zx_iconst (v := zn_I 1) dL_plan_53 rfl ?_
      refine zy_iadd dL_plan_54 ?_
      refine zx_iload dL_plan_55 rfl ?_
      refine zx_iconst (v := zn_I 5) dL_plan_57 rfl ?_
      refine zy_idiv (a := c) (b := 5) dL_plan_58 (by omega) ?_
      refine zy_iadd dL_plan_59 ?_
      refine zy_top (show _ = zn_I ((1 + c / 5 : Nat) : Int) from congrArg zn_I (by omega)) ?_
      refine zx_callS (y1 := iL_cell) dL_plan_60 lL_14 sL_cell (mL_cell hL (k := 1 + c / 5) (by omega)) rfl rfl (Nat.le_of_ble_eq_true rfl) ?_
      refine zk_i ?_
      refine zx_bipush (v := zn_I 6) dL_plan_63 (by decide) ?_
      refine zx_iload dL_plan_65 rfl ?_
      refine zx_iconst (v := zn_I 5) dL_plan_67 rfl ?_
      refine zy_irem (a := c) (b := 5) dL_plan_68 (by omega) ?_
      refine zy_imul dL_plan_69 ?_
      refine zx_ishr dL_plan_70 ?_
      refine zx_bipush (v := zn_I 63) dL_plan_71 (by decide) ?_
      refine zx_iand dL_plan_73 ?_
      refine zy_mask 63 (by decide) (fun v hv => ?_)
      refine zx_istore dL_plan_74 rfl (Nat.le_of_ble_eq_true rfl) ?_
      refine zx_aload dL_plan_76 rfl ?_
      refine zx_iload dL_plan_78 rfl ?_
      refine zx_iload dL_plan_80 rfl ?_
      refine zx_iconst (v := zn_I 3) dL_plan_82 rfl ?_
      refine zy_irem (a := v) (b := 3) dL_plan_83 (by omega) ?_
      refine zy_if_le (tgt := 91) dL_plan_84 (by decide) (by omega) (fun h_84 => ?_) (fun h_84 => ?_)
      · refine zx_iconst (v := zn_I 1) dL_plan_91 rfl ?_
        refine zx_iload dL_plan_92 rfl ?_
        refine zx_iconst (v := zn_I 3) dL_plan_94 rfl ?_
        refine zy_idiv (a := v) (b := 3) dL_plan_95 (by omega) ?_
        refine zx_aload_n dL_plan_96 rfl ?_
        refine zx_iload_n dL_plan_97 rfl ?_
        refine zx_callS (y1 := iL_cell) dL_plan_98 lL_14 sL_cell (mL_cell hL (k := 0) (by omega)) rfl rfl (Nat.le_of_ble_eq_true rfl) ?_
        refine zk_i ?_
        refine zx_bipush (v := zn_I 64) dL_plan_101 (by decide) ?_
        refine zy_idiv (a := lS l 0) (b := 64) dL_plan_103 (by have := lS_lt l 0; omega) ?_
        refine zx_iconst (v := zn_I 2) dL_plan_104 rfl ?_
        refine zy_irem (a := lS l 0 / 64) (b := 2) dL_plan_105 (by have := lS_lt l 0; omega) ?_
        refine zy_if_ne (tgt := 114) dL_plan_106 (by decide) (by omega) (fun h_106 => ?_) (fun h_106 => ?_)
        · refine zx_iconst (v := zn_I 3) dL_plan_114 rfl ?_
          refine zy_irem (a := v / 3) (b := 3) dL_plan_115 (by omega) ?_
          refine zy_iadd dL_plan_116 ?_
          refine zy_top (show _ = zn_I ((1 + v / 3 % 3 : Nat) : Int) from congrArg zn_I (by omega)) ?_
          exact store hcn (1 + v / 3 % 3) _ (by omega)
        · refine zx_bipush (v := zn_I 9) dL_plan_109 (by decide) ?_
          refine zx_goto (tgt := 115) dL_plan_111 (by decide) ?_
          refine zy_irem (a := v / 3) (b := 9) dL_plan_115 (by omega) ?_
          refine zy_iadd dL_plan_116 ?_
          refine zy_top (show _ = zn_I ((1 + v / 3 % 9 : Nat) : Int) from congrArg zn_I (by omega)) ?_
          exact store hcn (1 + v / 3 % 9) _ (by omega)
      · refine zx_iconst (v := zn_I 0) dL_plan_87 rfl ?_
        refine zx_goto (tgt := 117) dL_plan_88 (by decide) ?_
        exact store hcn 0 _ (by omega)
  refine zx_aload dL_plan_0 rfl ?_
  refine zx_iconst (v := zn_I 0) dL_plan_2 rfl ?_
  refine zx_iconst (v := zn_I 2) dL_plan_3 rfl ?_
  refine zx_aload_n dL_plan_4 rfl ?_
  refine zx_iload_n dL_plan_5 rfl ?_
  refine zx_callS (y1 := iL_cell) dL_plan_6 lL_14 sL_cell (mL_cell hL (k := 0) (by omega)) rfl rfl (Nat.le_of_ble_eq_true rfl) ?_
  refine zk_i ?_
  refine zx_iload_n dL_plan_9 rfl ?_
  refine zx_iconst (v := zn_I 1) dL_plan_10 rfl ?_
  refine zy_isub dL_plan_11 ?_
  refine zy_top (show _ = zn_I 4 from rfl) ?_
  refine zy_irem (a := lS l 0) (b := 4) dL_plan_12 (by have := lS_lt l 0; omega) ?_
  refine zy_iadd dL_plan_13 ?_
  refine zy_top (show _ = zn_I (r : Int) from congrArg zn_I (by omega)) ?_
  refine zy_iast (i := 0) dL_plan_14 rfl (by decide) (by omega) (by omega) ?_
  refine zx_aload dL_plan_15 rfl ?_
  refine zx_iconst (v := zn_I 1) dL_plan_17 rfl ?_
  refine zx_iconst (v := zn_I 2) dL_plan_18 rfl ?_
  refine zx_aload_n dL_plan_19 rfl ?_
  refine zx_iload_n dL_plan_20 rfl ?_
  refine zx_callS (y1 := iL_cell) dL_plan_21 lL_14 sL_cell (mL_cell hL (k := 0) (by omega)) rfl rfl (Nat.le_of_ble_eq_true rfl) ?_
  refine zk_i ?_
  refine zx_bipush (v := zn_I 8) dL_plan_24 (by decide) ?_
  refine zy_idiv (a := lS l 0) (b := 8) dL_plan_26 (by have := lS_lt l 0; omega) ?_
  refine zx_iload_n dL_plan_27 rfl ?_
  refine zy_irem (a := lS l 0 / 8) (b := 5) dL_plan_28 (by have := lS_lt l 0; omega) ?_
  refine zy_iadd dL_plan_29 ?_
  refine zy_top (show _ = zn_I (w : Int) from congrArg zn_I (by omega)) ?_
  refine zy_iast (i := 1) dL_plan_30 rfl (by decide) (by omega) (by omega) ?_
  refine zx_iconst (v := zn_I 1) dL_plan_31 rfl ?_
  refine zx_istore dL_plan_32 rfl (Nat.le_of_ble_eq_true rfl) ?_
  refine zx_iconst (v := zn_I 0) dL_plan_34 rfl ?_
  refine zx_istore dL_plan_35 rfl (Nat.le_of_ble_eq_true rfl) ?_
  exact loop 0 (Nat.zero_le _) σ.2.2.1 (1, 0, 0) (zw_s (zw_s M 33 0 (zn_I (r : Int))) 33 1 (zn_I (w : Int))) _ ⟨zf_s (zf_s zf_rf (by decide)) (by decide), zC_f (S := [33]) (zf_s (zf_s zf_rf (by decide)) (by decide)) hC (by decide), ⟨by simp [zw_s], by simp [zw_s]⟩, lW_0 hρ hr.1, fun s hs => absurd hs (Nat.not_lt_zero _)⟩ (fun q => absurd q (Nat.lt_irrefl _))
