/-! THE LAW: one act of twelve -/
theorem lB_at {M : zw_M} {τ : zQ} {k a q s : Nat} (hq : q < 8) (hB : lB M τ k) : lB (zw_s M 35 (10 * a + 2 + q) (zn_I (s : Nat))) (zt_at τ a q s) k := fun u hu => by
  obtain ⟨⟨h1, h2⟩, h3⟩ := hB u hu
  refine ⟨⟨?_, ?_⟩, fun v hv => ?_⟩
  · simp [zw_s, zt_at, zt_mv, show ¬ 10 * u = 10 * a + 2 + q by omega, h1]
  · simp [zw_s, zt_at, zt_mv, show ¬ 10 * u + 1 = 10 * a + 2 + q by omega, h2]
  · by_cases e : u = a
    · subst e
      by_cases e2 : v = q
      · subst e2; simp [zw_s, zt_at, zt_mv]
      · simp [zw_s, zt_at, zt_mv, e2, h3 v hv]
    · simp [zw_s, zt_at, zt_mv, e, show ¬ 10 * u + 2 + v = 10 * a + 2 + q by omega, h3 v hv]
theorem lB_same {M : zw_M} {τ : zQ} {k j : Nat} {x : Int32} (hB : lB M τ k) (hx : M.1 35 j = x) : lB (zw_s M 35 j x) τ k := by
  have e : (zw_s M 35 j x).1 35 = M.1 35 := by
    funext i
    by_cases q : i = j
    · subst q; simp [zw_s, hx]
    · simp [zw_s, q]
  unfold lB at hB ⊢
  rw [e]
  exact hB
theorem lI_35 {M M1 : zw_M} {σ : zZ} {τ : zQ} {m n : Nat} (hf : zw_fr (35 :: zcl) M M1) (hC : zC_ M1 (zst σ τ)) (hB : lB M1 τ m) (ht : τ.1 = m) (h : lI M σ m n) : lI M1 (zst σ τ) m n := ⟨hC, lA_f hf h.2.1 (by decide), hB, ht, h.2.2.2.2⟩
theorem zC_35 {M : zw_M} {σ : zZ} {j : Nat} {x : Int32} (hC : zC_ M σ) : zC_ (zw_s M 35 j x) σ := zC_f (S := [35]) (zf_s zf_rf (by decide)) hC (by decide)
set_option maxRecDepth 100000 in
set_option maxHeartbeats 600000 in
theorem lw_stand1 {l : zw_Lh} {σ : zZ} {m n : Nat} {M : zw_M} {u x a b q c : Nat} (hI : lI M σ m n) (hm6 : 1 ≤ m ∧ m ≤ 6) (ha : a < m) (hb : b < m) (hq : q < 8) (hc : c < n) (hper : zpers σ (a : Int)) (next : ∀ (σ2 : zZ) (M1 : zw_M), lI M1 σ2 m n → zw_X l 7 iL_law lQ 547 [.ref 37, .ref 0, .ref 33, .ref 34, .ref 35, .ref 36, .int (zn_I (n : Int)), .int (zn_I (m : Int)), .int (zn_I (u : Int)), .int (zn_I (x : Int)), .retAddr 0, .retAddr 0, .retAddr 0, .int (zn_I (c : Int)), .retAddr 0, .retAddr 0, .retAddr 0, .retAddr 0, .retAddr 0, .retAddr 0, .retAddr 0, .retAddr 0, .retAddr 0, .retAddr 0, .retAddr 0, .retAddr 0] [] M1) : zw_X l 7 iL_law lQ 256 [.ref 37, .ref 0, .ref 33, .ref 34, .ref 35, .ref 36, .int (zn_I (n : Int)), .int (zn_I (m : Int)), .int (zn_I (u : Int)), .int (zn_I (x : Int)), .int (zn_I (a : Int)), .int (zn_I (b : Int)), .int (zn_I (q : Int)), .int (zn_I (c : Int)), .int (zn_I 1), .retAddr 0, .retAddr 0, .retAddr 0, .retAddr 0, .retAddr 0, .retAddr 0, .retAddr 0, .retAddr 0, .retAddr 0, .retAddr 0, .retAddr 0] [] M := by
  obtain ⟨hC, hA, hB, hm, hn⟩ := id hI
  have h30 := zp_30 hC.1.1
  have hta := lk_in hI ha
  have htb := lk_in hI hb
  have hqu : zqu (q : Int) := ⟨by omega, by omega⟩
  have hhc : zhas σ (c : Int) := ⟨by omega, by omega⟩
  have hpa := hC.2.1.2.2.2.2.2.2.2 a (by omega) q hq
  have hpb := hC.2.1.2.2.2.2.2.2.2 b (by omega) q hq
  refine zx_aload dL_law_256 rfl ?_
  refine zx_bipush (v := zn_I 10) dL_law_258 (by decide) ?_
  refine zx_iload dL_law_260 rfl ?_
  refine zy_imul dL_law_262 ?_
  refine zx_iconst (v := zn_I 2) dL_law_263 rfl ?_
  refine zy_iadd dL_law_264 ?_
  refine zx_iload dL_law_265 rfl ?_
  refine zy_iadd dL_law_267 ?_
  refine zy_iald (i := 10 * a + 2 + q) dL_law_268 rfl (by decide) (by omega) (by omega) ((hB a ha).2 q hq) ?_
  refine zx_istore dL_law_269 rfl (Nat.le_of_ble_eq_true rfl) ?_
  refine zx_aload_n dL_law_271 rfl ?_
  refine zx_iload dL_law_272 rfl ?_
  refine zx_iload dL_law_274 rfl ?_
  refine zx_iload dL_law_276 rfl ?_
  refine zx_callV (y1 := iX10_stand) dL_law_278 lL_39 vX10_stand rc_0 (mX10_stand hC (z := (a : Int)) (q := (q : Int)) (s := (c : Int)) (by omega) (by omega) (by omega)) rfl rfl (Nat.le_of_ble_eq_true rfl) ?_
  intro v M2 he
  obtain ⟨rfl, hf2, hC2⟩ := he
  rw [show zk_stand σ (a : Int) (q : Int) (c : Int) = (σ.2.1.2.2.2 a q : Int) from by rw [zk_stand, if_neg (fun r => r ⟨hta, hqu, hhc⟩), if_neg (fun r => r hper), zpl, Int.toNat_natCast, Int.toNat_natCast]]
  rw [zk_standS, if_pos ⟨⟨hta, hqu, hhc⟩, hper⟩, Int.toNat_natCast, Int.toNat_natCast, Int.toNat_natCast] at hC2
  refine zx_iload dL_law_281 rfl ?_
  refine zy_if_eq (tgt := 291) dL_law_283 (by decide) (by omega) (fun h_283 => ?_) (fun h_283 => ?_)
  · exact absurd h_283 (by omega)
  · refine zx_iload dL_law_286 rfl ?_
    refine zx_goto (tgt := 293) dL_law_288 (by decide) ?_
    refine zy_icmp_eq (tgt := 298) dL_law_293 (by decide) (by omega) (fun h_293 => ?_) (fun h_293 => ?_)
    · refine zx_aload dL_law_298 rfl ?_
      refine zx_bipush (v := zn_I 10) dL_law_300 (by decide) ?_
      refine zx_iload dL_law_302 rfl ?_
      refine zy_imul dL_law_304 ?_
      refine zx_iconst (v := zn_I 2) dL_law_305 rfl ?_
      refine zy_iadd dL_law_306 ?_
      refine zx_iload dL_law_307 rfl ?_
      refine zy_iadd dL_law_309 ?_
      refine zx_iload dL_law_310 rfl ?_
      refine zy_if_eq (tgt := 320) dL_law_312 (by decide) (by omega) (fun h_312 => ?_) (fun h_312 => ?_)
      · exact absurd h_312 (by omega)
      · refine zx_iload dL_law_315 rfl ?_
        refine zx_goto (tgt := 322) dL_law_317 (by decide) ?_
        refine zy_iast (i := 10 * a + 2 + q) dL_law_322 rfl (by decide) (by omega) (by omega) ?_
        refine zx_goto (tgt := 547) dL_law_323 (by decide) ?_
        refine zx_weak (L1 := [.ref 37, .ref 0, .ref 33, .ref 34, .ref 35, .ref 36, .int (zn_I (n : Int)), .int (zn_I (m : Int)), .int (zn_I (u : Int)), .int (zn_I (x : Int)), .retAddr 0, .retAddr 0, .retAddr 0, .int (zn_I (c : Int)), .retAddr 0, .retAddr 0, .retAddr 0, .retAddr 0, .retAddr 0, .retAddr 0, .retAddr 0, .retAddr 0, .retAddr 0, .retAddr 0, .retAddr 0, .retAddr 0]) ⟨Or.inr rfl, ⟨Or.inr rfl, ⟨Or.inr rfl, ⟨Or.inr rfl, ⟨Or.inr rfl, ⟨Or.inr rfl, ⟨Or.inr rfl, ⟨Or.inr rfl, ⟨Or.inr rfl, ⟨Or.inr rfl, ⟨Or.inl rfl, ⟨Or.inl rfl, ⟨Or.inl rfl, ⟨Or.inr rfl, ⟨Or.inl rfl, ⟨Or.inl rfl, ⟨Or.inl rfl, ⟨Or.inl rfl, ⟨Or.inl rfl, ⟨Or.inl rfl, ⟨Or.inl rfl, ⟨Or.inl rfl, ⟨Or.inl rfl, ⟨Or.inl rfl, ⟨Or.inl rfl, ⟨Or.inl rfl, trivial⟩⟩⟩⟩⟩⟩⟩⟩⟩⟩⟩⟩⟩⟩⟩⟩⟩⟩⟩⟩⟩⟩⟩⟩⟩⟩ ?_
        exact next _ _ (lI_35 (zf_s (zf_mono hf2 (by decide)) (by decide)) (zC_35 hC2) (lB_at hq (lB_f hf2 hB (by decide))) hm hI)
    · exact absurd rfl h_293
set_option maxRecDepth 100000 in
set_option maxHeartbeats 600000 in
theorem lw_stand0 {l : zw_Lh} {σ : zZ} {m n : Nat} {M : zw_M} {u x a b q c : Nat} (hI : lI M σ m n) (hm6 : 1 ≤ m ∧ m ≤ 6) (ha : a < m) (hb : b < m) (hq : q < 8) (hc : c < n) (hper : ¬ zpers σ (a : Int)) (next : ∀ (σ2 : zZ) (M1 : zw_M), lI M1 σ2 m n → zw_X l 7 iL_law lQ 547 [.ref 37, .ref 0, .ref 33, .ref 34, .ref 35, .ref 36, .int (zn_I (n : Int)), .int (zn_I (m : Int)), .int (zn_I (u : Int)), .int (zn_I (x : Int)), .retAddr 0, .retAddr 0, .retAddr 0, .int (zn_I (c : Int)), .retAddr 0, .retAddr 0, .retAddr 0, .retAddr 0, .retAddr 0, .retAddr 0, .retAddr 0, .retAddr 0, .retAddr 0, .retAddr 0, .retAddr 0, .retAddr 0] [] M1) : zw_X l 7 iL_law lQ 256 [.ref 37, .ref 0, .ref 33, .ref 34, .ref 35, .ref 36, .int (zn_I (n : Int)), .int (zn_I (m : Int)), .int (zn_I (u : Int)), .int (zn_I (x : Int)), .int (zn_I (a : Int)), .int (zn_I (b : Int)), .int (zn_I (q : Int)), .int (zn_I (c : Int)), .int (zn_I 0), .retAddr 0, .retAddr 0, .retAddr 0, .retAddr 0, .retAddr 0, .retAddr 0, .retAddr 0, .retAddr 0, .retAddr 0, .retAddr 0, .retAddr 0] [] M := by
  obtain ⟨hC, hA, hB, hm, hn⟩ := id hI
  have h30 := zp_30 hC.1.1
  have hta := lk_in hI ha
  have htb := lk_in hI hb
  have hqu : zqu (q : Int) := ⟨by omega, by omega⟩
  have hhc : zhas σ (c : Int) := ⟨by omega, by omega⟩
  have hpa := hC.2.1.2.2.2.2.2.2.2 a (by omega) q hq
  have hpb := hC.2.1.2.2.2.2.2.2.2 b (by omega) q hq
  refine zx_aload dL_law_256 rfl ?_
  refine zx_bipush (v := zn_I 10) dL_law_258 (by decide) ?_
  refine zx_iload dL_law_260 rfl ?_
  refine zy_imul dL_law_262 ?_
  refine zx_iconst (v := zn_I 2) dL_law_263 rfl ?_
  refine zy_iadd dL_law_264 ?_
  refine zx_iload dL_law_265 rfl ?_
  refine zy_iadd dL_law_267 ?_
  refine zy_iald (i := 10 * a + 2 + q) dL_law_268 rfl (by decide) (by omega) (by omega) ((hB a ha).2 q hq) ?_
  refine zx_istore dL_law_269 rfl (Nat.le_of_ble_eq_true rfl) ?_
  refine zx_aload_n dL_law_271 rfl ?_
  refine zx_iload dL_law_272 rfl ?_
  refine zx_iload dL_law_274 rfl ?_
  refine zx_iload dL_law_276 rfl ?_
  refine zx_callV (y1 := iX10_stand) dL_law_278 lL_39 vX10_stand rc_0 (mX10_stand hC (z := (a : Int)) (q := (q : Int)) (s := (c : Int)) (by omega) (by omega) (by omega)) rfl rfl (Nat.le_of_ble_eq_true rfl) ?_
  intro v M2 he
  obtain ⟨rfl, hf2, hC2⟩ := he
  rw [show zk_stand σ (a : Int) (q : Int) (c : Int) = -103 from by rw [zk_stand, if_neg (fun r => r ⟨hta, hqu, hhc⟩), if_pos hper]]
  rw [zk_standS, if_neg (fun r => hper r.2)] at hC2
  refine zx_iload dL_law_281 rfl ?_
  refine zy_if_eq (tgt := 291) dL_law_283 (by decide) (by omega) (fun h_283 => ?_) (fun h_283 => ?_)
  · refine zx_bipush (v := zn_I (-103)) dL_law_291 (by decide) ?_
    refine zy_icmp_eq (tgt := 298) dL_law_293 (by decide) (by omega) (fun h_293 => ?_) (fun h_293 => ?_)
    · refine zx_aload dL_law_298 rfl ?_
      refine zx_bipush (v := zn_I 10) dL_law_300 (by decide) ?_
      refine zx_iload dL_law_302 rfl ?_
      refine zy_imul dL_law_304 ?_
      refine zx_iconst (v := zn_I 2) dL_law_305 rfl ?_
      refine zy_iadd dL_law_306 ?_
      refine zx_iload dL_law_307 rfl ?_
      refine zy_iadd dL_law_309 ?_
      refine zx_iload dL_law_310 rfl ?_
      refine zy_if_eq (tgt := 320) dL_law_312 (by decide) (by omega) (fun h_312 => ?_) (fun h_312 => ?_)
      · refine zx_iload dL_law_320 rfl ?_
        refine zy_iast (i := 10 * a + 2 + q) dL_law_322 rfl (by decide) (by omega) (by omega) ?_
        refine zx_goto (tgt := 547) dL_law_323 (by decide) ?_
        refine zx_weak (L1 := [.ref 37, .ref 0, .ref 33, .ref 34, .ref 35, .ref 36, .int (zn_I (n : Int)), .int (zn_I (m : Int)), .int (zn_I (u : Int)), .int (zn_I (x : Int)), .retAddr 0, .retAddr 0, .retAddr 0, .int (zn_I (c : Int)), .retAddr 0, .retAddr 0, .retAddr 0, .retAddr 0, .retAddr 0, .retAddr 0, .retAddr 0, .retAddr 0, .retAddr 0, .retAddr 0, .retAddr 0, .retAddr 0]) ⟨Or.inr rfl, ⟨Or.inr rfl, ⟨Or.inr rfl, ⟨Or.inr rfl, ⟨Or.inr rfl, ⟨Or.inr rfl, ⟨Or.inr rfl, ⟨Or.inr rfl, ⟨Or.inr rfl, ⟨Or.inr rfl, ⟨Or.inl rfl, ⟨Or.inl rfl, ⟨Or.inl rfl, ⟨Or.inr rfl, ⟨Or.inl rfl, ⟨Or.inl rfl, ⟨Or.inl rfl, ⟨Or.inl rfl, ⟨Or.inl rfl, ⟨Or.inl rfl, ⟨Or.inl rfl, ⟨Or.inl rfl, ⟨Or.inl rfl, ⟨Or.inl rfl, ⟨Or.inl rfl, ⟨Or.inl rfl, trivial⟩⟩⟩⟩⟩⟩⟩⟩⟩⟩⟩⟩⟩⟩⟩⟩⟩⟩⟩⟩⟩⟩⟩⟩⟩⟩ ?_
        exact next σ _ (lI_35 (τ := σ.2.1) (zf_s (zf_mono hf2 (by decide)) (by decide)) (zC_35 hC2) (lB_same (lB_f hf2 hB (by decide)) (((lB_f hf2 hB (by decide)) a ha).2 q hq)) hm hI)
      · exact absurd h_312 (by omega)
    · exact absurd rfl h_293
  · exact absurd h_283 (by omega)
set_option maxRecDepth 100000 in
set_option maxHeartbeats 600000 in
theorem lw_put1 {l : zw_Lh} {σ : zZ} {m n : Nat} {M : zw_M} {u x a b q c : Nat} (hI : lI M σ m n) (hm6 : 1 ≤ m ∧ m ≤ 6) (ha : a < m) (hb : b < m) (hq : q < 8) (hc : c < n) (hper : zpers σ (a : Int)) (next : ∀ (σ2 : zZ) (M1 : zw_M), lI M1 σ2 m n → zw_X l 7 iL_law lQ 547 [.ref 37, .ref 0, .ref 33, .ref 34, .ref 35, .ref 36, .int (zn_I (n : Int)), .int (zn_I (m : Int)), .int (zn_I (u : Int)), .int (zn_I (x : Int)), .retAddr 0, .retAddr 0, .retAddr 0, .int (zn_I (c : Int)), .retAddr 0, .retAddr 0, .retAddr 0, .retAddr 0, .retAddr 0, .retAddr 0, .retAddr 0, .retAddr 0, .retAddr 0, .retAddr 0, .retAddr 0, .retAddr 0] [] M1) : zw_X l 7 iL_law lQ 334 [.ref 37, .ref 0, .ref 33, .ref 34, .ref 35, .ref 36, .int (zn_I (n : Int)), .int (zn_I (m : Int)), .int (zn_I (u : Int)), .int (zn_I (x : Int)), .int (zn_I (a : Int)), .int (zn_I (b : Int)), .int (zn_I (q : Int)), .int (zn_I (c : Int)), .int (zn_I 1), .retAddr 0, .retAddr 0, .retAddr 0, .retAddr 0, .retAddr 0, .retAddr 0, .retAddr 0, .retAddr 0, .retAddr 0, .retAddr 0, .retAddr 0] [] M := by
  obtain ⟨hC, hA, hB, hm, hn⟩ := id hI
  have h30 := zp_30 hC.1.1
  have hta := lk_in hI ha
  have htb := lk_in hI hb
  have hqu : zqu (q : Int) := ⟨by omega, by omega⟩
  have hhc : zhas σ (c : Int) := ⟨by omega, by omega⟩
  have hpa := hC.2.1.2.2.2.2.2.2.2 a (by omega) q hq
  have hpb := hC.2.1.2.2.2.2.2.2.2 b (by omega) q hq
  refine zx_aload_n dL_law_334 rfl ?_
  refine zx_iload dL_law_335 rfl ?_
  refine zx_iload dL_law_337 rfl ?_
  refine zx_callV (y1 := iX10_put) dL_law_339 lL_66 vX10_put rc_0 (mX10_put hC (z := (a : Int)) (s := (c : Int)) (by omega) (by omega)) rfl rfl (Nat.le_of_ble_eq_true rfl) ?_
  intro v M2 he
  obtain ⟨rfl, hf2, hC2⟩ := he
  rw [show zk_put σ (a : Int) (c : Int) = -103 from by rw [zk_put, if_neg (fun r => r ⟨hta, hhc⟩), if_pos hper]]
  rw [zk_putS, if_neg (fun r => r.2 hper)] at hC2
  refine zx_iload dL_law_342 rfl ?_
  refine zy_if_eq (tgt := 352) dL_law_344 (by decide) (by omega) (fun h_344 => ?_) (fun h_344 => ?_)
  · exact absurd h_344 (by omega)
  · refine zx_bipush (v := zn_I (-103)) dL_law_347 (by decide) ?_
    refine zx_goto (tgt := 362) dL_law_349 (by decide) ?_
    refine zy_icmp_eq (tgt := 367) dL_law_362 (by decide) (by omega) (fun h_362 => ?_) (fun h_362 => ?_)
    · refine zx_iconst (v := zn_I 0) dL_law_367 rfl ?_
      refine zx_istore dL_law_368 rfl (Nat.le_of_ble_eq_true rfl) ?_
      refine zx_iload dL_law_370 rfl ?_
      refine zx_bipush (v := zn_I 8) dL_law_372 (by decide) ?_
      refine zy_icmp_ge (tgt := 403) dL_law_374 (by decide) (by omega) (fun h_374 => ?_) (fun h_374 => ?_)
      · exact absurd h_374 (by omega)
      · refine zx_iload dL_law_377 rfl ?_
        refine zy_if_ne (tgt := 403) dL_law_379 (by decide) (by omega) (fun h_379 => ?_) (fun h_379 => ?_)
        · refine zx_goto (tgt := 547) dL_law_403 (by decide) ?_
          refine zx_weak (L1 := [.ref 37, .ref 0, .ref 33, .ref 34, .ref 35, .ref 36, .int (zn_I (n : Int)), .int (zn_I (m : Int)), .int (zn_I (u : Int)), .int (zn_I (x : Int)), .retAddr 0, .retAddr 0, .retAddr 0, .int (zn_I (c : Int)), .retAddr 0, .retAddr 0, .retAddr 0, .retAddr 0, .retAddr 0, .retAddr 0, .retAddr 0, .retAddr 0, .retAddr 0, .retAddr 0, .retAddr 0, .retAddr 0]) ⟨Or.inr rfl, ⟨Or.inr rfl, ⟨Or.inr rfl, ⟨Or.inr rfl, ⟨Or.inr rfl, ⟨Or.inr rfl, ⟨Or.inr rfl, ⟨Or.inr rfl, ⟨Or.inr rfl, ⟨Or.inr rfl, ⟨Or.inl rfl, ⟨Or.inl rfl, ⟨Or.inl rfl, ⟨Or.inr rfl, ⟨Or.inl rfl, ⟨Or.inl rfl, ⟨Or.inl rfl, ⟨Or.inl rfl, ⟨Or.inl rfl, ⟨Or.inl rfl, ⟨Or.inl rfl, ⟨Or.inl rfl, ⟨Or.inl rfl, ⟨Or.inl rfl, ⟨Or.inl rfl, ⟨Or.inl rfl, trivial⟩⟩⟩⟩⟩⟩⟩⟩⟩⟩⟩⟩⟩⟩⟩⟩⟩⟩⟩⟩⟩⟩⟩⟩⟩⟩ ?_
          exact next σ _ (lI_z hf2 hC2 hI)
        · exact absurd h_379 (by omega)
    · exact absurd rfl h_362
set_option maxRecDepth 100000 in
set_option maxHeartbeats 600000 in
theorem lw_put0 {l : zw_Lh} {σ : zZ} {m n : Nat} {M : zw_M} {u x a b q c : Nat} (hI : lI M σ m n) (hm6 : 1 ≤ m ∧ m ≤ 6) (ha : a < m) (hb : b < m) (hq : q < 8) (hc : c < n) (hper : ¬ zpers σ (a : Int)) (next : ∀ (σ2 : zZ) (M1 : zw_M), lI M1 σ2 m n → zw_X l 7 iL_law lQ 547 [.ref 37, .ref 0, .ref 33, .ref 34, .ref 35, .ref 36, .int (zn_I (n : Int)), .int (zn_I (m : Int)), .int (zn_I (u : Int)), .int (zn_I (x : Int)), .retAddr 0, .retAddr 0, .retAddr 0, .int (zn_I (c : Int)), .retAddr 0, .retAddr 0, .retAddr 0, .retAddr 0, .retAddr 0, .retAddr 0, .retAddr 0, .retAddr 0, .retAddr 0, .retAddr 0, .retAddr 0, .retAddr 0] [] M1) : zw_X l 7 iL_law lQ 334 [.ref 37, .ref 0, .ref 33, .ref 34, .ref 35, .ref 36, .int (zn_I (n : Int)), .int (zn_I (m : Int)), .int (zn_I (u : Int)), .int (zn_I (x : Int)), .int (zn_I (a : Int)), .int (zn_I (b : Int)), .int (zn_I (q : Int)), .int (zn_I (c : Int)), .int (zn_I 0), .retAddr 0, .retAddr 0, .retAddr 0, .retAddr 0, .retAddr 0, .retAddr 0, .retAddr 0, .retAddr 0, .retAddr 0, .retAddr 0, .retAddr 0] [] M := by
  obtain ⟨hC, hA, hB, hm, hn⟩ := id hI
  have h30 := zp_30 hC.1.1
  have hta := lk_in hI ha
  have htb := lk_in hI hb
  have hqu : zqu (q : Int) := ⟨by omega, by omega⟩
  have hhc : zhas σ (c : Int) := ⟨by omega, by omega⟩
  have hpa := hC.2.1.2.2.2.2.2.2.2 a (by omega) q hq
  have hpb := hC.2.1.2.2.2.2.2.2.2 b (by omega) q hq
  refine zx_aload_n dL_law_334 rfl ?_
  refine zx_iload dL_law_335 rfl ?_
  refine zx_iload dL_law_337 rfl ?_
  refine zx_callV (y1 := iX10_put) dL_law_339 lL_66 vX10_put rc_0 (mX10_put hC (z := (a : Int)) (s := (c : Int)) (by omega) (by omega)) rfl rfl (Nat.le_of_ble_eq_true rfl) ?_
  intro v M2 he
  obtain ⟨rfl, hf2, hC2⟩ := he
  rw [show zk_put σ (a : Int) (c : Int) = (σ.2.1.2.2.2 a 0 : Int) from by rw [zk_put, if_neg (fun r => r ⟨hta, hhc⟩), if_neg hper, zpl, Int.toNat_natCast]; rfl]
  rw [zk_putS, if_pos ⟨⟨hta, hhc⟩, hper⟩, Int.toNat_natCast, Int.toNat_natCast] at hC2
  have hB2 := lB_f hf2 hB (by decide)
  have hA2 := lA_f hf2 hA (by decide)
  have hv0 : M2.1 35 (10 * a + 2) = zn_I (σ.2.1.2.2.2 a 0 : Nat) := (hB2 a ha).2 0 (by decide)
  have hp0 := hC.2.1.2.2.2.2.2.2.2 a (by omega) 0 (by decide)
  have loop : ∀ k : Nat, k ≤ 8 → ∀ (M1 : zw_M), zw_fr [35] M2 M1 → (∀ j, M1.1 35 j = if 10 * a + 2 ≤ j ∧ j < 10 * a + 2 + k then zn_I (c : Int) else M2.1 35 j) → zw_X l 7 iL_law lQ 370 [.ref 37, .ref 0, .ref 33, .ref 34, .ref 35, .ref 36, .int (zn_I (n : Int)), .int (zn_I (m : Int)), .int (zn_I (u : Int)), .int (zn_I (x : Int)), .int (zn_I (a : Int)), .int (zn_I (b : Int)), .int (zn_I (q : Int)), .int (zn_I (c : Int)), .int (zn_I 0), .int (zn_I (k : Int)), .retAddr 0, .retAddr 0, .retAddr 0, .retAddr 0, .retAddr 0, .retAddr 0, .retAddr 0, .retAddr 0, .retAddr 0, .retAddr 0] [] M1 := by
    refine zw_loop 8 (P := fun k => ∀ (M1 : zw_M), zw_fr [35] M2 M1 → (∀ j, M1.1 35 j = if 10 * a + 2 ≤ j ∧ j < 10 * a + 2 + k then zn_I (c : Int) else M2.1 35 j) → zw_X l 7 iL_law lQ 370 [.ref 37, .ref 0, .ref 33, .ref 34, .ref 35, .ref 36, .int (zn_I (n : Int)), .int (zn_I (m : Int)), .int (zn_I (u : Int)), .int (zn_I (x : Int)), .int (zn_I (a : Int)), .int (zn_I (b : Int)), .int (zn_I (q : Int)), .int (zn_I (c : Int)), .int (zn_I 0), .int (zn_I (k : Int)), .retAddr 0, .retAddr 0, .retAddr 0, .retAddr 0, .retAddr 0, .retAddr 0, .retAddr 0, .retAddr 0, .retAddr 0, .retAddr 0] [] M1) (fun k hk ih M1 hf hj => ?_)
    refine zx_iload dL_law_370 rfl ?_
    refine zx_bipush (v := zn_I 8) dL_law_372 (by decide) ?_
    refine zy_icmp_ge (tgt := 403) dL_law_374 (by decide) (by omega) (fun h_374 => ?_) (fun h_374 => ?_)
    · refine zx_goto (tgt := 547) dL_law_403 (by decide) ?_
      have ek : k = 8 := by omega
      subst ek
      refine zx_weak (L1 := [.ref 37, .ref 0, .ref 33, .ref 34, .ref 35, .ref 36, .int (zn_I (n : Int)), .int (zn_I (m : Int)), .int (zn_I (u : Int)), .int (zn_I (x : Int)), .retAddr 0, .retAddr 0, .retAddr 0, .int (zn_I (c : Int)), .retAddr 0, .retAddr 0, .retAddr 0, .retAddr 0, .retAddr 0, .retAddr 0, .retAddr 0, .retAddr 0, .retAddr 0, .retAddr 0, .retAddr 0, .retAddr 0]) ⟨Or.inr rfl, ⟨Or.inr rfl, ⟨Or.inr rfl, ⟨Or.inr rfl, ⟨Or.inr rfl, ⟨Or.inr rfl, ⟨Or.inr rfl, ⟨Or.inr rfl, ⟨Or.inr rfl, ⟨Or.inr rfl, ⟨Or.inl rfl, ⟨Or.inl rfl, ⟨Or.inl rfl, ⟨Or.inr rfl, ⟨Or.inl rfl, ⟨Or.inl rfl, ⟨Or.inl rfl, ⟨Or.inl rfl, ⟨Or.inl rfl, ⟨Or.inl rfl, ⟨Or.inl rfl, ⟨Or.inl rfl, ⟨Or.inl rfl, ⟨Or.inl rfl, ⟨Or.inl rfl, ⟨Or.inl rfl, trivial⟩⟩⟩⟩⟩⟩⟩⟩⟩⟩⟩⟩⟩⟩⟩⟩⟩⟩⟩⟩⟩⟩⟩⟩⟩⟩ ?_
      refine next _ _ ⟨zC_f hf hC2 (by decide), lA_f hf hA2 (by decide), fun v hv => ?_, hm, hn⟩
      obtain ⟨⟨e1, e2⟩, e3⟩ := hB2 v hv
      refine ⟨⟨?_, ?_⟩, fun p hp => ?_⟩
      · rw [hj, if_neg (by omega)]; exact e1
      · rw [hj, if_neg (by omega)]; exact e2
      · by_cases e : v = a
        · subst e
          rw [hj, if_pos (by omega)]
          simp [zst, zt_mv]
        · rw [hj, if_neg (by omega), e3 p hp]
          simp [zst, zt_mv, e]
    · refine zx_iload dL_law_377 rfl ?_
      refine zy_if_ne (tgt := 403) dL_law_379 (by decide) (by omega) (fun h_379 => ?_) (fun h_379 => ?_)
      · exact absurd h_379 (by omega)
      · refine zx_aload dL_law_382 rfl ?_
        refine zx_bipush (v := zn_I 10) dL_law_384 (by decide) ?_
        refine zx_iload dL_law_386 rfl ?_
        refine zy_imul dL_law_388 ?_
        refine zx_iconst (v := zn_I 2) dL_law_389 rfl ?_
        refine zy_iadd dL_law_390 ?_
        refine zx_iload dL_law_391 rfl ?_
        refine zy_iadd dL_law_393 ?_
        refine zx_iload dL_law_394 rfl ?_
        refine zy_iast (i := 10 * a + 2 + k) dL_law_396 rfl (by decide) (by omega) (by omega) ?_
        refine zy_iinc dL_law_397 rfl rfl ?_
        refine zx_goto (tgt := 370) dL_law_400 (by decide) ?_
        refine ih (by omega) _ (zf_s hf (by decide)) (fun j => ?_)
        by_cases e : j = 10 * a + 2 + k
        · subst e
          rw [if_pos (by omega)]
          simp [zw_s]
        · have h1 := hj j
          simp only [zw_s, e, and_false, if_false]
          rw [h1]
          by_cases r : 10 * a + 2 ≤ j ∧ j < 10 * a + 2 + k
          · rw [if_pos r, if_pos (by omega)]
          · rw [if_neg r, if_neg (by omega)]
  refine zx_iload dL_law_342 rfl ?_
  refine zy_if_eq (tgt := 352) dL_law_344 (by decide) (by omega) (fun h_344 => ?_) (fun h_344 => ?_)
  · refine zx_aload dL_law_352 rfl ?_
    refine zx_bipush (v := zn_I 10) dL_law_354 (by decide) ?_
    refine zx_iload dL_law_356 rfl ?_
    refine zy_imul dL_law_358 ?_
    refine zx_iconst (v := zn_I 2) dL_law_359 rfl ?_
    refine zy_iadd dL_law_360 ?_
    refine zy_iald (i := 10 * a + 2) dL_law_361 rfl (by decide) (by omega) (by omega) (hv0) ?_
    refine zy_icmp_eq (tgt := 367) dL_law_362 (by decide) (by omega) (fun h_362 => ?_) (fun h_362 => ?_)
    · refine zx_iconst (v := zn_I 0) dL_law_367 rfl ?_
      refine zx_istore dL_law_368 rfl (Nat.le_of_ble_eq_true rfl) ?_
      exact loop 0 (Nat.zero_le _) M2 zf_rf (fun j => by rw [if_neg (by omega)])
    · exact absurd rfl h_362
  · exact absurd h_344 (by omega)
set_option maxRecDepth 100000 in
set_option maxHeartbeats 600000 in
theorem lw_trade1 {l : zw_Lh} {σ : zZ} {m n : Nat} {M : zw_M} {u x a b q c : Nat} (hI : lI M σ m n) (hm6 : 1 ≤ m ∧ m ≤ 6) (ha : a < m) (hb : b < m) (hq : q < 8) (hc : c < n) {gz : Int} (hper : (zpers σ (a : Int) ∧ zpers σ (b : Int))) (next : ∀ (σ2 : zZ) (M1 : zw_M), lI M1 σ2 m n → zw_X l 7 iL_law lQ 547 [.ref 37, .ref 0, .ref 33, .ref 34, .ref 35, .ref 36, .int (zn_I (n : Int)), .int (zn_I (m : Int)), .int (zn_I (u : Int)), .int (zn_I (x : Int)), .retAddr 0, .retAddr 0, .retAddr 0, .int (zn_I (c : Int)), .retAddr 0, .retAddr 0, .retAddr 0, .retAddr 0, .retAddr 0, .retAddr 0, .retAddr 0, .retAddr 0, .retAddr 0, .retAddr 0, .retAddr 0, .retAddr 0] [] M1) : zw_X l 7 iL_law lQ 428 [.ref 37, .ref 0, .ref 33, .ref 34, .ref 35, .ref 36, .int (zn_I (n : Int)), .int (zn_I (m : Int)), .int (zn_I (u : Int)), .int (zn_I (x : Int)), .int (zn_I (a : Int)), .int (zn_I (b : Int)), .int (zn_I (q : Int)), .int (zn_I (c : Int)), .int (zn_I gz), .retAddr 0, .retAddr 0, .retAddr 0, .retAddr 0, .retAddr 0, .retAddr 0, .retAddr 0, .retAddr 0, .retAddr 0, .retAddr 0, .retAddr 0] [.int (zn_I 1)] M := by
  obtain ⟨hC, hA, hB, hm, hn⟩ := id hI
  have h30 := zp_30 hC.1.1
  have hta := lk_in hI ha
  have htb := lk_in hI hb
  have hqu : zqu (q : Int) := ⟨by omega, by omega⟩
  have hhc : zhas σ (c : Int) := ⟨by omega, by omega⟩
  have hpa := hC.2.1.2.2.2.2.2.2.2 a (by omega) q hq
  have hpb := hC.2.1.2.2.2.2.2.2.2 b (by omega) q hq
  refine zx_istore dL_law_428 rfl (Nat.le_of_ble_eq_true rfl) ?_
  refine zx_aload dL_law_430 rfl ?_
  refine zx_bipush (v := zn_I 10) dL_law_432 (by decide) ?_
  refine zx_iload dL_law_434 rfl ?_
  refine zy_imul dL_law_436 ?_
  refine zx_iconst (v := zn_I 2) dL_law_437 rfl ?_
  refine zy_iadd dL_law_438 ?_
  refine zx_iload dL_law_439 rfl ?_
  refine zy_iadd dL_law_441 ?_
  refine zy_iald (i := 10 * a + 2 + q) dL_law_442 rfl (by decide) (by omega) (by omega) ((hB a ha).2 q hq) ?_
  refine zx_istore dL_law_443 rfl (Nat.le_of_ble_eq_true rfl) ?_
  refine zx_aload dL_law_445 rfl ?_
  refine zx_bipush (v := zn_I 10) dL_law_447 (by decide) ?_
  refine zx_iload dL_law_449 rfl ?_
  refine zy_imul dL_law_451 ?_
  refine zx_iconst (v := zn_I 2) dL_law_452 rfl ?_
  refine zy_iadd dL_law_453 ?_
  refine zx_iload dL_law_454 rfl ?_
  refine zy_iadd dL_law_456 ?_
  refine zy_iald (i := 10 * b + 2 + q) dL_law_457 rfl (by decide) (by omega) (by omega) ((hB b hb).2 q hq) ?_
  refine zx_istore dL_law_458 rfl (Nat.le_of_ble_eq_true rfl) ?_
  refine zx_aload_n dL_law_460 rfl ?_
  refine zx_iload dL_law_461 rfl ?_
  refine zx_iload dL_law_463 rfl ?_
  refine zx_iload dL_law_465 rfl ?_
  refine zx_callV (y1 := iX10_trade) dL_law_467 lL_68 vX10_trade rc_0 (mX10_trade hC (a := (a : Int)) (b := (b : Int)) (q := (q : Int)) (by omega) (by omega) (by omega)) rfl rfl (Nat.le_of_ble_eq_true rfl) ?_
  intro v M2 he
  obtain ⟨rfl, hf2, hC2⟩ := he
  rw [zk_tradeS, if_pos ⟨⟨hta, htb, hqu⟩, hper⟩, Int.toNat_natCast, Int.toNat_natCast, Int.toNat_natCast] at hC2
  have ht0 : σ.2.1.2.2.2 a q = σ.2.1.2.2.2 b q → zk_trade σ (a : Int) (b : Int) (q : Int) = 0 := fun e => by
    rw [zk_trade, if_neg (fun r => r ⟨hta, htb, hqu⟩), if_neg (fun r => r hper), if_pos (by rw [zpl, zpl, Int.toNat_natCast, Int.toNat_natCast, Int.toNat_natCast]; exact e)]
  have ht1 : σ.2.1.2.2.2 a q ≠ σ.2.1.2.2.2 b q → zk_trade σ (a : Int) (b : Int) (q : Int) = 1 := fun e => by
    rw [zk_trade, if_neg (fun r => r ⟨hta, htb, hqu⟩), if_neg (fun r => r hper), if_neg (by rw [zpl, zpl, Int.toNat_natCast, Int.toNat_natCast, Int.toNat_natCast]; exact e)]
  have ea : zpl σ (a : Int) (q : Int) = σ.2.1.2.2.2 a q := by rw [zpl, Int.toNat_natCast, Int.toNat_natCast]
  have eb : zpl σ (b : Int) (q : Int) = σ.2.1.2.2.2 b q := by rw [zpl, Int.toNat_natCast, Int.toNat_natCast]
  rw [ea, eb] at hC2
  refine zx_iload dL_law_470 rfl ?_
  refine zy_if_eq (tgt := 490) dL_law_472 (by decide) (by omega) (fun h_472 => ?_) (fun h_472 => ?_)
  · exact absurd h_472 (by omega)
  · refine zx_iload dL_law_475 rfl ?_
    refine zx_iload dL_law_477 rfl ?_
    refine zy_icmp_ne (tgt := 486) dL_law_479 (by decide) (by omega) (fun h_479 => ?_) (fun h_479 => ?_)
    · refine zx_iconst (v := zn_I 1) dL_law_486 rfl ?_
      refine zx_goto (tgt := 492) dL_law_487 (by decide) ?_
      rw [ht1 (by omega)]
      refine zy_icmp_eq (tgt := 497) dL_law_492 (by decide) (by omega) (fun h_492 => ?_) (fun h_492 => ?_)
      · refine zx_aload dL_law_497 rfl ?_
        refine zx_bipush (v := zn_I 10) dL_law_499 (by decide) ?_
        refine zx_iload dL_law_501 rfl ?_
        refine zy_imul dL_law_503 ?_
        refine zx_iconst (v := zn_I 2) dL_law_504 rfl ?_
        refine zy_iadd dL_law_505 ?_
        refine zx_iload dL_law_506 rfl ?_
        refine zy_iadd dL_law_508 ?_
        refine zx_iload dL_law_509 rfl ?_
        refine zy_if_eq (tgt := 519) dL_law_511 (by decide) (by omega) (fun h_511 => ?_) (fun h_511 => ?_)
        · exact absurd h_511 (by omega)
        · refine zx_iload dL_law_514 rfl ?_
          refine zx_goto (tgt := 521) dL_law_516 (by decide) ?_
          refine zy_iast (i := 10 * a + 2 + q) dL_law_521 rfl (by decide) (by omega) (by omega) ?_
          refine zx_aload dL_law_522 rfl ?_
          refine zx_bipush (v := zn_I 10) dL_law_524 (by decide) ?_
          refine zx_iload dL_law_526 rfl ?_
          refine zy_imul dL_law_528 ?_
          refine zx_iconst (v := zn_I 2) dL_law_529 rfl ?_
          refine zy_iadd dL_law_530 ?_
          refine zx_iload dL_law_531 rfl ?_
          refine zy_iadd dL_law_533 ?_
          refine zx_iload dL_law_534 rfl ?_
          refine zy_if_eq (tgt := 544) dL_law_536 (by decide) (by omega) (fun h_536 => ?_) (fun h_536 => ?_)
          · exact absurd h_536 (by omega)
          · refine zx_iload dL_law_539 rfl ?_
            refine zx_goto (tgt := 546) dL_law_541 (by decide) ?_
            refine zy_iast (i := 10 * b + 2 + q) dL_law_546 rfl (by decide) (by omega) (by omega) ?_
            refine zx_weak (L1 := [.ref 37, .ref 0, .ref 33, .ref 34, .ref 35, .ref 36, .int (zn_I (n : Int)), .int (zn_I (m : Int)), .int (zn_I (u : Int)), .int (zn_I (x : Int)), .retAddr 0, .retAddr 0, .retAddr 0, .int (zn_I (c : Int)), .retAddr 0, .retAddr 0, .retAddr 0, .retAddr 0, .retAddr 0, .retAddr 0, .retAddr 0, .retAddr 0, .retAddr 0, .retAddr 0, .retAddr 0, .retAddr 0]) ⟨Or.inr rfl, ⟨Or.inr rfl, ⟨Or.inr rfl, ⟨Or.inr rfl, ⟨Or.inr rfl, ⟨Or.inr rfl, ⟨Or.inr rfl, ⟨Or.inr rfl, ⟨Or.inr rfl, ⟨Or.inr rfl, ⟨Or.inl rfl, ⟨Or.inl rfl, ⟨Or.inl rfl, ⟨Or.inr rfl, ⟨Or.inl rfl, ⟨Or.inl rfl, ⟨Or.inl rfl, ⟨Or.inl rfl, ⟨Or.inl rfl, ⟨Or.inl rfl, ⟨Or.inl rfl, ⟨Or.inl rfl, ⟨Or.inl rfl, ⟨Or.inl rfl, ⟨Or.inl rfl, ⟨Or.inl rfl, trivial⟩⟩⟩⟩⟩⟩⟩⟩⟩⟩⟩⟩⟩⟩⟩⟩⟩⟩⟩⟩⟩⟩⟩⟩⟩⟩ ?_
            exact next _ _ (lI_35 (zf_s (zf_s (zf_mono hf2 (by decide)) (by decide)) (by decide)) (zC_35 (zC_35 hC2)) (lB_at hq (lB_at hq (lB_f hf2 hB (by decide)))) hm hI)
      · exact absurd rfl h_492
    · refine zx_iconst (v := zn_I 0) dL_law_482 rfl ?_
      refine zx_goto (tgt := 492) dL_law_483 (by decide) ?_
      rw [ht0 (by omega)]
      refine zy_icmp_eq (tgt := 497) dL_law_492 (by decide) (by omega) (fun h_492 => ?_) (fun h_492 => ?_)
      · refine zx_aload dL_law_497 rfl ?_
        refine zx_bipush (v := zn_I 10) dL_law_499 (by decide) ?_
        refine zx_iload dL_law_501 rfl ?_
        refine zy_imul dL_law_503 ?_
        refine zx_iconst (v := zn_I 2) dL_law_504 rfl ?_
        refine zy_iadd dL_law_505 ?_
        refine zx_iload dL_law_506 rfl ?_
        refine zy_iadd dL_law_508 ?_
        refine zx_iload dL_law_509 rfl ?_
        refine zy_if_eq (tgt := 519) dL_law_511 (by decide) (by omega) (fun h_511 => ?_) (fun h_511 => ?_)
        · exact absurd h_511 (by omega)
        · refine zx_iload dL_law_514 rfl ?_
          refine zx_goto (tgt := 521) dL_law_516 (by decide) ?_
          refine zy_iast (i := 10 * a + 2 + q) dL_law_521 rfl (by decide) (by omega) (by omega) ?_
          refine zx_aload dL_law_522 rfl ?_
          refine zx_bipush (v := zn_I 10) dL_law_524 (by decide) ?_
          refine zx_iload dL_law_526 rfl ?_
          refine zy_imul dL_law_528 ?_
          refine zx_iconst (v := zn_I 2) dL_law_529 rfl ?_
          refine zy_iadd dL_law_530 ?_
          refine zx_iload dL_law_531 rfl ?_
          refine zy_iadd dL_law_533 ?_
          refine zx_iload dL_law_534 rfl ?_
          refine zy_if_eq (tgt := 544) dL_law_536 (by decide) (by omega) (fun h_536 => ?_) (fun h_536 => ?_)
          · exact absurd h_536 (by omega)
          · refine zx_iload dL_law_539 rfl ?_
            refine zx_goto (tgt := 546) dL_law_541 (by decide) ?_
            refine zy_iast (i := 10 * b + 2 + q) dL_law_546 rfl (by decide) (by omega) (by omega) ?_
            refine zx_weak (L1 := [.ref 37, .ref 0, .ref 33, .ref 34, .ref 35, .ref 36, .int (zn_I (n : Int)), .int (zn_I (m : Int)), .int (zn_I (u : Int)), .int (zn_I (x : Int)), .retAddr 0, .retAddr 0, .retAddr 0, .int (zn_I (c : Int)), .retAddr 0, .retAddr 0, .retAddr 0, .retAddr 0, .retAddr 0, .retAddr 0, .retAddr 0, .retAddr 0, .retAddr 0, .retAddr 0, .retAddr 0, .retAddr 0]) ⟨Or.inr rfl, ⟨Or.inr rfl, ⟨Or.inr rfl, ⟨Or.inr rfl, ⟨Or.inr rfl, ⟨Or.inr rfl, ⟨Or.inr rfl, ⟨Or.inr rfl, ⟨Or.inr rfl, ⟨Or.inr rfl, ⟨Or.inl rfl, ⟨Or.inl rfl, ⟨Or.inl rfl, ⟨Or.inr rfl, ⟨Or.inl rfl, ⟨Or.inl rfl, ⟨Or.inl rfl, ⟨Or.inl rfl, ⟨Or.inl rfl, ⟨Or.inl rfl, ⟨Or.inl rfl, ⟨Or.inl rfl, ⟨Or.inl rfl, ⟨Or.inl rfl, ⟨Or.inl rfl, ⟨Or.inl rfl, trivial⟩⟩⟩⟩⟩⟩⟩⟩⟩⟩⟩⟩⟩⟩⟩⟩⟩⟩⟩⟩⟩⟩⟩⟩⟩⟩ ?_
            exact next _ _ (lI_35 (zf_s (zf_s (zf_mono hf2 (by decide)) (by decide)) (by decide)) (zC_35 (zC_35 hC2)) (lB_at hq (lB_at hq (lB_f hf2 hB (by decide)))) hm hI)
      · exact absurd rfl h_492
set_option maxRecDepth 100000 in
set_option maxHeartbeats 600000 in
theorem lw_trade0 {l : zw_Lh} {σ : zZ} {m n : Nat} {M : zw_M} {u x a b q c : Nat} (hI : lI M σ m n) (hm6 : 1 ≤ m ∧ m ≤ 6) (ha : a < m) (hb : b < m) (hq : q < 8) (hc : c < n) {gz : Int} (hper : ¬ (zpers σ (a : Int) ∧ zpers σ (b : Int))) (next : ∀ (σ2 : zZ) (M1 : zw_M), lI M1 σ2 m n → zw_X l 7 iL_law lQ 547 [.ref 37, .ref 0, .ref 33, .ref 34, .ref 35, .ref 36, .int (zn_I (n : Int)), .int (zn_I (m : Int)), .int (zn_I (u : Int)), .int (zn_I (x : Int)), .retAddr 0, .retAddr 0, .retAddr 0, .int (zn_I (c : Int)), .retAddr 0, .retAddr 0, .retAddr 0, .retAddr 0, .retAddr 0, .retAddr 0, .retAddr 0, .retAddr 0, .retAddr 0, .retAddr 0, .retAddr 0, .retAddr 0] [] M1) : zw_X l 7 iL_law lQ 428 [.ref 37, .ref 0, .ref 33, .ref 34, .ref 35, .ref 36, .int (zn_I (n : Int)), .int (zn_I (m : Int)), .int (zn_I (u : Int)), .int (zn_I (x : Int)), .int (zn_I (a : Int)), .int (zn_I (b : Int)), .int (zn_I (q : Int)), .int (zn_I (c : Int)), .int (zn_I gz), .retAddr 0, .retAddr 0, .retAddr 0, .retAddr 0, .retAddr 0, .retAddr 0, .retAddr 0, .retAddr 0, .retAddr 0, .retAddr 0, .retAddr 0] [.int (zn_I 0)] M := by
  obtain ⟨hC, hA, hB, hm, hn⟩ := id hI
  have h30 := zp_30 hC.1.1
  have hta := lk_in hI ha
  have htb := lk_in hI hb
  have hqu : zqu (q : Int) := ⟨by omega, by omega⟩
  have hhc : zhas σ (c : Int) := ⟨by omega, by omega⟩
  have hpa := hC.2.1.2.2.2.2.2.2.2 a (by omega) q hq
  have hpb := hC.2.1.2.2.2.2.2.2.2 b (by omega) q hq
  refine zx_istore dL_law_428 rfl (Nat.le_of_ble_eq_true rfl) ?_
  refine zx_aload dL_law_430 rfl ?_
  refine zx_bipush (v := zn_I 10) dL_law_432 (by decide) ?_
  refine zx_iload dL_law_434 rfl ?_
  refine zy_imul dL_law_436 ?_
  refine zx_iconst (v := zn_I 2) dL_law_437 rfl ?_
  refine zy_iadd dL_law_438 ?_
  refine zx_iload dL_law_439 rfl ?_
  refine zy_iadd dL_law_441 ?_
  refine zy_iald (i := 10 * a + 2 + q) dL_law_442 rfl (by decide) (by omega) (by omega) ((hB a ha).2 q hq) ?_
  refine zx_istore dL_law_443 rfl (Nat.le_of_ble_eq_true rfl) ?_
  refine zx_aload dL_law_445 rfl ?_
  refine zx_bipush (v := zn_I 10) dL_law_447 (by decide) ?_
  refine zx_iload dL_law_449 rfl ?_
  refine zy_imul dL_law_451 ?_
  refine zx_iconst (v := zn_I 2) dL_law_452 rfl ?_
  refine zy_iadd dL_law_453 ?_
  refine zx_iload dL_law_454 rfl ?_
  refine zy_iadd dL_law_456 ?_
  refine zy_iald (i := 10 * b + 2 + q) dL_law_457 rfl (by decide) (by omega) (by omega) ((hB b hb).2 q hq) ?_
  refine zx_istore dL_law_458 rfl (Nat.le_of_ble_eq_true rfl) ?_
  refine zx_aload_n dL_law_460 rfl ?_
  refine zx_iload dL_law_461 rfl ?_
  refine zx_iload dL_law_463 rfl ?_
  refine zx_iload dL_law_465 rfl ?_
  refine zx_callV (y1 := iX10_trade) dL_law_467 lL_68 vX10_trade rc_0 (mX10_trade hC (a := (a : Int)) (b := (b : Int)) (q := (q : Int)) (by omega) (by omega) (by omega)) rfl rfl (Nat.le_of_ble_eq_true rfl) ?_
  intro v M2 he
  obtain ⟨rfl, hf2, hC2⟩ := he
  rw [zk_tradeS, if_neg (fun r => hper r.2)] at hC2
  rw [show zk_trade σ (a : Int) (b : Int) (q : Int) = -103 from by rw [zk_trade, if_neg (fun r => r ⟨hta, htb, hqu⟩), if_pos hper]]
  have hB2 := lB_f hf2 hB (by decide)
  have hB3 := lB_same hB2 ((hB2 a ha).2 q hq)
  refine zx_iload dL_law_470 rfl ?_
  refine zy_if_eq (tgt := 490) dL_law_472 (by decide) (by omega) (fun h_472 => ?_) (fun h_472 => ?_)
  · refine zx_bipush (v := zn_I (-103)) dL_law_490 (by decide) ?_
    refine zy_icmp_eq (tgt := 497) dL_law_492 (by decide) (by omega) (fun h_492 => ?_) (fun h_492 => ?_)
    · refine zx_aload dL_law_497 rfl ?_
      refine zx_bipush (v := zn_I 10) dL_law_499 (by decide) ?_
      refine zx_iload dL_law_501 rfl ?_
      refine zy_imul dL_law_503 ?_
      refine zx_iconst (v := zn_I 2) dL_law_504 rfl ?_
      refine zy_iadd dL_law_505 ?_
      refine zx_iload dL_law_506 rfl ?_
      refine zy_iadd dL_law_508 ?_
      refine zx_iload dL_law_509 rfl ?_
      refine zy_if_eq (tgt := 519) dL_law_511 (by decide) (by omega) (fun h_511 => ?_) (fun h_511 => ?_)
      · refine zx_iload dL_law_519 rfl ?_
        refine zy_iast (i := 10 * a + 2 + q) dL_law_521 rfl (by decide) (by omega) (by omega) ?_
        refine zx_aload dL_law_522 rfl ?_
        refine zx_bipush (v := zn_I 10) dL_law_524 (by decide) ?_
        refine zx_iload dL_law_526 rfl ?_
        refine zy_imul dL_law_528 ?_
        refine zx_iconst (v := zn_I 2) dL_law_529 rfl ?_
        refine zy_iadd dL_law_530 ?_
        refine zx_iload dL_law_531 rfl ?_
        refine zy_iadd dL_law_533 ?_
        refine zx_iload dL_law_534 rfl ?_
        refine zy_if_eq (tgt := 544) dL_law_536 (by decide) (by omega) (fun h_536 => ?_) (fun h_536 => ?_)
        · refine zx_iload dL_law_544 rfl ?_
          refine zy_iast (i := 10 * b + 2 + q) dL_law_546 rfl (by decide) (by omega) (by omega) ?_
          refine zx_weak (L1 := [.ref 37, .ref 0, .ref 33, .ref 34, .ref 35, .ref 36, .int (zn_I (n : Int)), .int (zn_I (m : Int)), .int (zn_I (u : Int)), .int (zn_I (x : Int)), .retAddr 0, .retAddr 0, .retAddr 0, .int (zn_I (c : Int)), .retAddr 0, .retAddr 0, .retAddr 0, .retAddr 0, .retAddr 0, .retAddr 0, .retAddr 0, .retAddr 0, .retAddr 0, .retAddr 0, .retAddr 0, .retAddr 0]) ⟨Or.inr rfl, ⟨Or.inr rfl, ⟨Or.inr rfl, ⟨Or.inr rfl, ⟨Or.inr rfl, ⟨Or.inr rfl, ⟨Or.inr rfl, ⟨Or.inr rfl, ⟨Or.inr rfl, ⟨Or.inr rfl, ⟨Or.inl rfl, ⟨Or.inl rfl, ⟨Or.inl rfl, ⟨Or.inr rfl, ⟨Or.inl rfl, ⟨Or.inl rfl, ⟨Or.inl rfl, ⟨Or.inl rfl, ⟨Or.inl rfl, ⟨Or.inl rfl, ⟨Or.inl rfl, ⟨Or.inl rfl, ⟨Or.inl rfl, ⟨Or.inl rfl, ⟨Or.inl rfl, ⟨Or.inl rfl, trivial⟩⟩⟩⟩⟩⟩⟩⟩⟩⟩⟩⟩⟩⟩⟩⟩⟩⟩⟩⟩⟩⟩⟩⟩⟩⟩ ?_
          exact next σ _ (lI_35 (τ := σ.2.1) (zf_s (zf_s (zf_mono hf2 (by decide)) (by decide)) (by decide)) (zC_35 (zC_35 hC2)) (lB_same hB3 ((hB3 b hb).2 q hq)) hm hI)
        · exact absurd h_536 (by omega)
      · exact absurd h_511 (by omega)
    · exact absurd rfl h_492
  · exact absurd h_472 (by omega)
set_option maxRecDepth 100000 in
set_option maxHeartbeats 600000 in
theorem lw_act {l : zw_Lh} {σ : zZ} {m n : Nat} {M : zw_M} {u x a b q c : Nat} (hI : lI M σ m n) (hm6 : 1 ≤ m ∧ m ≤ 6) (ha : a < m) (hb : b < m) (hq : q < 8) (hc : c < n) {gz : Int} (hg : (gz = 1 ∧ zpers σ (a : Int)) ∨ (gz = 0 ∧ ¬ zpers σ (a : Int))) (hx : x < 2147483648) (next : ∀ (σ2 : zZ) (M1 : zw_M), lI M1 σ2 m n → zw_X l 7 iL_law lQ 547 [.ref 37, .ref 0, .ref 33, .ref 34, .ref 35, .ref 36, .int (zn_I (n : Int)), .int (zn_I (m : Int)), .int (zn_I (u : Int)), .int (zn_I (x : Int)), .retAddr 0, .retAddr 0, .retAddr 0, .int (zn_I (c : Int)), .retAddr 0, .retAddr 0, .retAddr 0, .retAddr 0, .retAddr 0, .retAddr 0, .retAddr 0, .retAddr 0, .retAddr 0, .retAddr 0, .retAddr 0, .retAddr 0] [] M1) : zw_X l 7 iL_law lQ 249 [.ref 37, .ref 0, .ref 33, .ref 34, .ref 35, .ref 36, .int (zn_I (n : Int)), .int (zn_I (m : Int)), .int (zn_I (u : Int)), .int (zn_I (x : Int)), .int (zn_I (a : Int)), .int (zn_I (b : Int)), .int (zn_I (q : Int)), .int (zn_I (c : Int)), .int (zn_I gz), .retAddr 0, .retAddr 0, .retAddr 0, .retAddr 0, .retAddr 0, .retAddr 0, .retAddr 0, .retAddr 0, .retAddr 0, .retAddr 0, .retAddr 0] [] M := by
  obtain ⟨hC, hA, hB, hm, hn⟩ := id hI
  have h30 := zp_30 hC.1.1
  have hta := lk_in hI ha
  have htb := lk_in hI hb
  have hqu : zqu (q : Int) := ⟨by omega, by omega⟩
  have hhc : zhas σ (c : Int) := ⟨by omega, by omega⟩
  have hpa := hC.2.1.2.2.2.2.2.2.2 a (by omega) q hq
  have hpb := hC.2.1.2.2.2.2.2.2.2 b (by omega) q hq
  have hkr := hC.2.1.2.2.2.2.2.1 b (by omega)
  refine zx_iload dL_law_249 rfl ?_
  refine zx_iconst (v := zn_I 4) dL_law_251 rfl ?_
  refine zy_irem (a := x) (b := 4) dL_law_252 (by omega) ?_
  refine zy_if_ne (tgt := 326) dL_law_253 (by decide) (by omega) (fun h_253 => ?_) (fun h_253 => ?_)
  · refine zx_iload dL_law_326 rfl ?_
    refine zx_iconst (v := zn_I 4) dL_law_328 rfl ?_
    refine zy_irem (a := x) (b := 4) dL_law_329 (by omega) ?_
    refine zx_iconst (v := zn_I 1) dL_law_330 rfl ?_
    refine zy_icmp_ne (tgt := 406) dL_law_331 (by decide) (by omega) (fun h_331 => ?_) (fun h_331 => ?_)
    · refine zx_iload dL_law_406 rfl ?_
      refine zy_if_eq (tgt := 427) dL_law_408 (by decide) (by omega) (fun h_408 => ?_) (fun h_408 => ?_)
      · refine zx_iconst (v := zn_I 0) dL_law_427 rfl ?_
        exact lw_trade0 hI hm6 ha hb hq hc (fun r => by
          rcases hg with q | q
          · omega
          · exact q.2 r.1) next
      · refine zx_aload dL_law_411 rfl ?_
        refine zx_bipush (v := zn_I 10) dL_law_413 (by decide) ?_
        refine zx_iload dL_law_415 rfl ?_
        refine zy_imul dL_law_417 ?_
        refine zy_iald (i := 10 * b) dL_law_418 rfl (by decide) (by omega) (by omega) ((hB b hb).1.1) ?_
        refine zx_iconst (v := zn_I 2) dL_law_419 rfl ?_
        refine zy_icmp_le (tgt := 427) dL_law_420 (by decide) (by omega) (fun h_420 => ?_) (fun h_420 => ?_)
        · refine zx_iconst (v := zn_I 0) dL_law_427 rfl ?_
          exact lw_trade0 hI hm6 ha hb hq hc (fun r => by
            have r2 : zt_per σ.2.1 (Int.toNat (b : Int)) := r.2
            rw [Int.toNat_natCast] at r2
            rcases r2 with r2 | r2 <;> omega) next
        · refine zx_iconst (v := zn_I 1) dL_law_423 rfl ?_
          refine zx_goto (tgt := 428) dL_law_424 (by decide) ?_
          have hpb2 : zpers σ (b : Int) := by
            show zt_per σ.2.1 (Int.toNat (b : Int))
            rw [Int.toNat_natCast]
            show _ ∨ _
            omega
          exact lw_trade1 hI hm6 ha hb hq hc ⟨by
            rcases hg with q | q
            · exact q.2
            · omega, hpb2⟩ next
    · rcases hg with ⟨rfl, hp⟩ | ⟨rfl, hp⟩
      · exact lw_put1 hI hm6 ha hb hq hc hp next
      · exact lw_put0 hI hm6 ha hb hq hc hp next
  · rcases hg with ⟨rfl, hp⟩ | ⟨rfl, hp⟩
    · exact lw_stand1 hI hm6 ha hb hq hc hp next
    · exact lw_stand0 hI hm6 ha hb hq hc hp next
set_option maxRecDepth 100000 in
set_option maxHeartbeats 600000 in
theorem lw_turns {l : zw_Lh} {σ : zZ} {m n : Nat} {M : zw_M} (hL : l.2.1 ≤ 260) (hI : lI M σ m n) (hm6 : 1 ≤ m ∧ m ≤ 6) (hn0 : 0 < n) (next : ∀ (σ2 : zZ) (M1 : zw_M), lI M1 σ2 m n → zw_X l 7 iL_law lQ 1165 [.ref 37, .ref 0, .ref 33, .ref 34, .ref 35, .ref 36, .int (zn_I (n : Int)), .int (zn_I (m : Int)), .retAddr 0, .retAddr 0, .retAddr 0, .retAddr 0, .retAddr 0, .retAddr 0, .retAddr 0, .retAddr 0, .retAddr 0, .retAddr 0, .retAddr 0, .retAddr 0, .retAddr 0, .retAddr 0, .retAddr 0, .retAddr 0, .retAddr 0, .retAddr 0] [] M1) : zw_X l 7 iL_law lQ 168 [.ref 37, .ref 0, .ref 33, .ref 34, .ref 35, .ref 36, .int (zn_I (n : Int)), .int (zn_I (m : Int)), .retAddr 0, .retAddr 0, .retAddr 0, .retAddr 0, .retAddr 0, .retAddr 0, .retAddr 0, .retAddr 0, .retAddr 0, .retAddr 0, .retAddr 0, .retAddr 0, .retAddr 0, .retAddr 0, .retAddr 0, .retAddr 0, .retAddr 0, .retAddr 0] [] M := by
  have loop : ∀ u : Nat, u ≤ 12 → ∀ (σ : zZ) (M1 : zw_M), lI M1 σ m n → zw_X l 7 iL_law lQ 171 [.ref 37, .ref 0, .ref 33, .ref 34, .ref 35, .ref 36, .int (zn_I (n : Int)), .int (zn_I (m : Int)), .int (zn_I (u : Int)), .retAddr 0, .retAddr 0, .retAddr 0, .retAddr 0, .retAddr 0, .retAddr 0, .retAddr 0, .retAddr 0, .retAddr 0, .retAddr 0, .retAddr 0, .retAddr 0, .retAddr 0, .retAddr 0, .retAddr 0, .retAddr 0, .retAddr 0] [] M1 := by
    refine zw_loop 12 (P := fun u => ∀ (σ : zZ) (M1 : zw_M), lI M1 σ m n → zw_X l 7 iL_law lQ 171 [.ref 37, .ref 0, .ref 33, .ref 34, .ref 35, .ref 36, .int (zn_I (n : Int)), .int (zn_I (m : Int)), .int (zn_I (u : Int)), .retAddr 0, .retAddr 0, .retAddr 0, .retAddr 0, .retAddr 0, .retAddr 0, .retAddr 0, .retAddr 0, .retAddr 0, .retAddr 0, .retAddr 0, .retAddr 0, .retAddr 0, .retAddr 0, .retAddr 0, .retAddr 0, .retAddr 0] [] M1) (fun u hu ih σ M1 hI1 => ?_)
    obtain ⟨hC, hA, hB, hm, hn⟩ := id hI1
    have h30 := zp_30 hC.1.1
    refine zx_iload dL_law_171 rfl ?_
    refine zx_bipush (v := zn_I 12) dL_law_173 (by decide) ?_
    refine zy_icmp_ge (tgt := 1165) dL_law_175 (by decide) (by omega) (fun h_175 => ?_) (fun h_175 => ?_)
    · refine zx_weak (L1 := [.ref 37, .ref 0, .ref 33, .ref 34, .ref 35, .ref 36, .int (zn_I (n : Int)), .int (zn_I (m : Int)), .retAddr 0, .retAddr 0, .retAddr 0, .retAddr 0, .retAddr 0, .retAddr 0, .retAddr 0, .retAddr 0, .retAddr 0, .retAddr 0, .retAddr 0, .retAddr 0, .retAddr 0, .retAddr 0, .retAddr 0, .retAddr 0, .retAddr 0, .retAddr 0]) ⟨Or.inr rfl, ⟨Or.inr rfl, ⟨Or.inr rfl, ⟨Or.inr rfl, ⟨Or.inr rfl, ⟨Or.inr rfl, ⟨Or.inr rfl, ⟨Or.inr rfl, ⟨Or.inl rfl, ⟨Or.inl rfl, ⟨Or.inl rfl, ⟨Or.inl rfl, ⟨Or.inl rfl, ⟨Or.inl rfl, ⟨Or.inl rfl, ⟨Or.inl rfl, ⟨Or.inl rfl, ⟨Or.inl rfl, ⟨Or.inl rfl, ⟨Or.inl rfl, ⟨Or.inl rfl, ⟨Or.inl rfl, ⟨Or.inl rfl, ⟨Or.inl rfl, ⟨Or.inl rfl, ⟨Or.inl rfl, trivial⟩⟩⟩⟩⟩⟩⟩⟩⟩⟩⟩⟩⟩⟩⟩⟩⟩⟩⟩⟩⟩⟩⟩⟩⟩⟩ ?_
      exact next _ _ hI1
    · refine zx_aload_n dL_law_178 rfl ?_
      refine zx_bipush (v := zn_I 20) dL_law_179 (by decide) ?_
      refine zx_iload dL_law_181 rfl ?_
      refine zy_iadd dL_law_183 ?_
      refine zy_top (show _ = zn_I ((20 + u : Nat) : Int) from congrArg zn_I (by omega)) ?_
      refine zx_callS (y1 := iL_cell) dL_law_184 lL_14 sL_cell (mL_cell hL (k := 20 + u) (by omega)) rfl rfl (Nat.le_of_ble_eq_true rfl) ?_
      refine zk_i ?_
      have hxl := lS_lt l (20 + u)
      generalize lS l (20 + u) = x at hxl ⊢
      refine zx_istore dL_law_187 rfl (Nat.le_of_ble_eq_true rfl) ?_
      refine zx_iload dL_law_189 rfl ?_
      refine zx_iconst (v := zn_I 4) dL_law_191 rfl ?_
      refine zy_idiv (a := x) (b := 4) dL_law_192 (by omega) ?_
      refine zx_iload dL_law_193 rfl ?_
      refine zy_irem (a := x / 4) (b := m) dL_law_195 (by omega) ?_
      obtain ⟨a, ea⟩ : ∃ a, x / 4 % m = a := ⟨_, rfl⟩
      have haa : a < m := by rw [← ea]; exact Nat.mod_lt _ (by omega)
      rw [ea]
      refine zx_istore dL_law_196 rfl (Nat.le_of_ble_eq_true rfl) ?_
      refine zx_iload dL_law_198 rfl ?_
      refine zx_bipush (v := zn_I 32) dL_law_200 (by decide) ?_
      refine zy_idiv (a := x) (b := 32) dL_law_202 (by omega) ?_
      refine zx_iload dL_law_203 rfl ?_
      refine zy_irem (a := x / 32) (b := m) dL_law_205 (by omega) ?_
      obtain ⟨b, eb⟩ : ∃ b, x / 32 % m = b := ⟨_, rfl⟩
      have hbb : b < m := by rw [← eb]; exact Nat.mod_lt _ (by omega)
      rw [eb]
      refine zx_istore dL_law_206 rfl (Nat.le_of_ble_eq_true rfl) ?_
      refine zx_iload dL_law_208 rfl ?_
      refine zx_sipush (v := zn_I 256) dL_law_210 (by decide) ?_
      refine zy_idiv (a := x) (b := 256) dL_law_213 (by omega) ?_
      refine zx_bipush (v := zn_I 8) dL_law_214 (by decide) ?_
      refine zy_irem (a := x / 256) (b := 8) dL_law_216 (by omega) ?_
      obtain ⟨q, eq⟩ : ∃ q, x / 256 % 8 = q := ⟨_, rfl⟩
      have hqq : q < 8 := by rw [← eq]; exact Nat.mod_lt _ (by omega)
      rw [eq]
      refine zx_istore dL_law_217 rfl (Nat.le_of_ble_eq_true rfl) ?_
      refine zx_iload dL_law_219 rfl ?_
      refine zx_sipush (v := zn_I 2048) dL_law_221 (by decide) ?_
      refine zy_idiv (a := x) (b := 2048) dL_law_224 (by omega) ?_
      refine zx_iload dL_law_225 rfl ?_
      refine zy_irem (a := x / 2048) (b := n) dL_law_227 (by omega) ?_
      obtain ⟨c, ec⟩ : ∃ c, x / 2048 % n = c := ⟨_, rfl⟩
      have hcc : c < n := by rw [← ec]; exact Nat.mod_lt _ (by omega)
      rw [ec]
      have hkr := hC.2.1.2.2.2.2.2.1 a (by omega)
      refine zx_istore dL_law_228 rfl (Nat.le_of_ble_eq_true rfl) ?_
      refine zx_aload dL_law_230 rfl ?_
      refine zx_bipush (v := zn_I 10) dL_law_232 (by decide) ?_
      refine zx_iload dL_law_234 rfl ?_
      refine zy_imul dL_law_236 ?_
      refine zy_iald (i := 10 * a) dL_law_237 rfl (by decide) (by omega) (by omega) ((hB a haa).1.1) ?_
      refine zx_iconst (v := zn_I 2) dL_law_238 rfl ?_
      refine zy_icmp_le (tgt := 246) dL_law_239 (by decide) (by omega) (fun h_239 => ?_) (fun h_239 => ?_)
      · refine zx_iconst (v := zn_I 0) dL_law_246 rfl ?_
        refine zx_istore dL_law_247 rfl (Nat.le_of_ble_eq_true rfl) ?_
        refine lw_act hI1 hm6 haa hbb hqq hcc (gz := 0) (Or.inr ⟨rfl, fun r => by
          have r2 : zt_per σ.2.1 (Int.toNat (a : Int)) := r
          rw [Int.toNat_natCast] at r2
          rcases r2 with r2 | r2 <;> omega⟩) hxl (fun σ2 M2 hI2 => ?_)
        refine lw_about hI2 hm6 (fun M3 hI3 => ?_)
        refine lw_leans hI3 hm6 hcc (fun M4 hI4 => ?_)
        refine lw_late hI4 hm6 hn0 hxl (fun M5 hI5 => ?_)
        have ec : zk_count σ2 3 = (((zt_pl σ2.2.1 m).length : Nat) : Int) := by
          rw [← hI5.2.2.2.1]
          simp [zk_count, zt_m]
        refine zx_aload_n dL_law_1147 rfl ?_
        refine zx_iconst (v := zn_I 3) dL_law_1148 rfl ?_
        refine zx_callV (y1 := iX10_count) dL_law_1149 lL_28 vX10_count rc_0 (mX10_count hI5.1 (w := 3) (by omega)) rfl rfl (Nat.le_of_ble_eq_true rfl) ?_
        refine zk_i ?_
        rw [ec]
        refine zx_iload dL_law_1152 rfl ?_
        refine zy_icmp_eq (tgt := 1159) dL_law_1154 (by decide) (by have := lk_plle (τ := σ2.2.1) m; omega) (fun h_1154 => ?_) (fun h_1154 => ?_)
        · refine zy_iinc dL_law_1159 rfl rfl ?_
          refine zx_goto (tgt := 171) dL_law_1162 (by decide) ?_
          refine zx_weak (L1 := [.ref 37, .ref 0, .ref 33, .ref 34, .ref 35, .ref 36, .int (zn_I (n : Int)), .int (zn_I (m : Int)), .int (zn_I ((u + 1 : Nat) : Int)), .retAddr 0, .retAddr 0, .retAddr 0, .retAddr 0, .retAddr 0, .retAddr 0, .retAddr 0, .retAddr 0, .retAddr 0, .retAddr 0, .retAddr 0, .retAddr 0, .retAddr 0, .retAddr 0, .retAddr 0, .retAddr 0, .retAddr 0]) ⟨Or.inr rfl, ⟨Or.inr rfl, ⟨Or.inr rfl, ⟨Or.inr rfl, ⟨Or.inr rfl, ⟨Or.inr rfl, ⟨Or.inr rfl, ⟨Or.inr rfl, ⟨Or.inr rfl, ⟨Or.inl rfl, ⟨Or.inl rfl, ⟨Or.inl rfl, ⟨Or.inl rfl, ⟨Or.inl rfl, ⟨Or.inl rfl, ⟨Or.inl rfl, ⟨Or.inl rfl, ⟨Or.inl rfl, ⟨Or.inl rfl, ⟨Or.inl rfl, ⟨Or.inl rfl, ⟨Or.inl rfl, ⟨Or.inl rfl, ⟨Or.inl rfl, ⟨Or.inl rfl, ⟨Or.inl rfl, trivial⟩⟩⟩⟩⟩⟩⟩⟩⟩⟩⟩⟩⟩⟩⟩⟩⟩⟩⟩⟩⟩⟩⟩⟩⟩⟩ ?_
          exact ih (by omega) _ _ hI5
        · exact absurd rfl h_1154
      · refine zx_iconst (v := zn_I 1) dL_law_242 rfl ?_
        refine zx_goto (tgt := 247) dL_law_243 (by decide) ?_
        refine zx_istore dL_law_247 rfl (Nat.le_of_ble_eq_true rfl) ?_
        refine lw_act hI1 hm6 haa hbb hqq hcc (gz := 1) (Or.inl ⟨rfl, by show zt_per σ.2.1 (Int.toNat (a : Int)); rw [Int.toNat_natCast]; show _ ∨ _; omega⟩) hxl (fun σ2 M2 hI2 => ?_)
        refine lw_about hI2 hm6 (fun M3 hI3 => ?_)
        refine lw_leans hI3 hm6 hcc (fun M4 hI4 => ?_)
        refine lw_late hI4 hm6 hn0 hxl (fun M5 hI5 => ?_)
        have ec : zk_count σ2 3 = (((zt_pl σ2.2.1 m).length : Nat) : Int) := by
          rw [← hI5.2.2.2.1]
          simp [zk_count, zt_m]
        refine zx_aload_n dL_law_1147 rfl ?_
        refine zx_iconst (v := zn_I 3) dL_law_1148 rfl ?_
        refine zx_callV (y1 := iX10_count) dL_law_1149 lL_28 vX10_count rc_0 (mX10_count hI5.1 (w := 3) (by omega)) rfl rfl (Nat.le_of_ble_eq_true rfl) ?_
        refine zk_i ?_
        rw [ec]
        refine zx_iload dL_law_1152 rfl ?_
        refine zy_icmp_eq (tgt := 1159) dL_law_1154 (by decide) (by have := lk_plle (τ := σ2.2.1) m; omega) (fun h_1154 => ?_) (fun h_1154 => ?_)
        · refine zy_iinc dL_law_1159 rfl rfl ?_
          refine zx_goto (tgt := 171) dL_law_1162 (by decide) ?_
          refine zx_weak (L1 := [.ref 37, .ref 0, .ref 33, .ref 34, .ref 35, .ref 36, .int (zn_I (n : Int)), .int (zn_I (m : Int)), .int (zn_I ((u + 1 : Nat) : Int)), .retAddr 0, .retAddr 0, .retAddr 0, .retAddr 0, .retAddr 0, .retAddr 0, .retAddr 0, .retAddr 0, .retAddr 0, .retAddr 0, .retAddr 0, .retAddr 0, .retAddr 0, .retAddr 0, .retAddr 0, .retAddr 0, .retAddr 0]) ⟨Or.inr rfl, ⟨Or.inr rfl, ⟨Or.inr rfl, ⟨Or.inr rfl, ⟨Or.inr rfl, ⟨Or.inr rfl, ⟨Or.inr rfl, ⟨Or.inr rfl, ⟨Or.inr rfl, ⟨Or.inl rfl, ⟨Or.inl rfl, ⟨Or.inl rfl, ⟨Or.inl rfl, ⟨Or.inl rfl, ⟨Or.inl rfl, ⟨Or.inl rfl, ⟨Or.inl rfl, ⟨Or.inl rfl, ⟨Or.inl rfl, ⟨Or.inl rfl, ⟨Or.inl rfl, ⟨Or.inl rfl, ⟨Or.inl rfl, ⟨Or.inl rfl, ⟨Or.inl rfl, ⟨Or.inl rfl, trivial⟩⟩⟩⟩⟩⟩⟩⟩⟩⟩⟩⟩⟩⟩⟩⟩⟩⟩⟩⟩⟩⟩⟩⟩⟩⟩ ?_
          exact ih (by omega) _ _ hI5
        · exact absurd rfl h_1154
  refine zx_iconst (v := zn_I 0) dL_law_168 rfl ?_
  refine zx_istore dL_law_169 rfl (Nat.le_of_ble_eq_true rfl) ?_
  exact loop 0 (Nat.zero_le _) σ M hI
