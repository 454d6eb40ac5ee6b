/-! THE REFERENCE'S LATE: where all stand in one quarter -/
/-- in one quarter all stand at g -/
def mcol (τ : zQ) (q : Nat) (g : Nat → Nat) : zQ := (τ.1, τ.2.1, τ.2.2.1, fun t u => if u = q then g t else τ.2.2.2 t u)
theorem mcol_up {τ : zQ} {q t s : Nat} {g : Nat → Nat} : zt_at (mcol τ q g) t q s = mcol τ q (zc_up g t s) := by
  refine congrArg (fun h => ((τ.1, τ.2.1, τ.2.2.1, h) : zQ)) ?_
  funext u v
  show (if u = t then (fun u => if u = q then s else if u = q then g t else τ.2.2.2 t u) else fun u_1 => if u_1 = q then g u else τ.2.2.2 u u_1) v = if v = q then (if u = t then s else g u) else τ.2.2.2 u v
  by_cases e : u = t
  · subst e
    by_cases e2 : v = q
    · simp [e2]
    · simp [e2]
  · simp [e]
theorem mcol_cong {M : zw_M} {n : Nat} {τ : zQ} {q : Nat} {f g : Nat → Nat} (h : ∀ t, t < τ.1 → f t = g t) (hT : mT M n (mcol τ q f)) : mT M n (mcol τ q g) :=
  mT_cong (τ' := mcol τ q f) rfl rfl rfl (fun t ht u _ => by
    show (if u = q then f t else τ.2.2.2 t u) = (if u = q then g t else τ.2.2.2 t u)
    rw [h t ht]) hT
theorem mcol_to {M : zw_M} {n : Nat} {τ : zQ} {q : Nat} (hT : mT M n τ) : mT M n (mcol τ q (fun t => τ.2.2.2 t q)) :=
  mT_cong (τ := mcol τ q (fun t => τ.2.2.2 t q)) (τ' := τ) rfl rfl rfl (fun t _ u _ => by
    show τ.2.2.2 t u = (if u = q then τ.2.2.2 t q else τ.2.2.2 t u)
    split
    · next e => rw [e]
    · rfl) hT
theorem mcol_of {M : zw_M} {n : Nat} {τ : zQ} {q : Nat} (hT : mT M n (mcol τ q (fun t => τ.2.2.2 t q))) : mT M n τ :=
  mT_cong (τ' := mcol τ q (fun t => τ.2.2.2 t q)) rfl rfl rfl (fun t _ u _ => by
    show (if u = q then τ.2.2.2 t q else τ.2.2.2 t u) = τ.2.2.2 t u
    split
    · next e => rw [e]
    · rfl) hT
theorem mcol_F {h g : Nat → Nat} {k : Nat} : zc_up (mt_F h g k) k (h k) = mt_F h g (k + 1) := by
  funext u
  show (if u = k then h k else mt_F h g k u) = _
  by_cases e : u = k
  · rw [if_pos e, e, mt_F_at]
  · rw [if_neg e, mt_F_ne e]
theorem mcol_step {M : zw_M} {n : Nat} {τ : zQ} {q k : Nat} {h g : Nat → Nat} (hT : mT M n (mcol τ q (mt_F h g k))) (hk : k < τ.1) (hq : q < 8) (hn : h k < n) : mT (zw_s M 37 (8 * k + q) (zn_I (h k : Nat))) n (mcol τ q (mt_F h g (k + 1))) := by
  have e := mcol_up (τ := τ) (q := q) (t := k) (s := h k) (g := mt_F h g k)
  rw [mcol_F] at e
  rw [← e]
  exact mT_at hT hq hk hn
theorem mcol_e {π : zP} {τ : zQ} {q : Nat} {g : Nat → Nat} : ∀ t, zl_e π (mcol τ q g) q t = zm_e π τ g t ∧ zl_s π (mcol τ q g) q t = zm_s π τ g t
  | 0 => ⟨rfl, rfl⟩
  | t + 1 => by
    have ih := mcol_e (π := π) (τ := τ) (q := q) (g := g) t
    rw [zl_e, zl_s, zm_e, zm_s, ih.1, ih.2]
    have e : (mcol τ q g).2.2.2 t q = g t := if_pos rfl
    rw [e]
    exact ⟨rfl, rfl⟩
theorem mcol_wet {π : zP} {τ : zQ} {q : Nat} {g : Nat → Nat} : mwet π (mcol τ q g) 0 0 0 q = zm_wet π τ g := by
  rw [mwet_0]
  show zp_bits π (zl_e π (mcol τ q g) q τ.1) (zl_s π (mcol τ q g) q τ.1) (zp_n π) = _
  rw [(mcol_e τ.1).1, (mcol_e τ.1).2]
  rfl
/-- where all stand, if a set is late -/
def ml_g (τ : zQ) (q set : Nat) : Nat → Nat := fun t => if set.testBit t = true then τ.2.2.2 t (q - 1) else τ.2.2.2 t q
theorem ml_g_e {π : zP} {τ : zQ} {q set : Nat} : ∀ t, t ≤ τ.1 → zm_e π τ (ml_g τ q set) t = zl_e π τ q t + zl_add (zl_ce π τ q) set t ∧ zm_s π τ (ml_g τ q set) t = zl_s π τ q t + zl_add (zl_cs π τ q) set t
  | 0, _ => ⟨rfl, rfl⟩
  | t + 1, h => by
    have ih := ml_g_e (π := π) (τ := τ) (q := q) (set := set) t (by omega)
    have c1 : zl_ce π τ q t = zt_w τ t * (zp_e π (τ.2.2.2 t (q - 1)) - zp_e π (τ.2.2.2 t q)) := if_pos (by omega)
    have c2 : zl_cs π τ q t = zt_w τ t * (zp_s π (τ.2.2.2 t (q - 1)) - zp_s π (τ.2.2.2 t q)) := if_pos (by omega)
    rw [zm_e, zm_s, zl_e, zl_s, zl_add, zl_add, ih.1, ih.2, c1, c2]
    by_cases c : set.testBit t = true
    · have cg : ml_g τ q set t = τ.2.2.2 t (q - 1) := if_pos c
      rw [cg, if_pos c, if_pos c, Int.mul_sub, Int.mul_sub]
      omega
    · have cg : ml_g τ q set t = τ.2.2.2 t q := if_neg c
      rw [cg, if_neg c, if_neg c]
      omega
theorem zl_add_out {π : zP} {τ : zQ} {q set : Nat} : ∀ j, zl_add (zl_ce π τ q) set (τ.1 + j) = zl_add (zl_ce π τ q) set τ.1 ∧ zl_add (zl_cs π τ q) set (τ.1 + j) = zl_add (zl_cs π τ q) set τ.1
  | 0 => ⟨rfl, rfl⟩
  | j + 1 => by
    have ih := zl_add_out (π := π) (τ := τ) (q := q) (set := set) j
    have c1 : zl_ce π τ q (τ.1 + j) = 0 := if_neg (by omega)
    have c2 : zl_cs π τ q (τ.1 + j) = 0 := if_neg (by omega)
    rw [← Nat.add_assoc, zl_add, zl_add, ih.1, ih.2, c1, c2]
    simp
theorem ml_late {π : zP} {τ : zQ} (h8 : τ.1 ≤ 8) {q set : Nat} : zm_wet π τ (ml_g τ q set) = zl_if π τ q set := by
  have e := zl_add_out (π := π) (τ := τ) (q := q) (set := set) (8 - τ.1)
  rw [show τ.1 + (8 - τ.1) = 8 by omega] at e
  rw [zm_wet, zl_if, (ml_g_e τ.1 (Nat.le_refl _)).1, (ml_g_e τ.1 (Nat.le_refl _)).2, e.1, e.2]
  rfl
theorem mcol_val {M : zw_M} {n : Nat} {τ : zQ} {q k u : Nat} {g : Nat → Nat} (hT : mT M n (mcol τ q g)) (hk : k < τ.1) (hu : u < 8) : M.1 37 (8 * k + u) = zn_I ((if u = q then g k else τ.2.2.2 k u : Nat) : Int) := hT.2.2.2.2.1 k hk u hu
theorem mt_pb_8 {M : zw_M} {n : Nat} {τ : zQ} (hT : mT M n τ) : zt_pb τ τ.1 < 256 := Nat.lt_of_lt_of_le (zt_pb_lt τ τ.1) (Nat.pow_le_pow_right (n := 2) (by decide) hT.1)
set_option maxRecDepth 100000 in
set_option maxHeartbeats 600000 in
theorem mX11_lateNow {l : Launch} {d : Nat} {M : zw_M} {π : zP} {τ : zQ} (hI : mI M π) (hT : mT M (zp_n π) τ) (hM : mM M 0 0 0) {q : Nat} (hq : 1 ≤ q ∧ q < 8) {o : Int} (ho : 0 ≤ o ∧ o < 1073741824) {x : Nat} (hx : x < 3) : zw_C l (d + 3) iX11_lateNow [.ref 33, .int (zn_I (q : Int)), .int (zn_I o), .int (zn_I (x : Int))] M (fun v M1 => v = some (.int (zn_I (zl_ans π τ q o x : Nat))) ∧ mfr [37, 41] [] M M1 ∧ mT M1 (zp_n π) τ) := by
  have hp := hI.1
  have h30 := zp_30 hp
  have hr0 : M.1 33 0 = zn_I π.1 := hI.2.1
  have hr1 : M.1 33 1 = zn_I π.2.1 := hI.2.2.1
  have hr2 : M.1 33 2 = zn_I (zp_n π) := hI.2.2.2.1
  have h8 := hT.1
  refine zw_of (by decide +kernel) (Nat.le_of_ble_eq_true rfl) ?_
  refine zy_loc (L1 := [.ref 33, .int (zn_I (q : Int)), .int (zn_I o), .int (zn_I (x : Int)), .retAddr 0, .retAddr 0, .retAddr 0, .retAddr 0, .retAddr 0, .retAddr 0]) rfl ?_
  have hq1 := hq.2
  have hpb := mt_pb_8 hT
  have hlr : (zl_late π τ q o).1 ≤ zt_pb τ τ.1 + 1 := (zl_go_rng (f := zl_ok π τ q o) hpb _ (by omega)).1
  have LC : ∀ (M1 : zw_M) (g : Nat → Nat) (v9 : Value), mfr [37, 41] [] M M1 → (∀ i, i < τ.1 → M1.1 41 i = zn_I (τ.2.2.2 i q : Nat)) → mT M1 (zp_n π) (mcol τ q g) → ∀ k : Nat, k ≤ τ.1 → ∀ M2 : zw_M, mfr [37] [] M1 M2 → mT M2 (zp_n π) (mcol τ q (mt_F (fun t => τ.2.2.2 t q) g k)) → zw_X l (d + 3) iX11_lateNow (fun v M1 => v = some (.int (zn_I (zl_ans π τ q o x : Nat))) ∧ mfr [37, 41] [] M M1 ∧ mT M1 (zp_n π) τ) 230 [.ref 33, .int (zn_I (q : Int)), .int (zn_I o), .int (zn_I (x : Int)), .int (zn_I (zt_pb τ τ.1 : Nat)), .int (zn_I ((zl_late π τ q o).1 : Nat)), .int (zn_I ((zl_late π τ q o).2.1 : Nat)), .int (zn_I ((zl_late π τ q o).2.2 : Nat)), .int (zn_I (k : Int)), v9] [] M2 := by
    intro M1 g v9 hf h41 hT1
    refine zw_loop τ.1 (P := fun k => ∀ M2 : zw_M, mfr [37] [] M1 M2 → mT M2 (zp_n π) (mcol τ q (mt_F (fun t => τ.2.2.2 t q) g k)) → zw_X l (d + 3) iX11_lateNow (fun v M1 => v = some (.int (zn_I (zl_ans π τ q o x : Nat))) ∧ mfr [37, 41] [] M M1 ∧ mT M1 (zp_n π) τ) 230 [.ref 33, .int (zn_I (q : Int)), .int (zn_I o), .int (zn_I (x : Int)), .int (zn_I (zt_pb τ τ.1 : Nat)), .int (zn_I ((zl_late π τ q o).1 : Nat)), .int (zn_I ((zl_late π τ q o).2.1 : Nat)), .int (zn_I ((zl_late π τ q o).2.2 : Nat)), .int (zn_I (k : Int)), v9] [] M2) (fun k hk ih M2 hf2 hT2 => ?_)
    refine zx_iload dX11_lateNow_230 rfl ?_
    refine zx_aload_n dX11_lateNow_232 rfl ?_
    refine zy_geti dX11_lateNow_233 fX11_95 ((show _ = zn_I (τ.1 : Int) from hT2.2.1)) ?_
    refine zy_icmp_ge (tgt := 264) dX11_lateNow_236 (by decide) (by omega) (fun h_236 => ?_) (fun h_236 => ?_)
    · refine zx_iload_n dX11_lateNow_264 rfl ?_
      refine zy_if_ne (tgt := 273) dX11_lateNow_265 (by decide) (by omega) (fun h_265 => ?_) (fun h_265 => ?_)
      · refine zx_iload_n dX11_lateNow_273 rfl ?_
        refine zx_iconst (v := zn_I 2) dX11_lateNow_274 rfl ?_
        refine zy_icmp_ne (tgt := 283) dX11_lateNow_275 (by decide) (by omega) (fun h_275 => ?_) (fun h_275 => ?_)
        · refine zx_iload dX11_lateNow_283 rfl ?_
          refine zy_if_ne (tgt := 292) dX11_lateNow_285 (by decide) (by omega) (fun h_285 => ?_) (fun h_285 => ?_)
          · refine zx_iload dX11_lateNow_292 rfl ?_
            refine zx_iret (st := []) dX11_lateNow_294 rfl rfl ?_
            have hkm : k = τ.1 := by omega
            subst hkm
            refine ⟨?_, mf_tr hf (mf_mono hf2 (by decide)), mcol_of (mcol_cong (fun t ht => by rw [mt_F, if_pos ht]) hT2)⟩
            rw [zl_ans, if_neg (by omega), if_pos (by omega), if_neg (by omega)]
          · refine zx_iconst (v := zn_I 0) dX11_lateNow_288 rfl ?_
            refine zx_goto (tgt := 294) dX11_lateNow_289 (by decide) ?_
            refine zx_iret (st := []) dX11_lateNow_294 rfl rfl ?_
            have hkm : k = τ.1 := by omega
            subst hkm
            refine ⟨?_, mf_tr hf (mf_mono hf2 (by decide)), mcol_of (mcol_cong (fun t ht => by rw [mt_F, if_pos ht]) hT2)⟩
            rw [zl_ans, if_neg (by omega), if_pos (by omega), if_pos (by omega)]
            rfl
        · refine zx_iload dX11_lateNow_278 rfl ?_
          refine zx_goto (tgt := 294) dX11_lateNow_280 (by decide) ?_
          refine zx_iret (st := []) dX11_lateNow_294 rfl rfl ?_
          have hkm : k = τ.1 := by omega
          subst hkm
          refine ⟨?_, mf_tr hf (mf_mono hf2 (by decide)), mcol_of (mcol_cong (fun t ht => by rw [mt_F, if_pos ht]) hT2)⟩
          rw [zl_ans, if_neg (by omega), if_neg (by omega)]
      · refine zx_iload dX11_lateNow_268 rfl ?_
        refine zx_goto (tgt := 294) dX11_lateNow_270 (by decide) ?_
        refine zx_iret (st := []) dX11_lateNow_294 rfl rfl ?_
        have hkm : k = τ.1 := by omega
        subst hkm
        refine ⟨?_, mf_tr hf (mf_mono hf2 (by decide)), mcol_of (mcol_cong (fun t ht => by rw [mt_F, if_pos ht]) hT2)⟩
        rw [zl_ans, if_pos (by omega)]
    · refine zx_aload_n dX11_lateNow_239 rfl ?_
      refine zx_getr dX11_lateNow_240 fX11_19 ?_
      refine zx_bipush (v := zn_I 8) dX11_lateNow_243 (by decide) ?_
      refine zx_iload dX11_lateNow_245 rfl ?_
      refine zy_imul dX11_lateNow_247 ?_
      refine zx_iload_n dX11_lateNow_248 rfl ?_
      refine zy_iadd dX11_lateNow_249 ?_
      refine zx_aload_n dX11_lateNow_250 rfl ?_
      refine zx_getr dX11_lateNow_251 fX11_32 ?_
      refine zx_iload dX11_lateNow_254 rfl ?_
      refine zy_iald (i := k) dX11_lateNow_256 rfl (by decide) (by omega) (by omega) ((show _ = zn_I (τ.2.2.2 k q : Nat) from by rw [(hf2.1 41 (by decide) (by decide)).1]; exact h41 k (by omega))) ?_
      refine zy_iast (i := 8 * k + q) dX11_lateNow_257 rfl (by decide) (by omega) (by omega) ?_
      refine zy_iinc dX11_lateNow_258 rfl rfl ?_
      refine zx_goto (tgt := 230) dX11_lateNow_261 (by decide) ?_
      exact ih (by omega) _ (mf_s hf2 (by decide) (by decide)) (mcol_step hT2 (by omega) hq1 (hT.2.2.2.2.2.2.2 k (by omega) q hq1))
  have LS : ∀ s : Nat, s ≤ zt_pb τ τ.1 + 1 → ∀ (M1 : zw_M) (g : Nat → Nat) (v9 : Value), mfr [37, 41] [] M M1 → (∀ i, i < τ.1 → M1.1 41 i = zn_I (τ.2.2.2 i q : Nat)) → mT M1 (zp_n π) (mcol τ q g) → zw_X l (d + 3) iX11_lateNow (fun v M1 => v = some (.int (zn_I (zl_ans π τ q o x : Nat))) ∧ mfr [37, 41] [] M M1 ∧ mT M1 (zp_n π) τ) 75 [.ref 33, .int (zn_I (q : Int)), .int (zn_I o), .int (zn_I (x : Int)), .int (zn_I (zt_pb τ τ.1 : Nat)), .int (zn_I ((zl_go (zl_ok π τ q o) (zt_pb τ τ.1) s).1 : Nat)), .int (zn_I ((zl_go (zl_ok π τ q o) (zt_pb τ τ.1) s).2.1 : Nat)), .int (zn_I ((zl_go (zl_ok π τ q o) (zt_pb τ τ.1) s).2.2 : Nat)), .int (zn_I (s : Int)), v9] [] M1 := by
    refine zw_loop (zt_pb τ τ.1 + 1) (P := fun s => ∀ (M1 : zw_M) (g : Nat → Nat) (v9 : Value), mfr [37, 41] [] M M1 → (∀ i, i < τ.1 → M1.1 41 i = zn_I (τ.2.2.2 i q : Nat)) → mT M1 (zp_n π) (mcol τ q g) → zw_X l (d + 3) iX11_lateNow (fun v M1 => v = some (.int (zn_I (zl_ans π τ q o x : Nat))) ∧ mfr [37, 41] [] M M1 ∧ mT M1 (zp_n π) τ) 75 [.ref 33, .int (zn_I (q : Int)), .int (zn_I o), .int (zn_I (x : Int)), .int (zn_I (zt_pb τ τ.1 : Nat)), .int (zn_I ((zl_go (zl_ok π τ q o) (zt_pb τ τ.1) s).1 : Nat)), .int (zn_I ((zl_go (zl_ok π τ q o) (zt_pb τ τ.1) s).2.1 : Nat)), .int (zn_I ((zl_go (zl_ok π τ q o) (zt_pb τ τ.1) s).2.2 : Nat)), .int (zn_I (s : Int)), v9] [] M1) (fun s hs ih M1 g v9 hf h41 hT1 => ?_)
    have hgr := zl_go_rng (f := zl_ok π τ q o) hpb s (by omega)
    refine zx_iload dX11_lateNow_75 rfl ?_
    refine zx_iload dX11_lateNow_77 rfl ?_
    refine zy_icmp_gt (tgt := 227) dX11_lateNow_79 (by decide) (by omega) (fun h_79 => ?_) (fun h_79 => ?_)
    · have es : s = zt_pb τ τ.1 + 1 := by omega
      subst es
      refine zx_iconst (v := zn_I 0) dX11_lateNow_227 rfl ?_
      refine zx_istore dX11_lateNow_228 rfl (Nat.le_of_ble_eq_true rfl) ?_
      exact LC M1 g v9 hf h41 hT1 0 (Nat.zero_le _) M1 mf_rf (mcol_cong (fun t _ => by rw [mt_F, if_neg (Nat.not_lt_zero _)]) hT1)
    · refine zx_iload dX11_lateNow_82 rfl ?_
      refine zx_iload dX11_lateNow_84 rfl ?_
      refine zx_iconst (v := zn_I (-1)) dX11_lateNow_86 rfl ?_
      refine zx_ixor dX11_lateNow_87 ?_
      refine zx_iand dX11_lateNow_88 ?_
      refine zx_if_ne (tgt := 221) dX11_lateNow_89 (by decide) (fun h_89 => ?_) (fun h_89 => ?_)
      · refine zy_iinc dX11_lateNow_221 rfl rfl ?_
        refine zx_goto (tgt := 75) dX11_lateNow_224 (by decide) ?_
        have hok : zl_ok π τ q o s = false := by unfold zl_ok; rw [decide_eq_false h_89]; rfl
        have h9 := ih (by omega) M1 g v9 hf h41 hT1
        rw [zl_go, if_neg (by rw [hok]; decide)] at h9
        exact h9
      · have hsub := h_89
        refine zx_iconst (v := zn_I 0) dX11_lateNow_92 rfl ?_
        refine zx_istore dX11_lateNow_93 rfl (Nat.le_of_ble_eq_true rfl) ?_
        have LI : ∀ k : Nat, k ≤ τ.1 → ∀ M2 : zw_M, mfr [37] [] M1 M2 → mT M2 (zp_n π) (mcol τ q (mt_F (ml_g τ q s) g k)) → zw_X l (d + 3) iX11_lateNow (fun v M1 => v = some (.int (zn_I (zl_ans π τ q o x : Nat))) ∧ mfr [37, 41] [] M M1 ∧ mT M1 (zp_n π) τ) 95 [.ref 33, .int (zn_I (q : Int)), .int (zn_I o), .int (zn_I (x : Int)), .int (zn_I (zt_pb τ τ.1 : Nat)), .int (zn_I ((zl_go (zl_ok π τ q o) (zt_pb τ τ.1) s).1 : Nat)), .int (zn_I ((zl_go (zl_ok π τ q o) (zt_pb τ τ.1) s).2.1 : Nat)), .int (zn_I ((zl_go (zl_ok π τ q o) (zt_pb τ τ.1) s).2.2 : Nat)), .int (zn_I (s : Int)), .int (zn_I (k : Int))] [] M2 := by
          refine zw_loop τ.1 (P := fun k => ∀ M2 : zw_M, mfr [37] [] M1 M2 → mT M2 (zp_n π) (mcol τ q (mt_F (ml_g τ q s) g k)) → zw_X l (d + 3) iX11_lateNow (fun v M1 => v = some (.int (zn_I (zl_ans π τ q o x : Nat))) ∧ mfr [37, 41] [] M M1 ∧ mT M1 (zp_n π) τ) 95 [.ref 33, .int (zn_I (q : Int)), .int (zn_I o), .int (zn_I (x : Int)), .int (zn_I (zt_pb τ τ.1 : Nat)), .int (zn_I ((zl_go (zl_ok π τ q o) (zt_pb τ τ.1) s).1 : Nat)), .int (zn_I ((zl_go (zl_ok π τ q o) (zt_pb τ τ.1) s).2.1 : Nat)), .int (zn_I ((zl_go (zl_ok π τ q o) (zt_pb τ τ.1) s).2.2 : Nat)), .int (zn_I (s : Int)), .int (zn_I (k : Int))] [] M2) (fun k hk ihk M2 hf2 hT2 => ?_)
          refine zx_iload dX11_lateNow_95 rfl ?_
          refine zx_aload_n dX11_lateNow_97 rfl ?_
          refine zy_geti dX11_lateNow_98 fX11_95 ((show _ = zn_I (τ.1 : Int) from hT2.2.1)) ?_
          refine zy_icmp_ge (tgt := 156) dX11_lateNow_101 (by decide) (by omega) (fun h_101 => ?_) (fun h_101 => ?_)
          · have hT3 : mT M2 (zp_n π) (mcol τ q (ml_g τ q s)) := mcol_cong (fun t ht => by rw [mt_F, if_pos (by omega)]) hT2
            have hf3 : mfr [37, 41] [] M M2 := mf_tr hf (mf_mono hf2 (by decide))
            have h413 : ∀ i, i < τ.1 → M2.1 41 i = zn_I (τ.2.2.2 i q : Nat) := fun i hi => by rw [(hf2.1 41 (by decide) (by decide)).1]; exact h41 i hi
            have hwe : mwet π (mcol τ q (ml_g τ q s)) 0 0 0 q = zl_if π τ q s := mcol_wet.trans (ml_late h8)
            have hwl := mwet_30 hp (mcol τ q (ml_g τ q s)) 0 0 0 q
            rw [hwe] at hwl
            refine zx_aload_n dX11_lateNow_156 rfl ?_
            refine zx_iload_n dX11_lateNow_157 rfl ?_
            refine zx_callV (y1 := iX11_wetIn) dX11_lateNow_158 lX11_143 vX11_wetIn rc_33 (mX11_wetIn (mI_f hf3 hI (by decide)) hT3 (mM_f hf3 hM (by decide)) hq1) rfl rfl (Nat.le_of_ble_eq_true rfl) ?_
            refine zk_i ?_
            rw [hwe]
            refine zx_iload_n dX11_lateNow_161 rfl ?_
            refine zy_icmp_ne (tgt := 169) dX11_lateNow_162 (by decide) (by omega) (fun h_162 => ?_) (fun h_162 => ?_)
            · refine zx_iconst (v := zn_I 0) dX11_lateNow_169 rfl ?_
              refine zx_istore dX11_lateNow_170 rfl (Nat.le_of_ble_eq_true rfl) ?_
              refine zx_iload dX11_lateNow_172 rfl ?_
              refine zx_iload dX11_lateNow_174 rfl ?_
              refine zy_if_eq (tgt := 183) dX11_lateNow_176 (by decide) (by omega) (fun h_176 => ?_) (fun h_176 => ?_)
              · refine zx_iconst (v := zn_I 0) dX11_lateNow_183 rfl ?_
                refine zy_iadd dX11_lateNow_184 ?_
                refine zx_istore dX11_lateNow_185 rfl (Nat.le_of_ble_eq_true rfl) ?_
                refine zx_iload dX11_lateNow_187 rfl ?_
                refine zy_if_eq (tgt := 200) dX11_lateNow_189 (by decide) (by omega) (fun h_189 => ?_) (fun h_189 => ?_)
                · refine zx_iload dX11_lateNow_200 rfl ?_
                  refine zx_istore dX11_lateNow_202 rfl (Nat.le_of_ble_eq_true rfl) ?_
                  refine zx_iload dX11_lateNow_204 rfl ?_
                  refine zy_if_eq (tgt := 217) dX11_lateNow_206 (by decide) (by omega) (fun h_206 => ?_) (fun h_206 => ?_)
                  · refine zx_iload dX11_lateNow_217 rfl ?_
                    refine zx_istore dX11_lateNow_219 rfl (Nat.le_of_ble_eq_true rfl) ?_
                    refine zy_iinc dX11_lateNow_221 rfl rfl ?_
                    refine zx_goto (tgt := 75) dX11_lateNow_224 (by decide) ?_
                    rw [Int.add_zero]
                    have hok : zl_ok π τ q o s = false := by unfold zl_ok; rw [decide_eq_false (p := (zl_if π τ q s : Int) = o) h_162, Bool.and_false]
                    have h9 := ih (by omega) M2 _ (.int (zn_I 0)) hf3 h413 hT3
                    rw [zl_go, if_neg (by rw [hok]; decide)] at h9
                    exact h9
                  · exact absurd rfl h_206
                · exact absurd rfl h_189
              · exact absurd rfl h_176
            · refine zx_iconst (v := zn_I 1) dX11_lateNow_165 rfl ?_
              refine zx_goto (tgt := 170) dX11_lateNow_166 (by decide) ?_
              refine zx_istore dX11_lateNow_170 rfl (Nat.le_of_ble_eq_true rfl) ?_
              refine zx_iload dX11_lateNow_172 rfl ?_
              refine zx_iload dX11_lateNow_174 rfl ?_
              refine zy_if_eq (tgt := 183) dX11_lateNow_176 (by decide) (by omega) (fun h_176 => ?_) (fun h_176 => ?_)
              · exact absurd h_176 (by decide)
              · refine zx_iconst (v := zn_I 1) dX11_lateNow_179 rfl ?_
                refine zx_goto (tgt := 184) dX11_lateNow_180 (by decide) ?_
                refine zy_iadd dX11_lateNow_184 ?_
                refine zx_istore dX11_lateNow_185 rfl (Nat.le_of_ble_eq_true rfl) ?_
                refine zx_iload dX11_lateNow_187 rfl ?_
                refine zy_if_eq (tgt := 200) dX11_lateNow_189 (by decide) (by omega) (fun h_189 => ?_) (fun h_189 => ?_)
                · exact absurd h_189 (by decide)
                · refine zx_iload dX11_lateNow_192 rfl ?_
                  refine zx_iload dX11_lateNow_194 rfl ?_
                  refine zx_iand dX11_lateNow_196 ?_
                  refine zy_top (zb_and _ _) ?_
                  refine zx_goto (tgt := 202) dX11_lateNow_197 (by decide) ?_
                  refine zx_istore dX11_lateNow_202 rfl (Nat.le_of_ble_eq_true rfl) ?_
                  refine zx_iload dX11_lateNow_204 rfl ?_
                  refine zy_if_eq (tgt := 217) dX11_lateNow_206 (by decide) (by omega) (fun h_206 => ?_) (fun h_206 => ?_)
                  · exact absurd h_206 (by decide)
                  · refine zx_iload dX11_lateNow_209 rfl ?_
                    refine zx_iload dX11_lateNow_211 rfl ?_
                    refine zx_ior dX11_lateNow_213 ?_
                    refine zy_top (zb_or2 _ _) ?_
                    refine zx_goto (tgt := 219) dX11_lateNow_214 (by decide) ?_
                    refine zx_istore dX11_lateNow_219 rfl (Nat.le_of_ble_eq_true rfl) ?_
                    refine zy_iinc dX11_lateNow_221 rfl rfl ?_
                    refine zx_goto (tgt := 75) dX11_lateNow_224 (by decide) ?_
                    have hok : zl_ok π τ q o s = true := by unfold zl_ok; rw [decide_eq_true hsub, decide_eq_true (p := (zl_if π τ q s : Int) = o) h_162]; rfl
                    have h9 := ih (by omega) M2 _ (.int (zn_I 1)) hf3 h413 hT3
                    rw [zl_go, if_pos hok] at h9
                    exact h9
          · refine zx_aload_n dX11_lateNow_104 rfl ?_
            refine zx_getr dX11_lateNow_105 fX11_19 ?_
            refine zx_bipush (v := zn_I 8) dX11_lateNow_108 (by decide) ?_
            refine zx_iload dX11_lateNow_110 rfl ?_
            refine zy_imul dX11_lateNow_112 ?_
            refine zx_iload_n dX11_lateNow_113 rfl ?_
            refine zy_iadd dX11_lateNow_114 ?_
            refine zx_iload dX11_lateNow_115 rfl ?_
            refine zx_iload dX11_lateNow_117 rfl ?_
            refine zx_callS (y1 := iX11_has) dX11_lateNow_119 lX11_224 sX11_has (mX11_has (x := s) (k := k) (by omega) (by omega)) rfl rfl (Nat.le_of_ble_eq_true rfl) ?_
            refine zk_i ?_
            refine zy_ifB_eq (tgt := 142) dX11_lateNow_122 (by decide) (fun h_122 => ?_) (fun h_122 => ?_)
            · refine zx_aload_n dX11_lateNow_142 rfl ?_
              refine zx_getr dX11_lateNow_143 fX11_32 ?_
              refine zx_iload dX11_lateNow_146 rfl ?_
              refine zy_iald (i := k) dX11_lateNow_148 rfl (by decide) (by omega) (by omega) ((show _ = zn_I (ml_g τ q s k : Nat) from by rw [(hf2.1 41 (by decide) (by decide)).1, ml_g, if_neg h_122]; exact h41 k (by omega))) ?_
              refine zy_iast (i := 8 * k + q) dX11_lateNow_149 rfl (by decide) (by omega) (by omega) ?_
              refine zy_iinc dX11_lateNow_150 rfl rfl ?_
              refine zx_goto (tgt := 95) dX11_lateNow_153 (by decide) ?_
              exact ihk (by omega) _ (mf_s hf2 (by decide) (by decide)) (mcol_step hT2 (by omega) hq1 (by have b1 := hT.2.2.2.2.2.2.2 k (by omega) (q - 1) (by omega); have b2 := hT.2.2.2.2.2.2.2 k (by omega) q hq1; unfold ml_g; split <;> assumption))
            · refine zx_aload_n dX11_lateNow_125 rfl ?_
              refine zx_getr dX11_lateNow_126 fX11_19 ?_
              refine zx_bipush (v := zn_I 8) dX11_lateNow_129 (by decide) ?_
              refine zx_iload dX11_lateNow_131 rfl ?_
              refine zy_imul dX11_lateNow_133 ?_
              refine zx_iload_n dX11_lateNow_134 rfl ?_
              refine zy_iadd dX11_lateNow_135 ?_
              refine zx_iconst (v := zn_I 1) dX11_lateNow_136 rfl ?_
              refine zy_isub dX11_lateNow_137 ?_
              refine zy_iald (i := 8 * k + (q - 1)) dX11_lateNow_138 rfl (by decide) (by omega) (by omega) ((show _ = zn_I (ml_g τ q s k : Nat) from by rw [mcol_val hT2 (by omega) (show q - 1 < 8 by omega), if_neg (by omega), ml_g, if_pos h_122])) ?_
              refine zx_goto (tgt := 149) dX11_lateNow_139 (by decide) ?_
              refine zy_iast (i := 8 * k + q) dX11_lateNow_149 rfl (by decide) (by omega) (by omega) ?_
              refine zy_iinc dX11_lateNow_150 rfl rfl ?_
              refine zx_goto (tgt := 95) dX11_lateNow_153 (by decide) ?_
              exact ihk (by omega) _ (mf_s hf2 (by decide) (by decide)) (mcol_step hT2 (by omega) hq1 (by have b1 := hT.2.2.2.2.2.2.2 k (by omega) (q - 1) (by omega); have b2 := hT.2.2.2.2.2.2.2 k (by omega) q hq1; unfold ml_g; split <;> assumption))
        exact LI 0 (Nat.zero_le _) M1 mf_rf (mcol_cong (fun t _ => by rw [mt_F, if_neg (Nat.not_lt_zero _)]) hT1)
  have L1 : ∀ t : Nat, t ≤ τ.1 → ∀ M1 : zw_M, mfr [41] [] M M1 → (∀ i, i < t → M1.1 41 i = zn_I (τ.2.2.2 i q : Nat)) → zw_X l (d + 3) iX11_lateNow (fun v M1 => v = some (.int (zn_I (zl_ans π τ q o x : Nat))) ∧ mfr [37, 41] [] M M1 ∧ mT M1 (zp_n π) τ) 6 [.ref 33, .int (zn_I (q : Int)), .int (zn_I o), .int (zn_I (x : Int)), .int (zn_I (zt_pb τ t : Nat)), .int (zn_I (t : Int)), .retAddr 0, .retAddr 0, .retAddr 0, .retAddr 0] [] M1 := by
    refine zw_loop τ.1 (P := fun t => ∀ M1 : zw_M, mfr [41] [] M M1 → (∀ i, i < t → M1.1 41 i = zn_I (τ.2.2.2 i q : Nat)) → zw_X l (d + 3) iX11_lateNow (fun v M1 => v = some (.int (zn_I (zl_ans π τ q o x : Nat))) ∧ mfr [37, 41] [] M M1 ∧ mT M1 (zp_n π) τ) 6 [.ref 33, .int (zn_I (q : Int)), .int (zn_I o), .int (zn_I (x : Int)), .int (zn_I (zt_pb τ t : Nat)), .int (zn_I (t : Int)), .retAddr 0, .retAddr 0, .retAddr 0, .retAddr 0] [] M1) (fun t ht ih M1 hf hc => ?_)
    have hT1 := mT_f hf hT (by decide)
    refine zx_iload dX11_lateNow_6 rfl ?_
    refine zx_aload_n dX11_lateNow_8 rfl ?_
    refine zy_geti dX11_lateNow_9 fX11_95 ((show _ = zn_I (τ.1 : Int) from hT1.2.1)) ?_
    refine zy_icmp_ge (tgt := 62) dX11_lateNow_12 (by decide) (by omega) (fun h_12 => ?_) (fun h_12 => ?_)
    · refine zx_iconst (v := zn_I 0) dX11_lateNow_62 rfl ?_
      refine zx_istore dX11_lateNow_63 rfl (Nat.le_of_ble_eq_true rfl) ?_
      refine zx_iload dX11_lateNow_65 rfl ?_
      refine zx_istore dX11_lateNow_67 rfl (Nat.le_of_ble_eq_true rfl) ?_
      refine zx_iconst (v := zn_I 0) dX11_lateNow_69 rfl ?_
      refine zx_istore dX11_lateNow_70 rfl (Nat.le_of_ble_eq_true rfl) ?_
      refine zx_iconst (v := zn_I 0) dX11_lateNow_72 rfl ?_
      refine zx_istore dX11_lateNow_73 rfl (Nat.le_of_ble_eq_true rfl) ?_
      have htm : t = τ.1 := by omega
      subst htm
      exact LS 0 (Nat.zero_le _) M1 (fun t => τ.2.2.2 t q) _ (mf_mono hf (by decide)) hc (mcol_to hT1)
    · refine zx_aload_n dX11_lateNow_15 rfl ?_
      refine zx_getr dX11_lateNow_16 fX11_32 ?_
      refine zx_iload dX11_lateNow_19 rfl ?_
      refine zx_aload_n dX11_lateNow_21 rfl ?_
      refine zx_getr dX11_lateNow_22 fX11_19 ?_
      refine zx_bipush (v := zn_I 8) dX11_lateNow_25 (by decide) ?_
      refine zx_iload dX11_lateNow_27 rfl ?_
      refine zy_imul dX11_lateNow_29 ?_
      refine zx_iload_n dX11_lateNow_30 rfl ?_
      refine zy_iadd dX11_lateNow_31 ?_
      refine zy_iald (i := 8 * t + q) dX11_lateNow_32 rfl (by decide) (by omega) (by omega) (hT1.2.2.2.2.1 t (by omega) q hq1) ?_
      refine zy_iast (i := t) dX11_lateNow_33 rfl (by decide) (by omega) (by omega) ?_
      have hf1 : mfr [41] [] M (zw_s M1 41 t (zn_I (τ.2.2.2 t q : Nat))) := mf_s hf (by decide) (by decide)
      refine zx_iload dX11_lateNow_34 rfl ?_
      refine zx_aload_n dX11_lateNow_36 rfl ?_
      refine zx_iload dX11_lateNow_37 rfl ?_
      refine zx_callV (y1 := iX11_isPerson) dX11_lateNow_39 lX11_122 vX11_isPerson rc_33 (mX11_isPerson (mT_f hf1 hT (by decide)) (t := t) (by omega)) rfl rfl (Nat.le_of_ble_eq_true rfl) ?_
      refine zk_i ?_
      refine zy_ifB_eq (tgt := 52) dX11_lateNow_42 (by decide) (fun h_42 => ?_) (fun h_42 => ?_)
      · refine zx_iconst (v := zn_I 0) dX11_lateNow_52 rfl ?_
        refine zx_ior dX11_lateNow_53 ?_
        refine zx_istore dX11_lateNow_54 rfl (Nat.le_of_ble_eq_true rfl) ?_
        refine zy_iinc dX11_lateNow_56 rfl rfl ?_
        refine zx_goto (tgt := 6) dX11_lateNow_59 (by decide) ?_
        rw [zb_or0, show zt_pb τ t = zt_pb τ (t + 1) by rw [zt_pb, if_neg h_42, Nat.add_zero]]
        refine ih (by omega) _ hf1 (fun i hi => ?_)
        by_cases e : i = t
        · subst e; simp [zw_s]
        · have := hc i (by omega)
          simp [zw_s, e, this]
      · refine zx_iconst (v := zn_I 1) dX11_lateNow_45 rfl ?_
        refine zx_iload dX11_lateNow_46 rfl ?_
        refine zx_ishl dX11_lateNow_48 ?_
        refine zx_goto (tgt := 53) dX11_lateNow_49 (by decide) ?_
        refine zx_ior dX11_lateNow_53 ?_
        refine zy_top (zb_or (by omega) (zt_pb_lt τ t)) ?_
        rw [show zt_pb τ t + 2 ^ t = zt_pb τ (t + 1) by rw [zt_pb, if_pos h_42]]
        refine zx_istore dX11_lateNow_54 rfl (Nat.le_of_ble_eq_true rfl) ?_
        refine zy_iinc dX11_lateNow_56 rfl rfl ?_
        refine zx_goto (tgt := 6) dX11_lateNow_59 (by decide) ?_
        refine ih (by omega) _ hf1 (fun i hi => ?_)
        by_cases e : i = t
        · subst e; simp [zw_s]
        · have := hc i (by omega)
          simp [zw_s, e, this]
  refine zx_iconst (v := zn_I 0) dX11_lateNow_0 rfl ?_
  refine zx_istore dX11_lateNow_1 rfl (Nat.le_of_ble_eq_true rfl) ?_
  refine zx_iconst (v := zn_I 0) dX11_lateNow_3 rfl ?_
  refine zx_istore dX11_lateNow_4 rfl (Nat.le_of_ble_eq_true rfl) ?_
  exact L1 0 (Nat.zero_le _) M mf_rf (fun i hi => absurd hi (Nat.not_lt_zero _))
set_option maxRecDepth 100000 in
set_option maxHeartbeats 600000 in
theorem mX11_late {l : Launch} {d : Nat} {M : zw_M} {σ : zZ} (hJ : zJ_ M σ) {q : Int} (hqq : -2147483648 ≤ q ∧ q < 2147483648) {o : Int} (hoo : -2147483648 ≤ o ∧ o < 2147483648) {x : Int} (hxx : -2147483648 ≤ x ∧ x < 2147483648) : zw_C l (d + 4) iX11_late [.ref 33, .int (zn_I q), .int (zn_I o), .int (zn_I x)] M (mO (zn_I (zk_late σ q o x)) σ M) := by
  obtain ⟨hI, hT, hG, ⟨ha, hb, hc⟩, hM, hK⟩ := id hJ
  have hp := hI.1
  have h30 := zp_30 hp
  have h8 := hT.1
  have hr2 : M.1 33 2 = zn_I (zp_n σ.1) := hI.2.2.2.1
  have ht5 : M.1 33 5 = zn_I σ.2.1.1 := hT.2.1
  have h2n : 2 ^ zp_n σ.1 ≤ 1073741824 := Nat.le_trans (Nat.pow_le_pow_right (n := 2) (by decide) h30) (by decide)
  have h2p : 0 < 2 ^ zp_n σ.1 := Nat.pow_pos (by decide)
  refine zw_of (by decide +kernel) (Nat.le_of_ble_eq_true rfl) ?_
  refine zy_loc (L1 := [.ref 33, .int (zn_I q), .int (zn_I o), .int (zn_I x)]) rfl ?_
  refine zx_iload_n dX11_late_0 rfl ?_
  refine zx_iconst (v := zn_I 1) dX11_late_1 rfl ?_
  refine zx_bipush (v := zn_I 7) dX11_late_2 (by decide) ?_
  refine zx_callS (y1 := iX11_within) dX11_late_4 lX11_65 sX11_within (mX11_within (v := q) (a := 1) (b := 7) (by omega) (by omega) (by omega)) rfl rfl (Nat.le_of_ble_eq_true rfl) ?_
  refine zk_i ?_
  refine zy_ifB_ne (tgt := 13) dX11_late_7 (by decide) (fun h_7 => ?_) (fun h_7 => ?_)
  · refine zx_iload_n dX11_late_13 rfl ?_
    refine zx_iconst (v := zn_I 0) dX11_late_14 rfl ?_
    refine zx_iconst (v := zn_I 1) dX11_late_15 rfl ?_
    refine zx_aload_n dX11_late_16 rfl ?_
    refine zy_geti dX11_late_17 fX11_92 (hr2) ?_
    refine zx_ishl dX11_late_20 ?_
    refine zy_top (show _ = zn_I ((2 ^ zp_n σ.1 : Nat) : Int) from by rw [zb_one _ (by omega), zn_nat]) ?_
    refine zx_iconst (v := zn_I 1) dX11_late_21 rfl ?_
    refine zy_isub dX11_late_22 ?_
    refine zx_callS (y1 := iX11_within) dX11_late_23 lX11_65 sX11_within (mX11_within (v := o) (a := 0) (b := ((2 ^ zp_n σ.1 : Nat) : Int) - 1) (by omega) (by omega) (by omega)) rfl rfl (Nat.le_of_ble_eq_true rfl) ?_
    refine zk_i ?_
    refine zy_ifB_eq (tgt := 38) dX11_late_26 (by decide) (fun h_26 => ?_) (fun h_26 => ?_)
    · refine zx_bipush (v := zn_I (-102)) dX11_late_38 (by decide) ?_
      refine zx_iret (st := []) dX11_late_40 rfl rfl ?_
      exact mO_i hJ (by simp only [zk_late, Int.toNat_natCast]; (repeat' split) <;> first | rfl | omega)
    · refine zx_iload_n dX11_late_29 rfl ?_
      refine zx_iconst (v := zn_I 0) dX11_late_30 rfl ?_
      refine zx_iconst (v := zn_I 2) dX11_late_31 rfl ?_
      refine zx_callS (y1 := iX11_within) dX11_late_32 lX11_65 sX11_within (mX11_within (v := x) (a := 0) (b := 2) (by omega) (by omega) (by omega)) rfl rfl (Nat.le_of_ble_eq_true rfl) ?_
      refine zk_i ?_
      refine zy_ifB_ne (tgt := 41) dX11_late_35 (by decide) (fun h_35 => ?_) (fun h_35 => ?_)
      · refine zx_aload_n dX11_late_41 rfl ?_
        refine zy_geti dX11_late_42 fX11_92 (hr2) ?_
        refine zy_if_ne (tgt := 53) dX11_late_45 (by decide) (by omega) (fun h_45 => ?_) (fun h_45 => ?_)
        · obtain ⟨q, rfl⟩ : ∃ n : Nat, q = (n : Int) := ⟨q.toNat, by omega⟩
          obtain ⟨x, rfl⟩ : ∃ n : Nat, x = (n : Int) := ⟨x.toNat, by omega⟩
          refine zx_aload_n dX11_late_53 rfl ?_
          refine zx_iload_n dX11_late_54 rfl ?_
          refine zx_iload_n dX11_late_55 rfl ?_
          refine zx_iload_n dX11_late_56 rfl ?_
          refine zx_callV (y1 := iX11_lateNow) dX11_late_57 lX11_228 vX11_lateNow rc_33 (mX11_lateNow hI hT hM (q := q) (o := o) (x := x) (by omega) (by omega) (by omega)) rfl rfl (Nat.le_of_ble_eq_true rfl) ?_
          intro v M1 he
          obtain ⟨rfl, hf, hT1⟩ := he
          refine zx_iret (st := []) dX11_late_60 rfl rfl ?_
          refine mO_f (mf_mono hf (by decide)) ⟨mI_f hf hI (by decide), hT1, mG_f hf hG (by decide), ⟨by rw [(hf.2 3 (by decide)).1]; exact ha, by rw [(hf.2 9 (by decide)).1]; exact hb, by rw [(hf.2 10 (by decide)).1]; exact hc⟩, mM_f hf hM (by decide), mK_f hf hK (by decide)⟩ (by simp only [zk_late, Int.toNat_natCast]; (repeat' split) <;> first | rfl | omega)
        · refine zx_bipush (v := zn_I (-103)) dX11_late_48 (by decide) ?_
          refine zx_goto (tgt := 60) dX11_late_50 (by decide) ?_
          refine zx_iret (st := []) dX11_late_60 rfl rfl ?_
          exact mO_i hJ (by simp only [zk_late, Int.toNat_natCast]; (repeat' split) <;> first | rfl | omega)
      · refine zx_bipush (v := zn_I (-102)) dX11_late_38 (by decide) ?_
        refine zx_iret (st := []) dX11_late_40 rfl rfl ?_
        exact mO_i hJ (by simp only [zk_late, Int.toNat_natCast]; (repeat' split) <;> first | rfl | omega)
  · refine zx_bipush (v := zn_I (-101)) dX11_late_10 (by decide) ?_
    refine zx_iret (st := []) dX11_late_12 rfl rfl ?_
    exact mO_i hJ (by simp only [zk_late, Int.toNat_natCast]; (repeat' split) <;> first | rfl | omega)
