/-! THE REFERENCE'S COUNTER -/
theorem zg_wf_all {ρ : zR} : ∀ n, zg_wf ρ n = n → ∀ i, i < n → i < 7 ∧ zg_way (ρ.2 i) ≠ 0
  | 0, _, i, hi => absurd hi (Nat.not_lt_zero _)
  | n + 1, h, i, hi => by
    have hle := zg_wf_le ρ n
    rw [zg_wf] at h
    split at h
    · omega
    · split at h
      · next h2 =>
        by_cases e : i = n
        · rw [e]; exact h2
        · exact zg_wf_all n (by omega) i (by omega)
      · omega
theorem zp_opp_step {π : zP} {a b : Nat} {v : Int} (ha : a < zp_n π) (hv : 0 ≤ v ∧ v ≤ 4) (h : zp_step π a v = (b : Int)) : zp_step π (zp_n π - 1 - a) (zo_opp v) = ((zp_n π - 1 - b : Nat) : Int) := by
  obtain ⟨hw0, hr0, hm, hq⟩ := zp_w0 ha
  have e := Nat.div_add_mod a π.2.1
  obtain ⟨k, hk⟩ : ∃ k, π.1 = a / π.2.1 + 1 + k := ⟨π.1 - (a / π.2.1 + 1), by omega⟩
  have en : zp_n π = π.2.1 * (a / π.2.1) + π.2.1 + π.2.1 * k := by
    rw [zp_n, hk, Nat.add_mul, Nat.add_mul, Nat.one_mul, Nat.mul_comm, Nat.mul_comm k]
  have em : zp_n π - 1 - a = π.2.1 * k + (π.2.1 - 1 - a % π.2.1) := by omega
  have emod : (zp_n π - 1 - a) % π.2.1 = π.2.1 - 1 - a % π.2.1 := by
    rw [em, Nat.mul_add_mod, Nat.mod_eq_of_lt (by omega)]
  rcases (show v = 0 ∨ v = 1 ∨ v = 2 ∨ v = 3 ∨ v = 4 by omega) with r | r | r | r | r <;> subst r
  · have h2 : (a : Int) = b := h
    show ((zp_n π - 1 - a : Nat) : Int) = _
    omega
  · have h2 : (if π.2.1 ≤ a then (a : Int) - π.2.1 else -1) = b := h
    show (if zp_n π - 1 - a + π.2.1 < zp_n π then ((zp_n π - 1 - a : Nat) : Int) + π.2.1 else -1) = _
    split at h2
    · rw [if_pos (by omega)]; omega
    · omega
  · have h2 : (if a % π.2.1 < π.2.1 - 1 then (a : Int) + 1 else -1) = b := h
    show (if 0 < (zp_n π - 1 - a) % π.2.1 then ((zp_n π - 1 - a : Nat) : Int) - 1 else -1) = _
    split at h2
    · rw [emod, if_pos (by omega)]; omega
    · omega
  · have h2 : (if a + π.2.1 < zp_n π then (a : Int) + π.2.1 else -1) = b := h
    show (if π.2.1 ≤ zp_n π - 1 - a then ((zp_n π - 1 - a : Nat) : Int) - π.2.1 else -1) = _
    split at h2
    · rw [if_pos (by omega)]; omega
    · omega
  · have h2 : (if 0 < a % π.2.1 then (a : Int) - 1 else -1) = b := h
    show (if (zp_n π - 1 - a) % π.2.1 < π.2.1 - 1 then ((zp_n π - 1 - a : Nat) : Int) + 1 else -1) = _
    split at h2
    · rw [emod, if_pos (by omega)]; omega
    · omega
theorem zo_sym {π : zP} {ρ : zR} {s : Nat} (hs : s < zp_n π) : ∀ q a, zo_p π ρ false s q = some a → zo_p π ρ true (zp_n π - 1 - s) q = some (zp_n π - 1 - a)
  | 0, a, h => by cases h; rfl
  | q + 1, a, h => by
    rw [zo_p] at h
    cases e : zo_p π ρ false s q with
    | none => rw [e] at h; cases h
    | some c =>
      rw [e] at h
      dsimp only at h
      have hc := zo_p_lt hs e
      split at h
      · cases h
      · next hne =>
        have h3 := Option.some.inj h
        have hrg := zp_step_rng hc (zo_v ρ false q)
        have hst : zp_step π c (zo_v ρ false q) = (a : Int) := by omega
        have h4 := zp_opp_step hc (zo_v_rng ρ false q) hst
        rw [zo_p, zo_sym hs q c e]
        dsimp only
        have ev : zo_v ρ true q = zo_opp (zo_v ρ false q) := rfl
        rw [ev, h4, if_neg (by omega)]
        rfl
theorem zo_sym_ok {π : zP} {ρ : zR} {s : Nat} (hs : s < zp_n π) (h : zo_ok π ρ false s) : zo_ok π ρ true (zp_n π - 1 - s) := by
  obtain ⟨a, ha⟩ := Option.isSome_iff_exists.mp h
  rw [zo_ok, zo_sym hs 7 a ha]
  rfl
theorem zc_o_some {g : Nat → Option Nat} {s x : Nat} (h : g s = some x) : ∀ n, s < n → (zc_o g n).1 ≠ -1
  | 0, hn => absurd hn (Nat.not_lt_zero _)
  | n + 1, hn => by
    rw [zc_o]
    rcases Nat.lt_or_ge s n with r | r
    · have ih := zc_o_some h n r
      split
      · exact ih
      · split
        · show ((n : Int)) ≠ -1; omega
        · exact ih
    · have : s = n := by omega
      subst this
      rw [h]
      dsimp only
      split
      · show ((s : Int)) ≠ -1; omega
      · omega
/-- the least so far, as the reference has it -/
def mc_l (p : Int × Int) : Int := if p.1 = -1 then 1048576 else p.2
theorem zg_at_0 {ρ : zR} {i : Nat} (h : ρ.1 ≤ i) : zg_way (zg_at ρ (i : Int)) = 0 := by
  rw [zg_at, if_neg (by omega)]
  rfl
set_option maxRecDepth 100000 in
set_option maxHeartbeats 600000 in
theorem mX11_besideOf {l : Launch} {d : Nat} {M : zw_M} {π : zP} (hI : mI M π) {s : Nat} (hs : s < zp_n π) {v : Int} (hv : 0 ≤ v ∧ v ≤ 3) : zw_C l d iX11_besideOf [.ref 33, .int (zn_I (s : Int)), .int (zn_I v)] M (zw_i (zn_I (zp_step π s (v + 1))) M) := by
  have hp := hI.1
  have h30 := zp_30 hp
  have hr0 : M.1 33 0 = zn_I π.1 := hI.2.1
  have hr1 : M.1 33 1 = zn_I π.2.1 := hI.2.2.1
  have hr2 : M.1 33 2 = zn_I (zp_n π) := hI.2.2.2.1
  obtain ⟨hw0, hw1, hw2, hw3⟩ := zp_w0 hs
  refine zw_of (by decide +kernel) (Nat.le_of_ble_eq_true rfl) ?_
  refine zy_loc (L1 := [.ref 33, .int (zn_I (s : Int)), .int (zn_I v)]) rfl ?_
  refine zx_iload_n dX11_besideOf_0 rfl ?_
  refine zy_if_ne (tgt := 23) dX11_besideOf_1 (by decide) (by omega) (fun h_1 => ?_) (fun h_1 => ?_)
  · refine zx_iload_n dX11_besideOf_23 rfl ?_
    refine zx_iconst (v := zn_I 2) dX11_besideOf_24 rfl ?_
    refine zy_icmp_ne (tgt := 52) dX11_besideOf_25 (by decide) (by omega) (fun h_25 => ?_) (fun h_25 => ?_)
    · refine zx_iload_n dX11_besideOf_52 rfl ?_
      refine zx_iconst (v := zn_I 1) dX11_besideOf_53 rfl ?_
      refine zy_icmp_ne (tgt := 80) dX11_besideOf_54 (by decide) (by omega) (fun h_54 => ?_) (fun h_54 => ?_)
      · refine zx_iload_n dX11_besideOf_80 rfl ?_
        refine zx_aload_n dX11_besideOf_81 rfl ?_
        refine zy_geti dX11_besideOf_82 fX11_89 (hr1) ?_
        refine zy_irem dX11_besideOf_85 (by omega) ?_
        refine zy_if_le (tgt := 95) dX11_besideOf_86 (by decide) (by omega) (fun h_86 => ?_) (fun h_86 => ?_)
        · refine zx_iconst (v := zn_I (-1)) dX11_besideOf_95 rfl ?_
          refine zx_iret (st := []) dX11_besideOf_96 rfl rfl ?_
          refine zk_I ?_
          unfold zp_step
          first
            | rw [if_pos (by omega), if_pos (by omega)]
            | rw [if_pos (by omega), if_neg (by omega)]
            | rw [if_neg (by omega), if_pos (by omega), if_pos (by omega)]
            | rw [if_neg (by omega), if_pos (by omega), if_neg (by omega)]
            | rw [if_neg (by omega), if_neg (by omega), if_pos (by omega), if_pos (by omega)]
            | rw [if_neg (by omega), if_neg (by omega), if_pos (by omega), if_neg (by omega)]
            | rw [if_neg (by omega), if_neg (by omega), if_neg (by omega), if_pos (by omega), if_pos (by omega)]
            | rw [if_neg (by omega), if_neg (by omega), if_neg (by omega), if_pos (by omega), if_neg (by omega)]
        · refine zx_iload_n dX11_besideOf_89 rfl ?_
          refine zx_iconst (v := zn_I 1) dX11_besideOf_90 rfl ?_
          refine zy_isub dX11_besideOf_91 ?_
          refine zx_goto (tgt := 96) dX11_besideOf_92 (by decide) ?_
          refine zx_iret (st := []) dX11_besideOf_96 rfl rfl ?_
          refine zk_I ?_
          unfold zp_step
          first
            | rw [if_pos (by omega), if_pos (by omega)]
            | rw [if_pos (by omega), if_neg (by omega)]
            | rw [if_neg (by omega), if_pos (by omega), if_pos (by omega)]
            | rw [if_neg (by omega), if_pos (by omega), if_neg (by omega)]
            | rw [if_neg (by omega), if_neg (by omega), if_pos (by omega), if_pos (by omega)]
            | rw [if_neg (by omega), if_neg (by omega), if_pos (by omega), if_neg (by omega)]
            | rw [if_neg (by omega), if_neg (by omega), if_neg (by omega), if_pos (by omega), if_pos (by omega)]
            | rw [if_neg (by omega), if_neg (by omega), if_neg (by omega), if_pos (by omega), if_neg (by omega)]
      · refine zx_iload_n dX11_besideOf_57 rfl ?_
        refine zx_aload_n dX11_besideOf_58 rfl ?_
        refine zy_geti dX11_besideOf_59 fX11_89 (hr1) ?_
        refine zy_irem dX11_besideOf_62 (by omega) ?_
        refine zx_aload_n dX11_besideOf_63 rfl ?_
        refine zy_geti dX11_besideOf_64 fX11_89 (hr1) ?_
        refine zx_iconst (v := zn_I 1) dX11_besideOf_67 rfl ?_
        refine zy_isub dX11_besideOf_68 ?_
        refine zy_icmp_ge (tgt := 78) dX11_besideOf_69 (by decide) (by omega) (fun h_69 => ?_) (fun h_69 => ?_)
        · refine zx_iconst (v := zn_I (-1)) dX11_besideOf_78 rfl ?_
          refine zx_iret (st := []) dX11_besideOf_79 rfl rfl ?_
          refine zk_I ?_
          unfold zp_step
          first
            | rw [if_pos (by omega), if_pos (by omega)]
            | rw [if_pos (by omega), if_neg (by omega)]
            | rw [if_neg (by omega), if_pos (by omega), if_pos (by omega)]
            | rw [if_neg (by omega), if_pos (by omega), if_neg (by omega)]
            | rw [if_neg (by omega), if_neg (by omega), if_pos (by omega), if_pos (by omega)]
            | rw [if_neg (by omega), if_neg (by omega), if_pos (by omega), if_neg (by omega)]
            | rw [if_neg (by omega), if_neg (by omega), if_neg (by omega), if_pos (by omega), if_pos (by omega)]
            | rw [if_neg (by omega), if_neg (by omega), if_neg (by omega), if_pos (by omega), if_neg (by omega)]
        · refine zx_iload_n dX11_besideOf_72 rfl ?_
          refine zx_iconst (v := zn_I 1) dX11_besideOf_73 rfl ?_
          refine zy_iadd dX11_besideOf_74 ?_
          refine zx_goto (tgt := 79) dX11_besideOf_75 (by decide) ?_
          refine zx_iret (st := []) dX11_besideOf_79 rfl rfl ?_
          refine zk_I ?_
          unfold zp_step
          first
            | rw [if_pos (by omega), if_pos (by omega)]
            | rw [if_pos (by omega), if_neg (by omega)]
            | rw [if_neg (by omega), if_pos (by omega), if_pos (by omega)]
            | rw [if_neg (by omega), if_pos (by omega), if_neg (by omega)]
            | rw [if_neg (by omega), if_neg (by omega), if_pos (by omega), if_pos (by omega)]
            | rw [if_neg (by omega), if_neg (by omega), if_pos (by omega), if_neg (by omega)]
            | rw [if_neg (by omega), if_neg (by omega), if_neg (by omega), if_pos (by omega), if_pos (by omega)]
            | rw [if_neg (by omega), if_neg (by omega), if_neg (by omega), if_pos (by omega), if_neg (by omega)]
    · refine zx_iload_n dX11_besideOf_28 rfl ?_
      refine zx_aload_n dX11_besideOf_29 rfl ?_
      refine zy_geti dX11_besideOf_30 fX11_89 (hr1) ?_
      refine zy_iadd dX11_besideOf_33 ?_
      refine zx_aload_n dX11_besideOf_34 rfl ?_
      refine zy_geti dX11_besideOf_35 fX11_92 (hr2) ?_
      refine zy_icmp_ge (tgt := 50) dX11_besideOf_38 (by decide) (by omega) (fun h_38 => ?_) (fun h_38 => ?_)
      · refine zx_iconst (v := zn_I (-1)) dX11_besideOf_50 rfl ?_
        refine zx_iret (st := []) dX11_besideOf_51 rfl rfl ?_
        refine zk_I ?_
        unfold zp_step
        first
          | rw [if_pos (by omega), if_pos (by omega)]
          | rw [if_pos (by omega), if_neg (by omega)]
          | rw [if_neg (by omega), if_pos (by omega), if_pos (by omega)]
          | rw [if_neg (by omega), if_pos (by omega), if_neg (by omega)]
          | rw [if_neg (by omega), if_neg (by omega), if_pos (by omega), if_pos (by omega)]
          | rw [if_neg (by omega), if_neg (by omega), if_pos (by omega), if_neg (by omega)]
          | rw [if_neg (by omega), if_neg (by omega), if_neg (by omega), if_pos (by omega), if_pos (by omega)]
          | rw [if_neg (by omega), if_neg (by omega), if_neg (by omega), if_pos (by omega), if_neg (by omega)]
      · refine zx_iload_n dX11_besideOf_41 rfl ?_
        refine zx_aload_n dX11_besideOf_42 rfl ?_
        refine zy_geti dX11_besideOf_43 fX11_89 (hr1) ?_
        refine zy_iadd dX11_besideOf_46 ?_
        refine zx_goto (tgt := 51) dX11_besideOf_47 (by decide) ?_
        refine zx_iret (st := []) dX11_besideOf_51 rfl rfl ?_
        refine zk_I ?_
        unfold zp_step
        first
          | rw [if_pos (by omega), if_pos (by omega)]
          | rw [if_pos (by omega), if_neg (by omega)]
          | rw [if_neg (by omega), if_pos (by omega), if_pos (by omega)]
          | rw [if_neg (by omega), if_pos (by omega), if_neg (by omega)]
          | rw [if_neg (by omega), if_neg (by omega), if_pos (by omega), if_pos (by omega)]
          | rw [if_neg (by omega), if_neg (by omega), if_pos (by omega), if_neg (by omega)]
          | rw [if_neg (by omega), if_neg (by omega), if_neg (by omega), if_pos (by omega), if_pos (by omega)]
          | rw [if_neg (by omega), if_neg (by omega), if_neg (by omega), if_pos (by omega), if_neg (by omega)]
  · refine zx_iload_n dX11_besideOf_4 rfl ?_
    refine zx_aload_n dX11_besideOf_5 rfl ?_
    refine zy_geti dX11_besideOf_6 fX11_89 (hr1) ?_
    refine zy_icmp_lt (tgt := 21) dX11_besideOf_9 (by decide) (by omega) (fun h_9 => ?_) (fun h_9 => ?_)
    · refine zx_iconst (v := zn_I (-1)) dX11_besideOf_21 rfl ?_
      refine zx_iret (st := []) dX11_besideOf_22 rfl rfl ?_
      refine zk_I ?_
      unfold zp_step
      first
        | rw [if_pos (by omega), if_pos (by omega)]
        | rw [if_pos (by omega), if_neg (by omega)]
        | rw [if_neg (by omega), if_pos (by omega), if_pos (by omega)]
        | rw [if_neg (by omega), if_pos (by omega), if_neg (by omega)]
        | rw [if_neg (by omega), if_neg (by omega), if_pos (by omega), if_pos (by omega)]
        | rw [if_neg (by omega), if_neg (by omega), if_pos (by omega), if_neg (by omega)]
        | rw [if_neg (by omega), if_neg (by omega), if_neg (by omega), if_pos (by omega), if_pos (by omega)]
        | rw [if_neg (by omega), if_neg (by omega), if_neg (by omega), if_pos (by omega), if_neg (by omega)]
    · refine zx_iload_n dX11_besideOf_12 rfl ?_
      refine zx_aload_n dX11_besideOf_13 rfl ?_
      refine zy_geti dX11_besideOf_14 fX11_89 (hr1) ?_
      refine zy_isub dX11_besideOf_17 ?_
      refine zx_goto (tgt := 22) dX11_besideOf_18 (by decide) ?_
      refine zx_iret (st := []) dX11_besideOf_22 rfl rfl ?_
      refine zk_I ?_
      unfold zp_step
      first
        | rw [if_pos (by omega), if_pos (by omega)]
        | rw [if_pos (by omega), if_neg (by omega)]
        | rw [if_neg (by omega), if_pos (by omega), if_pos (by omega)]
        | rw [if_neg (by omega), if_pos (by omega), if_neg (by omega)]
        | rw [if_neg (by omega), if_neg (by omega), if_pos (by omega), if_pos (by omega)]
        | rw [if_neg (by omega), if_neg (by omega), if_pos (by omega), if_neg (by omega)]
        | rw [if_neg (by omega), if_neg (by omega), if_neg (by omega), if_pos (by omega), if_pos (by omega)]
        | rw [if_neg (by omega), if_neg (by omega), if_neg (by omega), if_pos (by omega), if_neg (by omega)]
set_option maxRecDepth 100000 in
set_option maxHeartbeats 600000 in
theorem mX11_layWay_0 {l : Launch} {d : Nat} {M : zw_M} {π : zP} {ρ : zR} (hI : mI M π) (hG : mG M ρ) (hwf : zg_wf ρ ρ.1 = ρ.1) {s : Nat} (hs : s < zp_n π) : zw_C l (d + 1) iX11_layWay [.ref 33, .int (zn_I (s : Int)), .int (zn_I 0), .int (zn_I 0)] M (fun v M1 => v = some (.int (zn_B (zo_ok π ρ false s))) ∧ mfr [44] [] M M1 ∧ (zo_ok π ρ false s → ∀ q, q < 8 → M1.1 44 q = zn_I (zo_sq π ρ false s q : Nat))) := by
  have hp := hI.1
  have h30 := zp_30 hp
  have h40 := hG.1
  refine zw_of (by decide +kernel) (Nat.le_of_ble_eq_true rfl) ?_
  refine zy_loc (L1 := [.ref 33, .int (zn_I (s : Int)), .int (zn_I 0), .int (zn_I 0), .retAddr 0, .retAddr 0]) rfl ?_
  have loop : ∀ q : Nat, q ≤ 8 → ∀ (M1 : zw_M) (a : Nat), mfr [44] [] M M1 → zo_p π ρ false s (q - 1) = some a → (∀ j, j < q → M1.1 44 j = zn_I (zo_sq π ρ false s j : Nat)) → zw_X l (d + 1) iX11_layWay (fun v M1 => v = some (.int (zn_B (zo_ok π ρ false s))) ∧ mfr [44] [] M M1 ∧ (zo_ok π ρ false s → ∀ q, q < 8 → M1.1 44 q = zn_I (zo_sq π ρ false s q : Nat))) 6 [.ref 33, .int (zn_I (s : Int)), .int (zn_I 0), .int (zn_I 0), .int (zn_I (a : Int)), .int (zn_I (q : Int))] [] M1 := by
    refine zw_loop 8 (P := fun q => ∀ (M1 : zw_M) (a : Nat), mfr [44] [] M M1 → zo_p π ρ false s (q - 1) = some a → (∀ j, j < q → M1.1 44 j = zn_I (zo_sq π ρ false s j : Nat)) → zw_X l (d + 1) iX11_layWay (fun v M1 => v = some (.int (zn_B (zo_ok π ρ false s))) ∧ mfr [44] [] M M1 ∧ (zo_ok π ρ false s → ∀ q, q < 8 → M1.1 44 q = zn_I (zo_sq π ρ false s q : Nat))) 6 [.ref 33, .int (zn_I (s : Int)), .int (zn_I 0), .int (zn_I 0), .int (zn_I (a : Int)), .int (zn_I (q : Int))] [] M1) (fun q hq ih M1 a hf hza hcs => ?_)
    have han := zo_p_lt hs hza
    refine zx_iload dX11_layWay_6 rfl ?_
    refine zx_bipush (v := zn_I 8) dX11_layWay_8 (by decide) ?_
    refine zy_icmp_ge (tgt := 90) dX11_layWay_10 (by decide) (by omega) (fun h_10 => ?_) (fun h_10 => ?_)
    · refine zx_iconst (v := zn_I 1) dX11_layWay_90 rfl ?_
      refine zx_iret (st := []) dX11_layWay_91 rfl rfl ?_
      have hq8 : q = 8 := by omega
      subst hq8
      exact ⟨by rw [← zn_Bt]; rw [zo_ok, hza]; rfl, hf, fun _ => hcs⟩
    · refine zx_iload dX11_layWay_13 rfl ?_
      refine zy_if_le (tgt := 59) dX11_layWay_15 (by decide) (by omega) (fun h_15 => ?_) (fun h_15 => ?_)
      · have hz0 : zo_p π ρ false s q = some a := by rw [show q = q - 1 by omega]; exact hza
        refine zx_iload_n dX11_layWay_59 rfl ?_
        refine zy_if_eq (tgt := 75) dX11_layWay_60 (by decide) (by omega) (fun h_60 => ?_) (fun h_60 => ?_)
        · refine zx_aload_n dX11_layWay_75 rfl ?_
          refine zx_getr dX11_layWay_76 fX11_41 ?_
          refine zx_iload dX11_layWay_79 rfl ?_
          refine zx_iload dX11_layWay_81 rfl ?_
          refine zy_iast (i := q) dX11_layWay_83 rfl (by decide) (by omega) (by omega) ?_
          refine zy_iinc dX11_layWay_84 rfl rfl ?_
          refine zx_goto (tgt := 6) dX11_layWay_87 (by decide) ?_
          refine ih (by omega) _ a (mf_s hf (by decide) (by decide)) (by rw [Nat.add_sub_cancel]; exact hz0) (fun j hj => ?_)
          by_cases e : j = q
          · subst e; simp [zw_s, zo_sq, hz0]
          · have := hcs j (by omega)
            simp [zw_s, e, this]
        · exact absurd rfl h_60
      · refine zx_iload dX11_layWay_18 rfl ?_
        refine zx_aload_n dX11_layWay_20 rfl ?_
        refine zy_geti dX11_layWay_21 fX11_52 ((show _ = zn_I (ρ.1 : Int) from by rw [(hf.2 11 (by decide)).1]; exact hG.2.1)) ?_
        refine zy_icmp_gt (tgt := 59) dX11_layWay_24 (by decide) (by omega) (fun h_24 => ?_) (fun h_24 => ?_)
        · have hz0 : zo_p π ρ false s q = some a := by
            obtain ⟨q', rfl⟩ : ∃ q', q = q' + 1 := ⟨q - 1, by omega⟩
            rw [Nat.add_sub_cancel] at hza
            have hvz : zo_v ρ false q' = 0 := by unfold zo_v; rw [zg_at_0 (by omega)]; rfl
            rw [zo_p, hza]
            dsimp only
            rw [hvz, show zp_step π a 0 = (a : Int) from rfl, if_neg (by omega)]
            rfl
          refine zx_iload_n dX11_layWay_59 rfl ?_
          refine zy_if_eq (tgt := 75) dX11_layWay_60 (by decide) (by omega) (fun h_60 => ?_) (fun h_60 => ?_)
          · refine zx_aload_n dX11_layWay_75 rfl ?_
            refine zx_getr dX11_layWay_76 fX11_41 ?_
            refine zx_iload dX11_layWay_79 rfl ?_
            refine zx_iload dX11_layWay_81 rfl ?_
            refine zy_iast (i := q) dX11_layWay_83 rfl (by decide) (by omega) (by omega) ?_
            refine zy_iinc dX11_layWay_84 rfl rfl ?_
            refine zx_goto (tgt := 6) dX11_layWay_87 (by decide) ?_
            refine ih (by omega) _ a (mf_s hf (by decide) (by decide)) (by rw [Nat.add_sub_cancel]; exact hz0) (fun j hj => ?_)
            by_cases e : j = q
            · subst e; simp [zw_s, zo_sq, hz0]
            · have := hcs j (by omega)
              simp [zw_s, e, this]
          · exact absurd rfl h_60
        · refine zx_aload_n dX11_layWay_27 rfl ?_
          refine zx_iload dX11_layWay_28 rfl ?_
          refine zx_aload_n dX11_layWay_30 rfl ?_
          refine zx_getr dX11_layWay_31 fX11_22 ?_
          refine zx_iload dX11_layWay_34 rfl ?_
          refine zx_iconst (v := zn_I 1) dX11_layWay_36 rfl ?_
          refine zy_isub dX11_layWay_37 ?_
          refine zy_bald (i := q - 1) dX11_layWay_38 rfl (by decide) (by omega) (by omega) ((show _ = zn_I (ρ.2 (q - 1) : Nat) from by rw [(hf.1 38 (by decide) (by decide)).1]; exact hG.2.2.1 (q - 1) (by omega))) ?_
          refine zx_callS (y1 := iX11_wayBy) dX11_layWay_39 lX11_76 sX11_wayBy (mX11_wayBy (c := ρ.2 (q - 1)) (hG.2.2.2 (q - 1) (by omega)).2) rfl rfl (Nat.le_of_ble_eq_true rfl) ?_
          refine zk_i ?_
          have hwn := (zg_wf_all ρ.1 hwf (q - 1) (by omega)).2
          have hwr := zg_way_rng (ρ.2 (q - 1))
          refine zx_iload_n dX11_layWay_42 rfl ?_
          refine zy_iadd dX11_layWay_43 ?_
          refine zx_iconst (v := zn_I 4) dX11_layWay_44 rfl ?_
          rw [show zg_way (ρ.2 (q - 1)) - 1 + 0 = (((zg_way (ρ.2 (q - 1))).toNat - 1 + 0 : Nat) : Int) by omega]
          refine zy_irem (b := 4) dX11_layWay_45 (by omega) ?_
          have hvv : ((((zg_way (ρ.2 (q - 1))).toNat - 1 + 0) % 4 : Nat) : Int) + 1 = zo_v ρ false (q - 1) := by
            unfold zo_v
            rw [zg_at_in (show q - 1 < ρ.1 by omega)]
            show _ = zg_way (ρ.2 (q - 1))
            omega
          refine zx_callV (y1 := iX11_besideOf) dX11_layWay_46 lX11_180 vX11_besideOf rc_33 (mX11_besideOf (mI_f hf hI (by decide)) (zo_p_lt hs hza) (by omega)) rfl rfl (Nat.le_of_ble_eq_true rfl) ?_
          refine zk_i ?_
          rw [hvv]
          have hsr := zp_step_rng (zo_p_lt hs hza) (zo_v ρ false (q - 1))
          refine zx_istore dX11_layWay_49 rfl (Nat.le_of_ble_eq_true rfl) ?_
          refine zx_iload dX11_layWay_51 rfl ?_
          refine zx_iconst (v := zn_I (-1)) dX11_layWay_53 rfl ?_
          refine zy_icmp_ne (tgt := 59) dX11_layWay_54 (by decide) (by omega) (fun h_54 => ?_) (fun h_54 => ?_)
          · have hz1 : zo_p π ρ false s q = some (zp_step π a (zo_v ρ false (q - 1))).toNat := by rw [show q = (q - 1) + 1 by omega, zo_p, hza]; dsimp only; rw [if_neg h_54]; rfl
            refine zx_iload_n dX11_layWay_59 rfl ?_
            refine zy_if_eq (tgt := 75) dX11_layWay_60 (by decide) (by omega) (fun h_60 => ?_) (fun h_60 => ?_)
            · refine zx_aload_n dX11_layWay_75 rfl ?_
              refine zx_getr dX11_layWay_76 fX11_41 ?_
              refine zx_iload dX11_layWay_79 rfl ?_
              refine zx_iload dX11_layWay_81 rfl ?_
              refine zy_iast (i := q) dX11_layWay_83 rfl (by decide) (by omega) (by omega) ?_
              refine zy_iinc dX11_layWay_84 rfl rfl ?_
              refine zx_goto (tgt := 6) dX11_layWay_87 (by decide) ?_
              rw [show zp_step π a (zo_v ρ false (q - 1)) = (((zp_step π a (zo_v ρ false (q - 1))).toNat : Nat) : Int) by omega]
              refine ih (by omega) _ _ (mf_s hf (by decide) (by decide)) (by rw [Nat.add_sub_cancel]; exact hz1) (fun j hj => ?_)
              by_cases e : j = q
              · subst e; simp [zw_s, zo_sq, hz1]
              · have := hcs j (by omega)
                simp [zw_s, e, this]
            · exact absurd rfl h_60
          · refine zx_iconst (v := zn_I 0) dX11_layWay_57 rfl ?_
            refine zx_iret (st := []) dX11_layWay_58 rfl rfl ?_
            have hno : zo_p π ρ false s q = none := by rw [show q = (q - 1) + 1 by omega, zo_p, hza]; dsimp only; rw [if_pos h_54]
            refine ⟨?_, hf, fun h => ?_⟩
            · rw [← zn_Bf]
              rw [zo_ok, zo_p_none (show q ≤ 7 by omega) hno]; simp
            · rw [zo_ok, zo_p_none (show q ≤ 7 by omega) hno] at h; cases h
  refine zx_iload_n dX11_layWay_0 rfl ?_
  refine zx_istore dX11_layWay_1 rfl (Nat.le_of_ble_eq_true rfl) ?_
  refine zx_iconst (v := zn_I 0) dX11_layWay_3 rfl ?_
  refine zx_istore dX11_layWay_4 rfl (Nat.le_of_ble_eq_true rfl) ?_
  exact loop 0 (by omega) M s mf_rf rfl (fun j hj => absurd hj (Nat.not_lt_zero _))
set_option maxRecDepth 100000 in
set_option maxHeartbeats 600000 in
theorem mX11_layWay_2 {l : Launch} {d : Nat} {M : zw_M} {π : zP} {ρ : zR} (hI : mI M π) (hG : mG M ρ) (hwf : zg_wf ρ ρ.1 = ρ.1) {s : Nat} (hs : s < zp_n π) : zw_C l (d + 1) iX11_layWay [.ref 33, .int (zn_I (s : Int)), .int (zn_I 2), .int (zn_I 1)] M (fun v M1 => v = some (.int (zn_B (zo_ok π ρ true s))) ∧ mfr [45] [] M M1 ∧ (zo_ok π ρ true s → ∀ q, q < 8 → M1.1 45 q = zn_I (zo_sq π ρ true s q : Nat))) := by
  have hp := hI.1
  have h30 := zp_30 hp
  have h40 := hG.1
  refine zw_of (by decide +kernel) (Nat.le_of_ble_eq_true rfl) ?_
  refine zy_loc (L1 := [.ref 33, .int (zn_I (s : Int)), .int (zn_I 2), .int (zn_I 1), .retAddr 0, .retAddr 0]) rfl ?_
  have loop : ∀ q : Nat, q ≤ 8 → ∀ (M1 : zw_M) (a : Nat), mfr [45] [] M M1 → zo_p π ρ true s (q - 1) = some a → (∀ j, j < q → M1.1 45 j = zn_I (zo_sq π ρ true s j : Nat)) → zw_X l (d + 1) iX11_layWay (fun v M1 => v = some (.int (zn_B (zo_ok π ρ true s))) ∧ mfr [45] [] M M1 ∧ (zo_ok π ρ true s → ∀ q, q < 8 → M1.1 45 q = zn_I (zo_sq π ρ true s q : Nat))) 6 [.ref 33, .int (zn_I (s : Int)), .int (zn_I 2), .int (zn_I 1), .int (zn_I (a : Int)), .int (zn_I (q : Int))] [] M1 := by
    refine zw_loop 8 (P := fun q => ∀ (M1 : zw_M) (a : Nat), mfr [45] [] M M1 → zo_p π ρ true s (q - 1) = some a → (∀ j, j < q → M1.1 45 j = zn_I (zo_sq π ρ true s j : Nat)) → zw_X l (d + 1) iX11_layWay (fun v M1 => v = some (.int (zn_B (zo_ok π ρ true s))) ∧ mfr [45] [] M M1 ∧ (zo_ok π ρ true s → ∀ q, q < 8 → M1.1 45 q = zn_I (zo_sq π ρ true s q : Nat))) 6 [.ref 33, .int (zn_I (s : Int)), .int (zn_I 2), .int (zn_I 1), .int (zn_I (a : Int)), .int (zn_I (q : Int))] [] M1) (fun q hq ih M1 a hf hza hcs => ?_)
    have han := zo_p_lt hs hza
    refine zx_iload dX11_layWay_6 rfl ?_
    refine zx_bipush (v := zn_I 8) dX11_layWay_8 (by decide) ?_
    refine zy_icmp_ge (tgt := 90) dX11_layWay_10 (by decide) (by omega) (fun h_10 => ?_) (fun h_10 => ?_)
    · refine zx_iconst (v := zn_I 1) dX11_layWay_90 rfl ?_
      refine zx_iret (st := []) dX11_layWay_91 rfl rfl ?_
      have hq8 : q = 8 := by omega
      subst hq8
      exact ⟨by rw [← zn_Bt]; rw [zo_ok, hza]; rfl, hf, fun _ => hcs⟩
    · refine zx_iload dX11_layWay_13 rfl ?_
      refine zy_if_le (tgt := 59) dX11_layWay_15 (by decide) (by omega) (fun h_15 => ?_) (fun h_15 => ?_)
      · have hz0 : zo_p π ρ true s q = some a := by rw [show q = q - 1 by omega]; exact hza
        refine zx_iload_n dX11_layWay_59 rfl ?_
        refine zy_if_eq (tgt := 75) dX11_layWay_60 (by decide) (by omega) (fun h_60 => ?_) (fun h_60 => ?_)
        · exact absurd h_60 (by decide)
        · refine zx_aload_n dX11_layWay_63 rfl ?_
          refine zx_getr dX11_layWay_64 fX11_44 ?_
          refine zx_iload dX11_layWay_67 rfl ?_
          refine zx_iload dX11_layWay_69 rfl ?_
          refine zy_iast (i := q) dX11_layWay_71 rfl (by decide) (by omega) (by omega) ?_
          refine zx_goto (tgt := 84) dX11_layWay_72 (by decide) ?_
          refine zy_iinc dX11_layWay_84 rfl rfl ?_
          refine zx_goto (tgt := 6) dX11_layWay_87 (by decide) ?_
          refine ih (by omega) _ a (mf_s hf (by decide) (by decide)) (by rw [Nat.add_sub_cancel]; exact hz0) (fun j hj => ?_)
          by_cases e : j = q
          · subst e; simp [zw_s, zo_sq, hz0]
          · have := hcs j (by omega)
            simp [zw_s, e, this]
      · refine zx_iload dX11_layWay_18 rfl ?_
        refine zx_aload_n dX11_layWay_20 rfl ?_
        refine zy_geti dX11_layWay_21 fX11_52 ((show _ = zn_I (ρ.1 : Int) from by rw [(hf.2 11 (by decide)).1]; exact hG.2.1)) ?_
        refine zy_icmp_gt (tgt := 59) dX11_layWay_24 (by decide) (by omega) (fun h_24 => ?_) (fun h_24 => ?_)
        · have hz0 : zo_p π ρ true s q = some a := by
            obtain ⟨q', rfl⟩ : ∃ q', q = q' + 1 := ⟨q - 1, by omega⟩
            rw [Nat.add_sub_cancel] at hza
            have hvz : zo_v ρ true q' = 0 := by unfold zo_v; rw [zg_at_0 (by omega)]; rfl
            rw [zo_p, hza]
            dsimp only
            rw [hvz, show zp_step π a 0 = (a : Int) from rfl, if_neg (by omega)]
            rfl
          refine zx_iload_n dX11_layWay_59 rfl ?_
          refine zy_if_eq (tgt := 75) dX11_layWay_60 (by decide) (by omega) (fun h_60 => ?_) (fun h_60 => ?_)
          · exact absurd h_60 (by decide)
          · refine zx_aload_n dX11_layWay_63 rfl ?_
            refine zx_getr dX11_layWay_64 fX11_44 ?_
            refine zx_iload dX11_layWay_67 rfl ?_
            refine zx_iload dX11_layWay_69 rfl ?_
            refine zy_iast (i := q) dX11_layWay_71 rfl (by decide) (by omega) (by omega) ?_
            refine zx_goto (tgt := 84) dX11_layWay_72 (by decide) ?_
            refine zy_iinc dX11_layWay_84 rfl rfl ?_
            refine zx_goto (tgt := 6) dX11_layWay_87 (by decide) ?_
            refine ih (by omega) _ a (mf_s hf (by decide) (by decide)) (by rw [Nat.add_sub_cancel]; exact hz0) (fun j hj => ?_)
            by_cases e : j = q
            · subst e; simp [zw_s, zo_sq, hz0]
            · have := hcs j (by omega)
              simp [zw_s, e, this]
        · refine zx_aload_n dX11_layWay_27 rfl ?_
          refine zx_iload dX11_layWay_28 rfl ?_
          refine zx_aload_n dX11_layWay_30 rfl ?_
          refine zx_getr dX11_layWay_31 fX11_22 ?_
          refine zx_iload dX11_layWay_34 rfl ?_
          refine zx_iconst (v := zn_I 1) dX11_layWay_36 rfl ?_
          refine zy_isub dX11_layWay_37 ?_
          refine zy_bald (i := q - 1) dX11_layWay_38 rfl (by decide) (by omega) (by omega) ((show _ = zn_I (ρ.2 (q - 1) : Nat) from by rw [(hf.1 38 (by decide) (by decide)).1]; exact hG.2.2.1 (q - 1) (by omega))) ?_
          refine zx_callS (y1 := iX11_wayBy) dX11_layWay_39 lX11_76 sX11_wayBy (mX11_wayBy (c := ρ.2 (q - 1)) (hG.2.2.2 (q - 1) (by omega)).2) rfl rfl (Nat.le_of_ble_eq_true rfl) ?_
          refine zk_i ?_
          have hwn := (zg_wf_all ρ.1 hwf (q - 1) (by omega)).2
          have hwr := zg_way_rng (ρ.2 (q - 1))
          refine zx_iload_n dX11_layWay_42 rfl ?_
          refine zy_iadd dX11_layWay_43 ?_
          refine zx_iconst (v := zn_I 4) dX11_layWay_44 rfl ?_
          rw [show zg_way (ρ.2 (q - 1)) - 1 + 2 = (((zg_way (ρ.2 (q - 1))).toNat - 1 + 2 : Nat) : Int) by omega]
          refine zy_irem (b := 4) dX11_layWay_45 (by omega) ?_
          have hvv : ((((zg_way (ρ.2 (q - 1))).toNat - 1 + 2) % 4 : Nat) : Int) + 1 = zo_v ρ true (q - 1) := by
            unfold zo_v
            rw [zg_at_in (show q - 1 < ρ.1 by omega)]
            show _ = zo_opp (zg_way (ρ.2 (q - 1)))
            unfold zo_opp
            (repeat' split) <;> omega
          refine zx_callV (y1 := iX11_besideOf) dX11_layWay_46 lX11_180 vX11_besideOf rc_33 (mX11_besideOf (mI_f hf hI (by decide)) (zo_p_lt hs hza) (by omega)) rfl rfl (Nat.le_of_ble_eq_true rfl) ?_
          refine zk_i ?_
          rw [hvv]
          have hsr := zp_step_rng (zo_p_lt hs hza) (zo_v ρ true (q - 1))
          refine zx_istore dX11_layWay_49 rfl (Nat.le_of_ble_eq_true rfl) ?_
          refine zx_iload dX11_layWay_51 rfl ?_
          refine zx_iconst (v := zn_I (-1)) dX11_layWay_53 rfl ?_
          refine zy_icmp_ne (tgt := 59) dX11_layWay_54 (by decide) (by omega) (fun h_54 => ?_) (fun h_54 => ?_)
          · have hz1 : zo_p π ρ true s q = some (zp_step π a (zo_v ρ true (q - 1))).toNat := by rw [show q = (q - 1) + 1 by omega, zo_p, hza]; dsimp only; rw [if_neg h_54]; rfl
            refine zx_iload_n dX11_layWay_59 rfl ?_
            refine zy_if_eq (tgt := 75) dX11_layWay_60 (by decide) (by omega) (fun h_60 => ?_) (fun h_60 => ?_)
            · exact absurd h_60 (by decide)
            · refine zx_aload_n dX11_layWay_63 rfl ?_
              refine zx_getr dX11_layWay_64 fX11_44 ?_
              refine zx_iload dX11_layWay_67 rfl ?_
              refine zx_iload dX11_layWay_69 rfl ?_
              refine zy_iast (i := q) dX11_layWay_71 rfl (by decide) (by omega) (by omega) ?_
              refine zx_goto (tgt := 84) dX11_layWay_72 (by decide) ?_
              refine zy_iinc dX11_layWay_84 rfl rfl ?_
              refine zx_goto (tgt := 6) dX11_layWay_87 (by decide) ?_
              rw [show zp_step π a (zo_v ρ true (q - 1)) = (((zp_step π a (zo_v ρ true (q - 1))).toNat : Nat) : Int) by omega]
              refine ih (by omega) _ _ (mf_s hf (by decide) (by decide)) (by rw [Nat.add_sub_cancel]; exact hz1) (fun j hj => ?_)
              by_cases e : j = q
              · subst e; simp [zw_s, zo_sq, hz1]
              · have := hcs j (by omega)
                simp [zw_s, e, this]
          · refine zx_iconst (v := zn_I 0) dX11_layWay_57 rfl ?_
            refine zx_iret (st := []) dX11_layWay_58 rfl rfl ?_
            have hno : zo_p π ρ true s q = none := by rw [show q = (q - 1) + 1 by omega, zo_p, hza]; dsimp only; rw [if_pos h_54]
            refine ⟨?_, hf, fun h => ?_⟩
            · rw [← zn_Bf]
              rw [zo_ok, zo_p_none (show q ≤ 7 by omega) hno]; simp
            · rw [zo_ok, zo_p_none (show q ≤ 7 by omega) hno] at h; cases h
  refine zx_iload_n dX11_layWay_0 rfl ?_
  refine zx_istore dX11_layWay_1 rfl (Nat.le_of_ble_eq_true rfl) ?_
  refine zx_iconst (v := zn_I 0) dX11_layWay_3 rfl ?_
  refine zx_istore dX11_layWay_4 rfl (Nat.le_of_ble_eq_true rfl) ?_
  exact loop 0 (by omega) M s mf_rf rfl (fun j hj => absurd hj (Nat.not_lt_zero _))
set_option maxRecDepth 100000 in
set_option maxHeartbeats 600000 in
theorem mX11_wetWith {l : Launch} {d : Nat} {M : zw_M} {π : zP} {τ : zQ} (hI : mI M π) (hT : mT M (zp_n π) τ) (hM : mM M 0 0 0) {w : Int} (hw : 1 ≤ w ∧ w ≤ 99) {p1 p2 : Nat → Nat} (h1 : ∀ q, q < 8 → M.1 44 q = zn_I (p1 q : Nat) ∧ p1 q < zp_n π) (h2 : ∀ q, q < 8 → M.1 45 q = zn_I (p2 q : Nat) ∧ p2 q < zp_n π) : zw_C l (d + 3) iX11_wetWith [.ref 33, .int (zn_I w)] M (fun v M1 => v = some (.int (zn_I (zo_wet π (zl_E π τ) (zl_S π τ) w p1 p2 : Nat))) ∧ mfr [] [19, 20] M M1 ∧ mM M1 0 0 0) := by
  have hp := hI.1
  refine zw_of (by decide +kernel) (Nat.le_of_ble_eq_true rfl) ?_
  refine zy_loc (L1 := [.ref 33, .int (zn_I w), .retAddr 0, .retAddr 0]) rfl ?_
  have loop : ∀ q : Nat, q ≤ 8 → ∀ M1 : zw_M, mfr [] [19, 20] M M1 → zw_X l (d + 3) iX11_wetWith (fun v M1 => v = some (.int (zn_I (zo_wet π (zl_E π τ) (zl_S π τ) w p1 p2 : Nat))) ∧ mfr [] [19, 20] M M1 ∧ mM M1 0 0 0) 4 [.ref 33, .int (zn_I w), .int (zn_I (zc_sum (fun q => zp_wc π (zl_E π τ q + w * (zp_e π (p1 q) + zp_e π (p2 q))) (zl_S π τ q + w * (zp_s π (p1 q) + zp_s π (p2 q)))) q : Nat)), .int (zn_I (q : Int))] [] M1 := by
    refine zw_loop 8 (P := fun q => ∀ M1 : zw_M, mfr [] [19, 20] M M1 → zw_X l (d + 3) iX11_wetWith (fun v M1 => v = some (.int (zn_I (zo_wet π (zl_E π τ) (zl_S π τ) w p1 p2 : Nat))) ∧ mfr [] [19, 20] M M1 ∧ mM M1 0 0 0) 4 [.ref 33, .int (zn_I w), .int (zn_I (zc_sum (fun q => zp_wc π (zl_E π τ q + w * (zp_e π (p1 q) + zp_e π (p2 q))) (zl_S π τ q + w * (zp_s π (p1 q) + zp_s π (p2 q)))) q : Nat)), .int (zn_I (q : Int))] [] M1) (fun q hq ih M1 hf => ?_)
    refine zx_iload_n dX11_wetWith_4 rfl ?_
    refine zx_bipush (v := zn_I 8) dX11_wetWith_5 (by decide) ?_
    refine zy_icmp_ge (tgt := 81) dX11_wetWith_7 (by decide) (by omega) (fun h_7 => ?_) (fun h_7 => ?_)
    · refine zx_aload_n dX11_wetWith_81 rfl ?_
      refine zx_iconst (v := zn_I 0) dX11_wetWith_82 rfl ?_
      refine zx_puti dX11_wetWith_83 fX11_132 ?_
      refine zx_aload_n dX11_wetWith_86 rfl ?_
      refine zx_iconst (v := zn_I 0) dX11_wetWith_87 rfl ?_
      refine zx_puti dX11_wetWith_88 fX11_129 ?_
      refine zx_iload_n dX11_wetWith_91 rfl ?_
      refine zx_iret (st := []) dX11_wetWith_92 rfl rfl ?_
      have hq8 : q = 8 := by omega
      subst hq8
      exact ⟨rfl, mf_f (mf_f hf (by decide)) (by decide), ⟨by simp [zw_s], by simp [zw_s], by simp only [zw_s]; simp; rw [(hf.2 21 (by decide)).1]; exact hM.1.2.2⟩, hM.2⟩
    · refine zx_aload_n dX11_wetWith_10 rfl ?_
      refine zx_iload_n dX11_wetWith_11 rfl ?_
      refine zx_aload_n dX11_wetWith_12 rfl ?_
      refine zx_aload_n dX11_wetWith_13 rfl ?_
      refine zx_getr dX11_wetWith_14 fX11_41 ?_
      refine zx_iload_n dX11_wetWith_17 rfl ?_
      refine zy_iald (i := q) dX11_wetWith_18 rfl (by decide) (by omega) (by omega) ((show _ = zn_I (p1 q : Nat) from by rw [(hf.1 44 (by decide) (by decide)).1]; exact (h1 q (by omega)).1)) ?_
      refine zx_callV (y1 := iX11_eastOf) dX11_wetWith_19 lX11_107 vX11_eastOf rc_33 (mX11_eastOf (mI_f hf hI (by decide)) (h1 q (by omega)).2) rfl rfl (Nat.le_of_ble_eq_true rfl) ?_
      refine zk_i ?_
      refine zx_aload_n dX11_wetWith_22 rfl ?_
      refine zx_aload_n dX11_wetWith_23 rfl ?_
      refine zx_getr dX11_wetWith_24 fX11_44 ?_
      refine zx_iload_n dX11_wetWith_27 rfl ?_
      refine zy_iald (i := q) dX11_wetWith_28 rfl (by decide) (by omega) (by omega) ((show _ = zn_I (p2 q : Nat) from by rw [(hf.1 45 (by decide) (by decide)).1]; exact (h2 q (by omega)).1)) ?_
      refine zx_callV (y1 := iX11_eastOf) dX11_wetWith_29 lX11_107 vX11_eastOf rc_33 (mX11_eastOf (mI_f hf hI (by decide)) (h2 q (by omega)).2) rfl rfl (Nat.le_of_ble_eq_true rfl) ?_
      refine zk_i ?_
      refine zy_iadd dX11_wetWith_32 ?_
      refine zy_imul dX11_wetWith_33 ?_
      refine zx_puti dX11_wetWith_34 fX11_132 ?_
      refine zx_aload_n dX11_wetWith_37 rfl ?_
      refine zx_iload_n dX11_wetWith_38 rfl ?_
      refine zx_aload_n dX11_wetWith_39 rfl ?_
      refine zx_aload_n dX11_wetWith_40 rfl ?_
      refine zx_getr dX11_wetWith_41 fX11_41 ?_
      refine zx_iload_n dX11_wetWith_44 rfl ?_
      refine zy_iald (i := q) dX11_wetWith_45 rfl (by decide) (by omega) (by omega) ((show _ = zn_I (p1 q : Nat) from by simp only [zw_s, show ¬ (44 = 33) by decide, false_and, if_false]; rw [(hf.1 44 (by decide) (by decide)).1]; exact (h1 q (by omega)).1)) ?_
      refine zx_callV (y1 := iX11_southOf) dX11_wetWith_46 lX11_110 vX11_southOf rc_33 (mX11_southOf (mI_f (mf_f hf (by decide)) hI (by decide)) (h1 q (by omega)).2) rfl rfl (Nat.le_of_ble_eq_true rfl) ?_
      refine zk_i ?_
      refine zx_aload_n dX11_wetWith_49 rfl ?_
      refine zx_aload_n dX11_wetWith_50 rfl ?_
      refine zx_getr dX11_wetWith_51 fX11_44 ?_
      refine zx_iload_n dX11_wetWith_54 rfl ?_
      refine zy_iald (i := q) dX11_wetWith_55 rfl (by decide) (by omega) (by omega) ((show _ = zn_I (p2 q : Nat) from by simp only [zw_s, show ¬ (45 = 33) by decide, false_and, if_false]; rw [(hf.1 45 (by decide) (by decide)).1]; exact (h2 q (by omega)).1)) ?_
      refine zx_callV (y1 := iX11_southOf) dX11_wetWith_56 lX11_110 vX11_southOf rc_33 (mX11_southOf (mI_f (mf_f hf (by decide)) hI (by decide)) (h2 q (by omega)).2) rfl rfl (Nat.le_of_ble_eq_true rfl) ?_
      refine zk_i ?_
      refine zy_iadd dX11_wetWith_59 ?_
      refine zy_imul dX11_wetWith_60 ?_
      refine zx_puti dX11_wetWith_61 fX11_129 ?_
      have hw2 := zp_w2 hp (h1 q (by omega)).2 (h2 q (by omega)).2 hw
      have hf2 : mfr [] [19, 20] M (zw_s (zw_s M1 33 19 (zn_I (w * (zp_e π (p1 q) + zp_e π (p2 q))))) 33 20 (zn_I (w * (zp_s π (p1 q) + zp_s π (p2 q))))) := mf_f (mf_f hf (by decide)) (by decide)
      have hM2 : mM (zw_s (zw_s M1 33 19 (zn_I (w * (zp_e π (p1 q) + zp_e π (p2 q))))) 33 20 (zn_I (w * (zp_s π (p1 q) + zp_s π (p2 q))))) (w * (zp_e π (p1 q) + zp_e π (p2 q))) (w * (zp_s π (p1 q) + zp_s π (p2 q))) 0 := ⟨⟨by simp [zw_s], by simp [zw_s], by rw [(hf2.2 21 (by decide)).1]; exact hM.1.2.2⟩, by omega, by omega, by omega⟩
      refine zx_iload_n dX11_wetWith_64 rfl ?_
      refine zx_aload_n dX11_wetWith_65 rfl ?_
      refine zx_iload_n dX11_wetWith_66 rfl ?_
      refine zx_callV (y1 := iX11_wetIn) dX11_wetWith_67 lX11_143 vX11_wetIn rc_33 (mX11_wetIn (me := (w * (zp_e π (p1 q) + zp_e π (p2 q)))) (ms := (w * (zp_s π (p1 q) + zp_s π (p2 q)))) (mo := 0) (mI_f hf2 hI (by decide)) (mT_f hf2 hT (by decide)) hM2 (q := q) (by omega)) rfl rfl (Nat.le_of_ble_eq_true rfl) ?_
      refine zk_i ?_
      refine zx_callS (y1 := iX11_size) dX11_wetWith_70 lX11_146 sX11_size (mX11_size (mwet_30 hp τ (w * (zp_e π (p1 q) + zp_e π (p2 q))) (w * (zp_s π (p1 q) + zp_s π (p2 q))) 0 q)) rfl rfl (Nat.le_of_ble_eq_true rfl) ?_
      refine zk_i ?_
      refine zy_iadd dX11_wetWith_73 ?_
      refine zx_istore_n dX11_wetWith_74 rfl (Nat.le_of_ble_eq_true rfl) ?_
      refine zy_iinc dX11_wetWith_75 rfl rfl ?_
      refine zx_goto (tgt := 4) dX11_wetWith_78 (by decide) ?_
      rw [show ((zc_sum (fun q => zp_wc π (zl_E π τ q + w * (zp_e π (p1 q) + zp_e π (p2 q))) (zl_S π τ q + w * (zp_s π (p1 q) + zp_s π (p2 q)))) q : Nat) : Int) + ((zb_pop 32 (mwet π τ (w * (zp_e π (p1 q) + zp_e π (p2 q))) (w * (zp_s π (p1 q) + zp_s π (p2 q))) 0 q) : Nat) : Int) = ((zc_sum (fun q => zp_wc π (zl_E π τ q + w * (zp_e π (p1 q) + zp_e π (p2 q))) (zl_S π τ q + w * (zp_s π (p1 q) + zp_s π (p2 q)))) (q + 1) : Nat) : Int) by
        rw [zc_sum, mwet, (ml_0 π τ q τ.1).1, (ml_0 π τ q τ.1).2, Int.add_comm (w * (zp_e π (p1 q) + zp_e π (p2 q))), Int.add_comm (w * (zp_s π (p1 q) + zp_s π (p2 q)))]
        exact (Int.natCast_add _ _).symm]
      exact ih (by omega) _ hf2
  refine zx_iconst (v := zn_I 0) dX11_wetWith_0 rfl ?_
  refine zx_istore_n dX11_wetWith_1 rfl (Nat.le_of_ble_eq_true rfl) ?_
  refine zx_iconst (v := zn_I 0) dX11_wetWith_2 rfl ?_
  refine zx_istore_n dX11_wetWith_3 rfl (Nat.le_of_ble_eq_true rfl) ?_
  exact loop 0 (by omega) M mf_rf
set_option maxRecDepth 100000 in
set_option maxHeartbeats 600000 in
theorem mX11_counter {l : Launch} {d : Nat} {M : zw_M} {σ : zZ} (hJ : zJ_ M σ) {s : Int} (hss : -2147483648 ≤ s ∧ s < 2147483648) {w : Int} (hww : -2147483648 ≤ w ∧ w < 2147483648) {x : Int} (hxx : -2147483648 ≤ x ∧ x < 2147483648) : zw_C l (d + 4) iX11_counter [.ref 33, .int (zn_I s), .int (zn_I w), .int (zn_I x)] M (mO (zn_I (zk_counter σ s w x)) σ M) := by
  obtain ⟨hI, hT, hG, ⟨ha, hb, hc⟩, hM, hK⟩ := id hJ
  have hp := hI.1
  have h30 := zp_30 hp
  have h8 := hT.1
  have hr2 : M.1 33 2 = zn_I (zp_n σ.1) := hI.2.2.2.1
  have ht5 : M.1 33 5 = zn_I σ.2.1.1 := hT.2.1
  refine zw_of (by decide +kernel) (Nat.le_of_ble_eq_true rfl) ?_
  refine zy_loc (L1 := [.ref 33, .int (zn_I s), .int (zn_I w), .int (zn_I x), .retAddr 0, .retAddr 0, .retAddr 0, .retAddr 0]) rfl ?_
  have loop : ∀ s : Nat, (s : Int) < zp_n σ.1 → (1 ≤ w ∧ w ≤ 99) → (x = 0 ∨ x = 1) → zk_way σ → zo_ok σ.1 σ.2.2.1 false s → ∀ k : Nat, k ≤ zp_n σ.1 → ∀ (M1 : zw_M) (v7 : Value), mfr [44, 45] [13, 14, 19, 20] M M1 → mM M1 0 0 0 → (∀ q, q < 8 → M1.1 44 q = zn_I (zo_sq σ.1 σ.2.2.1 false s q : Nat)) → zw_X l (d + 4) iX11_counter (mO (zn_I (zk_counter σ s w x)) σ M) 67 [.ref 33, .int (zn_I (s : Int)), .int (zn_I w), .int (zn_I x), .int (zn_I (zc_o (zo_g σ.1 σ.2.2.1 (zl_E σ.1 σ.2.1) (zl_S σ.1 σ.2.1) w s) k).1), .int (zn_I (mc_l (zc_o (zo_g σ.1 σ.2.2.1 (zl_E σ.1 σ.2.1) (zl_S σ.1 σ.2.1) w s) k))), .int (zn_I (k : Int)), v7] [] M1 := by
    intro s hsn hw9 hx01 hway hok1
    have hcr := zc_o_rng (g := (zo_g σ.1 σ.2.2.1 (zl_E σ.1 σ.2.1) (zl_S σ.1 σ.2.1) w s)) (B := 256) zo_g_le
    refine zw_loop (zp_n σ.1) (P := fun k => ∀ (M1 : zw_M) (v7 : Value), mfr [44, 45] [13, 14, 19, 20] M M1 → mM M1 0 0 0 → (∀ q, q < 8 → M1.1 44 q = zn_I (zo_sq σ.1 σ.2.2.1 false s q : Nat)) → zw_X l (d + 4) iX11_counter (mO (zn_I (zk_counter σ s w x)) σ M) 67 [.ref 33, .int (zn_I (s : Int)), .int (zn_I w), .int (zn_I x), .int (zn_I (zc_o (zo_g σ.1 σ.2.2.1 (zl_E σ.1 σ.2.1) (zl_S σ.1 σ.2.1) w s) k).1), .int (zn_I (mc_l (zc_o (zo_g σ.1 σ.2.2.1 (zl_E σ.1 σ.2.1) (zl_S σ.1 σ.2.1) w s) k))), .int (zn_I (k : Int)), v7] [] M1) (fun k hk ih M1 v7 hf hM1 h44 => ?_)
    have hI1 := mI_f hf hI (by decide)
    have hck := hcr k
    refine zx_iload dX11_counter_67 rfl ?_
    refine zx_aload_n dX11_counter_69 rfl ?_
    refine zy_geti dX11_counter_70 fX11_92 ((show _ = zn_I (zp_n σ.1 : Nat) from hI1.2.2.2.1)) ?_
    refine zy_icmp_ge (tgt := 132) dX11_counter_73 (by decide) (by omega) (fun h_73 => ?_) (fun h_73 => ?_)
    · refine zx_iload_n dX11_counter_132 rfl ?_
      refine zy_if_ne (tgt := 141) dX11_counter_133 (by decide) (by omega) (fun h_133 => ?_) (fun h_133 => ?_)
      · refine zx_iload dX11_counter_141 rfl ?_
        refine zx_iret (st := []) dX11_counter_143 rfl rfl ?_
        have hkn : k = zp_n σ.1 := by omega
        subst hkn
        refine mO_f (mf_mono hf (by decide)) ⟨hI1, mT_f hf hT (by decide), mG_f hf hG (by decide), ⟨by rw [(hf.2 3 (by decide)).1]; exact ha, by rw [(hf.2 9 (by decide)).1]; exact hb, by rw [(hf.2 10 (by decide)).1]; exact hc⟩, hM1, mK_f hf hK (by decide)⟩ ?_
        rw [zk_counter, if_neg (by omega), if_neg (by omega), if_neg (fun r => r ⟨hway, hok1⟩), Int.toNat_natCast]
        first
          | rw [if_pos (by omega)]
          | (rw [if_neg (by omega), mc_l, if_neg]
             have h3 := zo_sym_ok (show s < zp_n σ.1 by omega) hok1
             exact zc_o_some (g := (zo_g σ.1 σ.2.2.1 (zl_E σ.1 σ.2.1) (zl_S σ.1 σ.2.1) w s)) (s := zp_n σ.1 - 1 - s) (by rw [zo_g, if_pos h3]) _ (by omega))
      · refine zx_iload dX11_counter_136 rfl ?_
        refine zx_goto (tgt := 143) dX11_counter_138 (by decide) ?_
        refine zx_iret (st := []) dX11_counter_143 rfl rfl ?_
        have hkn : k = zp_n σ.1 := by omega
        subst hkn
        refine mO_f (mf_mono hf (by decide)) ⟨hI1, mT_f hf hT (by decide), mG_f hf hG (by decide), ⟨by rw [(hf.2 3 (by decide)).1]; exact ha, by rw [(hf.2 9 (by decide)).1]; exact hb, by rw [(hf.2 10 (by decide)).1]; exact hc⟩, hM1, mK_f hf hK (by decide)⟩ ?_
        rw [zk_counter, if_neg (by omega), if_neg (by omega), if_neg (fun r => r ⟨hway, hok1⟩), Int.toNat_natCast]
        first
          | rw [if_pos (by omega)]
          | (rw [if_neg (by omega), mc_l, if_neg]
             have h3 := zo_sym_ok (show s < zp_n σ.1 by omega) hok1
             exact zc_o_some (g := (zo_g σ.1 σ.2.2.1 (zl_E σ.1 σ.2.1) (zl_S σ.1 σ.2.1) w s)) (s := zp_n σ.1 - 1 - s) (by rw [zo_g, if_pos h3]) _ (by omega))
    · refine zx_aload_n dX11_counter_76 rfl ?_
      refine zx_iload dX11_counter_77 rfl ?_
      refine zx_iconst (v := zn_I 2) dX11_counter_79 rfl ?_
      refine zx_iconst (v := zn_I 1) dX11_counter_80 rfl ?_
      refine zx_callV (y1 := iX11_layWay) dX11_counter_81 lX11_183 vX11_layWay rc_33 (mX11_layWay_2 hI1 (mG_f hf hG (by decide)) hway.2 (s := k) (by omega)) rfl rfl (Nat.le_of_ble_eq_true rfl) ?_
      intro v M2 he
      obtain ⟨rfl, hf2, h45⟩ := he
      refine zy_ifB_eq (tgt := 126) dX11_counter_84 (by decide) (fun h_84 => ?_) (fun h_84 => ?_)
      · refine zy_iinc dX11_counter_126 rfl rfl ?_
        refine zx_goto (tgt := 67) dX11_counter_129 (by decide) ?_
        have hgk : (zo_g σ.1 σ.2.2.1 (zl_E σ.1 σ.2.1) (zl_S σ.1 σ.2.1) w s) k = none := by rw [zo_g, if_neg h_84]
        have hst : zc_o (zo_g σ.1 σ.2.2.1 (zl_E σ.1 σ.2.1) (zl_S σ.1 σ.2.1) w s) (k + 1) = zc_o (zo_g σ.1 σ.2.2.1 (zl_E σ.1 σ.2.1) (zl_S σ.1 σ.2.1) w s) k := by rw [zc_o, hgk]
        have hf2b : mfr [44, 45] [13, 14, 19, 20] M M2 := mf_tr hf (mf_mono hf2 (by decide))
        have h9 := ih (by omega) M2 v7 hf2b (mM_f hf2 hM1 (by decide)) (fun q hq => by rw [(hf2.1 44 (by decide) (by decide)).1]; exact h44 q hq)
        rw [hst] at h9
        exact h9
      · refine zx_aload_n dX11_counter_87 rfl ?_
        refine zx_iload_n dX11_counter_88 rfl ?_
        refine zx_callV (y1 := iX11_wetWith) dX11_counter_89 lX11_187 vX11_wetWith rc_33 (mX11_wetWith (mI_f hf2 hI1 (by decide)) (mT_f hf2 (mT_f hf hT (by decide)) (by decide)) (mM_f hf2 hM1 (by decide)) hw9 (p1 := zo_sq σ.1 σ.2.2.1 false s) (p2 := zo_sq σ.1 σ.2.2.1 true k) (fun q hq => ⟨by rw [(hf2.1 44 (by decide) (by decide)).1]; exact h44 q hq, zo_p_lt (s := s) (by omega) (zo_some hok1 (q := q) (by omega))⟩) (fun q hq => ⟨h45 h_84 q hq, zo_p_lt (s := k) (by omega) (zo_some h_84 (q := q) (by omega))⟩)) rfl rfl (Nat.le_of_ble_eq_true rfl) ?_
        intro v M3 he
        obtain ⟨rfl, hf3b, hM3⟩ := he
        have hf3 : mfr [44, 45] [13, 14, 19, 20] M M3 := mf_tr hf (mf_tr (mf_mono hf2 (by decide)) (mf_mono hf3b (by decide)))
        have h443 : ∀ q, q < 8 → M3.1 44 q = zn_I (zo_sq σ.1 σ.2.2.1 false s q : Nat) := fun q hq => by rw [(hf3b.1 44 (by decide) (by decide)).1, (hf2.1 44 (by decide) (by decide)).1]; exact h44 q hq
        have hgk : (zo_g σ.1 σ.2.2.1 (zl_E σ.1 σ.2.1) (zl_S σ.1 σ.2.1) w s) k = some (zo_wet σ.1 (zl_E σ.1 σ.2.1) (zl_S σ.1 σ.2.1) w (zo_sq σ.1 σ.2.2.1 false s) (zo_sq σ.1 σ.2.2.1 true k)) := by rw [zo_g, if_pos h_84]
        have hwl := zo_wet_le σ.1 (zl_E σ.1 σ.2.1) (zl_S σ.1 σ.2.1) w (zo_sq σ.1 σ.2.2.1 false s) (zo_sq σ.1 σ.2.2.1 true k)
        refine zx_istore dX11_counter_92 rfl (Nat.le_of_ble_eq_true rfl) ?_
        refine zx_iload dX11_counter_94 rfl ?_
        refine zx_iload dX11_counter_96 rfl ?_
        refine zy_icmp_ge (tgt := 106) dX11_counter_98 (by decide) (by unfold mc_l; split <;> omega) (fun h_98 => ?_) (fun h_98 => ?_)
        · refine zx_iload dX11_counter_106 rfl ?_
          refine zx_istore dX11_counter_108 rfl (Nat.le_of_ble_eq_true rfl) ?_
          refine zx_iload dX11_counter_110 rfl ?_
          refine zx_iload dX11_counter_112 rfl ?_
          refine zy_icmp_ge (tgt := 122) dX11_counter_114 (by decide) (by unfold mc_l; split <;> omega) (fun h_114 => ?_) (fun h_114 => ?_)
          · refine zx_iload dX11_counter_122 rfl ?_
            refine zx_istore dX11_counter_124 rfl (Nat.le_of_ble_eq_true rfl) ?_
            refine zy_iinc dX11_counter_126 rfl rfl ?_
            refine zx_goto (tgt := 67) dX11_counter_129 (by decide) ?_
            have hst : zc_o (zo_g σ.1 σ.2.2.1 (zl_E σ.1 σ.2.1) (zl_S σ.1 σ.2.1) w s) (k + 1) = zc_o (zo_g σ.1 σ.2.2.1 (zl_E σ.1 σ.2.1) (zl_S σ.1 σ.2.1) w s) k := by
              rw [zc_o, hgk]
              dsimp only
              rw [if_neg (by unfold mc_l at h_98; split at h_98 <;> omega)]
            have h9 := fun v8 => ih (by omega) M3 v8 hf3 hM3 h443
            rw [hst] at h9
            exact h9 _
          · exact absurd h_98 h_114
        · refine zx_iload dX11_counter_101 rfl ?_
          refine zx_goto (tgt := 108) dX11_counter_103 (by decide) ?_
          refine zx_istore dX11_counter_108 rfl (Nat.le_of_ble_eq_true rfl) ?_
          refine zx_iload dX11_counter_110 rfl ?_
          refine zx_iload dX11_counter_112 rfl ?_
          refine zy_icmp_ge (tgt := 122) dX11_counter_114 (by decide) (by unfold mc_l; split <;> omega) (fun h_114 => ?_) (fun h_114 => ?_)
          · exact absurd h_114 h_98
          · refine zx_iload dX11_counter_117 rfl ?_
            refine zx_goto (tgt := 124) dX11_counter_119 (by decide) ?_
            refine zx_istore dX11_counter_124 rfl (Nat.le_of_ble_eq_true rfl) ?_
            refine zy_iinc dX11_counter_126 rfl rfl ?_
            refine zx_goto (tgt := 67) dX11_counter_129 (by decide) ?_
            have hst : zc_o (zo_g σ.1 σ.2.2.1 (zl_E σ.1 σ.2.1) (zl_S σ.1 σ.2.1) w s) (k + 1) = ((k : Int), ((zo_wet σ.1 (zl_E σ.1 σ.2.1) (zl_S σ.1 σ.2.1) w (zo_sq σ.1 σ.2.2.1 false s) (zo_sq σ.1 σ.2.2.1 true k) : Nat) : Int)) := by
              rw [zc_o, hgk]
              dsimp only
              rw [if_pos (by unfold mc_l at h_98; split at h_98 <;> omega)]
            have h9 := fun v8 => ih (by omega) M3 v8 hf3 hM3 h443
            rw [hst] at h9
            exact h9 _
  refine zx_aload_n dX11_counter_0 rfl ?_
  refine zx_iload_n dX11_counter_1 rfl ?_
  refine zx_callV (y1 := iX11_isSquare) dX11_counter_2 lX11_101 vX11_isSquare rc_33 (mX11_isSquare hI hss) rfl rfl (Nat.le_of_ble_eq_true rfl) ?_
  refine zk_i ?_
  refine zy_ifB_ne (tgt := 11) dX11_counter_5 (by decide) (fun h_5 => ?_) (fun h_5 => ?_)
  · refine zx_iload_n dX11_counter_11 rfl ?_
    refine zx_iconst (v := zn_I 1) dX11_counter_12 rfl ?_
    refine zx_bipush (v := zn_I 99) dX11_counter_13 (by decide) ?_
    refine zx_callS (y1 := iX11_within) dX11_counter_15 lX11_65 sX11_within (mX11_within (v := w) (a := 1) (b := 99) (by omega) (by omega) (by omega)) rfl rfl (Nat.le_of_ble_eq_true rfl) ?_
    refine zk_i ?_
    refine zy_ifB_eq (tgt := 30) dX11_counter_18 (by decide) (fun h_18 => ?_) (fun h_18 => ?_)
    · refine zx_bipush (v := zn_I (-102)) dX11_counter_30 (by decide) ?_
      refine zx_iret (st := []) dX11_counter_32 rfl rfl ?_
      exact mO_i hJ (by simp only [zk_counter, Int.toNat_natCast]; (repeat' split) <;> first | rfl | omega)
    · refine zx_iload_n dX11_counter_21 rfl ?_
      refine zx_iconst (v := zn_I 0) dX11_counter_22 rfl ?_
      refine zx_iconst (v := zn_I 1) dX11_counter_23 rfl ?_
      refine zx_callS (y1 := iX11_within) dX11_counter_24 lX11_65 sX11_within (mX11_within (v := x) (a := 0) (b := 1) (by omega) (by omega) (by omega)) rfl rfl (Nat.le_of_ble_eq_true rfl) ?_
      refine zk_i ?_
      refine zy_ifB_ne (tgt := 33) dX11_counter_27 (by decide) (fun h_27 => ?_) (fun h_27 => ?_)
      · obtain ⟨s, rfl⟩ : ∃ n : Nat, s = (n : Int) := ⟨s.toNat, by omega⟩
        refine zx_aload_n dX11_counter_33 rfl ?_
        refine zx_callV (y1 := iX11_readWay) dX11_counter_34 lX11_83 vX11_readWay rc_33 (mX11_readWay hG) rfl rfl (Nat.le_of_ble_eq_true rfl) ?_
        intro v M1 he
        obtain ⟨rfl, hf, hq1, hq2⟩ := he
        refine zx_aload_n dX11_counter_37 rfl ?_
        refine zy_geti dX11_counter_38 fX11_72 (hq2) ?_
        refine zy_ifB_eq (tgt := 54) dX11_counter_41 (by decide) (fun h_41 => ?_) (fun h_41 => ?_)
        · refine zx_bipush (v := zn_I (-103)) dX11_counter_54 (by decide) ?_
          refine zx_iret (st := []) dX11_counter_56 rfl rfl ?_
          exact mO_f (mf_mono hf (by decide)) (zJ_f hf hJ (by decide)) (by rw [zk_counter, if_neg (by omega), if_neg (by omega), if_pos (fun r => h_41 r.1)])
        · refine zx_aload_n dX11_counter_44 rfl ?_
          refine zx_iload_n dX11_counter_45 rfl ?_
          refine zx_iconst (v := zn_I 0) dX11_counter_46 rfl ?_
          refine zx_iconst (v := zn_I 0) dX11_counter_47 rfl ?_
          refine zx_callV (y1 := iX11_layWay) dX11_counter_48 lX11_183 vX11_layWay rc_33 (mX11_layWay_0 (mI_f hf hI (by decide)) (mG_f hf hG (by decide)) h_41.2 (s := s) (by omega)) rfl rfl (Nat.le_of_ble_eq_true rfl) ?_
          intro v M2 he
          obtain ⟨rfl, hf2, h44⟩ := he
          refine zy_ifB_ne (tgt := 57) dX11_counter_51 (by decide) (fun h_51 => ?_) (fun h_51 => ?_)
          · refine zx_iconst (v := zn_I (-1)) dX11_counter_57 rfl ?_
            refine zx_istore dX11_counter_58 rfl (Nat.le_of_ble_eq_true rfl) ?_
            refine zx_ldc dX11_counter_60 kX11_166 ?_
            refine zy_top (show (1048576 : Int32) = zn_I 1048576 from by decide) ?_
            refine zx_istore dX11_counter_62 rfl (Nat.le_of_ble_eq_true rfl) ?_
            refine zx_iconst (v := zn_I 0) dX11_counter_64 rfl ?_
            refine zx_istore dX11_counter_65 rfl (Nat.le_of_ble_eq_true rfl) ?_
            exact loop s (by omega) (by omega) (by omega) h_41 h_51 0 (Nat.zero_le _) M2 _ (mf_tr (mf_mono hf (by decide)) (mf_mono hf2 (by decide))) (mM_f hf2 (mM_f hf hM (by decide)) (by decide)) (fun q hq => h44 h_51 q hq)
          · refine zx_bipush (v := zn_I (-103)) dX11_counter_54 (by decide) ?_
            refine zx_iret (st := []) dX11_counter_56 rfl rfl ?_
            exact mO_f (mf_mono (mf_tr (mf_mono (S1 := [44]) (F1 := [13, 14]) hf (by decide)) (mf_mono hf2 (by decide))) (by decide)) (zJ_f (mf_tr (mf_mono (S1 := [44]) (F1 := [13, 14]) hf (by decide)) (mf_mono hf2 (by decide))) hJ (by decide)) (by rw [zk_counter, if_neg (by omega), if_neg (by omega), if_pos (fun r => h_51 (by have := r.2; rw [Int.toNat_natCast] at this; exact this))])
      · refine zx_bipush (v := zn_I (-102)) dX11_counter_30 (by decide) ?_
        refine zx_iret (st := []) dX11_counter_32 rfl rfl ?_
        exact mO_i hJ (by simp only [zk_counter, Int.toNat_natCast]; (repeat' split) <;> first | rfl | omega)
  · refine zx_bipush (v := zn_I (-101)) dX11_counter_8 (by decide) ?_
    refine zx_iret (st := []) dX11_counter_10 rfl rfl ?_
    exact mO_i hJ (by simp only [zk_counter, Int.toNat_natCast]; (repeat' split) <;> first | rfl | omega)
