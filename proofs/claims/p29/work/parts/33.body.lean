/-! THE LAW'S BODY: what holds all along -/
/-- what is known of the locals, and less -/
def zw_wk : List Value → List Value → Prop
  | [], [] => True
  | a :: L, b :: L1 => (b = .retAddr 0 ∨ a = b) ∧ zw_wk L L1
  | _, _ => False
theorem zw_wk_len : ∀ {L L1 : List Value}, zw_wk L L1 → L.length = L1.length ∧ ∀ (i : Nat) (v : Value), L1[i]? = some v → v ≠ .retAddr 0 → L[i]? = some v
  | [], [], _ => ⟨rfl, fun i v h _ => by simp at h⟩
  | a :: L, b :: L1, h => by
    obtain ⟨h1, h2⟩ := zw_wk_len h.2
    refine ⟨by simp [h1], fun i v hi hv => ?_⟩
    cases i with
    | zero =>
      simp at hi
      subst hi
      rcases h.1 with q | q
      · exact absurd q hv
      · simp [q]
    | succ i => exact h2 i v (by simpa using hi) hv
  | [], _ :: _, h => h.elim
  | _ :: _, [], h => h.elim
theorem zx_weak {l : zw_Lh} {d : Nat} {y : zw_I} {Q : Option Value → zw_M → Prop} {pc : Nat} {L L1 st : List Value} {M : zw_M} (h : zw_wk L L1) (k : zw_X l d y Q pc L1 st M) : zw_X l d y Q pc L st M := by
  intro p e s m args below meth c H locs ls G R cells slots Z hK hE hP hS hL
  obtain ⟨h1, h2⟩ := zw_wk_len h
  exact k p e s m args below meth c H locs ls G R cells slots Z hK hE hP hS ⟨by rw [← h1]; exact hL.1, hL.2.1, hL.2.2.1, fun i v hi hv => hL.2.2.2 i v (h2 i v hi hv) hv⟩
def lQ : Option Value → zw_M → Prop := fun v _ => v = some (.int (zn_I 1))
def lI (M : zw_M) (σ : zZ) (m n : Nat) : Prop := zC_ M σ ∧ lA M σ.1 ∧ lB M σ.2.1 m ∧ σ.2.1.1 = m ∧ zp_n σ.1 = n
theorem lI_z {M M1 : zw_M} {σ : zZ} {m n : Nat} (hf : zw_fr zcl M M1) (hC : zC_ M1 σ) (h : lI M σ m n) : lI M1 σ m n := ⟨hC, lA_f hf h.2.1 (by decide), lB_f hf h.2.2.1 (by decide), h.2.2.2⟩
theorem lI_36 {M M1 : zw_M} {σ : zZ} {m n : Nat} (hf : zw_fr [36] M M1) (h : lI M σ m n) : lI M1 σ m n := ⟨zC_f hf h.1 (by decide), lA_f hf h.2.1 (by decide), lB_f hf h.2.2.1 (by decide), h.2.2.2⟩
theorem lk_in {M : zw_M} {σ : zZ} {m n : Nat} (h : lI M σ m n) {t : Nat} (ht : t < m) : zthing σ (t : Int) := ⟨by omega, by have := h.2.2.2.1; omega⟩
theorem lk_as1 {M : zw_M} {σ : zZ} {m n : Nat} (h : lI M σ m n) {t k : Nat} (ht : t < m) (hk : k < 5) (hy : (k : Int) = 0 ∨ (k : Int) = σ.2.1.2.1 t ∨ ((k : Int) = 3 ∧ σ.2.1.2.1 t = 4)) : zk_as σ (t : Int) (k : Int) = (t : Int) := by
  rw [zk_as, if_neg (fun r => r (lk_in h ht)), if_neg (fun r => r ⟨by omega, by omega⟩), if_pos ?_]
  show zt_kind σ.2.1 (t : Int) = (k : Int) ∨ _
  rw [zt_kind_in (by have := h.2.2.2.1; omega)]
  omega
theorem lk_as0 {M : zw_M} {σ : zZ} {m n : Nat} (h : lI M σ m n) {t k : Nat} (ht : t < m) (hk : k < 5) (hy : ¬ ((k : Int) = 0 ∨ (k : Int) = σ.2.1.2.1 t ∨ ((k : Int) = 3 ∧ σ.2.1.2.1 t = 4))) : zk_as σ (t : Int) (k : Int) = -1 := by
  rw [zk_as, if_neg (fun r => r (lk_in h ht)), if_neg (fun r => r ⟨by omega, by omega⟩), if_neg ?_]
  show ¬ (zt_kind σ.2.1 (t : Int) = (k : Int) ∨ _)
  rw [zt_kind_in (by have := h.2.2.2.1; omega)]
  omega
theorem lk_ab0 {M : zw_M} {σ : zZ} {m n : Nat} (h : lI M σ m n) {t : Nat} (ht : t < m) : zk_about σ (t : Int) 0 = σ.2.1.2.1 t := by
  rw [zk_about, if_neg (fun r => r (lk_in h ht)), if_neg (by decide), if_pos rfl, Int.toNat_natCast]
theorem lk_ab1 {M : zw_M} {σ : zZ} {m n : Nat} (h : lI M σ m n) {t : Nat} (ht : t < m) : zk_about σ (t : Int) 1 = σ.2.1.2.2.1 t := by
  rw [zk_about, if_neg (fun r => r (lk_in h ht)), if_neg (by decide), if_neg (by decide), if_pos rfl, Int.toNat_natCast]
theorem lk_ab2 {M : zw_M} {σ : zZ} {m n : Nat} (h : lI M σ m n) {t : Nat} (ht : t < m) : zk_about σ (t : Int) 2 = zt_w σ.2.1 t := by
  rw [zk_about, if_neg (fun r => r (lk_in h ht)), if_neg (by decide), if_neg (by decide), if_neg (by decide), if_pos rfl, Int.toNat_natCast]
theorem lk_abq {M : zw_M} {σ : zZ} {m n : Nat} (h : lI M σ m n) {t q : Nat} (ht : t < m) (hq : q < 8) : zk_about σ (t : Int) (10 + (q : Int)) = (σ.2.1.2.2.2 t q : Int) := by
  rw [zk_about, if_neg (fun r => r (lk_in h ht)), if_pos ⟨by omega, by omega⟩, zpl, Int.toNat_natCast, show (10 + (q : Int) - 10).toNat = q by omega]
theorem lk_pl {τ : zQ} {t : Nat} (h : zt_per τ t) : (zt_pl τ (t + 1)).length = (zt_pl τ t).length + 1 := by rw [zt_pl, if_pos h, List.length_append]; rfl
theorem lk_pl0 {τ : zQ} {t : Nat} (h : ¬ zt_per τ t) : (zt_pl τ (t + 1)).length = (zt_pl τ t).length := by rw [zt_pl, if_neg h]
theorem lk_plle {τ : zQ} : ∀ t, (zt_pl τ t).length ≤ t
  | 0 => Nat.le_refl _
  | t + 1 => by
    have := lk_plle (τ := τ) t
    by_cases h : zt_per τ t
    · rw [lk_pl h]; omega
    · rw [lk_pl0 h]; omega
theorem lk_hH {M : zw_M} {σ : zZ} (hC : zC_ M σ) : ∀ s, s < zp_n σ.1 → 0 ≤ σ.1.2.2 s ∧ σ.1.2.2 s ≤ 9 := hC.1.2.2.2.2.2.2.2.2
set_option maxRecDepth 100000 in
set_option maxHeartbeats 600000 in
theorem lw_as {l : zw_Lh} {σ : zZ} {m n : Nat} {M : zw_M} (hI : lI M σ m n) (hm6 : 1 ≤ m ∧ m ≤ 6) (next : ∀ (M1 : zw_M), lI M1 σ m n → zw_X l 7 iL_law lQ 168 [.ref 37, .ref 0, .ref 33, .ref 34, .ref 35, .ref 36, .int (zn_I (n : Int)), .int (zn_I (m : Int)), .retAddr 0, .retAddr 0, .retAddr 0, .retAddr 0, .retAddr 0, .retAddr 0, .retAddr 0, .retAddr 0, .retAddr 0, .retAddr 0, .retAddr 0, .retAddr 0, .retAddr 0, .retAddr 0, .retAddr 0, .retAddr 0, .retAddr 0, .retAddr 0] [] M1) : zw_X l 7 iL_law lQ 85 [.ref 37, .ref 0, .ref 33, .ref 34, .ref 35, .ref 36, .int (zn_I (n : Int)), .int (zn_I (m : Int)), .int (zn_I (0 : Int)), .retAddr 0, .retAddr 0, .retAddr 0, .retAddr 0, .retAddr 0, .retAddr 0, .retAddr 0, .retAddr 0, .retAddr 0, .retAddr 0, .retAddr 0, .retAddr 0, .retAddr 0, .retAddr 0, .retAddr 0, .retAddr 0, .retAddr 0] [] M := by
  have loop : ∀ t : Nat, t ≤ m → ∀ (M1 : zw_M), lI M1 σ m n → zw_X l 7 iL_law lQ 85 [.ref 37, .ref 0, .ref 33, .ref 34, .ref 35, .ref 36, .int (zn_I (n : Int)), .int (zn_I (m : Int)), .int (zn_I (t : Int)), .retAddr 0, .retAddr 0, .retAddr 0, .retAddr 0, .retAddr 0, .retAddr 0, .retAddr 0, .retAddr 0, .retAddr 0, .retAddr 0, .retAddr 0, .retAddr 0, .retAddr 0, .retAddr 0, .retAddr 0, .retAddr 0, .retAddr 0] [] M1 := by
    refine zw_loop m (P := fun t => ∀ (M1 : zw_M), lI M1 σ m n → zw_X l 7 iL_law lQ 85 [.ref 37, .ref 0, .ref 33, .ref 34, .ref 35, .ref 36, .int (zn_I (n : Int)), .int (zn_I (m : Int)), .int (zn_I (t : Int)), .retAddr 0, .retAddr 0, .retAddr 0, .retAddr 0, .retAddr 0, .retAddr 0, .retAddr 0, .retAddr 0, .retAddr 0, .retAddr 0, .retAddr 0, .retAddr 0, .retAddr 0, .retAddr 0, .retAddr 0, .retAddr 0, .retAddr 0] [] M1) (fun t ht ih M1 hI1 => ?_)
    have inner (htm : t < m) : ∀ k : Nat, k ≤ 5 → ∀ (M2 : zw_M), lI M2 σ m n → zw_X l 7 iL_law lQ 95 [.ref 37, .ref 0, .ref 33, .ref 34, .ref 35, .ref 36, .int (zn_I (n : Int)), .int (zn_I (m : Int)), .int (zn_I (t : Int)), .int (zn_I (k : Int)), .retAddr 0, .retAddr 0, .retAddr 0, .retAddr 0, .retAddr 0, .retAddr 0, .retAddr 0, .retAddr 0, .retAddr 0, .retAddr 0, .retAddr 0, .retAddr 0, .retAddr 0, .retAddr 0, .retAddr 0, .retAddr 0] [] M2 := by
      refine zw_loop 5 (P := fun k => ∀ (M2 : zw_M), lI M2 σ m n → zw_X l 7 iL_law lQ 95 [.ref 37, .ref 0, .ref 33, .ref 34, .ref 35, .ref 36, .int (zn_I (n : Int)), .int (zn_I (m : Int)), .int (zn_I (t : Int)), .int (zn_I (k : Int)), .retAddr 0, .retAddr 0, .retAddr 0, .retAddr 0, .retAddr 0, .retAddr 0, .retAddr 0, .retAddr 0, .retAddr 0, .retAddr 0, .retAddr 0, .retAddr 0, .retAddr 0, .retAddr 0, .retAddr 0, .retAddr 0] [] M2) (fun k hk ih2 M2 hI2 => ?_)
      obtain ⟨hC, hA, hB, hm, hn⟩ := id hI2
      refine zx_iload dL_law_95 rfl ?_
      refine zx_iconst (v := zn_I 5) dL_law_97 rfl ?_
      refine zy_icmp_ge (tgt := 162) dL_law_98 (by decide) (by omega) (fun h_98 => ?_) (fun h_98 => ?_)
      · refine zy_iinc dL_law_162 rfl rfl ?_
        refine zx_goto (tgt := 85) dL_law_165 (by decide) ?_
        refine zx_weak (L1 := [.ref 37, .ref 0, .ref 33, .ref 34, .ref 35, .ref 36, .int (zn_I (n : Int)), .int (zn_I (m : Int)), .int (zn_I ((t + 1 : Nat) : Int)), .retAddr 0, .retAddr 0, .retAddr 0, .retAddr 0, .retAddr 0, .retAddr 0, .retAddr 0, .retAddr 0, .retAddr 0, .retAddr 0, .retAddr 0, .retAddr 0, .retAddr 0, .retAddr 0, .retAddr 0, .retAddr 0, .retAddr 0]) ⟨Or.inr rfl, ⟨Or.inr rfl, ⟨Or.inr rfl, ⟨Or.inr rfl, ⟨Or.inr rfl, ⟨Or.inr rfl, ⟨Or.inr rfl, ⟨Or.inr rfl, ⟨Or.inr rfl, ⟨Or.inl rfl, ⟨Or.inl rfl, ⟨Or.inl rfl, ⟨Or.inl rfl, ⟨Or.inl rfl, ⟨Or.inl rfl, ⟨Or.inl rfl, ⟨Or.inl rfl, ⟨Or.inl rfl, ⟨Or.inl rfl, ⟨Or.inl rfl, ⟨Or.inl rfl, ⟨Or.inl rfl, ⟨Or.inl rfl, ⟨Or.inl rfl, ⟨Or.inl rfl, ⟨Or.inl rfl, trivial⟩⟩⟩⟩⟩⟩⟩⟩⟩⟩⟩⟩⟩⟩⟩⟩⟩⟩⟩⟩⟩⟩⟩⟩⟩⟩ ?_
        exact ih htm _ hI2
      · refine zx_aload_n dL_law_101 rfl ?_
        refine zx_iload dL_law_102 rfl ?_
        refine zx_iload dL_law_104 rfl ?_
        refine zx_callV (y1 := iX10_as) dL_law_106 lL_62 vX10_as rc_0 (mX10_as hC (z := (t : Int)) (k := (k : Int)) (by omega) (by omega)) rfl rfl (Nat.le_of_ble_eq_true rfl) ?_
        intro v M3 he
        obtain ⟨rfl, hf, hC3⟩ := he
        have hI3 := lI_z hf hC3 hI2
        have hkr := hC.2.1.2.2.2.2.2.1 t (by omega)
        refine zx_iload dL_law_109 rfl ?_
        refine zy_if_eq (tgt := 145) dL_law_111 (by decide) (by omega) (fun h_111 => ?_) (fun h_111 => ?_)
        · rw [lk_as1 hI2 htm (by omega) (by omega)]
          refine zx_iload dL_law_145 rfl ?_
          refine zx_goto (tgt := 151) dL_law_147 (by decide) ?_
          refine zy_icmp_eq (tgt := 156) dL_law_151 (by decide) (by omega) (fun h_151 => ?_) (fun h_151 => ?_)
          · refine zy_iinc dL_law_156 rfl rfl ?_
            refine zx_goto (tgt := 95) dL_law_159 (by decide) ?_
            exact ih2 (by omega) _ hI3
          · exact absurd rfl h_151
        · refine zx_iload dL_law_114 rfl ?_
          refine zx_aload dL_law_116 rfl ?_
          refine zx_bipush (v := zn_I 10) dL_law_118 (by decide) ?_
          refine zx_iload dL_law_120 rfl ?_
          refine zy_imul dL_law_122 ?_
          refine zy_iald (i := 10 * t) dL_law_123 rfl (by decide) (by omega) (by omega) (((lB_f hf hB (by decide)) t htm).1.1) ?_
          refine zy_icmp_eq (tgt := 145) dL_law_124 (by decide) (by omega) (fun h_124 => ?_) (fun h_124 => ?_)
          · rw [lk_as1 hI2 htm (by omega) (by omega)]
            refine zx_iload dL_law_145 rfl ?_
            refine zx_goto (tgt := 151) dL_law_147 (by decide) ?_
            refine zy_icmp_eq (tgt := 156) dL_law_151 (by decide) (by omega) (fun h_151 => ?_) (fun h_151 => ?_)
            · refine zy_iinc dL_law_156 rfl rfl ?_
              refine zx_goto (tgt := 95) dL_law_159 (by decide) ?_
              exact ih2 (by omega) _ hI3
            · exact absurd rfl h_151
          · refine zx_iload dL_law_127 rfl ?_
            refine zx_iconst (v := zn_I 3) dL_law_129 rfl ?_
            refine zy_icmp_ne (tgt := 150) dL_law_130 (by decide) (by omega) (fun h_130 => ?_) (fun h_130 => ?_)
            · rw [lk_as0 hI2 htm (by omega) (by omega)]
              refine zx_iconst (v := zn_I (-1)) dL_law_150 rfl ?_
              refine zy_icmp_eq (tgt := 156) dL_law_151 (by decide) (by omega) (fun h_151 => ?_) (fun h_151 => ?_)
              · refine zy_iinc dL_law_156 rfl rfl ?_
                refine zx_goto (tgt := 95) dL_law_159 (by decide) ?_
                exact ih2 (by omega) _ hI3
              · exact absurd rfl h_151
            · refine zx_aload dL_law_133 rfl ?_
              refine zx_bipush (v := zn_I 10) dL_law_135 (by decide) ?_
              refine zx_iload dL_law_137 rfl ?_
              refine zy_imul dL_law_139 ?_
              refine zy_iald (i := 10 * t) dL_law_140 rfl (by decide) (by omega) (by omega) (((lB_f hf hB (by decide)) t htm).1.1) ?_
              refine zx_iconst (v := zn_I 4) dL_law_141 rfl ?_
              refine zy_icmp_ne (tgt := 150) dL_law_142 (by decide) (by omega) (fun h_142 => ?_) (fun h_142 => ?_)
              · rw [lk_as0 hI2 htm (by omega) (by omega)]
                refine zx_iconst (v := zn_I (-1)) dL_law_150 rfl ?_
                refine zy_icmp_eq (tgt := 156) dL_law_151 (by decide) (by omega) (fun h_151 => ?_) (fun h_151 => ?_)
                · refine zy_iinc dL_law_156 rfl rfl ?_
                  refine zx_goto (tgt := 95) dL_law_159 (by decide) ?_
                  exact ih2 (by omega) _ hI3
                · exact absurd rfl h_151
              · rw [lk_as1 hI2 htm (by omega) (by omega)]
                refine zx_iload dL_law_145 rfl ?_
                refine zx_goto (tgt := 151) dL_law_147 (by decide) ?_
                refine zy_icmp_eq (tgt := 156) dL_law_151 (by decide) (by omega) (fun h_151 => ?_) (fun h_151 => ?_)
                · refine zy_iinc dL_law_156 rfl rfl ?_
                  refine zx_goto (tgt := 95) dL_law_159 (by decide) ?_
                  exact ih2 (by omega) _ hI3
                · exact absurd rfl h_151
    refine zx_iload dL_law_85 rfl ?_
    refine zx_iload dL_law_87 rfl ?_
    refine zy_icmp_ge (tgt := 168) dL_law_89 (by decide) (by omega) (fun h_89 => ?_) (fun h_89 => ?_)
    · refine zx_weak (L1 := [.ref 37, .ref 0, .ref 33, .ref 34, .ref 35, .ref 36, .int (zn_I (n : Int)), .int (zn_I (m : Int)), .retAddr 0, .retAddr 0, .retAddr 0, .retAddr 0, .retAddr 0, .retAddr 0, .retAddr 0, .retAddr 0, .retAddr 0, .retAddr 0, .retAddr 0, .retAddr 0, .retAddr 0, .retAddr 0, .retAddr 0, .retAddr 0, .retAddr 0, .retAddr 0]) ⟨Or.inr rfl, ⟨Or.inr rfl, ⟨Or.inr rfl, ⟨Or.inr rfl, ⟨Or.inr rfl, ⟨Or.inr rfl, ⟨Or.inr rfl, ⟨Or.inr rfl, ⟨Or.inl rfl, ⟨Or.inl rfl, ⟨Or.inl rfl, ⟨Or.inl rfl, ⟨Or.inl rfl, ⟨Or.inl rfl, ⟨Or.inl rfl, ⟨Or.inl rfl, ⟨Or.inl rfl, ⟨Or.inl rfl, ⟨Or.inl rfl, ⟨Or.inl rfl, ⟨Or.inl rfl, ⟨Or.inl rfl, ⟨Or.inl rfl, ⟨Or.inl rfl, ⟨Or.inl rfl, ⟨Or.inl rfl, trivial⟩⟩⟩⟩⟩⟩⟩⟩⟩⟩⟩⟩⟩⟩⟩⟩⟩⟩⟩⟩⟩⟩⟩⟩⟩⟩ ?_
      exact next _ hI1
    · refine zx_iconst (v := zn_I 0) dL_law_92 rfl ?_
      refine zx_istore dL_law_93 rfl (Nat.le_of_ble_eq_true rfl) ?_
      exact inner (by omega) 0 (Nat.zero_le _) _ hI1
  exact loop 0 (Nat.zero_le _) M hI
set_option maxRecDepth 100000 in
set_option maxHeartbeats 600000 in
theorem lw_about {l : zw_Lh} {σ : zZ} {m n : Nat} {M : zw_M} {u x c : Nat} (hI : lI M σ m n) (hm6 : 1 ≤ m ∧ m ≤ 6) (next : ∀ (M1 : zw_M), lI M1 σ m n → zw_X l 7 iL_law lQ 690 [.ref 37, .ref 0, .ref 33, .ref 34, .ref 35, .ref 36, .int (zn_I (n : Int)), .int (zn_I (m : Int)), .int (zn_I (u : Int)), .int (zn_I (x : Int)), .retAddr 0, .retAddr 0, .retAddr 0, .int (zn_I (c : Int)), .retAddr 0, .int (zn_I (((zt_pl σ.2.1 m).length : Nat) : Int)), .retAddr 0, .retAddr 0, .retAddr 0, .retAddr 0, .retAddr 0, .retAddr 0, .retAddr 0, .retAddr 0, .retAddr 0, .retAddr 0] [] M1) : zw_X l 7 iL_law lQ 547 [.ref 37, .ref 0, .ref 33, .ref 34, .ref 35, .ref 36, .int (zn_I (n : Int)), .int (zn_I (m : Int)), .int (zn_I (u : Int)), .int (zn_I (x : Int)), .retAddr 0, .retAddr 0, .retAddr 0, .int (zn_I (c : Int)), .retAddr 0, .retAddr 0, .retAddr 0, .retAddr 0, .retAddr 0, .retAddr 0, .retAddr 0, .retAddr 0, .retAddr 0, .retAddr 0, .retAddr 0, .retAddr 0] [] M := by
  have loop : ∀ t : Nat, t ≤ m → ∀ (M1 : zw_M), lI M1 σ m n → zw_X l 7 iL_law lQ 553 [.ref 37, .ref 0, .ref 33, .ref 34, .ref 35, .ref 36, .int (zn_I (n : Int)), .int (zn_I (m : Int)), .int (zn_I (u : Int)), .int (zn_I (x : Int)), .retAddr 0, .retAddr 0, .retAddr 0, .int (zn_I (c : Int)), .retAddr 0, .int (zn_I (((zt_pl σ.2.1 t).length : Nat) : Int)), .int (zn_I (t : Int)), .retAddr 0, .retAddr 0, .retAddr 0, .retAddr 0, .retAddr 0, .retAddr 0, .retAddr 0, .retAddr 0, .retAddr 0] [] M1 := by
    refine zw_loop m (P := fun t => ∀ (M1 : zw_M), lI M1 σ m n → zw_X l 7 iL_law lQ 553 [.ref 37, .ref 0, .ref 33, .ref 34, .ref 35, .ref 36, .int (zn_I (n : Int)), .int (zn_I (m : Int)), .int (zn_I (u : Int)), .int (zn_I (x : Int)), .retAddr 0, .retAddr 0, .retAddr 0, .int (zn_I (c : Int)), .retAddr 0, .int (zn_I (((zt_pl σ.2.1 t).length : Nat) : Int)), .int (zn_I (t : Int)), .retAddr 0, .retAddr 0, .retAddr 0, .retAddr 0, .retAddr 0, .retAddr 0, .retAddr 0, .retAddr 0, .retAddr 0] [] M1) (fun t ht ih M1 hI1 => ?_)
    have inner (htm : t < m) : ∀ k : Nat, k ≤ 8 → ∀ (M2 : zw_M), lI M2 σ m n → zw_X l 7 iL_law lQ 642 [.ref 37, .ref 0, .ref 33, .ref 34, .ref 35, .ref 36, .int (zn_I (n : Int)), .int (zn_I (m : Int)), .int (zn_I (u : Int)), .int (zn_I (x : Int)), .retAddr 0, .retAddr 0, .retAddr 0, .int (zn_I (c : Int)), .retAddr 0, .int (zn_I (((zt_pl σ.2.1 (t + 1)).length : Nat) : Int)), .int (zn_I (t : Int)), .int (zn_I (k : Int)), .retAddr 0, .retAddr 0, .retAddr 0, .retAddr 0, .retAddr 0, .retAddr 0, .retAddr 0, .retAddr 0] [] M2 := by
      refine zw_loop 8 (P := fun k => ∀ (M2 : zw_M), lI M2 σ m n → zw_X l 7 iL_law lQ 642 [.ref 37, .ref 0, .ref 33, .ref 34, .ref 35, .ref 36, .int (zn_I (n : Int)), .int (zn_I (m : Int)), .int (zn_I (u : Int)), .int (zn_I (x : Int)), .retAddr 0, .retAddr 0, .retAddr 0, .int (zn_I (c : Int)), .retAddr 0, .int (zn_I (((zt_pl σ.2.1 (t + 1)).length : Nat) : Int)), .int (zn_I (t : Int)), .int (zn_I (k : Int)), .retAddr 0, .retAddr 0, .retAddr 0, .retAddr 0, .retAddr 0, .retAddr 0, .retAddr 0, .retAddr 0] [] M2) (fun k hk ih2 M2 hI2 => ?_)
      obtain ⟨hC, hA, hB, hm, hn⟩ := id hI2
      refine zx_iload dL_law_642 rfl ?_
      refine zx_bipush (v := zn_I 8) dL_law_644 (by decide) ?_
      refine zy_icmp_ge (tgt := 684) dL_law_646 (by decide) (by omega) (fun h_646 => ?_) (fun h_646 => ?_)
      · refine zy_iinc dL_law_684 rfl rfl ?_
        refine zx_goto (tgt := 553) dL_law_687 (by decide) ?_
        refine zx_weak (L1 := [.ref 37, .ref 0, .ref 33, .ref 34, .ref 35, .ref 36, .int (zn_I (n : Int)), .int (zn_I (m : Int)), .int (zn_I (u : Int)), .int (zn_I (x : Int)), .retAddr 0, .retAddr 0, .retAddr 0, .int (zn_I (c : Int)), .retAddr 0, .int (zn_I (((zt_pl σ.2.1 (t + 1)).length : Nat) : Int)), .int (zn_I ((t + 1 : Nat) : Int)), .retAddr 0, .retAddr 0, .retAddr 0, .retAddr 0, .retAddr 0, .retAddr 0, .retAddr 0, .retAddr 0, .retAddr 0]) ⟨Or.inr rfl, ⟨Or.inr rfl, ⟨Or.inr rfl, ⟨Or.inr rfl, ⟨Or.inr rfl, ⟨Or.inr rfl, ⟨Or.inr rfl, ⟨Or.inr rfl, ⟨Or.inr rfl, ⟨Or.inr rfl, ⟨Or.inl rfl, ⟨Or.inl rfl, ⟨Or.inl rfl, ⟨Or.inr rfl, ⟨Or.inl rfl, ⟨Or.inr rfl, ⟨Or.inr rfl, ⟨Or.inl rfl, ⟨Or.inl rfl, ⟨Or.inl rfl, ⟨Or.inl rfl, ⟨Or.inl rfl, ⟨Or.inl rfl, ⟨Or.inl rfl, ⟨Or.inl rfl, ⟨Or.inl rfl, trivial⟩⟩⟩⟩⟩⟩⟩⟩⟩⟩⟩⟩⟩⟩⟩⟩⟩⟩⟩⟩⟩⟩⟩⟩⟩⟩ ?_
        exact ih htm _ hI2
      · refine zx_aload_n dL_law_649 rfl ?_
        refine zx_iload dL_law_650 rfl ?_
        refine zx_bipush (v := zn_I 10) dL_law_652 (by decide) ?_
        refine zx_iload dL_law_654 rfl ?_
        refine zy_iadd dL_law_656 ?_
        refine zx_callV (y1 := iX10_about) dL_law_657 lL_71 vX10_about rc_0 (mX10_about hC (z := (t : Int)) (w := 10 + (k : Int)) (by omega) (by omega)) rfl rfl (Nat.le_of_ble_eq_true rfl) ?_
        intro v M3 he
        obtain ⟨rfl, hf5, hC5⟩ := he
        have hI5 := lI_z hf5 hC5 hI2
        have hB5 := hI5.2.2.1
        rw [lk_abq hI2 htm (by omega)]
        have hpr := hC.2.1.2.2.2.2.2.2.2 t (by omega) k (by omega)
        have hp30 := zp_30 hC.1.1
        refine zx_aload dL_law_660 rfl ?_
        refine zx_bipush (v := zn_I 10) dL_law_662 (by decide) ?_
        refine zx_iload dL_law_664 rfl ?_
        refine zy_imul dL_law_666 ?_
        refine zx_iconst (v := zn_I 2) dL_law_667 rfl ?_
        refine zy_iadd dL_law_668 ?_
        refine zx_iload dL_law_669 rfl ?_
        refine zy_iadd dL_law_671 ?_
        refine zy_iald (i := 10 * t + 2 + k) dL_law_672 rfl (by decide) (by omega) (by omega) ((hB5 t htm).2 k (by omega)) ?_
        refine zy_icmp_eq (tgt := 678) dL_law_673 (by decide) (by omega) (fun h_673 => ?_) (fun h_673 => ?_)
        · refine zy_iinc dL_law_678 rfl rfl ?_
          refine zx_goto (tgt := 642) dL_law_681 (by decide) ?_
          exact ih2 (by omega) _ hI5
        · exact absurd rfl h_673
    obtain ⟨hC, hA, hB, hm, hn⟩ := id hI1
    have add (htm : t < m) : ∀ z : Int, (((zt_pl σ.2.1 t).length : Nat) : Int) + z = (((zt_pl σ.2.1 (t + 1)).length : Nat) : Int) → zw_X l 7 iL_law lQ 579 [.ref 37, .ref 0, .ref 33, .ref 34, .ref 35, .ref 36, .int (zn_I (n : Int)), .int (zn_I (m : Int)), .int (zn_I (u : Int)), .int (zn_I (x : Int)), .retAddr 0, .retAddr 0, .retAddr 0, .int (zn_I (c : Int)), .retAddr 0, .int (zn_I (((zt_pl σ.2.1 t).length : Nat) : Int)), .int (zn_I (t : Int)), .retAddr 0, .retAddr 0, .retAddr 0, .retAddr 0, .retAddr 0, .retAddr 0, .retAddr 0, .retAddr 0, .retAddr 0] [.int (zn_I z), .int (zn_I (((zt_pl σ.2.1 t).length : Nat) : Int))] M1 := by
      intro z hz
      have hkr := hC.2.1.2.2.2.2.2.1 t (by omega)
      have hwr := zt_w_rng hC.2.1 (show t < σ.2.1.1 by omega)
      have hwr2 := hC.2.1.2.2.2.2.2.2.1 t (by omega)
      refine zy_iadd dL_law_579 ?_
      refine zy_top (congrArg zn_I hz) ?_
      refine zx_istore dL_law_580 rfl (Nat.le_of_ble_eq_true rfl) ?_
      refine zx_aload_n dL_law_582 rfl ?_
      refine zx_iload dL_law_583 rfl ?_
      refine zx_iconst (v := zn_I 0) dL_law_585 rfl ?_
      refine zx_callV (y1 := iX10_about) dL_law_586 lL_71 vX10_about rc_0 (mX10_about hC (z := (t : Int)) (w := 0) (by omega) (by omega)) rfl rfl (Nat.le_of_ble_eq_true rfl) ?_
      intro v M6 he
      obtain ⟨rfl, hf6, hC6⟩ := he
      have hI6 := lI_z hf6 hC6 hI1
      have hB6 := hI6.2.2.1
      rw [lk_ab0 hI1 htm]
      refine zx_aload dL_law_589 rfl ?_
      refine zx_bipush (v := zn_I 10) dL_law_591 (by decide) ?_
      refine zx_iload dL_law_593 rfl ?_
      refine zy_imul dL_law_595 ?_
      refine zy_iald (i := 10 * t) dL_law_596 rfl (by decide) (by omega) (by omega) ((hB6 t htm).1.1) ?_
      refine zy_icmp_ne (tgt := 637) dL_law_597 (by decide) (by omega) (fun h_597 => ?_) (fun h_597 => ?_)
      · exact absurd rfl h_597
      · refine zx_aload_n dL_law_600 rfl ?_
        refine zx_iload dL_law_601 rfl ?_
        refine zx_iconst (v := zn_I 1) dL_law_603 rfl ?_
        refine zx_callV (y1 := iX10_about) dL_law_604 lL_71 vX10_about rc_0 (mX10_about hC6 (z := (t : Int)) (w := 1) (by omega) (by omega)) rfl rfl (Nat.le_of_ble_eq_true rfl) ?_
        intro v M7 he
        obtain ⟨rfl, hf7, hC7⟩ := he
        have hI7 := lI_z hf7 hC7 hI6
        have hB7 := hI7.2.2.1
        rw [lk_ab1 hI6 htm]
        refine zx_aload dL_law_607 rfl ?_
        refine zx_bipush (v := zn_I 10) dL_law_609 (by decide) ?_
        refine zx_iload dL_law_611 rfl ?_
        refine zy_imul dL_law_613 ?_
        refine zx_iconst (v := zn_I 1) dL_law_614 rfl ?_
        refine zy_iadd dL_law_615 ?_
        refine zy_iald (i := 10 * t + 1) dL_law_616 rfl (by decide) (by omega) (by omega) ((hB7 t htm).1.2) ?_
        refine zy_icmp_ne (tgt := 637) dL_law_617 (by decide) (by omega) (fun h_617 => ?_) (fun h_617 => ?_)
        · exact absurd rfl h_617
        · refine zx_aload_n dL_law_620 rfl ?_
          refine zx_iload dL_law_621 rfl ?_
          refine zx_iconst (v := zn_I 2) dL_law_623 rfl ?_
          refine zx_callV (y1 := iX10_about) dL_law_624 lL_71 vX10_about rc_0 (mX10_about hC7 (z := (t : Int)) (w := 2) (by omega) (by omega)) rfl rfl (Nat.le_of_ble_eq_true rfl) ?_
          intro v M8 he
          obtain ⟨rfl, hf8, hC8⟩ := he
          have hI8 := lI_z hf8 hC8 hI7
          have hB8 := hI8.2.2.1
          rw [lk_ab2 hI7 htm]
          refine zx_aload dL_law_627 rfl ?_
          refine zx_iload dL_law_629 rfl ?_
          refine zx_callS (y1 := iL_weighs) dL_law_631 lL_48 sL_weighs (mL_weighs hC8.2.1 hB8 (by omega) (by omega) (t := t) htm) rfl rfl (Nat.le_of_ble_eq_true rfl) ?_
          refine zk_i ?_
          refine zy_icmp_eq (tgt := 639) dL_law_634 (by decide) (by omega) (fun h_634 => ?_) (fun h_634 => ?_)
          · refine zx_iconst (v := zn_I 0) dL_law_639 rfl ?_
            refine zx_istore dL_law_640 rfl (Nat.le_of_ble_eq_true rfl) ?_
            exact inner htm 0 (Nat.zero_le _) _ hI8
          · exact absurd rfl h_634
    refine zx_iload dL_law_553 rfl ?_
    refine zx_iload dL_law_555 rfl ?_
    refine zy_icmp_ge (tgt := 690) dL_law_557 (by decide) (by omega) (fun h_557 => ?_) (fun h_557 => ?_)
    · have et : t = m := by omega
      subst et
      refine zx_weak (L1 := [.ref 37, .ref 0, .ref 33, .ref 34, .ref 35, .ref 36, .int (zn_I (n : Int)), .int (zn_I (t : Int)), .int (zn_I (u : Int)), .int (zn_I (x : Int)), .retAddr 0, .retAddr 0, .retAddr 0, .int (zn_I (c : Int)), .retAddr 0, .int (zn_I (((zt_pl σ.2.1 t).length : Nat) : Int)), .retAddr 0, .retAddr 0, .retAddr 0, .retAddr 0, .retAddr 0, .retAddr 0, .retAddr 0, .retAddr 0, .retAddr 0, .retAddr 0]) ⟨Or.inr rfl, ⟨Or.inr rfl, ⟨Or.inr rfl, ⟨Or.inr rfl, ⟨Or.inr rfl, ⟨Or.inr rfl, ⟨Or.inr rfl, ⟨Or.inr rfl, ⟨Or.inr rfl, ⟨Or.inr rfl, ⟨Or.inl rfl, ⟨Or.inl rfl, ⟨Or.inl rfl, ⟨Or.inr rfl, ⟨Or.inl rfl, ⟨Or.inr rfl, ⟨Or.inl rfl, ⟨Or.inl rfl, ⟨Or.inl rfl, ⟨Or.inl rfl, ⟨Or.inl rfl, ⟨Or.inl rfl, ⟨Or.inl rfl, ⟨Or.inl rfl, ⟨Or.inl rfl, ⟨Or.inl rfl, trivial⟩⟩⟩⟩⟩⟩⟩⟩⟩⟩⟩⟩⟩⟩⟩⟩⟩⟩⟩⟩⟩⟩⟩⟩⟩⟩ ?_
      exact next _ hI1
    · have htm : t < m := by omega
      have hkr := hC.2.1.2.2.2.2.2.1 t (by omega)
      have hlt := lk_plle (τ := σ.2.1) t
      refine zx_iload dL_law_560 rfl ?_
      refine zx_aload dL_law_562 rfl ?_
      refine zx_bipush (v := zn_I 10) dL_law_564 (by decide) ?_
      refine zx_iload dL_law_566 rfl ?_
      refine zy_imul dL_law_568 ?_
      refine zy_iald (i := 10 * t) dL_law_569 rfl (by decide) (by omega) (by omega) ((hB t (by omega)).1.1) ?_
      refine zx_iconst (v := zn_I 2) dL_law_570 rfl ?_
      refine zy_icmp_le (tgt := 578) dL_law_571 (by decide) (by omega) (fun h_571 => ?_) (fun h_571 => ?_)
      · refine zx_iconst (v := zn_I 0) dL_law_578 rfl ?_
        exact add htm 0 (by rw [lk_pl0 (fun r => by rcases r with r | r <;> omega)]; omega)
      · refine zx_iconst (v := zn_I 1) dL_law_574 rfl ?_
        refine zx_goto (tgt := 579) dL_law_575 (by decide) ?_
        exact add htm 1 (by rw [lk_pl (by show _ ∨ _; omega)]; omega)
  refine zx_iconst (v := zn_I 0) dL_law_547 rfl ?_
  refine zx_istore dL_law_548 rfl (Nat.le_of_ble_eq_true rfl) ?_
  refine zx_iconst (v := zn_I 0) dL_law_550 rfl ?_
  refine zx_istore dL_law_551 rfl (Nat.le_of_ble_eq_true rfl) ?_
  exact loop 0 (Nat.zero_le _) M hI
set_option maxRecDepth 100000 in
set_option maxHeartbeats 600000 in
theorem lw_leans {l : zw_Lh} {σ : zZ} {m n : Nat} {M : zw_M} {u x c : Nat} {pp : Int32} (hI : lI M σ m n) (hm6 : 1 ≤ m ∧ m ≤ 6) (hc : c < n) (next : ∀ (M1 : zw_M), lI M1 σ m n → zw_X l 7 iL_law lQ 862 [.ref 37, .ref 0, .ref 33, .ref 34, .ref 35, .ref 36, .int (zn_I (n : Int)), .int (zn_I (m : Int)), .int (zn_I (u : Int)), .int (zn_I (x : Int)), .retAddr 0, .retAddr 0, .retAddr 0, .int (zn_I (c : Int)), .retAddr 0, .int pp, .retAddr 0, .retAddr 0, .retAddr 0, .retAddr 0, .retAddr 0, .retAddr 0, .retAddr 0, .retAddr 0, .retAddr 0, .retAddr 0] [] M1) : zw_X l 7 iL_law lQ 690 [.ref 37, .ref 0, .ref 33, .ref 34, .ref 35, .ref 36, .int (zn_I (n : Int)), .int (zn_I (m : Int)), .int (zn_I (u : Int)), .int (zn_I (x : Int)), .retAddr 0, .retAddr 0, .retAddr 0, .int (zn_I (c : Int)), .retAddr 0, .int pp, .retAddr 0, .retAddr 0, .retAddr 0, .retAddr 0, .retAddr 0, .retAddr 0, .retAddr 0, .retAddr 0, .retAddr 0, .retAddr 0] [] M := by
  have loop : ∀ k : Nat, k ≤ 8 → ∀ (M1 : zw_M), lI M1 σ m n → zw_X l 7 iL_law lQ 693 [.ref 37, .ref 0, .ref 33, .ref 34, .ref 35, .ref 36, .int (zn_I (n : Int)), .int (zn_I (m : Int)), .int (zn_I (u : Int)), .int (zn_I (x : Int)), .retAddr 0, .retAddr 0, .retAddr 0, .int (zn_I (c : Int)), .retAddr 0, .int pp, .int (zn_I (k : Int)), .retAddr 0, .retAddr 0, .retAddr 0, .retAddr 0, .retAddr 0, .retAddr 0, .retAddr 0, .retAddr 0, .retAddr 0] [] M1 := by
    refine zw_loop 8 (P := fun k => ∀ (M1 : zw_M), lI M1 σ m n → zw_X l 7 iL_law lQ 693 [.ref 37, .ref 0, .ref 33, .ref 34, .ref 35, .ref 36, .int (zn_I (n : Int)), .int (zn_I (m : Int)), .int (zn_I (u : Int)), .int (zn_I (x : Int)), .retAddr 0, .retAddr 0, .retAddr 0, .int (zn_I (c : Int)), .retAddr 0, .int pp, .int (zn_I (k : Int)), .retAddr 0, .retAddr 0, .retAddr 0, .retAddr 0, .retAddr 0, .retAddr 0, .retAddr 0, .retAddr 0, .retAddr 0] [] M1) (fun k hk ih M1 hI1 => ?_)
    obtain ⟨hC, hA, hB, hm, hn⟩ := id hI1
    have h30 := zp_30 hC.1.1
    have aft (hk8 : k < 8) : zw_X l 7 iL_law lQ 782 [.ref 37, .ref 0, .ref 33, .ref 34, .ref 35, .ref 36, .int (zn_I (n : Int)), .int (zn_I (m : Int)), .int (zn_I (u : Int)), .int (zn_I (x : Int)), .retAddr 0, .retAddr 0, .retAddr 0, .int (zn_I (c : Int)), .retAddr 0, .int pp, .int (zn_I (k : Int)), .int (zn_I (zl_e σ.1 σ.2.1 k σ.2.1.1)), .int (zn_I (zl_s σ.1 σ.2.1 k σ.2.1.1)), .int (zn_I ((σ.2.1.1 : Nat) : Int)), .retAddr 0, .retAddr 0, .retAddr 0, .retAddr 0, .retAddr 0, .retAddr 0] [] M1 := by
      have hqu : zqu (k : Int) := ⟨by omega, by omega⟩
      have hrg := zl_rng hC.1.1 hC.2.1 hk8
      refine zy_loc (L1 := [.ref 37, .ref 0, .ref 33, .ref 34, .ref 35, .ref 36, .int (zn_I (n : Int)), .int (zn_I (m : Int)), .int (zn_I (u : Int)), .int (zn_I (x : Int)), .retAddr 0, .retAddr 0, .retAddr 0, .int (zn_I (c : Int)), .retAddr 0, .int pp, .int (zn_I (k : Int)), .int (zn_I (zl_E σ.1 σ.2.1 k)), .int (zn_I (zl_S σ.1 σ.2.1 k)), .int (zn_I ((σ.2.1.1 : Nat) : Int)), .retAddr 0, .retAddr 0, .retAddr 0, .retAddr 0, .retAddr 0, .retAddr 0]) rfl ?_
      refine zx_aload_n dL_law_782 rfl ?_
      refine zx_iload dL_law_783 rfl ?_
      refine zx_iconst (v := zn_I 0) dL_law_785 rfl ?_
      refine zx_callV (y1 := iX10_leans) dL_law_786 lL_74 vX10_leans rc_0 (mX10_leans hC (q := (k : Int)) (w := 0) (by omega) (by omega)) rfl rfl (Nat.le_of_ble_eq_true rfl) ?_
      intro v M2 he
      obtain ⟨rfl, hf2, hC2⟩ := he
      have hI2 := lI_z hf2 hC2 hI1
      rw [show zk_leans σ (k : Int) 0 = zl_E σ.1 σ.2.1 k from by rw [zk_leans, if_neg (fun r => r hqu), if_pos rfl, Int.toNat_natCast]]
      refine zx_iload dL_law_789 rfl ?_
      refine zy_icmp_ne (tgt := 854) dL_law_791 (by decide) (by omega) (fun h_791 => ?_) (fun h_791 => ?_)
      · exact absurd rfl h_791
      · refine zx_aload_n dL_law_794 rfl ?_
        refine zx_iload dL_law_795 rfl ?_
        refine zx_iconst (v := zn_I 1) dL_law_797 rfl ?_
        refine zx_callV (y1 := iX10_leans) dL_law_798 lL_74 vX10_leans rc_0 (mX10_leans hC2 (q := (k : Int)) (w := 1) (by omega) (by omega)) rfl rfl (Nat.le_of_ble_eq_true rfl) ?_
        intro v M3 he
        obtain ⟨rfl, hf3, hC3⟩ := he
        have hI3 := lI_z hf3 hC3 hI2
        rw [show zk_leans σ (k : Int) 1 = zl_S σ.1 σ.2.1 k from by rw [zk_leans, if_neg (fun r => r hqu), if_neg (by decide), if_pos rfl, Int.toNat_natCast]]
        refine zx_iload dL_law_801 rfl ?_
        refine zy_icmp_ne (tgt := 854) dL_law_803 (by decide) (by omega) (fun h_803 => ?_) (fun h_803 => ?_)
        · exact absurd rfl h_803
        · refine zx_aload_n dL_law_806 rfl ?_
          refine zx_iload dL_law_807 rfl ?_
          refine zx_callV (y1 := iX10_wet) dL_law_809 lL_77 vX10_wet rc_0 (mX10_wet hC3 (q := (k : Int)) (by omega)) rfl rfl (Nat.le_of_ble_eq_true rfl) ?_
          intro v M4 he
          obtain ⟨rfl, hf4, hC4⟩ := he
          have hI4 := lI_z hf4 hC4 hI3
          rw [show zk_wet σ (k : Int) = (zwet σ.1 σ.2.1 k : Int) from by rw [zk_wet, if_pos hqu, Int.toNat_natCast]]
          refine zx_aload_n dL_law_812 rfl ?_
          refine zx_aload_n dL_law_813 rfl ?_
          refine zx_iload dL_law_814 rfl ?_
          refine zx_iload dL_law_816 rfl ?_
          refine zx_callS (y1 := iL_wet) dL_law_818 lL_51 sL_wet (mL_wet hC4.1.1 hI4.2.1 (lk_hH hC4) (by omega) (by omega)) rfl rfl (Nat.le_of_ble_eq_true rfl) ?_
          refine zk_i ?_
          refine zy_icmp_ne (tgt := 854) dL_law_821 (by decide) (by have := zwet_30 hC.1.1 σ.2.1 k; unfold zwet at this ⊢; omega) (fun h_821 => ?_) (fun h_821 => ?_)
          · exact absurd rfl h_821
          · refine zx_aload_n dL_law_824 rfl ?_
            refine zx_iload dL_law_825 rfl ?_
            refine zx_iload dL_law_827 rfl ?_
            refine zx_callV (y1 := iX10_dip) dL_law_829 lL_79 vX10_dip rc_0 (mX10_dip hC4 (s := (c : Int)) (q := (k : Int)) (by omega) (by omega)) rfl rfl (Nat.le_of_ble_eq_true rfl) ?_
            intro v M5 he
            obtain ⟨rfl, hf5, hC5⟩ := he
            have hI5 := lI_z hf5 hC5 hI4
            rw [show zk_dip σ (c : Int) (k : Int) = zp_dip σ.1 c (zl_E σ.1 σ.2.1 k) (zl_S σ.1 σ.2.1 k) from by rw [zk_dip, if_neg (fun r => r ⟨⟨by omega, by omega⟩, hqu⟩), Int.toNat_natCast, Int.toNat_natCast]]
            refine zx_iload dL_law_832 rfl ?_
            refine zx_aload_n dL_law_834 rfl ?_
            refine zx_iload dL_law_835 rfl ?_
            refine zx_callS (y1 := iL_east) dL_law_837 lL_42 sL_east (mL_east hC5.1.1 hI5.2.1 (c := c) (by omega)) rfl rfl (Nat.le_of_ble_eq_true rfl) ?_
            refine zk_i ?_
            refine zy_imul dL_law_840 ?_
            refine zx_iload dL_law_841 rfl ?_
            refine zx_aload_n dL_law_843 rfl ?_
            refine zx_iload dL_law_844 rfl ?_
            refine zx_callS (y1 := iL_south) dL_law_846 lL_45 sL_south (mL_south hC5.1.1 hI5.2.1 (c := c) (by omega)) rfl rfl (Nat.le_of_ble_eq_true rfl) ?_
            refine zk_i ?_
            refine zy_imul dL_law_849 ?_
            refine zy_iadd dL_law_850 ?_
            refine zy_icmp_eq (tgt := 856) dL_law_851 (by decide) (by have := zp_dip_rng (a := zl_E σ.1 σ.2.1 k) (b := zl_S σ.1 σ.2.1 k) (B := 8000) hC.1.1 (show c < zp_n σ.1 by omega) (by omega) (by omega); unfold zp_dip at this ⊢; omega) (fun h_851 => ?_) (fun h_851 => ?_)
            · refine zy_iinc dL_law_856 rfl rfl ?_
              refine zx_goto (tgt := 693) dL_law_859 (by decide) ?_
              refine zx_weak (L1 := [.ref 37, .ref 0, .ref 33, .ref 34, .ref 35, .ref 36, .int (zn_I (n : Int)), .int (zn_I (m : Int)), .int (zn_I (u : Int)), .int (zn_I (x : Int)), .retAddr 0, .retAddr 0, .retAddr 0, .int (zn_I (c : Int)), .retAddr 0, .int pp, .int (zn_I ((k + 1 : Nat) : Int)), .retAddr 0, .retAddr 0, .retAddr 0, .retAddr 0, .retAddr 0, .retAddr 0, .retAddr 0, .retAddr 0, .retAddr 0]) ⟨Or.inr rfl, ⟨Or.inr rfl, ⟨Or.inr rfl, ⟨Or.inr rfl, ⟨Or.inr rfl, ⟨Or.inr rfl, ⟨Or.inr rfl, ⟨Or.inr rfl, ⟨Or.inr rfl, ⟨Or.inr rfl, ⟨Or.inl rfl, ⟨Or.inl rfl, ⟨Or.inl rfl, ⟨Or.inr rfl, ⟨Or.inl rfl, ⟨Or.inr rfl, ⟨Or.inr rfl, ⟨Or.inl rfl, ⟨Or.inl rfl, ⟨Or.inl rfl, ⟨Or.inl rfl, ⟨Or.inl rfl, ⟨Or.inl rfl, ⟨Or.inl rfl, ⟨Or.inl rfl, ⟨Or.inl rfl, trivial⟩⟩⟩⟩⟩⟩⟩⟩⟩⟩⟩⟩⟩⟩⟩⟩⟩⟩⟩⟩⟩⟩⟩⟩⟩⟩ ?_
              exact ih hk8 _ hI5
            · exact absurd rfl h_851
    have inner (hk8 : k < 8) : ∀ t : Nat, t ≤ m → zw_X l 7 iL_law lQ 709 [.ref 37, .ref 0, .ref 33, .ref 34, .ref 35, .ref 36, .int (zn_I (n : Int)), .int (zn_I (m : Int)), .int (zn_I (u : Int)), .int (zn_I (x : Int)), .retAddr 0, .retAddr 0, .retAddr 0, .int (zn_I (c : Int)), .retAddr 0, .int pp, .int (zn_I (k : Int)), .int (zn_I (zl_e σ.1 σ.2.1 k t)), .int (zn_I (zl_s σ.1 σ.2.1 k t)), .int (zn_I (t : Int)), .retAddr 0, .retAddr 0, .retAddr 0, .retAddr 0, .retAddr 0, .retAddr 0] [] M1 := by
      refine zw_loop m (P := fun t => zw_X l 7 iL_law lQ 709 [.ref 37, .ref 0, .ref 33, .ref 34, .ref 35, .ref 36, .int (zn_I (n : Int)), .int (zn_I (m : Int)), .int (zn_I (u : Int)), .int (zn_I (x : Int)), .retAddr 0, .retAddr 0, .retAddr 0, .int (zn_I (c : Int)), .retAddr 0, .int pp, .int (zn_I (k : Int)), .int (zn_I (zl_e σ.1 σ.2.1 k t)), .int (zn_I (zl_s σ.1 σ.2.1 k t)), .int (zn_I (t : Int)), .retAddr 0, .retAddr 0, .retAddr 0, .retAddr 0, .retAddr 0, .retAddr 0] [] M1) (fun t ht ih2 => ?_)
      refine zx_iload dL_law_709 rfl ?_
      refine zx_iload dL_law_711 rfl ?_
      refine zy_icmp_ge (tgt := 782) dL_law_713 (by decide) (by omega) (fun h_713 => ?_) (fun h_713 => ?_)
      · have et : t = σ.2.1.1 := by omega
        subst et
        exact aft hk8
      · have htm : t < m := by omega
        have hpl := hC.2.1.2.2.2.2.2.2.2 t (by omega) k hk8
        refine zx_iload dL_law_716 rfl ?_
        refine zx_aload dL_law_718 rfl ?_
        refine zx_iload dL_law_720 rfl ?_
        refine zx_callS (y1 := iL_weighs) dL_law_722 lL_48 sL_weighs (mL_weighs hC.2.1 hB (by omega) (by omega) (t := t) htm) rfl rfl (Nat.le_of_ble_eq_true rfl) ?_
        refine zk_i ?_
        refine zx_aload_n dL_law_725 rfl ?_
        refine zx_aload dL_law_726 rfl ?_
        refine zx_bipush (v := zn_I 10) dL_law_728 (by decide) ?_
        refine zx_iload dL_law_730 rfl ?_
        refine zy_imul dL_law_732 ?_
        refine zx_iconst (v := zn_I 2) dL_law_733 rfl ?_
        refine zy_iadd dL_law_734 ?_
        refine zx_iload dL_law_735 rfl ?_
        refine zy_iadd dL_law_737 ?_
        refine zy_iald (i := 10 * t + 2 + k) dL_law_738 rfl (by decide) (by omega) (by omega) ((hB t (by omega)).2 k hk8) ?_
        refine zx_callS (y1 := iL_east) dL_law_739 lL_42 sL_east (mL_east hC.1.1 hA (c := σ.2.1.2.2.2 t k) hpl) rfl rfl (Nat.le_of_ble_eq_true rfl) ?_
        refine zk_i ?_
        refine zy_imul dL_law_742 ?_
        refine zy_iadd dL_law_743 ?_
        refine zx_istore dL_law_744 rfl (Nat.le_of_ble_eq_true rfl) ?_
        refine zx_iload dL_law_746 rfl ?_
        refine zx_aload dL_law_748 rfl ?_
        refine zx_iload dL_law_750 rfl ?_
        refine zx_callS (y1 := iL_weighs) dL_law_752 lL_48 sL_weighs (mL_weighs hC.2.1 hB (by omega) (by omega) (t := t) htm) rfl rfl (Nat.le_of_ble_eq_true rfl) ?_
        refine zk_i ?_
        refine zx_aload_n dL_law_755 rfl ?_
        refine zx_aload dL_law_756 rfl ?_
        refine zx_bipush (v := zn_I 10) dL_law_758 (by decide) ?_
        refine zx_iload dL_law_760 rfl ?_
        refine zy_imul dL_law_762 ?_
        refine zx_iconst (v := zn_I 2) dL_law_763 rfl ?_
        refine zy_iadd dL_law_764 ?_
        refine zx_iload dL_law_765 rfl ?_
        refine zy_iadd dL_law_767 ?_
        refine zy_iald (i := 10 * t + 2 + k) dL_law_768 rfl (by decide) (by omega) (by omega) ((hB t (by omega)).2 k hk8) ?_
        refine zx_callS (y1 := iL_south) dL_law_769 lL_45 sL_south (mL_south hC.1.1 hA (c := σ.2.1.2.2.2 t k) hpl) rfl rfl (Nat.le_of_ble_eq_true rfl) ?_
        refine zk_i ?_
        refine zy_imul dL_law_772 ?_
        refine zy_iadd dL_law_773 ?_
        refine zx_istore dL_law_774 rfl (Nat.le_of_ble_eq_true rfl) ?_
        refine zy_iinc dL_law_776 rfl rfl ?_
        refine zx_goto (tgt := 709) dL_law_779 (by decide) ?_
        exact ih2 (by omega)
    refine zx_iload dL_law_693 rfl ?_
    refine zx_bipush (v := zn_I 8) dL_law_695 (by decide) ?_
    refine zy_icmp_ge (tgt := 862) dL_law_697 (by decide) (by omega) (fun h_697 => ?_) (fun h_697 => ?_)
    · refine zx_weak (L1 := [.ref 37, .ref 0, .ref 33, .ref 34, .ref 35, .ref 36, .int (zn_I (n : Int)), .int (zn_I (m : Int)), .int (zn_I (u : Int)), .int (zn_I (x : Int)), .retAddr 0, .retAddr 0, .retAddr 0, .int (zn_I (c : Int)), .retAddr 0, .int pp, .retAddr 0, .retAddr 0, .retAddr 0, .retAddr 0, .retAddr 0, .retAddr 0, .retAddr 0, .retAddr 0, .retAddr 0, .retAddr 0]) ⟨Or.inr rfl, ⟨Or.inr rfl, ⟨Or.inr rfl, ⟨Or.inr rfl, ⟨Or.inr rfl, ⟨Or.inr rfl, ⟨Or.inr rfl, ⟨Or.inr rfl, ⟨Or.inr rfl, ⟨Or.inr rfl, ⟨Or.inl rfl, ⟨Or.inl rfl, ⟨Or.inl rfl, ⟨Or.inr rfl, ⟨Or.inl rfl, ⟨Or.inr rfl, ⟨Or.inl rfl, ⟨Or.inl rfl, ⟨Or.inl rfl, ⟨Or.inl rfl, ⟨Or.inl rfl, ⟨Or.inl rfl, ⟨Or.inl rfl, ⟨Or.inl rfl, ⟨Or.inl rfl, ⟨Or.inl rfl, trivial⟩⟩⟩⟩⟩⟩⟩⟩⟩⟩⟩⟩⟩⟩⟩⟩⟩⟩⟩⟩⟩⟩⟩⟩⟩⟩ ?_
      exact next _ hI1
    · refine zx_iconst (v := zn_I 0) dL_law_700 rfl ?_
      refine zx_istore dL_law_701 rfl (Nat.le_of_ble_eq_true rfl) ?_
      refine zx_iconst (v := zn_I 0) dL_law_703 rfl ?_
      refine zx_istore dL_law_704 rfl (Nat.le_of_ble_eq_true rfl) ?_
      refine zx_iconst (v := zn_I 0) dL_law_706 rfl ?_
      refine zx_istore dL_law_707 rfl (Nat.le_of_ble_eq_true rfl) ?_
      exact inner (by omega) 0 (Nat.zero_le _)
  refine zx_iconst (v := zn_I 0) dL_law_690 rfl ?_
  refine zx_istore dL_law_691 rfl (Nat.le_of_ble_eq_true rfl) ?_
  exact loop 0 (Nat.zero_le _) M hI
