/-! THE LAW: who was late -/
def lw_are (τ : zQ) (set : Nat) : Nat → Bool
  | 0 => true
  | t + 1 => lw_are τ set t && (!set.testBit t || decide (zt_per τ t))
def lw_pl (τ : zQ) (Q set t : Nat) : Nat := if set.testBit t = true then τ.2.2.2 t (Q - 1) else τ.2.2.2 t Q
def lw_W (π : zP) (τ : zQ) (Q m set : Nat) : Int := if lw_are τ set m = true then ((zp_bits π (lE π τ (lw_pl τ Q set) m) (lT π τ (lw_pl τ Q set) m) (zp_n π) : Nat) : Int) else -1
theorem lE_add {π : zP} {τ : zQ} {Q set : Nat} : ∀ t, t ≤ τ.1 → lE π τ (lw_pl τ Q set) t = zl_e π τ Q t + zl_add (zl_ce π τ Q) set t
  | 0, _ => rfl
  | t + 1, h => by
    have ih := lE_add (π := π) (τ := τ) (Q := Q) (set := set) t (by omega)
    rw [lE, zl_e, zl_add, ih, zl_ce, lw_pl]
    by_cases hb : set.testBit t = true
    · rw [if_pos hb, if_pos hb, if_pos (show t < τ.1 by omega), Int.mul_sub]; omega
    · rw [if_neg hb, if_neg hb]; omega
theorem lT_add {π : zP} {τ : zQ} {Q set : Nat} : ∀ t, t ≤ τ.1 → lT π τ (lw_pl τ Q set) t = zl_s π τ Q t + zl_add (zl_cs π τ Q) set t
  | 0, _ => rfl
  | t + 1, h => by
    have ih := lT_add (π := π) (τ := τ) (Q := Q) (set := set) t (by omega)
    rw [lT, zl_s, zl_add, ih, zl_cs, lw_pl]
    by_cases hb : set.testBit t = true
    · rw [if_pos hb, if_pos hb, if_pos (show t < τ.1 by omega), Int.mul_sub]; omega
    · rw [if_neg hb, if_neg hb]; omega
theorem zl_add_more {f : Nat → Int} {set m : Nat} (h : ∀ t, m ≤ t → f t = 0) : ∀ j, zl_add f set (m + j) = zl_add f set m
  | 0 => rfl
  | j + 1 => by
    rw [← Nat.add_assoc, zl_add, zl_add_more h j, h (m + j) (by omega)]
    split <;> omega
theorem lw_if {π : zP} {τ : zQ} {Q set : Nat} (h8 : τ.1 ≤ 8) : zl_if π τ Q set = zp_bits π (lE π τ (lw_pl τ Q set) τ.1) (lT π τ (lw_pl τ Q set) τ.1) (zp_n π) := by
  have e1 := zl_add_more (f := zl_ce π τ Q) (set := set) (m := τ.1) (fun t ht => by rw [zl_ce, if_neg (by omega)]) (8 - τ.1)
  have e2 := zl_add_more (f := zl_cs π τ Q) (set := set) (m := τ.1) (fun t ht => by rw [zl_cs, if_neg (by omega)]) (8 - τ.1)
  rw [show τ.1 + (8 - τ.1) = 8 by omega] at e1 e2
  rw [zl_if, e1, e2, lE_add _ (Nat.le_refl _), lT_add _ (Nat.le_refl _), zl_E, zl_S]
theorem lb_sub : ∀ s : Nat, s < 64 → ∀ p : Nat, p < 64 → ((zn_I (s : Int) &&& (zn_I (p : Int) ^^^ zn_I (-1)) = 0) ↔ s &&& p = s) := by decide +kernel
theorem lb_bit : ∀ s : Nat, s < 64 → ∀ t : Nat, t < 6 → (zn_I (s : Int) >>> (zn_I (t : Int) &&& 31)) &&& zn_I 1 = zn_I (if s.testBit t = true then 1 else 0) := by decide +kernel
theorem lb_pb {τ : zQ} : ∀ m t, (zt_pb τ m).testBit t = decide (t < m ∧ zt_per τ t)
  | 0, t => by simp [zt_pb]
  | m + 1, t => by
    have ih := lb_pb (τ := τ) m t
    rw [zt_pb]
    by_cases hp : zt_per τ m
    · rw [if_pos hp]
      have h := Nat.two_pow_add_eq_or_of_lt (zt_pb_lt τ m) 1
      rw [Nat.mul_one] at h
      rw [Nat.add_comm, h, Nat.testBit_or, Nat.testBit_two_pow, ih]
      by_cases e : m = t
      · subst e
        rw [decide_eq_true rfl, Bool.true_or]
        exact (decide_eq_true ⟨Nat.lt_succ_self _, hp⟩).symm
      · rw [decide_eq_false e, Bool.false_or]
        exact decide_eq_decide.mpr ⟨fun r => ⟨by omega, r.2⟩, fun r => ⟨by omega, r.2⟩⟩
    · rw [if_neg hp, Nat.add_zero, ih]
      exact decide_eq_decide.mpr ⟨fun r => ⟨by omega, r.2⟩, fun r => ⟨by
        rcases Nat.lt_or_ge t m with q | q
        · exact q
        · exact absurd (by rw [show m = t by omega]; exact r.2) hp, r.2⟩⟩
theorem lb_are {τ : zQ} {set : Nat} : ∀ m, lw_are τ set m = true ↔ ∀ t, t < m → set.testBit t = true → zt_per τ t
  | 0 => ⟨fun _ t ht => absurd ht (Nat.not_lt_zero _), fun _ => rfl⟩
  | m + 1 => by
    have ih := lb_are (τ := τ) (set := set) m
    rw [lw_are, Bool.and_eq_true, ih]
    constructor
    · rintro ⟨h1, h2⟩ t ht hb
      rcases Nat.lt_or_ge t m with q | q
      · exact h1 t q hb
      · have : t = m := by omega
        subst this
        rw [hb] at h2
        simpa using h2
    · intro h
      refine ⟨fun t ht hb => h t (by omega) hb, ?_⟩
      cases hb : set.testBit m with
      | false => rfl
      | true => simpa using h m (Nat.lt_succ_self _) hb
theorem lb_are_sub {τ : zQ} {set m : Nat} (hs : set < 2 ^ m) : lw_are τ set m = true ↔ set &&& zt_pb τ m = set := by
  rw [lb_are]
  constructor
  · intro h
    apply Nat.eq_of_testBit_eq
    intro i
    rw [Nat.testBit_and, lb_pb]
    cases hb : set.testBit i with
    | false => rfl
    | true =>
      have hi : i < m := by
        rcases Nat.lt_or_ge i m with q | q
        · exact q
        · rw [Nat.testBit_lt_two_pow (Nat.lt_of_lt_of_le hs (Nat.pow_le_pow_right (by decide) q))] at hb
          cases hb
      rw [decide_eq_true ⟨hi, h i hi hb⟩]
      rfl
  · intro h t ht hb
    have e : (set &&& zt_pb τ m).testBit t = true := by rw [h]; exact hb
    rw [Nat.testBit_and, lb_pb, Bool.and_eq_true] at e
    exact (of_decide_eq_true e.2).2
theorem lb_pow {m : Nat} (hm : m ≤ 6) : 2 ^ m ≤ 64 := Nat.pow_le_pow_right (show 0 < 2 by decide) hm
theorem lw_ok {π : zP} {τ : zQ} {Q m set : Nat} {D : Int} (hm : τ.1 = m) (h6 : m ≤ 6) (hs : set < 2 ^ m) (hD : 0 ≤ D) : zl_ok π τ Q D set = decide (lw_W π τ Q m set = D) := by
  subst hm
  have h64 := lb_pow h6
  have hp := zt_pb_lt τ τ.1
  have e1 := lb_sub set (by omega) (zt_pb τ τ.1) (by omega)
  have e2 := lb_are_sub (τ := τ) hs
  unfold zl_ok
  by_cases ha : lw_are τ set τ.1 = true
  · rw [decide_eq_true (e1.mpr (e2.mp ha)), Bool.true_and, lw_W, if_pos ha, lw_if (by omega)]
  · rw [decide_eq_false (fun r => ha (e2.mpr (e1.mp r))), Bool.false_and, lw_W, if_neg ha]
    exact (decide_eq_false (by omega)).symm
/-- the law's own count of the sets -/
def lF (f : Nat → Bool) : Nat → Nat × Nat × Nat
  | 0 => (0, 0, 0)
  | s + 1 => if f s = true then ((lF f s).1 + 1, (if (lF f s).1 = 0 then s else (lF f s).2.1 &&& s), (lF f s).2.2 ||| s) else lF f s
theorem lF_rng {f : Nat → Bool} : ∀ s, s ≤ 64 → (lF f s).1 ≤ s ∧ (lF f s).2.1 < 64 ∧ (lF f s).2.2 < 64
  | 0, _ => by simp [lF]
  | s + 1, h => by
    have ih := lF_rng (f := f) s (by omega)
    rw [lF]
    split
    · refine ⟨by dsimp only; omega, ?_, Nat.or_lt_two_pow (n := 6) ih.2.2 (by omega)⟩
      dsimp only
      split
      · omega
      · exact Nat.lt_of_le_of_lt Nat.and_le_left ih.2.1
    · omega
theorem lF_go {f g : Nat → Bool} {pb : Nat} : ∀ s, (∀ u, u < s → g u = f u ∧ (f u = true → u &&& pb = u)) → (lF f s).1 = (zl_go g pb s).1 ∧ (lF f s).2.2 = (zl_go g pb s).2.2 ∧ ((zl_go g pb s).1 = 0 → (lF f s).2.1 = 0 ∧ (zl_go g pb s).2.1 = pb) ∧ ((zl_go g pb s).1 ≠ 0 → (lF f s).2.1 = (zl_go g pb s).2.1)
  | 0, _ => ⟨rfl, rfl, fun _ => ⟨rfl, rfl⟩, fun h => absurd rfl h⟩
  | s + 1, h => by
    obtain ⟨h1, h2, h3, h4⟩ := lF_go (f := f) (g := g) (pb := pb) s (fun u hu => h u (by omega))
    obtain ⟨e1, e2⟩ := h s (Nat.lt_succ_self _)
    rw [lF, zl_go, e1]
    by_cases hf : f s = true
    · rw [if_pos hf, if_pos hf]
      dsimp only
      refine ⟨by rw [h1], by rw [h2], fun q => absurd q (Nat.succ_ne_zero _), fun _ => ?_⟩
      by_cases q : (zl_go g pb s).1 = 0
      · rw [if_pos (by rw [h1]; exact q), (h3 q).2, Nat.and_comm, e2 hf]
      · rw [if_neg (by rw [h1]; exact q), h4 q]
    · rw [if_neg hf, if_neg hf]
      exact ⟨h1, h2, h3, h4⟩
theorem lF_more {f : Nat → Bool} {a : Nat} : ∀ j, (∀ u, a ≤ u → u < a + j → f u = false) → lF f (a + j) = lF f a
  | 0, _ => rfl
  | j + 1, h => by
    rw [← Nat.add_assoc, lF, h (a + j) (by omega) (by omega), if_neg (by decide)]
    exact lF_more j (fun u h1 h2 => h u h1 (by omega))
/-- the sets that the law counts -/
def lw_f (π : zP) (τ : zQ) (Q m : Nat) (D : Int) (s : Nat) : Bool := decide (lw_W π τ Q m s = D)
theorem lw_ans {π : zP} {τ : zQ} {Q m : Nat} {D : Int} (hm : τ.1 = m) (h6 : m ≤ 6) (hD : 0 ≤ D) : zl_ans π τ Q D 0 = (lF (lw_f π τ Q m D) (2 ^ m)).1 ∧ zl_ans π τ Q D 1 = (lF (lw_f π τ Q m D) (2 ^ m)).2.1 ∧ zl_ans π τ Q D 2 = (lF (lw_f π τ Q m D) (2 ^ m)).2.2 := by
  have hp : zt_pb τ m < 2 ^ m := zt_pb_lt τ m
  have sub : ∀ u, u < 2 ^ m → lw_f π τ Q m D u = true → u &&& zt_pb τ m = u := fun u hu hf => by
    have hW : lw_W π τ Q m u = D := of_decide_eq_true hf
    refine (lb_are_sub hu).mp (Classical.byContradiction fun q => ?_)
    rw [lw_W, if_neg q] at hW
    omega
  have eM := lF_more (f := lw_f π τ Q m D) (a := zt_pb τ m + 1) (2 ^ m - (zt_pb τ m + 1)) (fun u h1 h2 => by
    cases hf : lw_f π τ Q m D u with
    | false => rfl
    | true =>
      have e := sub u (by omega) hf
      have : u ≤ zt_pb τ m := by
        have h9 : u &&& zt_pb τ m ≤ zt_pb τ m := Nat.and_le_right
        rw [e] at h9
        exact h9
      omega)
  rw [show zt_pb τ m + 1 + (2 ^ m - (zt_pb τ m + 1)) = 2 ^ m by omega] at eM
  obtain ⟨g1, g2, g3, g4⟩ := lF_go (f := lw_f π τ Q m D) (g := zl_ok π τ Q D) (pb := zt_pb τ m) (zt_pb τ m + 1) (fun u hu => ⟨lw_ok hm h6 (by omega) hD, sub u (by omega)⟩)
  rw [eM]
  have eL : zl_late π τ Q D = zl_go (zl_ok π τ Q D) (zt_pb τ m) (zt_pb τ m + 1) := by rw [zl_late, hm]
  refine ⟨?_, ?_, ?_⟩
  · rw [zl_ans, if_pos rfl, eL, g1]
  · rw [zl_ans, if_neg (by decide), if_pos rfl, eL]
    by_cases q : (zl_go (zl_ok π τ Q D) (zt_pb τ m) (zt_pb τ m + 1)).1 = 0
    · rw [if_pos q, (g3 q).1]
    · rw [if_neg q, g4 q]
  · rw [zl_ans, if_neg (by decide), if_neg (by decide), eL, g2]
theorem lk_late {M : zw_M} {σ : zZ} {m n : Nat} (h : lI M σ m n) (hn : 0 < n) {Q j : Nat} {D x : Int} (hQ : 1 ≤ Q ∧ Q < 8) (hD : 0 ≤ D ∧ D < (2 ^ n : Nat)) (hx : x = (j : Int)) (hj : j < 3) : zk_late σ (Q : Int) D x = (zl_ans σ.1 σ.2.1 Q D j : Int) := by
  subst hx
  have hn2 := h.2.2.2.2
  rw [zk_late, if_neg (fun r => r ⟨⟨by omega, by omega⟩, by omega⟩), if_neg (fun r => r ⟨by rw [hn2]; exact hD, by omega, by omega⟩), if_neg (by omega), Int.toNat_natCast, Int.toNat_natCast]
theorem lw_W_rng {M : zw_M} {σ : zZ} {m n : Nat} (h : lI M σ m n) {Q set : Nat} : -1 ≤ lw_W σ.1 σ.2.1 Q m set ∧ lw_W σ.1 σ.2.1 Q m set < (2 ^ n : Nat) := by
  have hn2 := h.2.2.2.2
  have := zp_bits_lt σ.1 (lE σ.1 σ.2.1 (lw_pl σ.2.1 Q set) m) (lT σ.1 σ.2.1 (lw_pl σ.2.1 Q set) m) (zp_n σ.1)
  have h2 := Nat.two_pow_pos n
  unfold lw_W
  rw [hn2] at this ⊢
  split <;> omega
set_option maxRecDepth 100000 in
set_option maxHeartbeats 600000 in
theorem lw_set {l : zw_Lh} {σ : zZ} {m n : Nat} {M : zw_M} {Q set u x c : Nat} {pp w17 w18 w19 w20 w21 w22 : Int32} (hI : lI M σ m n) (hm6 : 1 ≤ m ∧ m ≤ 6) (hQ : 1 ≤ Q ∧ Q < 8) (hset : set < 2 ^ m) (next : ∀ (M1 : zw_M) (az : Int), lI M1 σ m n → ((az = 1 ∧ lw_are σ.2.1 set m = true) ∨ (az = 0 ∧ lw_are σ.2.1 set m = false)) → zw_X l 7 iL_law lQ 1019 [.ref 37, .ref 0, .ref 33, .ref 34, .ref 35, .ref 36, .int (zn_I (n : Int)), .int (zn_I (m : Int)), .int (zn_I (u : Int)), .int (zn_I (x : Int)), .retAddr 0, .retAddr 0, .retAddr 0, .int (zn_I (c : Int)), .retAddr 0, .int pp, .int (zn_I (Q : Int)), .int w17, .int w18, .int w19, .int w20, .int w21, .int w22, .int (zn_I (set : Int)), .int (zn_I az), .int (zn_I (lw_W σ.1 σ.2.1 Q m set))] [] M1) : zw_X l 7 iL_law lQ 918 [.ref 37, .ref 0, .ref 33, .ref 34, .ref 35, .ref 36, .int (zn_I (n : Int)), .int (zn_I (m : Int)), .int (zn_I (u : Int)), .int (zn_I (x : Int)), .retAddr 0, .retAddr 0, .retAddr 0, .int (zn_I (c : Int)), .retAddr 0, .int pp, .int (zn_I (Q : Int)), .int w17, .int w18, .int w19, .int w20, .int w21, .int w22, .int (zn_I (set : Int)), .retAddr 0, .retAddr 0] [] M := by
  obtain ⟨hC, hA, hB, hm, hn⟩ := id hI
  have h64 := lb_pow hm6.2
  have hpl : ∀ u, u < m → lw_pl σ.2.1 Q set u < zp_n σ.1 := fun u hu => by
    unfold lw_pl
    split
    · exact hC.2.1.2.2.2.2.2.2.2 u (by omega) (Q - 1) (by omega)
    · exact hC.2.1.2.2.2.2.2.2.2 u (by omega) Q (by omega)
  have loop : ∀ t : Nat, t ≤ m → ∀ (M1 : zw_M) (az : Int), zw_fr [36] M M1 → ((az = 1 ∧ lw_are σ.2.1 set t = true) ∨ (az = 0 ∧ lw_are σ.2.1 set t = false)) → (∀ u, u < t → M1.1 36 u = zn_I (lw_pl σ.2.1 Q set u : Nat)) → zw_X l 7 iL_law lQ 924 [.ref 37, .ref 0, .ref 33, .ref 34, .ref 35, .ref 36, .int (zn_I (n : Int)), .int (zn_I (m : Int)), .int (zn_I (u : Int)), .int (zn_I (x : Int)), .retAddr 0, .retAddr 0, .retAddr 0, .int (zn_I (c : Int)), .retAddr 0, .int pp, .int (zn_I (Q : Int)), .int w17, .int w18, .int w19, .int w20, .int w21, .int w22, .int (zn_I (set : Int)), .int (zn_I az), .int (zn_I (t : Int))] [] M1 := by
    refine zw_loop m (P := fun t => ∀ (M1 : zw_M) (az : Int), zw_fr [36] M M1 → ((az = 1 ∧ lw_are σ.2.1 set t = true) ∨ (az = 0 ∧ lw_are σ.2.1 set t = false)) → (∀ u, u < t → M1.1 36 u = zn_I (lw_pl σ.2.1 Q set u : Nat)) → zw_X l 7 iL_law lQ 924 [.ref 37, .ref 0, .ref 33, .ref 34, .ref 35, .ref 36, .int (zn_I (n : Int)), .int (zn_I (m : Int)), .int (zn_I (u : Int)), .int (zn_I (x : Int)), .retAddr 0, .retAddr 0, .retAddr 0, .int (zn_I (c : Int)), .retAddr 0, .int pp, .int (zn_I (Q : Int)), .int w17, .int w18, .int w19, .int w20, .int w21, .int w22, .int (zn_I (set : Int)), .int (zn_I az), .int (zn_I (t : Int))] [] M1) (fun t ht ih M1 az hf haz h36 => ?_)
    have hI1 := lI_36 hf hI
    have hC1 := hI1.1
    have hB1 := hI1.2.2.1
    have st (htm : t < m) : ∀ (zz : Int), ((zz = 1 ∧ lw_are σ.2.1 set (t + 1) = true) ∨ (zz = 0 ∧ lw_are σ.2.1 set (t + 1) = false)) → zw_X l 7 iL_law lQ 963 [.ref 37, .ref 0, .ref 33, .ref 34, .ref 35, .ref 36, .int (zn_I (n : Int)), .int (zn_I (m : Int)), .int (zn_I (u : Int)), .int (zn_I (x : Int)), .retAddr 0, .retAddr 0, .retAddr 0, .int (zn_I (c : Int)), .retAddr 0, .int pp, .int (zn_I (Q : Int)), .int w17, .int w18, .int w19, .int w20, .int w21, .int w22, .int (zn_I (set : Int)), .int (zn_I az), .int (zn_I (t : Int))] [.int (zn_I zz)] M1 := by
      intro zz hzz
      obtain ⟨bz, hbz, ebz⟩ : ∃ bz : Int, ((bz = 1 ∧ set.testBit t = true) ∨ (bz = 0 ∧ set.testBit t = false)) ∧ (zn_I (set : Int) >>> (zn_I (t : Int) &&& 31)) &&& zn_I 1 = zn_I bz := by
        rw [lb_bit set (by omega) t (by omega)]
        cases hb : set.testBit t with
        | true => exact ⟨1, Or.inl ⟨rfl, rfl⟩, by rw [if_pos rfl]⟩
        | false => exact ⟨0, Or.inr ⟨rfl, rfl⟩, by rw [if_neg (by decide)]⟩
      have hval : M1.1 35 (10 * t + 2 + (Q - bz.toNat)) = zn_I (lw_pl σ.2.1 Q set t : Nat) := by
        rcases hbz with ⟨rfl, hb⟩ | ⟨rfl, hb⟩
        · rw [lw_pl, if_pos hb]; exact (hB1 t htm).2 (Q - 1) (by omega)
        · rw [lw_pl, if_neg (by rw [hb]; decide)]; exact (hB1 t htm).2 Q (by omega)
      refine zx_istore dL_law_963 rfl (Nat.le_of_ble_eq_true rfl) ?_
      refine zx_aload dL_law_965 rfl ?_
      refine zx_iload dL_law_967 rfl ?_
      refine zx_aload dL_law_969 rfl ?_
      refine zx_bipush (v := zn_I 10) dL_law_971 (by decide) ?_
      refine zx_iload dL_law_973 rfl ?_
      refine zy_imul dL_law_975 ?_
      refine zx_iconst (v := zn_I 2) dL_law_976 rfl ?_
      refine zy_iadd dL_law_977 ?_
      refine zx_iload dL_law_978 rfl ?_
      refine zy_iadd dL_law_980 ?_
      refine zx_iload dL_law_981 rfl ?_
      refine zx_iload dL_law_983 rfl ?_
      refine zx_ishr dL_law_985 ?_
      refine zx_iconst (v := zn_I 1) dL_law_986 rfl ?_
      skip
      refine zx_iand dL_law_987 ?_
      refine zy_top ebz ?_
      refine zy_isub dL_law_988 ?_
      refine zy_iald (i := 10 * t + 2 + (Q - bz.toNat)) dL_law_989 rfl (by decide) (by omega) (by omega) (hval) ?_
      refine zy_iast (i := t) dL_law_990 rfl (by decide) (by omega) (by omega) ?_
      refine zy_iinc dL_law_991 rfl rfl ?_
      refine zx_goto (tgt := 924) dL_law_994 (by decide) ?_
      refine ih htm _ _ (zf_s hf (by decide)) hzz (fun u hu => ?_)
      by_cases e : u = t
      · subst e; simp [zw_s]
      · simp [zw_s, e, h36 u (by omega)]
    refine zx_iload dL_law_924 rfl ?_
    refine zx_iload dL_law_926 rfl ?_
    refine zy_icmp_ge (tgt := 997) dL_law_928 (by decide) (by omega) (fun h_928 => ?_) (fun h_928 => ?_)
    · have et : t = m := by omega
      subst et
      refine zx_iload dL_law_997 rfl ?_
      refine zy_if_eq (tgt := 1016) dL_law_999 (by decide) (by omega) (fun h_999 => ?_) (fun h_999 => ?_)
      · refine zx_iconst (v := zn_I (-1)) dL_law_1016 rfl ?_
        have ha : lw_are σ.2.1 set t = false := by
          rcases haz with r | r
          · omega
          · exact r.2
        refine zy_top (b := zn_I (lw_W σ.1 σ.2.1 Q t set)) (congrArg zn_I (by rw [lw_W, if_neg (by rw [ha]; decide)])) ?_
        refine zx_istore dL_law_1017 rfl (Nat.le_of_ble_eq_true rfl) ?_
        exact next _ _ hI1 haz
      · refine zx_aload_n dL_law_1002 rfl ?_
        refine zx_aload_n dL_law_1003 rfl ?_
        refine zx_aload dL_law_1004 rfl ?_
        refine zx_iload dL_law_1006 rfl ?_
        refine zx_aload dL_law_1008 rfl ?_
        refine zx_callS (y1 := iL_wetAt) dL_law_1010 lL_82 sL_wetAt (mL_wetAt hC1.1.1 hI1.2.1 (lk_hH hC1) hC1.2.1 hB1 (by omega) (by omega) (pl := lw_pl σ.2.1 Q set) (fun u hu => ⟨h36 u (by omega), hpl u hu⟩)) rfl rfl (Nat.le_of_ble_eq_true rfl) ?_
        refine zk_i ?_
        refine zx_goto (tgt := 1017) dL_law_1013 (by decide) ?_
        have ha : lw_are σ.2.1 set t = true := by
          rcases haz with r | r
          · exact r.2
          · omega
        refine zy_top (b := zn_I (lw_W σ.1 σ.2.1 Q t set)) (congrArg zn_I (by rw [lw_W, if_pos ha])) ?_
        refine zx_istore dL_law_1017 rfl (Nat.le_of_ble_eq_true rfl) ?_
        exact next _ _ hI1 haz
    · have htm : t < m := by omega
      obtain ⟨bz, hbz, ebz⟩ : ∃ bz : Int, ((bz = 1 ∧ set.testBit t = true) ∨ (bz = 0 ∧ set.testBit t = false)) ∧ (zn_I (set : Int) >>> (zn_I (t : Int) &&& 31)) &&& zn_I 1 = zn_I bz := by
        rw [lb_bit set (by omega) t (by omega)]
        cases hb : set.testBit t with
        | true => exact ⟨1, Or.inl ⟨rfl, rfl⟩, by rw [if_pos rfl]⟩
        | false => exact ⟨0, Or.inr ⟨rfl, rfl⟩, by rw [if_neg (by decide)]⟩
      have hkr := hC1.2.1.2.2.2.2.2.1 t (by omega)
      refine zx_iload dL_law_931 rfl ?_
      refine zy_if_eq (tgt := 962) dL_law_933 (by decide) (by omega) (fun h_933 => ?_) (fun h_933 => ?_)
      · refine zx_iconst (v := zn_I 0) dL_law_962 rfl ?_
        have ha : lw_are σ.2.1 set t = false := by
          rcases haz with r | r
          · omega
          · exact r.2
        exact st htm 0 (Or.inr ⟨rfl, by rw [lw_are, ha]; rfl⟩)
      · refine zx_iload dL_law_936 rfl ?_
        refine zx_iload dL_law_938 rfl ?_
        refine zx_ishr dL_law_940 ?_
        refine zx_iconst (v := zn_I 1) dL_law_941 rfl ?_
        refine zx_iand dL_law_942 ?_
        refine zy_top ebz ?_
        refine zy_if_eq (tgt := 958) dL_law_943 (by decide) (by omega) (fun h_943 => ?_) (fun h_943 => ?_)
        · refine zx_iconst (v := zn_I 1) dL_law_958 rfl ?_
          refine zx_goto (tgt := 963) dL_law_959 (by decide) ?_
          have ha : lw_are σ.2.1 set t = true := by
            rcases haz with r | r
            · exact r.2
            · omega
          have hb : set.testBit t = false := by
            rcases hbz with r | r
            · omega
            · exact r.2
          exact st htm 1 (Or.inl ⟨rfl, by rw [lw_are, ha, hb]; rfl⟩)
        · refine zx_aload dL_law_946 rfl ?_
          refine zx_bipush (v := zn_I 10) dL_law_948 (by decide) ?_
          refine zx_iload dL_law_950 rfl ?_
          refine zy_imul dL_law_952 ?_
          refine zy_iald (i := 10 * t) dL_law_953 rfl (by decide) (by omega) (by omega) (((hB1 t (by omega)).1.1)) ?_
          refine zx_iconst (v := zn_I 2) dL_law_954 rfl ?_
          refine zy_icmp_le (tgt := 962) dL_law_955 (by decide) (by omega) (fun h_955 => ?_) (fun h_955 => ?_)
          · refine zx_iconst (v := zn_I 0) dL_law_962 rfl ?_
            have hb : set.testBit t = true := by
              rcases hbz with r | r
              · exact r.2
              · omega
            have hnp : ¬ zt_per σ.2.1 t := fun r => by rcases r with r | r <;> omega
            exact st htm 0 (Or.inr ⟨rfl, by rw [lw_are, hb, decide_eq_false hnp, Bool.not_true, Bool.false_or, Bool.and_false]⟩)
          · refine zx_iconst (v := zn_I 1) dL_law_958 rfl ?_
            refine zx_goto (tgt := 963) dL_law_959 (by decide) ?_
            have ha : lw_are σ.2.1 set t = true := by
              rcases haz with r | r
              · exact r.2
              · omega
            have hpp : zt_per σ.2.1 t := by show _ ∨ _; omega
            exact st htm 1 (Or.inl ⟨rfl, by rw [lw_are, ha, decide_eq_true hpp, Bool.or_true, Bool.and_true]⟩)
  refine zx_iconst (v := zn_I 1) dL_law_918 rfl ?_
  refine zx_istore dL_law_919 rfl (Nat.le_of_ble_eq_true rfl) ?_
  refine zx_iconst (v := zn_I 0) dL_law_921 rfl ?_
  refine zx_istore dL_law_922 rfl (Nat.le_of_ble_eq_true rfl) ?_
  exact loop 0 (Nat.zero_le _) M 1 zf_rf (Or.inl ⟨rfl, rfl⟩) (fun u hu => absurd hu (Nat.not_lt_zero _))
set_option maxRecDepth 100000 in
set_option maxHeartbeats 600000 in
theorem lw_passes {l : zw_Lh} {σ : zZ} {m n : Nat} {M : zw_M} {Q lt u x c : Nat} {pp : Int32} (hI : lI M σ m n) (hm6 : 1 ≤ m ∧ m ≤ 6) (hn0 : 0 < n) (hQ : 1 ≤ Q ∧ Q < 8) (hlt : lt < 2 ^ m) (next : ∀ (M1 : zw_M), lI M1 σ m n → zw_X l 7 iL_law lQ 1147 [.ref 37, .ref 0, .ref 33, .ref 34, .ref 35, .ref 36, .int (zn_I (n : Int)), .int (zn_I (m : Int)), .int (zn_I (u : Int)), .int (zn_I (x : Int)), .retAddr 0, .retAddr 0, .retAddr 0, .int (zn_I (c : Int)), .retAddr 0, .int pp, .retAddr 0, .retAddr 0, .retAddr 0, .retAddr 0, .retAddr 0, .retAddr 0, .retAddr 0, .retAddr 0, .retAddr 0, .retAddr 0] [] M1) : zw_X l 7 iL_law lQ 891 [.ref 37, .ref 0, .ref 33, .ref 34, .ref 35, .ref 36, .int (zn_I (n : Int)), .int (zn_I (m : Int)), .int (zn_I (u : Int)), .int (zn_I (x : Int)), .retAddr 0, .retAddr 0, .retAddr 0, .int (zn_I (c : Int)), .retAddr 0, .int pp, .int (zn_I (Q : Int)), .int (zn_I ((lt : Nat) : Int)), .int (zn_I 0), .int (zn_I 0), .retAddr 0, .retAddr 0, .retAddr 0, .retAddr 0, .retAddr 0, .retAddr 0] [] M := by
  have h64 := lb_pow hm6.2
  have hn30 : n ≤ 30 := by have := zp_30 hI.1.1.1; have := hI.2.2.2.2; omega
  have h30p : 2 ^ n ≤ 2 ^ 30 := Nat.pow_le_pow_right (by decide) hn30
  have p2 : ∀ (M1 : zw_M), lI M1 σ m n → zw_X l 7 iL_law lQ 891 [.ref 37, .ref 0, .ref 33, .ref 34, .ref 35, .ref 36, .int (zn_I (n : Int)), .int (zn_I (m : Int)), .int (zn_I (u : Int)), .int (zn_I (x : Int)), .retAddr 0, .retAddr 0, .retAddr 0, .int (zn_I (c : Int)), .retAddr 0, .int pp, .int (zn_I (Q : Int)), .int (zn_I ((lt : Nat) : Int)), .retAddr 0, .int (zn_I (0 + 1 + 1)), .retAddr 0, .retAddr 0, .retAddr 0, .retAddr 0, .retAddr 0, .retAddr 0] [] M1 := by
    intro M1 hI1
    refine zx_iload dL_law_891 rfl ?_
    refine zx_iconst (v := zn_I 2) dL_law_893 rfl ?_
    refine zy_icmp_ge (tgt := 1147) dL_law_894 (by decide) (by omega) (fun h_894 => ?_) (fun h_894 => ?_)
    · refine zx_weak (L1 := [.ref 37, .ref 0, .ref 33, .ref 34, .ref 35, .ref 36, .int (zn_I (n : Int)), .int (zn_I (m : Int)), .int (zn_I (u : Int)), .int (zn_I (x : Int)), .retAddr 0, .retAddr 0, .retAddr 0, .int (zn_I (c : Int)), .retAddr 0, .int pp, .retAddr 0, .retAddr 0, .retAddr 0, .retAddr 0, .retAddr 0, .retAddr 0, .retAddr 0, .retAddr 0, .retAddr 0, .retAddr 0]) ⟨Or.inr rfl, ⟨Or.inr rfl, ⟨Or.inr rfl, ⟨Or.inr rfl, ⟨Or.inr rfl, ⟨Or.inr rfl, ⟨Or.inr rfl, ⟨Or.inr rfl, ⟨Or.inr rfl, ⟨Or.inr rfl, ⟨Or.inl rfl, ⟨Or.inl rfl, ⟨Or.inl rfl, ⟨Or.inr rfl, ⟨Or.inl rfl, ⟨Or.inr rfl, ⟨Or.inl rfl, ⟨Or.inl rfl, ⟨Or.inl rfl, ⟨Or.inl rfl, ⟨Or.inl rfl, ⟨Or.inl rfl, ⟨Or.inl rfl, ⟨Or.inl rfl, ⟨Or.inl rfl, ⟨Or.inl rfl, trivial⟩⟩⟩⟩⟩⟩⟩⟩⟩⟩⟩⟩⟩⟩⟩⟩⟩⟩⟩⟩⟩⟩⟩⟩⟩⟩ ?_
      exact next _ hI1
    · exact absurd h_894 (by omega)
  have p1 (D : Int) (hD : 0 ≤ D ∧ D < (2 ^ n : Nat)) : ∀ s : Nat, s ≤ 2 ^ m → ∀ (M1 : zw_M), lI M1 σ m n → zw_X l 7 iL_law lQ 909 [.ref 37, .ref 0, .ref 33, .ref 34, .ref 35, .ref 36, .int (zn_I (n : Int)), .int (zn_I (m : Int)), .int (zn_I (u : Int)), .int (zn_I (x : Int)), .retAddr 0, .retAddr 0, .retAddr 0, .int (zn_I (c : Int)), .retAddr 0, .int pp, .int (zn_I (Q : Int)), .int (zn_I ((lt : Nat) : Int)), .int (zn_I D), .int (zn_I (0 + 1)), .int (zn_I (((lF (lw_f σ.1 σ.2.1 Q m D) s).1 : Nat) : Int)), .int (zn_I (((lF (lw_f σ.1 σ.2.1 Q m D) s).2.1 : Nat) : Int)), .int (zn_I (((lF (lw_f σ.1 σ.2.1 Q m D) s).2.2 : Nat) : Int)), .int (zn_I (s : Int)), .retAddr 0, .retAddr 0] [] M1 := by
    have hDp := hD
    refine zw_loop (2 ^ m) (P := fun s => ∀ (M1 : zw_M), lI M1 σ m n → zw_X l 7 iL_law lQ 909 [.ref 37, .ref 0, .ref 33, .ref 34, .ref 35, .ref 36, .int (zn_I (n : Int)), .int (zn_I (m : Int)), .int (zn_I (u : Int)), .int (zn_I (x : Int)), .retAddr 0, .retAddr 0, .retAddr 0, .int (zn_I (c : Int)), .retAddr 0, .int pp, .int (zn_I (Q : Int)), .int (zn_I ((lt : Nat) : Int)), .int (zn_I D), .int (zn_I (0 + 1)), .int (zn_I (((lF (lw_f σ.1 σ.2.1 Q m D) s).1 : Nat) : Int)), .int (zn_I (((lF (lw_f σ.1 σ.2.1 Q m D) s).2.1 : Nat) : Int)), .int (zn_I (((lF (lw_f σ.1 σ.2.1 Q m D) s).2.2 : Nat) : Int)), .int (zn_I (s : Int)), .retAddr 0, .retAddr 0] [] M1) (fun s hs ih M1 hI1 => ?_)
    have end1 (es : s = 2 ^ m) : zw_X l 7 iL_law lQ 1091 [.ref 37, .ref 0, .ref 33, .ref 34, .ref 35, .ref 36, .int (zn_I (n : Int)), .int (zn_I (m : Int)), .int (zn_I (u : Int)), .int (zn_I (x : Int)), .retAddr 0, .retAddr 0, .retAddr 0, .int (zn_I (c : Int)), .retAddr 0, .int pp, .int (zn_I (Q : Int)), .int (zn_I ((lt : Nat) : Int)), .int (zn_I D), .int (zn_I (0 + 1)), .int (zn_I (((lF (lw_f σ.1 σ.2.1 Q m D) s).1 : Nat) : Int)), .int (zn_I (((lF (lw_f σ.1 σ.2.1 Q m D) s).2.1 : Nat) : Int)), .int (zn_I (((lF (lw_f σ.1 σ.2.1 Q m D) s).2.2 : Nat) : Int)), .int (zn_I (s : Int)), .retAddr 0, .retAddr 0] [] M1 := by
      have hFr := lF_rng (f := lw_f σ.1 σ.2.1 Q m D) s (by omega)
      have an := lw_ans (π := σ.1) (Q := Q) hI1.2.2.2.1 hm6.2 hD.1
      refine zx_iload dL_law_1091 rfl ?_
      refine zx_iconst (v := zn_I 1) dL_law_1093 rfl ?_
      refine zy_icmp_ne (tgt := 1141) dL_law_1094 (by decide) (by omega) (fun h_1094 => ?_) (fun h_1094 => ?_)
      · exact absurd h_1094 (by omega)
      · refine zx_aload_n dL_law_1097 rfl ?_
        refine zx_iload dL_law_1098 rfl ?_
        refine zx_iload dL_law_1100 rfl ?_
        refine zx_iconst (v := zn_I 0) dL_law_1102 rfl ?_
        refine zx_callV (y1 := iX10_late) dL_law_1103 lL_86 vX10_late rc_0 (mX10_late hI1.1 (q := (Q : Int)) (e := D) (x := 0) (by omega) (by have := h30p; have := hDp; omega) (by omega)) rfl rfl (Nat.le_of_ble_eq_true rfl) ?_
        intro v M5 he
        obtain ⟨rfl, hf5, hC5⟩ := he
        have hI5 := lI_z hf5 hC5 hI1
        rw [lk_late hI1 hn0 (x := 0) (j := 0) hQ hD rfl (by decide), an.1, ← es]
        refine zx_iload dL_law_1106 rfl ?_
        refine zy_icmp_ne (tgt := 1139) dL_law_1108 (by decide) (by omega) (fun h_1108 => ?_) (fun h_1108 => ?_)
        · exact absurd rfl h_1108
        · refine zx_aload_n dL_law_1111 rfl ?_
          refine zx_iload dL_law_1112 rfl ?_
          refine zx_iload dL_law_1114 rfl ?_
          refine zx_iconst (v := zn_I 1) dL_law_1116 rfl ?_
          refine zx_callV (y1 := iX10_late) dL_law_1117 lL_86 vX10_late rc_0 (mX10_late hC5 (q := (Q : Int)) (e := D) (x := 1) (by omega) (by have := h30p; have := hDp; omega) (by omega)) rfl rfl (Nat.le_of_ble_eq_true rfl) ?_
          intro v M6 he
          obtain ⟨rfl, hf6, hC6⟩ := he
          have hI6 := lI_z hf6 hC6 hI5
          rw [lk_late hI5 hn0 (x := 1) (j := 1) hQ hD rfl (by decide), an.2.1, ← es]
          refine zx_iload dL_law_1120 rfl ?_
          refine zy_icmp_ne (tgt := 1139) dL_law_1122 (by decide) (by omega) (fun h_1122 => ?_) (fun h_1122 => ?_)
          · exact absurd rfl h_1122
          · refine zx_aload_n dL_law_1125 rfl ?_
            refine zx_iload dL_law_1126 rfl ?_
            refine zx_iload dL_law_1128 rfl ?_
            refine zx_iconst (v := zn_I 2) dL_law_1130 rfl ?_
            refine zx_callV (y1 := iX10_late) dL_law_1131 lL_86 vX10_late rc_0 (mX10_late hC6 (q := (Q : Int)) (e := D) (x := 2) (by omega) (by have := h30p; have := hDp; omega) (by omega)) rfl rfl (Nat.le_of_ble_eq_true rfl) ?_
            intro v M7 he
            obtain ⟨rfl, hf7, hC7⟩ := he
            have hI7 := lI_z hf7 hC7 hI6
            rw [lk_late hI6 hn0 (x := 2) (j := 2) hQ hD rfl (by decide), an.2.2, ← es]
            refine zx_iload dL_law_1134 rfl ?_
            refine zy_icmp_eq (tgt := 1141) dL_law_1136 (by decide) (by omega) (fun h_1136 => ?_) (fun h_1136 => ?_)
            · refine zy_iinc dL_law_1141 rfl rfl ?_
              refine zx_goto (tgt := 891) dL_law_1144 (by decide) ?_
              refine zx_weak (L1 := [.ref 37, .ref 0, .ref 33, .ref 34, .ref 35, .ref 36, .int (zn_I (n : Int)), .int (zn_I (m : Int)), .int (zn_I (u : Int)), .int (zn_I (x : Int)), .retAddr 0, .retAddr 0, .retAddr 0, .int (zn_I (c : Int)), .retAddr 0, .int pp, .int (zn_I (Q : Int)), .int (zn_I ((lt : Nat) : Int)), .retAddr 0, .int (zn_I (0 + 1 + 1)), .retAddr 0, .retAddr 0, .retAddr 0, .retAddr 0, .retAddr 0, .retAddr 0]) ⟨Or.inr rfl, ⟨Or.inr rfl, ⟨Or.inr rfl, ⟨Or.inr rfl, ⟨Or.inr rfl, ⟨Or.inr rfl, ⟨Or.inr rfl, ⟨Or.inr rfl, ⟨Or.inr rfl, ⟨Or.inr rfl, ⟨Or.inl rfl, ⟨Or.inl rfl, ⟨Or.inl rfl, ⟨Or.inr rfl, ⟨Or.inl rfl, ⟨Or.inr rfl, ⟨Or.inr rfl, ⟨Or.inr rfl, ⟨Or.inl rfl, ⟨Or.inr rfl, ⟨Or.inl rfl, ⟨Or.inl rfl, ⟨Or.inl rfl, ⟨Or.inl rfl, ⟨Or.inl rfl, ⟨Or.inl rfl, trivial⟩⟩⟩⟩⟩⟩⟩⟩⟩⟩⟩⟩⟩⟩⟩⟩⟩⟩⟩⟩⟩⟩⟩⟩⟩⟩ ?_
              exact p2 _ hI7
            · exact absurd rfl h_1136
    refine zx_iload dL_law_909 rfl ?_
    refine zx_iconst (v := zn_I 1) dL_law_911 rfl ?_
    refine zx_iload dL_law_912 rfl ?_
    refine zx_ishl dL_law_914 ?_
    refine zy_top (show _ = zn_I ((2 ^ m : Nat) : Int) from by rw [zb_one m (by omega), zn_nat]) ?_
    refine zy_icmp_ge (tgt := 1091) dL_law_915 (by decide) (by have := h64; omega) (fun h_915 => ?_) (fun h_915 => ?_)
    · exact end1 (by omega)
    · have hsm : s < 2 ^ m := by omega
      refine lw_set hI1 hm6 hQ hsm (fun M2 az hI2 haz => ?_)
      have hWr := lw_W_rng hI2 (Q := Q) (set := s)
      have hFr := lF_rng (f := lw_f σ.1 σ.2.1 Q m D) s (by omega)
      refine zx_iload dL_law_1019 rfl ?_
      refine zy_if_ne (tgt := 1041) dL_law_1021 (by decide) (by omega) (fun h_1021 => ?_) (fun h_1021 => ?_)
      · refine zx_iload dL_law_1041 rfl ?_
        refine zx_istore dL_law_1043 rfl (Nat.le_of_ble_eq_true rfl) ?_
        refine zx_iload dL_law_1045 rfl ?_
        refine zx_iconst (v := zn_I 1) dL_law_1047 rfl ?_
        refine zy_icmp_ne (tgt := 1085) dL_law_1048 (by decide) (by omega) (fun h_1048 => ?_) (fun h_1048 => ?_)
        · exact absurd h_1048 (by omega)
        · refine zx_iload dL_law_1051 rfl ?_
          refine zx_iload dL_law_1053 rfl ?_
          refine zy_icmp_ne (tgt := 1085) dL_law_1055 (by decide) (by have := hDp; have := hWr; have := h30p; omega) (fun h_1055 => ?_) (fun h_1055 => ?_)
          · refine zy_iinc dL_law_1085 rfl rfl ?_
            refine zx_goto (tgt := 909) dL_law_1088 (by decide) ?_
            have hft : ¬ lw_f σ.1 σ.2.1 Q m D s = true := fun r => by have r2 := of_decide_eq_true (p := lw_W σ.1 σ.2.1 Q m s = D) r; omega
            have e := (show lF (lw_f σ.1 σ.2.1 Q m D) (s + 1) = lF (lw_f σ.1 σ.2.1 Q m D) s from by rw [lF, if_neg hft])
            have h9 := ih hsm M2 hI2
            rw [e] at h9
            refine zx_weak (L1 := [.ref 37, .ref 0, .ref 33, .ref 34, .ref 35, .ref 36, .int (zn_I (n : Int)), .int (zn_I (m : Int)), .int (zn_I (u : Int)), .int (zn_I (x : Int)), .retAddr 0, .retAddr 0, .retAddr 0, .int (zn_I (c : Int)), .retAddr 0, .int pp, .int (zn_I (Q : Int)), .int (zn_I ((lt : Nat) : Int)), .int (zn_I D), .int (zn_I (0 + 1)), .int (zn_I (((lF (lw_f σ.1 σ.2.1 Q m D) s).1 : Nat) : Int)), .int (zn_I (((lF (lw_f σ.1 σ.2.1 Q m D) s).2.1 : Nat) : Int)), .int (zn_I (((lF (lw_f σ.1 σ.2.1 Q m D) s).2.2 : Nat) : Int)), .int (zn_I ((s + 1 : Nat) : Int)), .retAddr 0, .retAddr 0]) ⟨Or.inr rfl, ⟨Or.inr rfl, ⟨Or.inr rfl, ⟨Or.inr rfl, ⟨Or.inr rfl, ⟨Or.inr rfl, ⟨Or.inr rfl, ⟨Or.inr rfl, ⟨Or.inr rfl, ⟨Or.inr rfl, ⟨Or.inl rfl, ⟨Or.inl rfl, ⟨Or.inl rfl, ⟨Or.inr rfl, ⟨Or.inl rfl, ⟨Or.inr rfl, ⟨Or.inr rfl, ⟨Or.inr rfl, ⟨Or.inr rfl, ⟨Or.inr rfl, ⟨Or.inr rfl, ⟨Or.inr rfl, ⟨Or.inr rfl, ⟨Or.inr rfl, ⟨Or.inl rfl, ⟨Or.inl rfl, trivial⟩⟩⟩⟩⟩⟩⟩⟩⟩⟩⟩⟩⟩⟩⟩⟩⟩⟩⟩⟩⟩⟩⟩⟩⟩⟩ ?_
            exact h9
          · refine zx_iload dL_law_1058 rfl ?_
            refine zy_if_ne (tgt := 1068) dL_law_1060 (by decide) (by omega) (fun h_1060 => ?_) (fun h_1060 => ?_)
            · refine zx_iload dL_law_1068 rfl ?_
              refine zx_iload dL_law_1070 rfl ?_
              refine zx_iand dL_law_1072 ?_
              refine zy_top (zb_and _ _) ?_
              refine zx_istore dL_law_1073 rfl (Nat.le_of_ble_eq_true rfl) ?_
              refine zx_iload dL_law_1075 rfl ?_
              refine zx_iload dL_law_1077 rfl ?_
              refine zx_ior dL_law_1079 ?_
              refine zy_top (zb_or2 _ _) ?_
              refine zx_istore dL_law_1080 rfl (Nat.le_of_ble_eq_true rfl) ?_
              refine zy_iinc dL_law_1082 rfl rfl ?_
              refine zy_iinc dL_law_1085 rfl rfl ?_
              refine zx_goto (tgt := 909) dL_law_1088 (by decide) ?_
              have hft : lw_f σ.1 σ.2.1 Q m D s = true := by unfold lw_f; exact decide_eq_true (by omega)
              have e := (show lF (lw_f σ.1 σ.2.1 Q m D) (s + 1) = ((lF (lw_f σ.1 σ.2.1 Q m D) s).1 + 1, (lF (lw_f σ.1 σ.2.1 Q m D) s).2.1 &&& s, (lF (lw_f σ.1 σ.2.1 Q m D) s).2.2 ||| s) from by rw [lF, if_pos hft, if_neg (by omega)])
              have h9 := ih hsm M2 hI2
              rw [e] at h9
              refine zx_weak (L1 := [.ref 37, .ref 0, .ref 33, .ref 34, .ref 35, .ref 36, .int (zn_I (n : Int)), .int (zn_I (m : Int)), .int (zn_I (u : Int)), .int (zn_I (x : Int)), .retAddr 0, .retAddr 0, .retAddr 0, .int (zn_I (c : Int)), .retAddr 0, .int pp, .int (zn_I (Q : Int)), .int (zn_I ((lt : Nat) : Int)), .int (zn_I D), .int (zn_I (0 + 1)), .int (zn_I (((lF (lw_f σ.1 σ.2.1 Q m D) s).1 + 1 : Nat) : Int)), .int (zn_I (((lF (lw_f σ.1 σ.2.1 Q m D) s).2.1 &&& s : Nat) : Int)), .int (zn_I (((lF (lw_f σ.1 σ.2.1 Q m D) s).2.2 ||| s : Nat) : Int)), .int (zn_I ((s + 1 : Nat) : Int)), .retAddr 0, .retAddr 0]) ⟨Or.inr rfl, ⟨Or.inr rfl, ⟨Or.inr rfl, ⟨Or.inr rfl, ⟨Or.inr rfl, ⟨Or.inr rfl, ⟨Or.inr rfl, ⟨Or.inr rfl, ⟨Or.inr rfl, ⟨Or.inr rfl, ⟨Or.inl rfl, ⟨Or.inl rfl, ⟨Or.inl rfl, ⟨Or.inr rfl, ⟨Or.inl rfl, ⟨Or.inr rfl, ⟨Or.inr rfl, ⟨Or.inr rfl, ⟨Or.inr rfl, ⟨Or.inr rfl, ⟨Or.inr rfl, ⟨Or.inr rfl, ⟨Or.inr rfl, ⟨Or.inr rfl, ⟨Or.inl rfl, ⟨Or.inl rfl, trivial⟩⟩⟩⟩⟩⟩⟩⟩⟩⟩⟩⟩⟩⟩⟩⟩⟩⟩⟩⟩⟩⟩⟩⟩⟩⟩ ?_
              exact h9
            · refine zx_iload dL_law_1063 rfl ?_
              refine zx_goto (tgt := 1073) dL_law_1065 (by decide) ?_
              skip
              refine zx_istore dL_law_1073 rfl (Nat.le_of_ble_eq_true rfl) ?_
              refine zx_iload dL_law_1075 rfl ?_
              refine zx_iload dL_law_1077 rfl ?_
              refine zx_ior dL_law_1079 ?_
              refine zy_top (zb_or2 _ _) ?_
              refine zx_istore dL_law_1080 rfl (Nat.le_of_ble_eq_true rfl) ?_
              refine zy_iinc dL_law_1082 rfl rfl ?_
              refine zy_iinc dL_law_1085 rfl rfl ?_
              refine zx_goto (tgt := 909) dL_law_1088 (by decide) ?_
              have hft : lw_f σ.1 σ.2.1 Q m D s = true := by unfold lw_f; exact decide_eq_true (by omega)
              have e := (show lF (lw_f σ.1 σ.2.1 Q m D) (s + 1) = ((lF (lw_f σ.1 σ.2.1 Q m D) s).1 + 1, s, (lF (lw_f σ.1 σ.2.1 Q m D) s).2.2 ||| s) from by rw [lF, if_pos hft, if_pos (by omega)])
              have h9 := ih hsm M2 hI2
              rw [e] at h9
              refine zx_weak (L1 := [.ref 37, .ref 0, .ref 33, .ref 34, .ref 35, .ref 36, .int (zn_I (n : Int)), .int (zn_I (m : Int)), .int (zn_I (u : Int)), .int (zn_I (x : Int)), .retAddr 0, .retAddr 0, .retAddr 0, .int (zn_I (c : Int)), .retAddr 0, .int pp, .int (zn_I (Q : Int)), .int (zn_I ((lt : Nat) : Int)), .int (zn_I D), .int (zn_I (0 + 1)), .int (zn_I (((lF (lw_f σ.1 σ.2.1 Q m D) s).1 + 1 : Nat) : Int)), .int (zn_I ((s : Nat) : Int)), .int (zn_I (((lF (lw_f σ.1 σ.2.1 Q m D) s).2.2 ||| s : Nat) : Int)), .int (zn_I ((s + 1 : Nat) : Int)), .retAddr 0, .retAddr 0]) ⟨Or.inr rfl, ⟨Or.inr rfl, ⟨Or.inr rfl, ⟨Or.inr rfl, ⟨Or.inr rfl, ⟨Or.inr rfl, ⟨Or.inr rfl, ⟨Or.inr rfl, ⟨Or.inr rfl, ⟨Or.inr rfl, ⟨Or.inl rfl, ⟨Or.inl rfl, ⟨Or.inl rfl, ⟨Or.inr rfl, ⟨Or.inl rfl, ⟨Or.inr rfl, ⟨Or.inr rfl, ⟨Or.inr rfl, ⟨Or.inr rfl, ⟨Or.inr rfl, ⟨Or.inr rfl, ⟨Or.inr rfl, ⟨Or.inr rfl, ⟨Or.inr rfl, ⟨Or.inl rfl, ⟨Or.inl rfl, trivial⟩⟩⟩⟩⟩⟩⟩⟩⟩⟩⟩⟩⟩⟩⟩⟩⟩⟩⟩⟩⟩⟩⟩⟩⟩⟩ ?_
              exact h9
      · exact absurd h_1021 (by omega)
  have p1s : ∀ (D : Int), 0 ≤ D ∧ D < (2 ^ n : Nat) → ∀ (M1 : zw_M), lI M1 σ m n → zw_X l 7 iL_law lQ 891 [.ref 37, .ref 0, .ref 33, .ref 34, .ref 35, .ref 36, .int (zn_I (n : Int)), .int (zn_I (m : Int)), .int (zn_I (u : Int)), .int (zn_I (x : Int)), .retAddr 0, .retAddr 0, .retAddr 0, .int (zn_I (c : Int)), .retAddr 0, .int pp, .int (zn_I (Q : Int)), .int (zn_I ((lt : Nat) : Int)), .int (zn_I D), .int (zn_I (0 + 1)), .retAddr 0, .retAddr 0, .retAddr 0, .retAddr 0, .retAddr 0, .retAddr 0] [] M1 := by
    intro D hD M1 hI1
    refine zx_iload dL_law_891 rfl ?_
    refine zx_iconst (v := zn_I 2) dL_law_893 rfl ?_
    refine zy_icmp_ge (tgt := 1147) dL_law_894 (by decide) (by omega) (fun h_894 => ?_) (fun h_894 => ?_)
    · exact absurd h_894 (by omega)
    · refine zx_iconst (v := zn_I 0) dL_law_897 rfl ?_
      refine zx_istore dL_law_898 rfl (Nat.le_of_ble_eq_true rfl) ?_
      refine zx_iconst (v := zn_I 0) dL_law_900 rfl ?_
      refine zx_istore dL_law_901 rfl (Nat.le_of_ble_eq_true rfl) ?_
      refine zx_iconst (v := zn_I 0) dL_law_903 rfl ?_
      refine zx_istore dL_law_904 rfl (Nat.le_of_ble_eq_true rfl) ?_
      refine zx_iconst (v := zn_I 0) dL_law_906 rfl ?_
      refine zx_istore dL_law_907 rfl (Nat.le_of_ble_eq_true rfl) ?_
      exact p1 D hD 0 (Nat.zero_le _) M1 hI1
  have p0 : ∀ s : Nat, s ≤ 2 ^ m → ∀ (M1 : zw_M) (D : Int), 0 ≤ D ∧ D < (2 ^ n : Nat) → lI M1 σ m n → zw_X l 7 iL_law lQ 909 [.ref 37, .ref 0, .ref 33, .ref 34, .ref 35, .ref 36, .int (zn_I (n : Int)), .int (zn_I (m : Int)), .int (zn_I (u : Int)), .int (zn_I (x : Int)), .retAddr 0, .retAddr 0, .retAddr 0, .int (zn_I (c : Int)), .retAddr 0, .int pp, .int (zn_I (Q : Int)), .int (zn_I ((lt : Nat) : Int)), .int (zn_I D), .int (zn_I 0), .int (zn_I 0), .int (zn_I 0), .int (zn_I 0), .int (zn_I (s : Int)), .retAddr 0, .retAddr 0] [] M1 := by
    refine zw_loop (2 ^ m) (P := fun s => ∀ (M1 : zw_M) (D : Int), 0 ≤ D ∧ D < (2 ^ n : Nat) → lI M1 σ m n → zw_X l 7 iL_law lQ 909 [.ref 37, .ref 0, .ref 33, .ref 34, .ref 35, .ref 36, .int (zn_I (n : Int)), .int (zn_I (m : Int)), .int (zn_I (u : Int)), .int (zn_I (x : Int)), .retAddr 0, .retAddr 0, .retAddr 0, .int (zn_I (c : Int)), .retAddr 0, .int pp, .int (zn_I (Q : Int)), .int (zn_I ((lt : Nat) : Int)), .int (zn_I D), .int (zn_I 0), .int (zn_I 0), .int (zn_I 0), .int (zn_I 0), .int (zn_I (s : Int)), .retAddr 0, .retAddr 0] [] M1) (fun s hs ih M1 D hD hI1 => ?_)
    have end0 : zw_X l 7 iL_law lQ 1091 [.ref 37, .ref 0, .ref 33, .ref 34, .ref 35, .ref 36, .int (zn_I (n : Int)), .int (zn_I (m : Int)), .int (zn_I (u : Int)), .int (zn_I (x : Int)), .retAddr 0, .retAddr 0, .retAddr 0, .int (zn_I (c : Int)), .retAddr 0, .int pp, .int (zn_I (Q : Int)), .int (zn_I ((lt : Nat) : Int)), .int (zn_I D), .int (zn_I 0), .int (zn_I 0), .int (zn_I 0), .int (zn_I 0), .int (zn_I (s : Int)), .retAddr 0, .retAddr 0] [] M1 := by
      refine zx_iload dL_law_1091 rfl ?_
      refine zx_iconst (v := zn_I 1) dL_law_1093 rfl ?_
      refine zy_icmp_ne (tgt := 1141) dL_law_1094 (by decide) (by omega) (fun h_1094 => ?_) (fun h_1094 => ?_)
      · refine zy_iinc dL_law_1141 rfl rfl ?_
        refine zx_goto (tgt := 891) dL_law_1144 (by decide) ?_
        refine zx_weak (L1 := [.ref 37, .ref 0, .ref 33, .ref 34, .ref 35, .ref 36, .int (zn_I (n : Int)), .int (zn_I (m : Int)), .int (zn_I (u : Int)), .int (zn_I (x : Int)), .retAddr 0, .retAddr 0, .retAddr 0, .int (zn_I (c : Int)), .retAddr 0, .int pp, .int (zn_I (Q : Int)), .int (zn_I ((lt : Nat) : Int)), .int (zn_I D), .int (zn_I (0 + 1)), .retAddr 0, .retAddr 0, .retAddr 0, .retAddr 0, .retAddr 0, .retAddr 0]) ⟨Or.inr rfl, ⟨Or.inr rfl, ⟨Or.inr rfl, ⟨Or.inr rfl, ⟨Or.inr rfl, ⟨Or.inr rfl, ⟨Or.inr rfl, ⟨Or.inr rfl, ⟨Or.inr rfl, ⟨Or.inr rfl, ⟨Or.inl rfl, ⟨Or.inl rfl, ⟨Or.inl rfl, ⟨Or.inr rfl, ⟨Or.inl rfl, ⟨Or.inr rfl, ⟨Or.inr rfl, ⟨Or.inr rfl, ⟨Or.inr rfl, ⟨Or.inr rfl, ⟨Or.inl rfl, ⟨Or.inl rfl, ⟨Or.inl rfl, ⟨Or.inl rfl, ⟨Or.inl rfl, ⟨Or.inl rfl, trivial⟩⟩⟩⟩⟩⟩⟩⟩⟩⟩⟩⟩⟩⟩⟩⟩⟩⟩⟩⟩⟩⟩⟩⟩⟩⟩ ?_
        exact p1s D hD _ hI1
      · exact absurd h_1094 (by omega)
    refine zx_iload dL_law_909 rfl ?_
    refine zx_iconst (v := zn_I 1) dL_law_911 rfl ?_
    refine zx_iload dL_law_912 rfl ?_
    refine zx_ishl dL_law_914 ?_
    refine zy_top (show _ = zn_I ((2 ^ m : Nat) : Int) from by rw [zb_one m (by omega), zn_nat]) ?_
    refine zy_icmp_ge (tgt := 1091) dL_law_915 (by decide) (by have := h64; omega) (fun h_915 => ?_) (fun h_915 => ?_)
    · exact end0
    · have hsm : s < 2 ^ m := by omega
      refine lw_set hI1 hm6 hQ hsm (fun M2 az hI2 haz => ?_)
      have hWr := lw_W_rng hI2 (Q := Q) (set := s)
      refine zx_iload dL_law_1019 rfl ?_
      refine zy_if_ne (tgt := 1041) dL_law_1021 (by decide) (by omega) (fun h_1021 => ?_) (fun h_1021 => ?_)
      · exact absurd h_1021 (by omega)
      · refine zx_iload dL_law_1024 rfl ?_
        refine zx_iload dL_law_1026 rfl ?_
        refine zy_icmp_ne (tgt := 1041) dL_law_1028 (by decide) (by have := h64; omega) (fun h_1028 => ?_) (fun h_1028 => ?_)
        · refine zx_iload dL_law_1041 rfl ?_
          refine zx_istore dL_law_1043 rfl (Nat.le_of_ble_eq_true rfl) ?_
          refine zx_iload dL_law_1045 rfl ?_
          refine zx_iconst (v := zn_I 1) dL_law_1047 rfl ?_
          refine zy_icmp_ne (tgt := 1085) dL_law_1048 (by decide) (by omega) (fun h_1048 => ?_) (fun h_1048 => ?_)
          · refine zy_iinc dL_law_1085 rfl rfl ?_
            refine zx_goto (tgt := 909) dL_law_1088 (by decide) ?_
            refine zx_weak (L1 := [.ref 37, .ref 0, .ref 33, .ref 34, .ref 35, .ref 36, .int (zn_I (n : Int)), .int (zn_I (m : Int)), .int (zn_I (u : Int)), .int (zn_I (x : Int)), .retAddr 0, .retAddr 0, .retAddr 0, .int (zn_I (c : Int)), .retAddr 0, .int pp, .int (zn_I (Q : Int)), .int (zn_I ((lt : Nat) : Int)), .int (zn_I D), .int (zn_I 0), .int (zn_I 0), .int (zn_I 0), .int (zn_I 0), .int (zn_I ((s + 1 : Nat) : Int)), .retAddr 0, .retAddr 0]) ⟨Or.inr rfl, ⟨Or.inr rfl, ⟨Or.inr rfl, ⟨Or.inr rfl, ⟨Or.inr rfl, ⟨Or.inr rfl, ⟨Or.inr rfl, ⟨Or.inr rfl, ⟨Or.inr rfl, ⟨Or.inr rfl, ⟨Or.inl rfl, ⟨Or.inl rfl, ⟨Or.inl rfl, ⟨Or.inr rfl, ⟨Or.inl rfl, ⟨Or.inr rfl, ⟨Or.inr rfl, ⟨Or.inr rfl, ⟨Or.inr rfl, ⟨Or.inr rfl, ⟨Or.inr rfl, ⟨Or.inr rfl, ⟨Or.inr rfl, ⟨Or.inr rfl, ⟨Or.inl rfl, ⟨Or.inl rfl, trivial⟩⟩⟩⟩⟩⟩⟩⟩⟩⟩⟩⟩⟩⟩⟩⟩⟩⟩⟩⟩⟩⟩⟩⟩⟩⟩ ?_
            exact ih hsm M2 D hD hI2
          · exact absurd h_1048 (by omega)
        · refine zx_iload dL_law_1031 rfl ?_
          refine zy_if_eq (tgt := 1041) dL_law_1033 (by decide) (by omega) (fun h_1033 => ?_) (fun h_1033 => ?_)
          · refine zx_iload dL_law_1041 rfl ?_
            refine zx_istore dL_law_1043 rfl (Nat.le_of_ble_eq_true rfl) ?_
            refine zx_iload dL_law_1045 rfl ?_
            refine zx_iconst (v := zn_I 1) dL_law_1047 rfl ?_
            refine zy_icmp_ne (tgt := 1085) dL_law_1048 (by decide) (by omega) (fun h_1048 => ?_) (fun h_1048 => ?_)
            · refine zy_iinc dL_law_1085 rfl rfl ?_
              refine zx_goto (tgt := 909) dL_law_1088 (by decide) ?_
              refine zx_weak (L1 := [.ref 37, .ref 0, .ref 33, .ref 34, .ref 35, .ref 36, .int (zn_I (n : Int)), .int (zn_I (m : Int)), .int (zn_I (u : Int)), .int (zn_I (x : Int)), .retAddr 0, .retAddr 0, .retAddr 0, .int (zn_I (c : Int)), .retAddr 0, .int pp, .int (zn_I (Q : Int)), .int (zn_I ((lt : Nat) : Int)), .int (zn_I D), .int (zn_I 0), .int (zn_I 0), .int (zn_I 0), .int (zn_I 0), .int (zn_I ((s + 1 : Nat) : Int)), .retAddr 0, .retAddr 0]) ⟨Or.inr rfl, ⟨Or.inr rfl, ⟨Or.inr rfl, ⟨Or.inr rfl, ⟨Or.inr rfl, ⟨Or.inr rfl, ⟨Or.inr rfl, ⟨Or.inr rfl, ⟨Or.inr rfl, ⟨Or.inr rfl, ⟨Or.inl rfl, ⟨Or.inl rfl, ⟨Or.inl rfl, ⟨Or.inr rfl, ⟨Or.inl rfl, ⟨Or.inr rfl, ⟨Or.inr rfl, ⟨Or.inr rfl, ⟨Or.inr rfl, ⟨Or.inr rfl, ⟨Or.inr rfl, ⟨Or.inr rfl, ⟨Or.inr rfl, ⟨Or.inr rfl, ⟨Or.inl rfl, ⟨Or.inl rfl, trivial⟩⟩⟩⟩⟩⟩⟩⟩⟩⟩⟩⟩⟩⟩⟩⟩⟩⟩⟩⟩⟩⟩⟩⟩⟩⟩ ?_
              exact ih hsm M2 D hD hI2
            · exact absurd h_1048 (by omega)
          · refine zx_iload dL_law_1036 rfl ?_
            refine zx_goto (tgt := 1043) dL_law_1038 (by decide) ?_
            refine zx_istore dL_law_1043 rfl (Nat.le_of_ble_eq_true rfl) ?_
            refine zx_iload dL_law_1045 rfl ?_
            refine zx_iconst (v := zn_I 1) dL_law_1047 rfl ?_
            refine zy_icmp_ne (tgt := 1085) dL_law_1048 (by decide) (by omega) (fun h_1048 => ?_) (fun h_1048 => ?_)
            · refine zy_iinc dL_law_1085 rfl rfl ?_
              refine zx_goto (tgt := 909) dL_law_1088 (by decide) ?_
              have ha : lw_are σ.2.1 s m = true := by
                rcases haz with r | r
                · exact r.2
                · omega
              have hW0 : 0 ≤ lw_W σ.1 σ.2.1 Q m s := by rw [lw_W, if_pos ha]; omega
              refine zx_weak (L1 := [.ref 37, .ref 0, .ref 33, .ref 34, .ref 35, .ref 36, .int (zn_I (n : Int)), .int (zn_I (m : Int)), .int (zn_I (u : Int)), .int (zn_I (x : Int)), .retAddr 0, .retAddr 0, .retAddr 0, .int (zn_I (c : Int)), .retAddr 0, .int pp, .int (zn_I (Q : Int)), .int (zn_I ((lt : Nat) : Int)), .int (zn_I (lw_W σ.1 σ.2.1 Q m s)), .int (zn_I 0), .int (zn_I 0), .int (zn_I 0), .int (zn_I 0), .int (zn_I ((s + 1 : Nat) : Int)), .retAddr 0, .retAddr 0]) ⟨Or.inr rfl, ⟨Or.inr rfl, ⟨Or.inr rfl, ⟨Or.inr rfl, ⟨Or.inr rfl, ⟨Or.inr rfl, ⟨Or.inr rfl, ⟨Or.inr rfl, ⟨Or.inr rfl, ⟨Or.inr rfl, ⟨Or.inl rfl, ⟨Or.inl rfl, ⟨Or.inl rfl, ⟨Or.inr rfl, ⟨Or.inl rfl, ⟨Or.inr rfl, ⟨Or.inr rfl, ⟨Or.inr rfl, ⟨Or.inr rfl, ⟨Or.inr rfl, ⟨Or.inr rfl, ⟨Or.inr rfl, ⟨Or.inr rfl, ⟨Or.inr rfl, ⟨Or.inl rfl, ⟨Or.inl rfl, trivial⟩⟩⟩⟩⟩⟩⟩⟩⟩⟩⟩⟩⟩⟩⟩⟩⟩⟩⟩⟩⟩⟩⟩⟩⟩⟩ ?_
              exact ih hsm M2 (lw_W σ.1 σ.2.1 Q m s) ⟨hW0, hWr.2⟩ hI2
            · exact absurd h_1048 (by omega)
  refine zx_iload dL_law_891 rfl ?_
  refine zx_iconst (v := zn_I 2) dL_law_893 rfl ?_
  refine zy_icmp_ge (tgt := 1147) dL_law_894 (by decide) (by omega) (fun h_894 => ?_) (fun h_894 => ?_)
  · exact absurd h_894 (by omega)
  · refine zx_iconst (v := zn_I 0) dL_law_897 rfl ?_
    refine zx_istore dL_law_898 rfl (Nat.le_of_ble_eq_true rfl) ?_
    refine zx_iconst (v := zn_I 0) dL_law_900 rfl ?_
    refine zx_istore dL_law_901 rfl (Nat.le_of_ble_eq_true rfl) ?_
    refine zx_iconst (v := zn_I 0) dL_law_903 rfl ?_
    refine zx_istore dL_law_904 rfl (Nat.le_of_ble_eq_true rfl) ?_
    refine zx_iconst (v := zn_I 0) dL_law_906 rfl ?_
    refine zx_istore dL_law_907 rfl (Nat.le_of_ble_eq_true rfl) ?_
    exact p0 0 (Nat.zero_le _) M 0 ⟨by omega, by have := Nat.two_pow_pos n; omega⟩ hI
set_option maxRecDepth 100000 in
set_option maxHeartbeats 600000 in
theorem lw_late {l : zw_Lh} {σ : zZ} {m n : Nat} {M : zw_M} {u x c : Nat} {pp : Int32} (hI : lI M σ m n) (hm6 : 1 ≤ m ∧ m ≤ 6) (hn0 : 0 < n) (hx : x < 2147483648) (next : ∀ (M1 : zw_M), lI M1 σ m n → zw_X l 7 iL_law lQ 1147 [.ref 37, .ref 0, .ref 33, .ref 34, .ref 35, .ref 36, .int (zn_I (n : Int)), .int (zn_I (m : Int)), .int (zn_I (u : Int)), .int (zn_I (x : Int)), .retAddr 0, .retAddr 0, .retAddr 0, .int (zn_I (c : Int)), .retAddr 0, .int pp, .retAddr 0, .retAddr 0, .retAddr 0, .retAddr 0, .retAddr 0, .retAddr 0, .retAddr 0, .retAddr 0, .retAddr 0, .retAddr 0] [] M1) : zw_X l 7 iL_law lQ 862 [.ref 37, .ref 0, .ref 33, .ref 34, .ref 35, .ref 36, .int (zn_I (n : Int)), .int (zn_I (m : Int)), .int (zn_I (u : Int)), .int (zn_I (x : Int)), .retAddr 0, .retAddr 0, .retAddr 0, .int (zn_I (c : Int)), .retAddr 0, .int pp, .retAddr 0, .retAddr 0, .retAddr 0, .retAddr 0, .retAddr 0, .retAddr 0, .retAddr 0, .retAddr 0, .retAddr 0, .retAddr 0] [] M := by
  have h64 := lb_pow hm6.2
  refine zx_iconst (v := zn_I 1) dL_law_862 rfl ?_
  refine zx_iload dL_law_863 rfl ?_
  refine zx_iconst (v := zn_I 3) dL_law_865 rfl ?_
  refine zy_idiv (a := x) (b := 3) dL_law_866 (by omega) ?_
  refine zx_bipush (v := zn_I 7) dL_law_867 (by decide) ?_
  refine zy_irem (a := x / 3) (b := 7) dL_law_869 (by omega) ?_
  refine zy_iadd dL_law_870 ?_
  refine zy_top (show _ = zn_I ((1 + x / 3 % 7 : Nat) : Int) from congrArg zn_I (by omega)) ?_
  obtain ⟨Q, eQ⟩ : ∃ Q, 1 + x / 3 % 7 = Q := ⟨_, rfl⟩
  have hQ : 1 ≤ Q ∧ Q < 8 := by omega
  rw [eQ]
  refine zx_istore dL_law_871 rfl (Nat.le_of_ble_eq_true rfl) ?_
  refine zx_iload dL_law_873 rfl ?_
  refine zx_bipush (v := zn_I 64) dL_law_875 (by decide) ?_
  refine zy_idiv (a := x) (b := 64) dL_law_877 (by omega) ?_
  refine zx_iconst (v := zn_I 1) dL_law_878 rfl ?_
  refine zx_iload dL_law_879 rfl ?_
  refine zx_ishl dL_law_881 ?_
  refine zy_top (show _ = zn_I ((2 ^ m : Nat) : Int) from by rw [zb_one m (by omega), zn_nat]) ?_
  refine zy_irem (a := x / 64) (b := 2 ^ m) dL_law_882 (by have := h64; have := Nat.two_pow_pos m; omega) ?_
  obtain ⟨lt, elt⟩ : ∃ lt, x / 64 % 2 ^ m = lt := ⟨_, rfl⟩
  have hlt : lt < 2 ^ m := by rw [← elt]; exact Nat.mod_lt _ (Nat.two_pow_pos m)
  rw [elt]
  refine zx_istore dL_law_883 rfl (Nat.le_of_ble_eq_true rfl) ?_
  refine zx_iconst (v := zn_I 0) dL_law_885 rfl ?_
  refine zx_istore dL_law_886 rfl (Nat.le_of_ble_eq_true rfl) ?_
  refine zx_iconst (v := zn_I 0) dL_law_888 rfl ?_
  refine zx_istore dL_law_889 rfl (Nat.le_of_ble_eq_true rfl) ?_
  exact lw_passes hI hm6 hn0 hQ hlt next
