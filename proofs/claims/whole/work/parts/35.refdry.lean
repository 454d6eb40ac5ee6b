/-! THE REFERENCE'S STONES: dry as the class has it -/
abbrev mdry (π : zP) (τ : zQ) (mo : Int) : Prop := ∀ q, q < 8 → mwet π τ 0 0 mo q = 0
theorem zp_bits_0 (π : zP) (a b : Int) : ∀ n, zp_bits π a b n = 0 ↔ ∀ s, s < n → ¬ zp_wet π a b s
  | 0 => ⟨fun _ s hs => absurd hs (Nat.not_lt_zero _), fun _ => rfl⟩
  | n + 1 => by
    have ih := zp_bits_0 π a b n
    have h2 := Nat.two_pow_pos n
    rw [zp_bits]
    constructor
    · intro h s hs
      have h3 : zp_bits π a b n = 0 := by omega
      by_cases e : s = n
      · subst e
        intro hw
        rw [if_pos hw] at h
        omega
      · exact ih.mp h3 s (by omega)
    · intro h
      rw [if_neg (h n (Nat.lt_succ_self _)), ih.mpr (fun s hs => h s (by omega))]
theorem zc_max_lt {f : Nat → Int} {c : Int} : ∀ n, zc_max f n < c ↔ ∀ q, q ≤ n → f q < c
  | 0 => ⟨fun h q hq => by rw [show q = 0 by omega]; exact h, fun h => h 0 (Nat.le_refl 0)⟩
  | n + 1 => by
    have ih := zc_max_lt (f := f) (c := c) n
    rw [zc_max]
    constructor
    · intro h q hq
      split at h
      · by_cases e : q = n + 1
        · rw [e]; exact h
        · exact ih.mp (by omega) q (by omega)
      · by_cases e : q = n + 1
        · rw [e]; omega
        · exact ih.mp h q (by omega)
    · intro h
      split
      · exact h _ (Nat.le_refl _)
      · exact ih.mpr (fun q hq => h q (by omega))
theorem zs_dry_iff {π : zP} {E S : Nat → Int} {a b : Int} : ∀ n, zs_dry π E S a b n = true ↔ ∀ s, s < n → ¬ zs_room π E S s ≤ zp_dip π s a b
  | 0 => ⟨fun _ s hs => absurd hs (Nat.not_lt_zero _), fun _ => rfl⟩
  | n + 1 => by
    have ih := zs_dry_iff (π := π) (E := E) (S := S) (a := a) (b := b) n
    rw [zs_dry, Bool.and_eq_true, ih]
    constructor
    · rintro ⟨h1, h2⟩ s hs
      by_cases e : s = n
      · rw [e]; simpa using h2
      · exact h1 s (by omega)
    · intro h
      exact ⟨fun s hs => h s (by omega), by simpa using h n (Nat.lt_succ_self _)⟩
theorem zp_dip_add {π : zP} {s : Nat} {a b c e : Int} : zp_dip π s (a + c) (b + e) = zp_dip π s a b + zp_dip π s c e := by
  unfold zp_dip
  rw [Int.add_mul, Int.add_mul]
  omega
theorem zs_link {π : zP} (hp : π.1 ≤ 5 ∧ π.2.1 ≤ 6) (hh : ∀ s, s < zp_n π → 0 ≤ π.2.2 s ∧ π.2.2 s ≤ 9) {E S : Nat → Int} {a b : Int} (ha : -50000 ≤ a ∧ a ≤ 50000) (hb : -50000 ≤ b ∧ b ≤ 50000) : zs_dry π E S a b (zp_n π) = true ↔ ∀ q, q < 8 → zp_bits π (E q + a) (S q + b) (zp_n π) = 0 := by
  rw [zs_dry_iff]
  constructor
  · intro h q hq
    rw [zp_bits_0]
    intro s hs hw
    have h1 := h s hs
    rw [zs_room, if_neg (by have := hw.1; omega)] at h1
    have h2 : zp_top π E S (s : Int) < 50 * π.2.2 s - zp_dip π s a b := by omega
    have h3 := (zc_max_lt 7).mp h2 q (by omega)
    rw [zp_at_in hs] at h3
    have h4 := hw.2
    rw [zp_dip_add] at h4
    omega
  · intro h s hs hr
    have hd := zp_dip_rng hp hs (a := a) (b := b) (B := 50000) ha hb
    have hh2 := hh s hs
    rw [zs_room] at hr
    split at hr
    · omega
    · have h2 : zp_top π E S (s : Int) < 50 * π.2.2 s - zp_dip π s a b := (zc_max_lt 7).mpr (fun q hq => by
        rw [zp_at_in hs]
        have h3 := (zp_bits_0 π _ _ _).mp (h q (by omega)) s hs
        rw [zp_wet, zp_dip_add] at h3
        omega)
      omega
theorem mdry_link {π : zP} (hp : π.1 ≤ 5 ∧ π.2.1 ≤ 6) (hh : ∀ s, s < zp_n π → 0 ≤ π.2.2 s ∧ π.2.2 s ≤ 9) {τ τ' : zQ} {a b : Int} (ha : -50000 ≤ a ∧ a ≤ 50000) (hb : -50000 ≤ b ∧ b ≤ 50000) (he : ∀ q, q < 8 → zl_E π τ' q = zl_E π τ q + a ∧ zl_S π τ' q = zl_S π τ q + b) : mdry π τ' 0 ↔ zs_dry π (zl_E π τ) (zl_S π τ) a b (zp_n π) = true := by
  rw [zs_link hp hh ha hb]
  constructor
  · intro h q hq
    have := h q hq
    rw [mwet_0, zwet, (he q hq).1, (he q hq).2] at this
    exact this
  · intro h q hq
    rw [mwet_0, zwet, (he q hq).1, (he q hq).2]
    exact h q hq
theorem zl_mv_p {π : zP} {τ : zQ} {t : Nat} {f : Nat → Nat} {q : Nat} : ∀ u, zl_e π (zt_mv τ t f) q u = zl_e π τ q u + (if t < u then zt_w τ t * zp_e π (f q) - zt_w τ t * zp_e π (τ.2.2.2 t q) else 0) ∧ zl_s π (zt_mv τ t f) q u = zl_s π τ q u + (if t < u then zt_w τ t * zp_s π (f q) - zt_w τ t * zp_s π (τ.2.2.2 t q) else 0)
  | 0 => by simp [zl_e, zl_s]
  | u + 1 => by
    have ih := zl_mv_p (π := π) (τ := τ) (t := t) (f := f) (q := q) u
    have ew : zt_w (zt_mv τ t f) u = zt_w τ u := rfl
    rw [zl_e, zl_e, zl_s, zl_s, ih.1, ih.2, ew]
    by_cases e : u = t
    · subst e
      have e2 : (zt_mv τ u f).2.2.2 u q = f q := by simp [zt_mv]
      rw [e2, if_neg (Nat.lt_irrefl _), if_pos (Nat.lt_succ_self _), if_neg (Nat.lt_irrefl _), if_pos (Nat.lt_succ_self _)]
      omega
    · have e2 : (zt_mv τ t f).2.2.2 u q = τ.2.2.2 u q := by simp [zt_mv, e]
      rw [e2]
      by_cases r : t < u
      · rw [if_pos r, if_pos r, if_pos (by omega), if_pos (by omega)]; omega
      · rw [if_neg r, if_neg r, if_neg (by omega), if_neg (by omega)]; omega
theorem zl_mv {π : zP} {τ : zQ} {t : Nat} {f : Nat → Nat} {q : Nat} (ht : t < τ.1) : zl_E π (zt_mv τ t f) q = zl_E π τ q - zt_w τ t * zp_e π (τ.2.2.2 t q) + zt_w τ t * zp_e π (f q) ∧ zl_S π (zt_mv τ t f) q = zl_S π τ q - zt_w τ t * zp_s π (τ.2.2.2 t q) + zt_w τ t * zp_s π (f q) := by
  have h := zl_mv_p (π := π) (τ := τ) (t := t) (f := f) (q := q) τ.1
  rw [if_pos ht, if_pos ht] at h
  show zl_e π (zt_mv τ t f) q τ.1 = zl_e π τ q τ.1 - _ + _ ∧ zl_s π (zt_mv τ t f) q τ.1 = zl_s π τ q τ.1 - _ + _
  omega
theorem zs_fst_congr {α : Type} {f g : Nat → Option α} : ∀ n, (∀ i, i < n → f i = g i) → zs_fst f n = zs_fst g n
  | 0, _ => rfl
  | n + 1, h => by rw [zs_fst, zs_fst, zs_fst_congr n (fun i hi => h i (by omega)), h n (Nat.lt_succ_self _)]
theorem zs_fst_none {α : Type} {f : Nat → Option α} : ∀ n, zs_fst f n = none ↔ ∀ i, i < n → f i = none
  | 0 => ⟨fun _ i hi => absurd hi (Nat.not_lt_zero _), fun _ => rfl⟩
  | n + 1 => by
    have ih := zs_fst_none (f := f) n
    rw [zs_fst]
    constructor
    · intro h i hi
      cases e : zs_fst f n with
      | some x => rw [e] at h; cases h
      | none =>
        rw [e] at h
        by_cases c : i = n
        · rw [c]; exact h
        · exact ih.mp e i (by omega)
    · intro h
      rw [ih.mpr (fun i hi => h i (by omega))]
      exact h n (Nat.lt_succ_self _)
/-- the first stone of a number from one on that helps, put elsewhere -/
def mh_g (π : zP) (τ : zQ) (t : Nat) : Nat → Option (List (Nat × Nat)) := fun sq => if mdry π (zt_mv τ t (fun _ => sq)) 0 then some [(t, sq)] else none
def mh_f (π : zP) (τ : zQ) (from_ : Nat) : Nat → Option (List (Nat × Nat)) := fun t => if t < from_ ∨ τ.2.1 t ≠ 1 then none else zs_fst (mh_g π τ t) (zp_n π)
def mh (π : zP) (τ : zQ) (from_ : Nat) : Option (List (Nat × Nat)) := zs_fst (mh_f π τ from_) τ.1
def mh2_g (π : zP) (τ : zQ) (t : Nat) : Nat → Option (List (Nat × Nat)) := fun sq => (mh π (zt_mv τ t (fun _ => sq)) (t + 1)).map (fun l => (t, sq) :: l)
def mh2_f (π : zP) (τ : zQ) : Nat → Option (List (Nat × Nat)) := fun t => if τ.2.1 t ≠ 1 then none else zs_fst (mh2_g π τ t) (zp_n π)
def mh2 (π : zP) (τ : zQ) : Option (List (Nat × Nat)) := zs_fst (mh2_f π τ) τ.1
/-- stones stand all day -/
def mst (τ : zQ) : Prop := ∀ t, t < τ.1 → τ.2.1 t = 1 → ∀ q, q < 8 → τ.2.2.2 t q = τ.2.2.2 t 0
theorem zs_mv_1 (π : zP) (τ : zQ) (E S : Nat → Int) (least : Nat) (a b : Int) : zs_mv π τ E S 1 least a b = zs_fst (fun t => if t < least ∨ τ.2.1 t ≠ 1 then none else zs_fst (fun sq => if sq = τ.2.2.2 t 0 then none else (if zs_dry π E S (zs_a π τ t sq a) (zs_b π τ t sq b) (zp_n π) = true then some [] else none : Option (List (Nat × Nat))).map (fun l => (t, sq) :: l)) (zp_n π)) τ.1 := rfl
theorem zs_ab2 {M : zw_M} {π : zP} {τ : zQ} (hp : π.1 ≤ 5 ∧ π.2.1 ≤ 6) (hT : mT M (zp_n π) τ) {t sq : Nat} (ht : t < τ.1) (hs : sq < zp_n π) {a b B : Int} (ha : -B ≤ a ∧ a ≤ B) (hb : -B ≤ b ∧ b ≤ B) : (-(B + 2000) ≤ zs_a π τ t sq a ∧ zs_a π τ t sq a ≤ B + 2000) ∧ -(B + 2000) ≤ zs_b π τ t sq b ∧ zs_b π τ t sq b ≤ B + 2000 := by
  have hw := mt_w_rng hT ht
  have hl := hT.2.2.2.2.2.2.2 t ht 0 (by omega)
  have e1 := zp_e_rng hp hl
  have e2 := zp_s_rng hp hl
  have e3 := zp_e_rng hp hs
  have e4 := zp_s_rng hp hs
  have h1 := zp_mul_rng (a := zt_w τ t) (e := zp_e π (τ.2.2.2 t 0)) (B := 198) (by omega) (by omega) (by omega) (by omega)
  have h2 := zp_mul_rng (a := zt_w τ t) (e := zp_s π (τ.2.2.2 t 0)) (B := 198) (by omega) (by omega) (by omega) (by omega)
  have h3 := zp_mul_rng (a := zt_w τ t) (e := zp_e π sq) (B := 198) (by omega) (by omega) (by omega) (by omega)
  have h4 := zp_mul_rng (a := zt_w τ t) (e := zp_s π sq) (B := 198) (by omega) (by omega) (by omega) (by omega)
  unfold zs_a zs_b
  omega
theorem mh_gen {M : zw_M} {π : zP} {τ τ1 : zQ} {from_ : Nat} {a b : Int} (hp : π.1 ≤ 5 ∧ π.2.1 ≤ 6) (hh : ∀ s, s < zp_n π → 0 ≤ π.2.2 s ∧ π.2.2 s ≤ 9) (hT : mT M (zp_n π) τ) (h1 : τ1.1 = τ.1) (hk : τ1.2.1 = τ.2.1) (hw : τ1.2.2.1 = τ.2.2.1) (hP : ∀ t, from_ ≤ t → t < τ.1 → ∀ q, τ1.2.2.2 t q = τ.2.2.2 t q) (hst : mst τ) (hE : ∀ q, q < 8 → zl_E π τ1 q = zl_E π τ q + a ∧ zl_S π τ1 q = zl_S π τ q + b) (hnd : ¬ zs_dry π (zl_E π τ) (zl_S π τ) a b (zp_n π) = true) (ha : -2000 ≤ a ∧ a ≤ 2000) (hb : -2000 ≤ b ∧ b ≤ 2000) : mh π τ1 from_ = zs_mv π τ (zl_E π τ) (zl_S π τ) 1 from_ a b := by
  rw [zs_mv_1, mh, h1]
  refine zs_fst_congr _ (fun t ht => ?_)
  unfold mh_f
  rw [hk]
  by_cases c : t < from_ ∨ τ.2.1 t ≠ 1
  · rw [if_pos c, if_pos c]
  · rw [if_neg c, if_neg c]
    refine zs_fst_congr _ (fun sq hsq => ?_)
    have hc1 : from_ ≤ t := by omega
    have hc2 : τ.2.1 t = 1 := Classical.byContradiction fun r => c (Or.inr r)
    have hwt : zt_w τ1 t = zt_w τ t := by unfold zt_w; rw [hk, hw]
    have hl : ∀ q, q < 8 → zl_E π (zt_mv τ1 t (fun _ => sq)) q = zl_E π τ q + zs_a π τ t sq a ∧ zl_S π (zt_mv τ1 t (fun _ => sq)) q = zl_S π τ q + zs_b π τ t sq b := fun q hq => by
      have h2 := zl_mv (π := π) (τ := τ1) (t := t) (f := fun _ => sq) (q := q) (by rw [h1]; exact ht)
      rw [hwt, hP t hc1 ht q, hst t ht hc2 q hq, (hE q hq).1, (hE q hq).2] at h2
      unfold zs_a zs_b
      omega
    have hab := zs_ab2 hp hT ht hsq (B := 2000) ha hb
    have hdl := mdry_link hp hh (τ := τ) (a := zs_a π τ t sq a) (b := zs_b π τ t sq b) (by omega) (by omega) hl
    unfold mh_g
    by_cases e : sq = τ.2.2.2 t 0
    · rw [if_pos e, if_neg]
      intro hd
      have hd2 := hdl.mp hd
      have ea : zs_a π τ t sq a = a := by unfold zs_a; rw [e]; omega
      have eb : zs_b π τ t sq b = b := by unfold zs_b; rw [e]; omega
      rw [ea, eb] at hd2
      exact hnd hd2
    · rw [if_neg e]
      by_cases hd : zs_dry π (zl_E π τ) (zl_S π τ) (zs_a π τ t sq a) (zs_b π τ t sq b) (zp_n π) = true
      · rw [if_pos hd, if_pos (hdl.mpr hd)]; rfl
      · rw [if_neg hd, if_neg (fun r => hd (hdl.mp r))]; rfl
theorem mh_1 {M : zw_M} {π : zP} {τ : zQ} (hp : π.1 ≤ 5 ∧ π.2.1 ≤ 6) (hh : ∀ s, s < zp_n π → 0 ≤ π.2.2 s ∧ π.2.2 s ≤ 9) (hT : mT M (zp_n π) τ) (hst : mst τ) (hnd : ¬ zs_dry π (zl_E π τ) (zl_S π τ) 0 0 (zp_n π) = true) : mh π τ 0 = zs_mv π τ (zl_E π τ) (zl_S π τ) 1 0 0 0 :=
  mh_gen hp hh hT rfl rfl rfl (fun _ _ _ _ => rfl) hst (fun q _ => ⟨by omega, by omega⟩) hnd (by omega) (by omega)
theorem mh_2 {M : zw_M} {π : zP} {τ : zQ} (hp : π.1 ≤ 5 ∧ π.2.1 ≤ 6) (hh : ∀ s, s < zp_n π → 0 ≤ π.2.2 s ∧ π.2.2 s ≤ 9) (hT : mT M (zp_n π) τ) (hst : mst τ) (hnd : ¬ zs_dry π (zl_E π τ) (zl_S π τ) 0 0 (zp_n π) = true) (hno : zs_mv π τ (zl_E π τ) (zl_S π τ) 1 0 0 0 = none) : mh2 π τ = zs_mv π τ (zl_E π τ) (zl_S π τ) 2 0 0 0 := by
  have hF := hno
  rw [zs_mv_1, zs_fst_none] at hF
  have hG : ∀ t, t < τ.1 → τ.2.1 t = 1 → ∀ sq, sq < zp_n π → sq ≠ τ.2.2.2 t 0 → ¬ zs_dry π (zl_E π τ) (zl_S π τ) (zs_a π τ t sq 0) (zs_b π τ t sq 0) (zp_n π) = true := fun t ht hk sq hsq hne hd => by
    have h1 := hF t ht
    rw [if_neg (by omega), zs_fst_none] at h1
    have h2 := h1 sq hsq
    rw [if_neg hne, if_pos hd] at h2
    cases h2
  have hL : ∀ least, zs_mv π τ (zl_E π τ) (zl_S π τ) 1 least 0 0 = none := fun least => by
    rw [zs_mv_1, zs_fst_none]
    intro t ht
    have h1 := hF t ht
    by_cases c : t < least ∨ τ.2.1 t ≠ 1
    · rw [if_pos c]
    · rw [if_neg c]
      rw [if_neg (by omega)] at h1
      exact h1
  show zs_fst (mh2_f π τ) τ.1 = zs_fst (fun t => if t < 0 ∨ τ.2.1 t ≠ 1 then none else zs_fst (fun sq => if sq = τ.2.2.2 t 0 then none else (zs_mv π τ (zl_E π τ) (zl_S π τ) 1 (t + 1) (zs_a π τ t sq 0) (zs_b π τ t sq 0)).map (fun l => (t, sq) :: l)) (zp_n π)) τ.1
  refine zs_fst_congr _ (fun t ht => ?_)
  unfold mh2_f
  by_cases c : τ.2.1 t ≠ 1
  · rw [if_pos c, if_pos (Or.inr c)]
  · rw [if_neg c, if_neg (by omega)]
    have hk : τ.2.1 t = 1 := Classical.byContradiction fun r => c r
    refine zs_fst_congr _ (fun sq hsq => ?_)
    unfold mh2_g
    have hab := zs_ab2 hp hT ht hsq (a := 0) (b := 0) (B := 0) (by omega) (by omega)
    have hl : ∀ q, q < 8 → zl_E π (zt_mv τ t (fun _ => sq)) q = zl_E π τ q + zs_a π τ t sq 0 ∧ zl_S π (zt_mv τ t (fun _ => sq)) q = zl_S π τ q + zs_b π τ t sq 0 := fun q hq => by
      have h2 := zl_mv (π := π) (τ := τ) (t := t) (f := fun _ => sq) (q := q) ht
      rw [hst t ht hk q hq] at h2
      unfold zs_a zs_b
      omega
    have hPt : ∀ u, t + 1 ≤ u → u < τ.1 → ∀ q, (zt_mv τ t (fun _ => sq)).2.2.2 u q = τ.2.2.2 u q := fun u hu _ q => by
      have : ¬ u = t := by omega
      simp [zt_mv, this]
    by_cases e : sq = τ.2.2.2 t 0
    · have ea : zs_a π τ t sq 0 = 0 := by unfold zs_a; rw [e]; omega
      have eb : zs_b π τ t sq 0 = 0 := by unfold zs_b; rw [e]; omega
      rw [ea, eb] at hl
      rw [if_pos e, mh_gen (τ1 := zt_mv τ t (fun _ => sq)) hp hh hT rfl rfl rfl hPt hst hl hnd (by omega) (by omega), hL]
      rfl
    · rw [if_neg e, mh_gen (τ1 := zt_mv τ t (fun _ => sq)) hp hh hT rfl rfl rfl hPt hst hl (hG t ht hk sq hsq e) (by omega) (by omega)]
