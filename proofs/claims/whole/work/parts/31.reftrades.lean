/-! THE REFERENCE'S TRADES: rows of choices, one behind the other -/
def mn_k (f : Nat → Nat) : Nat → Nat
  | 0 => 0
  | j + 1 => if f (j + 1) < f j then mn_k f j else j + 1
def mn_m (f : Nat → Nat) (x : Nat) : Nat → Nat
  | 0 => 0
  | j + 1 => if f (j + 1) < x then mn_m f x j else j + 1
def mn_x (f : Nat → Nat) (i j : Nat) : Nat → Nat := fun u => if u = j then f i else if u = i then f j else f u
def mn_r (m K : Nat) : Nat → Nat → (Nat → Nat) → Nat → Nat
  | 0, _, f => f
  | n + 1, A, f => if A + A < m + K then mn_r m K n (A + 1) (mn_x f A (m + K - A)) else f
/-- the next row of choices -/
def mn_next (m : Nat) (f : Nat → Nat) : Option (Nat → Nat) :=
  if mn_k f (m - 1) = 0 then none else some (mn_r m (mn_k f (m - 1) - 1) 8 (mn_k f (m - 1)) (mn_x f (mn_k f (m - 1) - 1) (mn_m f (f (mn_k f (m - 1) - 1)) (m - 1))))
theorem mn_k_le (f : Nat → Nat) : ∀ j, mn_k f j ≤ j
  | 0 => Nat.le_refl 0
  | j + 1 => by
    have ih := mn_k_le f j
    rw [mn_k]
    split <;> omega
theorem mn_k_up (f : Nat → Nat) : ∀ j, 0 < mn_k f j → f (mn_k f j - 1) ≤ f (mn_k f j)
  | 0, h => absurd h (Nat.lt_irrefl 0)
  | j + 1, h => by
    rw [mn_k] at h ⊢
    split at h
    · next q => rw [if_pos q]; exact mn_k_up f j h
    · next q => rw [if_neg q]; show f j ≤ f (j + 1); omega
/-- as lists -/
def mn_l (m : Nat) (a : List Nat) : Option (List Nat) := (mn_next m (fun k => a.getD k 0)).map (fun g => (List.range m).map g)
def mn_chain (m : Nat) : List (List Nat) → Bool
  | [] => false
  | [a] => (mn_l m a).isNone
  | a :: b :: L => (mn_l m a == some b) && mn_chain m (b :: L)
theorem mn_all : ∀ m, m ≤ 6 → (mn_chain m (ze_ext m m []) = true ∧ (ze_ext m m []).head? = some (List.range m)) ∧ ∀ a ∈ ze_ext m m [], a.length = m ∧ ∀ x ∈ a, x < m := by decide +kernel
theorem mn_chain_at {m : Nat} : ∀ {L : List (List Nat)} {i : Nat} {a : List Nat}, mn_chain m L = true → L[i]? = some a → (L[i + 1]? = none ∧ mn_l m a = none) ∨ ∃ b, L[i + 1]? = some b ∧ mn_l m a = some b
  | [], i, a, h, e => by simp at e
  | [x], 0, a, h, e => by
    left
    simp at e
    subst e
    exact ⟨rfl, Option.isNone_iff_eq_none.mp h⟩
  | [x], i + 1, a, h, e => by simp at e
  | x :: y :: L, 0, a, h, e => by
    right
    simp at e
    subst e
    rw [mn_chain, Bool.and_eq_true] at h
    exact ⟨y, rfl, eq_of_beq h.1⟩
  | x :: y :: L, i + 1, a, h, e => by
    rw [mn_chain, Bool.and_eq_true] at h
    have := mn_chain_at (L := y :: L) (i := i) (a := a) h.2 (by simpa using e)
    simpa using this
/-- the people stand by f -/
def mt_arr (τ : zQ) (q : Nat) (f : Nat → Nat) : zQ := (τ.1, τ.2.1, τ.2.2.1, fun t u => if u = q ∧ zt_per τ t then f (zt_pl τ t).length else τ.2.2.2 t u)
theorem zt_pl_at {τ : zQ} {t u : Nat} (ht : zt_per τ t) (hu : t < u) : (zt_pl τ t).length < (zt_pl τ u).length ∧ (zt_pl τ u).getD (zt_pl τ t).length 0 = t := by
  have h1 := zt_pl_keep (τ := τ) (t := t + 1) (u := u) (by omega)
  have h2 : zt_pl τ (t + 1) = zt_pl τ t ++ [t] := by rw [zt_pl, if_pos ht]
  rw [h2, List.length_append] at h1
  have h3 : [t].length = 1 := rfl
  refine ⟨by omega, ?_⟩
  rw [h1.2 _ (by omega), ze_getD_last]
theorem zt_pe_at {τ : zQ} {t : Nat} (ht : zt_per τ t) (hu : t < τ.1) : (zt_pl τ t).length < zt_m τ ∧ zt_pe τ (zt_pl τ t).length = t := zt_pl_at ht hu
theorem zt_pe_ix {τ : zQ} {i : Nat} (hi : i < zt_m τ) : (zt_pl τ (zt_pe τ i)).length = i := by
  have h1 := zt_pe_in hi
  have h2 : ∀ n, ∀ j, j < (zt_pl τ n).length → (zt_pl τ ((zt_pl τ n).getD j 0)).length = j := by
    intro n
    induction n with
    | zero => intro j hj; exact absurd hj (by simp [zt_pl])
    | succ n ih =>
      intro j hj
      rw [zt_pl] at hj ⊢
      split at hj
      · next hp =>
        rw [if_pos hp]
        rw [List.length_append] at hj
        have h3 : [n].length = 1 := rfl
        by_cases e : j < (zt_pl τ n).length
        · rw [ze_getD e]; exact ih j e
        · have : j = (zt_pl τ n).length := by omega
          subst this
          rw [ze_getD_last]
      · next hp => rw [if_neg hp]; exact ih j hj
  exact h2 τ.1 i hi
theorem mt_arr_at {τ : zQ} {q : Nat} {f g : Nat → Nat} {k : Nat} (hk : k < zt_m τ) (h1 : ∀ i, i ≠ k → g i = f i) : zt_at (mt_arr τ q f) (zt_pe τ k) q (g k) = mt_arr τ q g := by
  unfold zt_at zt_mv mt_arr
  dsimp only
  congr 3
  funext t u
  by_cases e : t = zt_pe τ k
  · subst e
    have hp := (zt_pe_in hk).2
    have hx := zt_pe_ix hk
    by_cases eq : u = q
    · simp [eq, hp, hx]
    · simp [eq]
  · simp only [e, if_false]
    by_cases c : u = q ∧ zt_per τ t
    · rw [if_pos c, if_pos c, h1 _ ?_]
      intro hx
      apply e
      rcases Nat.lt_or_ge t τ.1 with r | r
      · rw [← hx, (zt_pe_at c.2 r).2]
      · have := (zt_pl_keep (τ := τ) (t := τ.1) (u := t) r).1
        unfold zt_m at hk
        omega
    · rw [if_neg c, if_neg c]
theorem mt_arr_id {M : zw_M} {n : Nat} {τ : zQ} {q : Nat} (hT : mT M n (mt_arr τ q (zt_sq τ q))) : mT M n τ := by
  obtain ⟨h1, h2, h3, h4, h5, h6, h7, h8⟩ := hT
  have e : ∀ t, t < τ.1 → ∀ u, (mt_arr τ q (zt_sq τ q)).2.2.2 t u = τ.2.2.2 t u := fun t ht u => by
    show (if u = q ∧ zt_per τ t then zt_sq τ q (zt_pl τ t).length else τ.2.2.2 t u) = _
    split
    · next c => rw [zt_sq, (zt_pe_at c.2 ht).2, c.1]
    · rfl
  exact ⟨h1, h2, h3, h4, fun t ht u hu => by rw [← e t ht u]; exact h5 t ht u hu, h6, h7, fun t ht u hu => by rw [← e t ht u]; exact h8 t ht u hu⟩
theorem mt_arr_sq {M : zw_M} {n : Nat} {τ : zQ} {q : Nat} (hT : mT M n τ) : mT M n (mt_arr τ q (zt_sq τ q)) := by
  obtain ⟨h1, h2, h3, h4, h5, h6, h7, h8⟩ := hT
  have e : ∀ t, t < τ.1 → ∀ u, (mt_arr τ q (zt_sq τ q)).2.2.2 t u = τ.2.2.2 t u := fun t ht u => by
    show (if u = q ∧ zt_per τ t then zt_sq τ q (zt_pl τ t).length else τ.2.2.2 t u) = _
    split
    · next c => rw [zt_sq, (zt_pe_at c.2 ht).2, c.1]
    · rfl
  exact ⟨h1, h2, h3, h4, fun t ht u hu => by rw [e t ht u]; exact h5 t ht u hu, h6, h7, fun t ht u hu => by rw [e t ht u]; exact h8 t ht u hu⟩
theorem mt_arr_e {π : zP} {τ : zQ} {q : Nat} {f : Nat → Nat} : ∀ t, t ≤ τ.1 → zl_e π (mt_arr τ q f) q t + zs_sum (fun i => zt_w τ (zt_pe τ i) * zp_e π (zt_sq τ q i)) (zt_pl τ t).length = zl_e π τ q t + zs_sum (fun i => zt_w τ (zt_pe τ i) * zp_e π (f i)) (zt_pl τ t).length ∧ zl_s π (mt_arr τ q f) q t + zs_sum (fun i => zt_w τ (zt_pe τ i) * zp_s π (zt_sq τ q i)) (zt_pl τ t).length = zl_s π τ q t + zs_sum (fun i => zt_w τ (zt_pe τ i) * zp_s π (f i)) (zt_pl τ t).length
  | 0, _ => by simp [zl_e, zl_s, zt_pl, zs_sum]
  | t + 1, h => by
    have ih := mt_arr_e (π := π) (τ := τ) (q := q) (f := f) t (by omega)
    have ew : zt_w (mt_arr τ q f) t = zt_w τ t := rfl
    rw [zl_e, zl_e, zl_s, zl_s, ew, zt_pl_len]
    by_cases c : zt_per τ t
    · have hx := (zt_pe_at c (show t < τ.1 by omega)).2
      have e1 : (mt_arr τ q f).2.2.2 t q = f (zt_pl τ t).length := by
        show (if q = q ∧ zt_per τ t then f (zt_pl τ t).length else τ.2.2.2 t q) = _
        rw [if_pos ⟨rfl, c⟩]
      rw [if_pos c, zs_sum, zs_sum, zs_sum, zs_sum, e1, zt_sq, hx]
      omega
    · have e1 : (mt_arr τ q f).2.2.2 t q = τ.2.2.2 t q := by
        show (if q = q ∧ zt_per τ t then f (zt_pl τ t).length else τ.2.2.2 t q) = _
        rw [if_neg (fun r => c r.2)]
      rw [if_neg c, Nat.add_zero, e1]
      omega
theorem zx_e_sum {E0 : Int} {f : Nat → Nat → Int} {p : List Nat} : ∀ i, zx_e E0 f p i = E0 + zs_sum (fun i => f i (p.getD i 0)) i
  | 0 => by simp [zx_e, zs_sum]
  | i + 1 => by rw [zx_e, zx_e_sum i, zs_sum]; omega
/-- what a row of choices comes to, in the reference -/
theorem mt_arr_ev {π : zP} {τ : zQ} {q : Nat} {a : List Nat} : zb_pop 32 (mwet π (mt_arr τ q (fun i => zt_sq τ q (a.getD i 0))) 0 0 0 q) = (ze_ev π τ (zt_m τ) (zt_pe τ) (zt_sq τ q) (zt_E0 π τ q) (zt_S0 π τ q) a).1 := by
  rw [mwet_0]
  show zb_pop 32 (zp_bits π (zl_E π (mt_arr τ q _) q) (zl_S π (mt_arr τ q _) q) (zp_n π)) = zp_wc π _ _
  have h := mt_arr_e (π := π) (τ := τ) (q := q) (f := fun i => zt_sq τ q (a.getD i 0)) τ.1 (Nat.le_refl _)
  have h1 : zl_E π (mt_arr τ q (fun i => zt_sq τ q (a.getD i 0))) q = zx_e (zt_E0 π τ q) (zg_e π τ (zt_pe τ) (zt_sq τ q)) a (zt_m τ) := by
    rw [zx_e_sum, zt_E0]
    have h2 := h.1
    unfold zl_E zg_e
    show zl_e π _ q τ.1 = _
    unfold zt_m at *
    omega
  have h3 : zl_S π (mt_arr τ q (fun i => zt_sq τ q (a.getD i 0))) q = zx_e (zt_S0 π τ q) (zg_s π τ (zt_pe τ) (zt_sq τ q)) a (zt_m τ) := by
    rw [zx_e_sum, zt_S0]
    have h2 := h.2
    unfold zl_S zg_s
    show zl_s π _ q τ.1 = _
    unfold zt_m at *
    omega
  rw [h1, h3]
  rfl
/-- the best so far, as numbers -/
def mb_w (acc : zE) : Nat := match acc with
  | none => 1048576
  | some (w, _, _) => w
def mb_m (acc : zE) : Nat := match acc with
  | none => 1048576
  | some (_, e, _) => e
theorem mb_upd {ev : List Nat → Nat × Nat} {acc : zE} {a : List Nat} (h : (ev a).1 ≤ 32) : ze_upd ev acc a = if (ev a).1 < mb_w acc ∨ ((ev a).1 = mb_w acc ∧ (ev a).2 < mb_m acc) then some ((ev a).1, (ev a).2, a) else acc := by
  unfold ze_upd
  cases acc with
  | none => dsimp only; rw [if_pos (Or.inl (by show _ < 1048576; omega))]
  | some x => rfl
def mB (M : zw_M) (m : Nat) (sq : Nat → Nat) (acc : zE) : Prop := M.1 33 26 = zn_I (mb_w acc : Nat) ∧ M.1 33 27 = zn_I (mb_m acc : Nat) ∧ mb_w acc ≤ 1048576 ∧ mb_m acc ≤ 1048576 ∧ ∀ w e b, acc = some (w, e, b) → ∀ i, i < m → M.1 43 i = zn_I (sq (b.getD i 0) : Nat)
/-- the last of m that is z -/
def mc_f (pe vs : Nat → Nat) (z : Int) : Nat → Int
  | 0 => -1
  | i + 1 => if (pe i : Int) = z then (vs i : Int) else mc_f pe vs z i
theorem mc_f_eq {pe vs : Nat → Nat} {z : Int} {m : Nat} (hd : ∀ i j, i < m → j < m → pe i = pe j → i = j) : ∀ i, i ≤ m → mc_f pe vs z i = zc_f pe vs z i ∧ (zc_f pe vs z i ≠ -1 → ∃ j, j < i ∧ (pe j : Int) = z)
  | 0, _ => ⟨rfl, fun h => absurd rfl h⟩
  | i + 1, h => by
    have ih := mc_f_eq (vs := vs) (z := z) hd i (by omega)
    rw [mc_f, zc_f]
    by_cases c : zc_f pe vs z i ≠ -1
    · obtain ⟨j, hj, hz⟩ := ih.2 c
      have : ¬ (pe i : Int) = z := fun r => by
        have := hd i j (by omega) (by omega) (by omega)
        omega
      rw [if_neg this, if_pos c]
      exact ⟨ih.1, fun _ => ⟨j, by omega, hz⟩⟩
    · rw [if_neg c, ih.1]
      by_cases e : (pe i : Int) = z
      · rw [if_pos e, if_pos e]
        exact ⟨rfl, fun _ => ⟨i, by omega, e⟩⟩
      · rw [if_neg e, if_neg e]
        exact ⟨by omega, fun r => absurd rfl r⟩
theorem zt_pe_inj {τ : zQ} {i j : Nat} (hi : i < zt_m τ) (hj : j < zt_m τ) (h : zt_pe τ i = zt_pe τ j) : i = j := by
  rw [← zt_pe_ix hi, ← zt_pe_ix hj, h]
