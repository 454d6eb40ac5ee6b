/-! BOTH SIDES: one state in two memories, and what holds all along -/
theorem zC_x {M M1 : zw_M} {σ : zZ} (h : mfr zml zmf M M1) (hC : zC_ M σ) : zC_ M1 σ :=
  zC_f (S := 33 :: zml) (fun p hp => h.1 p (fun q => hp (List.mem_cons_of_mem _ q)) (fun q => hp (by rw [q]; exact List.mem_cons_self))) hC (by decide)
theorem zJ_x {M M1 : zw_M} {σ : zZ} (h : zw_fr zcl M M1) (hJ : zJ_ M σ) : zJ_ M1 σ :=
  zJ_f (S := zcl) (F := []) ⟨fun p hp _ => h p hp, fun k _ => ⟨by rw [(h 33 (by decide)).1], by rw [(h 33 (by decide)).2]⟩⟩ hJ (by decide)
theorem zKok_mono {π : zP} {τ τ' : zQ} {κ : zK} (h : zKok π τ κ) (h1 : τ.1 ≤ τ'.1) (h2 : ∀ t, t < τ.1 → τ'.2.1 t = τ.2.1 t) : zKok π τ' κ := by
  cases κ with
  | none => exact trivial
  | some x =>
    obtain ⟨K, P⟩ := x
    obtain ⟨a, b, c⟩ : K ≤ τ.1 ∧ (∀ t, t < K → ∀ q, q < 8 → P t q < zp_n π) ∧ ∀ t, t < K → ¬ zt_per τ t → ∀ q, q < 8 → P t q = P t 0 := h
    show K ≤ τ'.1 ∧ (∀ t, t < K → ∀ q, q < 8 → P t q < zp_n π) ∧ ∀ t, t < K → ¬ zt_per τ' t → ∀ q, q < 8 → P t q = P t 0
    refine ⟨Nat.le_trans a h1, b, fun t ht hp q hq => c t ht (fun r => hp ?_) q hq⟩
    rcases r with r | r
    · exact Or.inl ((h2 t (by omega)).trans r)
    · exact Or.inr ((h2 t (by omega)).trans r)
theorem zok_mv {σ : zZ} (h : zok σ) {t : Nat} {f : Nat → Nat} (hc : ¬ zt_per σ.2.1 t → ∀ q, q < 8 → f q = f 0) : zok (zst σ (zt_mv σ.2.1 t f)) := by
  refine ⟨h.1, fun u hu hp q hq => ?_, zKok_mono h.2.2 (Nat.le_refl _) (fun _ _ => rfl)⟩
  show (if u = t then f else σ.2.1.2.2.2 u) q = (if u = t then f else σ.2.1.2.2.2 u) 0
  by_cases e : u = t
  · subst e
    rw [if_pos rfl]
    exact hc hp q hq
  · rw [if_neg e]
    exact h.2.1 u hu hp q hq
theorem zok_at {σ : zZ} (h : zok σ) {t q s : Nat} (hp : zt_per σ.2.1 t) : zok (zst σ (zt_at σ.2.1 t q s)) := zok_mv h (fun r => absurd hp r)
theorem zok_letters {σ : zZ} (h : zok σ) {w : Nat} : zok (zk_lettersS σ w) := h
theorem zok_blank {σ : zZ} (h : zok σ) : zok (zk_blankS σ) := h
theorem zok_plan {σ : zZ} (h : zok σ) : zok (zk_planS σ) := by
  unfold zk_planS
  split
  · exact ⟨h.1, fun t ht => absurd ht (Nat.not_lt_zero _), trivial⟩
  · exact h
theorem zok_thing {σ : zZ} (h : zok σ) {k w s : Int} : zok (zk_thingS σ k w s) := by
  unfold zk_thingS
  split
  · refine ⟨h.1, fun u hu hp q hq => ?_, zKok_mono h.2.2 (Nat.le_succ _) (fun t ht => if_neg (by omega))⟩
    show (if u = σ.2.1.1 then fun _ => s.toNat else σ.2.1.2.2.2 u) q = (if u = σ.2.1.1 then fun _ => s.toNat else σ.2.1.2.2.2 u) 0
    by_cases e : u = σ.2.1.1
    · rw [if_pos e]
    · rw [if_neg e]
      have hu2 : u < σ.2.1.1 + 1 := hu
      refine h.2.1 u (by omega) (fun r => hp ?_) q hq
      rcases r with r | r
      · exact Or.inl ((if_neg e).trans r)
      · exact Or.inr ((if_neg e).trans r)
  · exact h
theorem zok_stand {σ : zZ} (h : zok σ) {z q s : Int} : zok (zk_standS σ z q s) := by
  unfold zk_standS
  split
  · next c => exact zok_at h c.2
  · exact h
theorem zok_put {σ : zZ} (h : zok σ) {z s : Int} : zok (zk_putS σ z s) := by
  unfold zk_putS
  split
  · exact zok_mv h (fun _ _ _ => rfl)
  · exact h
theorem zok_trade {σ : zZ} (h : zok σ) {a b q : Int} : zok (zk_tradeS σ a b q) := by
  unfold zk_tradeS
  split
  · next c => exact zok_at (σ := zst σ (zt_at σ.2.1 a.toNat q.toNat (zpl σ b q))) (zok_at h c.2.1) c.2.2
  · exact h
theorem zok_trades {σ : zZ} (h : zok σ) {q w : Int} : zok (zk_tradesS σ q w) := by
  unfold zk_tradesS
  split
  · next c => exact ⟨⟨c.2.2.2, h.1.2⟩, h.2⟩
  · exact h
theorem zok_stones {σ : zZ} (h : zok σ) {w : Int} : zok (zk_stonesS σ w) := by
  unfold zk_stonesS
  split
  · next c => exact ⟨⟨h.1.1, c.2.2⟩, h.2⟩
  · exact h
theorem zok_image {M : zw_M} {σ : zZ} (h : zok σ) (hC : zC_ M σ) : zok (zk_imageS σ) := by
  unfold zk_imageS
  split
  · exact ⟨h.1, h.2.1, Nat.le_refl _, hC.2.1.2.2.2.2.2.2.2, h.2.1⟩
  · exact h
theorem zok_restore {σ : zZ} (h : zok σ) : zok (zk_restoreS σ) := by
  obtain ⟨π, τ, ρ, c, κ⟩ := σ
  cases κ with
  | none => exact h
  | some x =>
    obtain ⟨K, P⟩ := x
    obtain ⟨a, b, e⟩ : K ≤ τ.1 ∧ (∀ t, t < K → ∀ q, q < 8 → P t q < zp_n π) ∧ ∀ t, t < K → ¬ zt_per τ t → ∀ q, q < 8 → P t q = P t 0 := h.2.2
    exact ⟨h.1, e, Nat.le_refl _, b, e⟩
/-- how often a plan was read -/
abbrev zn_P (σ : zZ) : Nat := σ.2.2.2.1.1
theorem zn_plan {σ : zZ} : zn_P (zk_planS σ) ≤ zn_P σ + 1 := by
  unfold zk_planS
  split
  · exact Nat.le_refl _
  · exact Nat.le_succ _
theorem zn_thing {σ : zZ} {k w s : Int} : zn_P (zk_thingS σ k w s) = zn_P σ := by unfold zk_thingS; split <;> rfl
theorem zn_stand {σ : zZ} {z q s : Int} : zn_P (zk_standS σ z q s) = zn_P σ := by unfold zk_standS; split <;> rfl
theorem zn_put {σ : zZ} {z s : Int} : zn_P (zk_putS σ z s) = zn_P σ := by unfold zk_putS; split <;> rfl
theorem zn_trade {σ : zZ} {a b q : Int} : zn_P (zk_tradeS σ a b q) = zn_P σ := by unfold zk_tradeS; split <;> rfl
theorem zn_trades {σ : zZ} {q w : Int} : zn_P (zk_tradesS σ q w) = zn_P σ := by unfold zk_tradesS; split <;> rfl
theorem zn_stones {σ : zZ} {w : Int} : zn_P (zk_stonesS σ w) = zn_P σ := by unfold zk_stonesS; split <;> rfl
theorem zn_image {σ : zZ} : zn_P (zk_imageS σ) = zn_P σ := by unfold zk_imageS; split <;> rfl
theorem zn_restore {σ : zZ} : zn_P (zk_restoreS σ) = zn_P σ := by unfold zk_restoreS; split <;> rfl
/-- both sides hold the state σ; a plan was read n times at most -/
def zB (M : zw_M) (σ : zZ) (n : Nat) : Prop := zC_ M σ ∧ zJ_ M σ ∧ zok σ ∧ zn_P σ ≤ n
/-- at the start: no plan -/
def z0 : zZ := ((0, 0, fun _ => 0), (0, fun _ => 0, fun _ => 0, fun _ _ => 0), (0, fun _ => 0), (0, 0, 0), none)
def zM0 : zw_M := (fun p j => if p = 8 ∧ j = 5 then -1 else 0, fun _ _ => 0)
theorem zB_0 : zB zM0 z0 0 := by
  refine ⟨⟨?_, ?_, ?_, ⟨rfl, rfl, rfl⟩, rfl⟩, ⟨?_, ?_, ?_, ⟨rfl, rfl, rfl⟩, ⟨⟨rfl, rfl, rfl⟩, ⟨by decide, by decide⟩, ⟨by decide, by decide⟩, by decide, by decide⟩, ?_⟩, ⟨⟨by decide, by decide⟩, fun t ht => absurd ht (Nat.not_lt_zero _), trivial⟩, Nat.le_refl _⟩
  · exact ⟨⟨by decide, by decide⟩, rfl, rfl, rfl, rfl, fun s hs => absurd hs (Nat.not_lt_zero _), fun s hs => absurd hs (Nat.not_lt_zero _), fun s hs => absurd hs (Nat.not_lt_zero _), fun s hs => absurd hs (Nat.not_lt_zero _)⟩
  · exact ⟨by decide, rfl, fun s hs => absurd hs (Nat.not_lt_zero _), fun s hs => absurd hs (Nat.not_lt_zero _), fun s hs => absurd hs (Nat.not_lt_zero _), fun s hs => absurd hs (Nat.not_lt_zero _), fun s hs => absurd hs (Nat.not_lt_zero _), fun s hs => absurd hs (Nat.not_lt_zero _)⟩
  · exact ⟨by decide, rfl, fun s hs => absurd hs (Nat.not_lt_zero _), fun s hs => absurd hs (Nat.not_lt_zero _)⟩
  · exact ⟨⟨by decide, by decide⟩, rfl, rfl, rfl, fun s hs => absurd hs (Nat.not_lt_zero _), fun s hs => absurd hs (Nat.not_lt_zero _)⟩
  · exact ⟨by decide, rfl, fun s hs => absurd hs (Nat.not_lt_zero _), fun s hs => absurd hs (Nat.not_lt_zero _), fun s hs => absurd hs (Nat.not_lt_zero _), fun s hs => absurd hs (Nat.not_lt_zero _), fun s hs => absurd hs (Nat.not_lt_zero _), fun s hs => absurd hs (Nat.not_lt_zero _)⟩
  · exact ⟨by decide, rfl, fun s hs => absurd hs (Nat.not_lt_zero _), fun s hs => absurd hs (Nat.not_lt_zero _)⟩
  · exact ⟨0, 0, rfl, by decide, rfl, Or.inl rfl⟩
