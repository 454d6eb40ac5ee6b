/-! the people of the things -/
theorem ze_getD {p : List Nat} {x i : Nat} (h : i < p.length) : (p ++ [x]).getD i 0 = p.getD i 0 := by
  simp [List.getD, List.getElem?_append_left h]
def zt_pl (τ : zQ) : Nat → List Nat
  | 0 => []
  | t + 1 => if zt_per τ t then zt_pl τ t ++ [t] else zt_pl τ t
theorem zt_pl_mem {τ : zQ} : ∀ {t x : Nat}, x ∈ zt_pl τ t → x < t ∧ zt_per τ x
  | 0, x, h => by simp [zt_pl] at h
  | t + 1, x, h => by
    rw [zt_pl] at h
    split at h
    · next hp =>
      rcases List.mem_append.mp h with q | q
      · have := zt_pl_mem q; exact ⟨by omega, this.2⟩
      · rw [List.mem_singleton.mp q]; exact ⟨by omega, hp⟩
    · have := zt_pl_mem h; exact ⟨by omega, this.2⟩
theorem zt_pl_keep {τ : zQ} {t : Nat} : ∀ {u : Nat}, t ≤ u → (zt_pl τ t).length ≤ (zt_pl τ u).length ∧ ∀ i, i < (zt_pl τ t).length → (zt_pl τ u).getD i 0 = (zt_pl τ t).getD i 0
  | 0, h => by
    have : t = 0 := by omega
    subst this
    exact ⟨Nat.le_refl _, fun _ _ => rfl⟩
  | u + 1, h => by
    rcases Nat.lt_or_ge t (u + 1) with r | r
    · have ih := zt_pl_keep (τ := τ) (t := t) (u := u) (by omega)
      rw [zt_pl]
      split
      · refine ⟨by rw [List.length_append]; omega, fun i hi => ?_⟩
        rw [ze_getD (by omega)]
        exact ih.2 i hi
      · exact ih
    · have : t = u + 1 := by omega
      subst this
      exact ⟨Nat.le_refl _, fun _ _ => rfl⟩
theorem zt_pl_pop {τ : zQ} : ∀ t, t ≤ 8 → zb_pop 32 (zt_pb τ t) = (zt_pl τ t).length
  | 0, _ => by simp [zt_pb, zt_pl, zb_pop_0]
  | t + 1, h => by
    have ih := zt_pl_pop (τ := τ) t (by omega)
    rw [zt_pb, zt_pl]
    split
    · rw [zb_pop_put t 32 _ (zt_pb_lt τ t) (by omega), ih, List.length_append]
      rfl
    · rw [Nat.add_zero, ih]
def zt_m (τ : zQ) : Nat := (zt_pl τ τ.1).length
