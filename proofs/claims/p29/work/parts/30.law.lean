/-! THE LAW'S OWN NUMBERS: the script's cells, letters of a plan as it is written -/
abbrev iL_law : zw_I := (yL_law, code, 26, some .boolean)
theorem zn_mask (x : Int32) (m : Nat) (hm : m < 2147483648) : ∃ k : Nat, k ≤ m ∧ x &&& zn_I (m : Int) = zn_I (k : Int) := by
  refine ⟨x.toBitVec.toNat &&& m, Nat.and_le_right, ?_⟩
  rw [← zn_nat, ← zn_nat]
  apply Int32.toBitVec_inj.1
  apply BitVec.eq_of_toNat_eq
  show (x.toBitVec &&& BitVec.ofNat 32 m).toNat = (BitVec.ofNat 32 (x.toBitVec.toNat &&& m)).toNat
  have h1 : x.toBitVec.toNat &&& m ≤ m := Nat.and_le_right
  rw [BitVec.toNat_and, BitVec.toNat_ofNat, BitVec.toNat_ofNat, Nat.mod_eq_of_lt (by omega), Nat.mod_eq_of_lt (by omega)]
theorem zy_mask {l : zw_Lh} {d : Nat} {y : zw_I} {Q : Option Value → zw_M → Prop} {pc : Nat} {L st : List Value} {M : zw_M} {x : Int32} (m : Nat) (hm : m < 2147483648) (k : ∀ v : Nat, v ≤ m → zw_X l d y Q pc L (.int (zn_I (v : Int)) :: st) M) : zw_X l d y Q pc L (.int (x &&& zn_I (m : Int)) :: st) M := by
  obtain ⟨v, h1, h2⟩ := zn_mask x m hm
  rw [h2]
  exact k v h1
/-- the k-th cell of the script, or what stands for it -/
def lS (l : zw_Lh) (k : Nat) : Nat := ((if k < l.2.1 then l.2.2 k else zn_I (7919 * (k : Int) + 13)) &&& zn_I ((2147483647 : Nat) : Int)).toInt.toNat
theorem lS_I (l : zw_Lh) (k : Nat) : (if k < l.2.1 then l.2.2 k else zn_I (7919 * (k : Int) + 13)) &&& zn_I ((2147483647 : Nat) : Int) = zn_I (lS l k : Int) ∧ lS l k < 2147483648 := by
  unfold lS
  obtain ⟨v, h1, h2⟩ := zn_mask (if k < l.2.1 then l.2.2 k else zn_I (7919 * (k : Int) + 13)) 2147483647 (by decide)
  rw [h2, zn_toInt ⟨by omega, by omega⟩, Int.toNat_natCast]
  exact ⟨rfl, by omega⟩
theorem lS_lt (l : zw_Lh) (k : Nat) : lS l k < 2147483648 := (lS_I l k).2
/-! letters one by one -/
theorem lg_told : ∀ c, c < 127 → 0 < c → zg_told c 8 = some 1 ∧ zg_c c 0 = c := by decide +kernel
theorem lg_i2l : ∀ c : Nat, c < 127 → (zn_I (c : Int)).toInt64 = lN c := by decide +kernel
theorem lg_addA {ρ : zR} {c : Nat} (hc : c < 127) (h0 : 0 < c) (h : ρ.1 < 40) : zg_addA ρ c = ((ρ.1 + 1 : Nat) : Int) := by
  rw [zg_addA, (lg_told c hc h0).1]
  dsimp only
  rw [if_neg (by omega)]
theorem lg_addR {ρ : zR} {c : Nat} (hc : c < 127) (h0 : 0 < c) (h : ρ.1 < 40) : zg_addR ρ c = zg_put ρ c 1 := by
  rw [zg_addR, (lg_told c hc h0).1]
  dsimp only
  rw [if_neg (by omega)]
theorem lg_at {ρ : zR} {c i : Nat} (h : i < ρ.1) : (zg_put ρ c 1).2 i = ρ.2 i := by
  show (if i < ρ.1 then _ else _) = _
  rw [if_pos h]
theorem lg_end {ρ : zR} {c : Nat} (hc : c < 127) (h0 : 0 < c) : (zg_put ρ c 1).2 ρ.1 = c := by
  show (if ρ.1 < ρ.1 then _ else zg_c c (ρ.1 - ρ.1)) = _
  rw [if_neg (Nat.lt_irrefl _), Nat.sub_self]
  exact (lg_told c hc h0).2
theorem lg_go {ρ : zR} {c : Nat} : ∀ i, i ≤ ρ.1 → zq_go (zg_put ρ c 1) i = zq_go ρ i
  | 0, _ => rfl
  | i + 1, h => by rw [zq_go, zq_go, lg_go i (by omega), lg_at (by omega)]
theorem lg_k {ρ : zR} {c : Nat} : ∀ i, i ≤ ρ.1 → zr_k (zg_put ρ c 1) i = zr_k ρ i
  | 0, _ => rfl
  | i + 1, h => by rw [zr_k, zr_k, lg_k i (by omega), lg_at (by omega)]
theorem lg_H {ρ : zR} {c : Nat} : ∀ i, i ≤ ρ.1 → zr_H (zg_put ρ c 1) i = zr_H ρ i
  | 0, _ => rfl
  | i + 1, h => by rw [zr_H, zr_H, lg_H i (by omega), lg_k i (by omega), lg_at (by omega)]
/-- all letters are taken, c squares of them -/
def lP (ρ : zR) (σA : zA) (c : Nat) : Prop := zq_go ρ ρ.1 = (ρ.1, σA) ∧ zr_k ρ ρ.1 = c
theorem lP_go {ρ : zR} {σA σB : zA} {c x : Nat} (hx : x < 127) (h0 : 0 < x) (h : lP ρ σA c) (ht : zq_take σA x = some σB) : zq_go (zg_put ρ x 1) (ρ.1 + 1) = (ρ.1 + 1, σB) := by
  rw [zq_go, lg_go _ (Nat.le_refl _), h.1, lg_end hx h0, if_neg (by dsimp only; omega)]
  dsimp only
  rw [ht]
theorem lP_slash {ρ : zR} {σA σB : zA} {c : Nat} (h : lP ρ σA c) (ht : zq_take σA 47 = some σB) : lP (zg_put ρ 47 1) σB c ∧ zr_H (zg_put ρ 47 1) (zg_put ρ 47 1).1 = zr_H ρ ρ.1 := by
  refine ⟨⟨lP_go (by decide) (by decide) h ht, ?_⟩, ?_⟩
  · show zr_k (zg_put ρ 47 1) (ρ.1 + 1) = c
    rw [zr_k, lg_end (by decide) (by decide), if_pos rfl, lg_k _ (Nat.le_refl _), h.2]
  · show zr_H (zg_put ρ 47 1) (ρ.1 + 1) = _
    rw [zr_H, lg_end (by decide) (by decide), if_pos rfl, lg_H _ (Nat.le_refl _)]
theorem lP_sq {ρ : zR} {σA σB : zA} {c x : Nat} (hx : x < 127) (h0 : 0 < x) (h47 : x ≠ 47) (h : lP ρ σA c) (ht : zq_take σA x = some σB) : lP (zg_put ρ x 1) σB (c + 1) ∧ zr_H (zg_put ρ x 1) (zg_put ρ x 1).1 = fun s => if s = c then zr_g x else zr_H ρ ρ.1 s := by
  refine ⟨⟨lP_go hx h0 h ht, ?_⟩, ?_⟩
  · show zr_k (zg_put ρ x 1) (ρ.1 + 1) = c + 1
    rw [zr_k, lg_end hx h0, if_neg h47, lg_k _ (Nat.le_refl _), h.2]
  · show zr_H (zg_put ρ x 1) (ρ.1 + 1) = _
    rw [zr_H, lg_end hx h0, if_neg h47, lg_H _ (Nat.le_refl _), lg_k _ (Nat.le_refl _), h.2]
/-- where the writing of r rows of w squares stands, at square c: the row that is begun, how many squares of it are written -/
def lJ (w r c : Nat) (σA : zA) : Prop := 1 ≤ σA.1 ∧ σA.1 ≤ r ∧ c = (σA.1 - 1) * w + σA.2.2 ∧ σA.2.2 ≤ w ∧ (σA.1 = 1 → σA.2.1 = 0) ∧ (σA.1 ≠ 1 → σA.2.1 = w)
/-- a new row -/
theorem lJ_row {w r c : Nat} {σA : zA} (hw : 2 ≤ w ∧ w ≤ 6) (hr : 2 ≤ r ∧ r ≤ 5) (h : lJ w r c σA) (h0 : 0 < c) (hc : c < r * w) (hm : c % w = 0) (hp : 0 < σA.2.2) : ∃ σB : zA, zq_take σA 47 = some σB ∧ lJ w r c σB ∧ σB.1 = σA.1 + 1 ∧ σB.2.2 < w := by
  obtain ⟨h1, h2, h3, h4, h5, h6⟩ := h
  have e : σA.2.2 = w := by
    rw [h3, Nat.mul_comm, Nat.mul_add_mod] at hm
    rcases Nat.lt_or_ge σA.2.2 w with q | q
    · rw [Nat.mod_eq_of_lt q] at hm; omega
    · omega
  have hrow : c = σA.1 * w := by
    rw [h3, e]
    have : (σA.1 - 1) * w + w = (σA.1 - 1 + 1) * w := by rw [Nat.succ_mul]
    rw [this, Nat.sub_add_cancel h1]
  have hlt : σA.1 < r := Nat.lt_of_mul_lt_mul_right (a := w) (by rw [← hrow]; exact hc)
  refine ⟨(σA.1 + 1, σA.2.2, 0), ?_, ⟨by dsimp only; omega, by dsimp only; omega, ?_, by dsimp only; omega, by dsimp only; omega, by dsimp only; omega⟩, rfl, by dsimp only; omega⟩
  · have hc : ((σA.1 = 1 ∧ 2 ≤ σA.2.2) ∨ (σA.1 ≠ 1 ∧ σA.2.2 = σA.2.1)) ∧ σA.1 < 5 := by
      refine ⟨?_, by omega⟩
      by_cases q : σA.1 = 1
      · exact Or.inl ⟨q, by omega⟩
      · exact Or.inr ⟨q, by rw [h6 q, e]⟩
    rw [zq_take, if_pos rfl, if_pos hc]
  · show c = (σA.1 + 1 - 1) * w + 0
    rw [Nat.add_sub_cancel, Nat.add_zero]
    exact hrow
/-- a square more -/
theorem lJ_sq {w r c x : Nat} {σA : zA} (hw : 2 ≤ w ∧ w ≤ 6) (h : lJ w r c σA) (hf : σA.2.2 < w) (hx : x = 46 ∨ (49 ≤ x ∧ x ≤ 57)) : ∃ σB : zA, zq_take σA x = some σB ∧ lJ w r (c + 1) σB ∧ σB.1 = σA.1 ∧ 0 < σB.2.2 := by
  obtain ⟨h1, h2, h3, h4, h5, h6⟩ := h
  refine ⟨(σA.1, σA.2.1, σA.2.2 + 1), ?_, ⟨h1, h2, by dsimp only; omega, by dsimp only; omega, h5, h6⟩, rfl, by dsimp only; omega⟩
  have hc : (x = 46 ∨ (49 ≤ x ∧ x ≤ 57)) ∧ ((σA.1 = 1 ∧ σA.2.2 < 6) ∨ (σA.1 ≠ 1 ∧ σA.2.2 < σA.2.1)) := by
    refine ⟨hx, ?_⟩
    by_cases q : σA.1 = 1
    · exact Or.inl ⟨q, by omega⟩
    · exact Or.inr ⟨q, by rw [h6 q]; exact hf⟩
  rw [zq_take, if_neg (by omega), if_pos hc]
/-- no new row -/
theorem lJ_in {w r c : Nat} {σA : zA} (h : lJ w r c σA) (hw : 2 ≤ w) (hm : c = 0 ∨ c % w ≠ 0) : σA.2.2 < w := by
  obtain ⟨h1, h2, h3, h4, h5, h6⟩ := h
  rcases hm with hm | hm
  · omega
  · rw [h3, Nat.mul_comm, Nat.mul_add_mod] at hm
    rcases Nat.lt_or_ge σA.2.2 w with q | q
    · exact q
    · rw [show σA.2.2 = w by omega, Nat.mod_self] at hm; exact absurd rfl hm
/-- the whole plan -/
theorem lJ_end {w r : Nat} {σA : zA} (hw : 2 ≤ w) (hr : 2 ≤ r) (h : lJ w r (r * w) σA) (hp : 0 < σA.2.2) : σA.1 = r ∧ σA.2.1 = w ∧ σA.2.2 = w := by
  obtain ⟨h1, h2, h3, h4, h5, h6⟩ := h
  have hm : r * w % w = 0 := Nat.mul_mod_left r w
  have e : σA.2.2 = w := by
    rw [h3, Nat.mul_comm, Nat.mul_add_mod] at hm
    rcases Nat.lt_or_ge σA.2.2 w with q | q
    · rw [Nat.mod_eq_of_lt q] at hm; omega
    · omega
  have hrow : r * w = σA.1 * w := by
    rw [h3, e]
    have : (σA.1 - 1) * w + w = (σA.1 - 1 + 1) * w := by rw [Nat.succ_mul]
    rw [this, Nat.sub_add_cancel h1]
  have hE : σA.1 = r := (Nat.eq_of_mul_eq_mul_right (by omega) hrow).symm
  exact ⟨hE, h6 (by omega), e⟩
/-- the page as it stands at square c -/
def lW (ρ : zR) (w r c : Nat) (σA : zA) : Prop := lP ρ σA c ∧ lJ w r c σA ∧ ρ.1 + 1 = c + σA.1
theorem lW_0 {ρ : zR} {w r : Nat} (h : ρ.1 = 0) (hr : 2 ≤ r) : lW ρ w r 0 (1, 0, 0) := ⟨⟨by rw [h]; rfl, by rw [h]; rfl⟩, ⟨by decide, by dsimp only; omega, by dsimp only; omega, by dsimp only; omega, fun _ => rfl, fun q => absurd rfl q⟩, by rw [h]⟩
theorem lW_row {ρ : zR} {w r c : Nat} {σA : zA} (hw : 2 ≤ w ∧ w ≤ 6) (hr : 2 ≤ r ∧ r ≤ 5) (h : lW ρ w r c σA) (h0 : 0 < c) (hc : c < r * w) (hm : c % w = 0) (hp : 0 < σA.2.2) : ∃ σB, lW (zg_put ρ 47 1) w r c σB ∧ σB.2.2 < w ∧ zr_H (zg_put ρ 47 1) (zg_put ρ 47 1).1 = zr_H ρ ρ.1 := by
  obtain ⟨σB, e1, e2, e3, e4⟩ := lJ_row hw hr h.2.1 h0 hc hm hp
  obtain ⟨f1, f2⟩ := lP_slash h.1 e1
  have := h.2.2
  exact ⟨σB, ⟨f1, e2, by show ρ.1 + 1 + 1 = _; omega⟩, e4, f2⟩
theorem lW_sq {ρ : zR} {w r c x : Nat} {σA : zA} (hw : 2 ≤ w ∧ w ≤ 6) (h : lW ρ w r c σA) (hf : σA.2.2 < w) (hx : x = 46 ∨ (49 ≤ x ∧ x ≤ 57)) : ∃ σB, lW (zg_put ρ x 1) w r (c + 1) σB ∧ 0 < σB.2.2 ∧ zr_H (zg_put ρ x 1) (zg_put ρ x 1).1 = fun s => if s = c then zr_g x else zr_H ρ ρ.1 s := by
  obtain ⟨σB, e1, e2, e3, e4⟩ := lJ_sq hw h.2.1 hf hx
  obtain ⟨f1, f2⟩ := lP_sq (by omega) (by omega) (by omega) h.1 e1
  have := h.2.2
  exact ⟨σB, ⟨f1, e2, by show ρ.1 + 1 + 1 = _; omega⟩, e4, f2⟩
theorem lW_40 {ρ : zR} {w r c : Nat} {σA : zA} (hr : r ≤ 5) (h : lW ρ w r c σA) (hc : c ≤ 30) : ρ.1 < 40 := by
  have h1 := h.2.2
  have h2 := h.2.1.2.1
  omega
/-! the law's rows and the class's state -/
/-- rows, how wide, heights -/
def lA (M : zw_M) (π : zP) : Prop := M.1 33 0 = zn_I π.1 ∧ M.1 33 1 = zn_I π.2.1 ∧ ∀ c, c < zp_n π → M.1 34 c = zn_I (π.2.2 c)
/-- the first things -/
def lB (M : zw_M) (τ : zQ) (k : Nat) : Prop := ∀ t, t < k → (M.1 35 (10 * t) = zn_I (τ.2.1 t) ∧ M.1 35 (10 * t + 1) = zn_I (τ.2.2.1 t)) ∧ ∀ q, q < 8 → M.1 35 (10 * t + 2 + q) = zn_I (τ.2.2.2 t q : Nat)
theorem lA_f {S : List Nat} {M M1 : zw_M} {π : zP} (h : zw_fr S M M1) (hA : lA M π) (hS : ∀ p ∈ [33, 34], p ∉ S) : lA M1 π := by
  have h4 := (h 33 (hS 33 (by decide))).1
  have h5 := (h 34 (hS 34 (by decide))).1
  unfold lA at hA ⊢
  rw [h4, h5]
  exact hA
theorem lB_f {S : List Nat} {M M1 : zw_M} {τ : zQ} {k : Nat} (h : zw_fr S M M1) (hB : lB M τ k) (hS : 35 ∉ S) : lB M1 τ k := by
  have h4 := (h 35 hS).1
  unfold lB at hB ⊢
  rw [h4]
  exact hB
/-- how far it leans where things stand in squares -/
def lE (π : zP) (τ : zQ) (pl : Nat → Nat) : Nat → Int
  | 0 => 0
  | t + 1 => lE π τ pl t + zt_w τ t * zp_e π (pl t)
def lT (π : zP) (τ : zQ) (pl : Nat → Nat) : Nat → Int
  | 0 => 0
  | t + 1 => lT π τ pl t + zt_w τ t * zp_s π (pl t)
theorem lE_rng {M : zw_M} {n : Nat} {π : zP} {τ : zQ} {pl : Nat → Nat} (hp : π.1 ≤ 5 ∧ π.2.1 ≤ 6) (hT : zT M n τ) : ∀ t, t ≤ τ.1 → (∀ u, u < t → pl u < zp_n π) → -(1000 * (t : Int)) ≤ lE π τ pl t ∧ lE π τ pl t ≤ 1000 * (t : Int)
  | 0, _, _ => by simp [lE]
  | t + 1, h, hpl => by
    have ih := lE_rng (pl := pl) hp hT t (by omega) (fun u hu => hpl u (by omega))
    have h1 := zt_w_rng hT (show t < τ.1 by omega)
    have h2 := zp_e_rng hp (hpl t (by omega))
    have h3 := zp_mul_rng (a := zt_w τ t) (B := 198) h2.1 h2.2 (by omega) (by omega)
    rw [lE]
    omega
theorem lT_rng {M : zw_M} {n : Nat} {π : zP} {τ : zQ} {pl : Nat → Nat} (hp : π.1 ≤ 5 ∧ π.2.1 ≤ 6) (hT : zT M n τ) : ∀ t, t ≤ τ.1 → (∀ u, u < t → pl u < zp_n π) → -(1000 * (t : Int)) ≤ lT π τ pl t ∧ lT π τ pl t ≤ 1000 * (t : Int)
  | 0, _, _ => by simp [lT]
  | t + 1, h, hpl => by
    have ih := lT_rng (pl := pl) hp hT t (by omega) (fun u hu => hpl u (by omega))
    have h1 := zt_w_rng hT (show t < τ.1 by omega)
    have h2 := zp_s_rng hp (hpl t (by omega))
    have h3 := zp_mul_rng (a := zt_w τ t) (e := zp_s π (pl t)) (B := 198) (by omega) (by omega) (by omega) (by omega)
    rw [lT]
    omega
theorem zb_or0 (z : Int) : zn_I z ||| zn_I 0 = zn_I z := by
  apply Int32.toBitVec_inj.1
  show (zn_I z).toBitVec ||| 0#32 = _
  simp
set_option maxRecDepth 100000 in
set_option maxHeartbeats 600000 in
theorem mL_cell {l : zw_Lh} {d : Nat} {M : zw_M} (hL : l.2.1 ≤ 260) {k : Nat} (hk : k ≤ 100) : zw_C l d iL_cell [.ref 37, .int (zn_I (k : Int))] M (zw_i (zn_I (lS l k : Nat)) M) := by
  refine zw_of (by decide +kernel) (Nat.le_of_ble_eq_true rfl) ?_
  refine zy_loc (L1 := [.ref 37, .int (zn_I (k : Int))]) rfl ?_
  refine zx_iload_n dL_cell_0 rfl ?_
  refine zx_aload_n dL_cell_1 rfl ?_
  refine zx_slen dL_cell_2 ?_
  refine zy_top (show Int32.ofNat l.2.1 = zn_I (l.2.1 : Int) from zn_nat _) ?_
  have e := (lS_I l k).1
  have endd : ∀ x : Int32, (if k < l.2.1 then l.2.2 k else zn_I (7919 * (k : Int) + 13)) = x → zw_X l d iL_cell (zw_i (zn_I (lS l k : Nat)) M) 20 [.ref 37, .int (zn_I (k : Int))] [.int x] M := fun x hx => by
    refine zx_ldc dL_cell_20 kL_7 ?_
    refine zx_iand dL_cell_22 ?_
    refine zx_iret (st := []) dL_cell_23 rfl rfl ?_
    rw [hx] at e
    exact ⟨congrArg (fun z => some (Value.int z)) e, rfl⟩
  refine zy_icmp_ge (tgt := 12) dL_cell_3 (by decide) (by omega) (fun h => ?_) (fun h => ?_)
  · refine zx_sipush (v := zn_I 7919) dL_cell_12 (by decide) ?_
    refine zx_iload_n dL_cell_15 rfl ?_
    refine zy_imul dL_cell_16 ?_
    refine zx_bipush (v := zn_I 13) dL_cell_17 (by decide) ?_
    refine zy_iadd dL_cell_19 ?_
    exact endd _ (by rw [if_neg (by omega)])
  · refine zx_aload_n dL_cell_6 rfl ?_
    refine zx_iload_n dL_cell_7 rfl ?_
    obtain ⟨e1, e2⟩ := zn_vi (i := (k : Int)) (n := l.2.1) (by omega) (by omega) (by omega)
    refine zx_sld dL_cell_8 e1 ?_
    refine zx_goto (tgt := 20) dL_cell_9 (by decide) ?_
    exact endd _ (by rw [if_pos (by omega), e2, Int.toNat_natCast])
set_option maxRecDepth 100000 in
set_option maxHeartbeats 600000 in
theorem mL_put {l : zw_Lh} {d : Nat} {M : zw_M} {σ : zZ} (hC : zC_ M σ) {c : Nat} (hc : c < 127) (h0 : 0 < c) (h40 : σ.2.2.1.1 < 40) : zw_C l (d + 4) iL_put [.ref 0, .int (zn_I (c : Int))] M (fun v M1 => v = some (.int (zn_I 1)) ∧ zw_fr zcl M M1 ∧ zC_ M1 (σ.1, σ.2.1, zg_put σ.2.2.1 c 1, σ.2.2.2)) := by
  have hz := lg_addA hc h0 h40
  have hr := lg_addR hc h0 h40
  refine zw_of (by decide +kernel) (Nat.le_of_ble_eq_true rfl) ?_
  refine zy_loc (L1 := [.ref 0, .int (zn_I (c : Int))]) rfl ?_
  refine zx_aload_n dL_put_0 rfl ?_
  refine zx_iload_n dL_put_1 rfl ?_
  refine zx_i2l dL_put_2 ?_
  rw [lg_i2l c hc]
  refine zx_callV (y1 := iX10_letters) dL_put_3 lL_8 vX10_letters rc_0 (mX10_letters hC (w := c) (Nat.lt_trans hc (by decide))) rfl rfl (Nat.le_of_ble_eq_true rfl) ?_
  intro v M1 he
  obtain ⟨rfl, hf, hC1⟩ := he
  rw [zk_lettersS, hr] at hC1
  rw [zk_letters, hz]
  refine zy_if_le (tgt := 13) dL_put_6 (by decide) (by omega) (fun h_6 => ?_) (fun h_6 => ?_)
  · exact absurd h_6 (by omega)
  · refine zx_iconst (v := zn_I 1) dL_put_9 rfl ?_
    refine zx_goto (tgt := 14) dL_put_10 (by decide) ?_
    refine zx_iret (st := []) dL_put_14 rfl rfl ?_
    exact ⟨rfl, hf, hC1⟩
set_option maxRecDepth 100000 in
set_option maxHeartbeats 600000 in
theorem mL_weighs {l : zw_Lh} {d : Nat} {M : zw_M} {n k : Nat} {τ : zQ} (hT : zT M n τ) (hB : lB M τ k) (hk : k ≤ τ.1) (hk6 : k ≤ 6) {t : Nat} (ht : t < k) : zw_C l d iL_weighs [.ref 35, .int (zn_I (t : Int))] M (zw_i (zn_I (zt_w τ t)) M) := by
  have hkr := hT.2.2.2.2.2.1 t (by omega)
  have hwr := hT.2.2.2.2.2.2.1 t (by omega)
  refine zw_of (by decide +kernel) (Nat.le_of_ble_eq_true rfl) ?_
  refine zy_loc (L1 := [.ref 35, .int (zn_I (t : Int))]) rfl ?_
  refine zx_aload_n dL_weighs_0 rfl ?_
  refine zx_bipush (v := zn_I 10) dL_weighs_1 (by decide) ?_
  refine zx_iload_n dL_weighs_3 rfl ?_
  refine zy_imul dL_weighs_4 ?_
  refine zy_iald (i := 10 * t) dL_weighs_5 rfl (by decide) (by omega) (by omega) ((hB t ht).1.1) ?_
  refine zx_iconst (v := zn_I 4) dL_weighs_6 rfl ?_
  refine zy_icmp_ne (tgt := 30) dL_weighs_7 (by decide) (by omega) (fun h_7 => ?_) (fun h_7 => ?_)
  · refine zx_aload_n dL_weighs_30 rfl ?_
    refine zx_bipush (v := zn_I 10) dL_weighs_31 (by decide) ?_
    refine zx_iload_n dL_weighs_33 rfl ?_
    refine zy_imul dL_weighs_34 ?_
    refine zx_iconst (v := zn_I 1) dL_weighs_35 rfl ?_
    refine zy_iadd dL_weighs_36 ?_
    refine zy_iald (i := 10 * t + 1) dL_weighs_37 rfl (by decide) (by omega) (by omega) ((hB t ht).1.2) ?_
    refine zx_iret (st := []) dL_weighs_38 rfl rfl ?_
    first | exact zk_I (by rw [zt_w, if_pos (by omega)]; omega) | exact zk_I (by rw [zt_w, if_neg (by omega)])
  · refine zx_aload_n dL_weighs_10 rfl ?_
    refine zx_bipush (v := zn_I 10) dL_weighs_11 (by decide) ?_
    refine zx_iload_n dL_weighs_13 rfl ?_
    refine zy_imul dL_weighs_14 ?_
    refine zx_iconst (v := zn_I 1) dL_weighs_15 rfl ?_
    refine zy_iadd dL_weighs_16 ?_
    refine zy_iald (i := 10 * t + 1) dL_weighs_17 rfl (by decide) (by omega) (by omega) ((hB t ht).1.2) ?_
    refine zx_aload_n dL_weighs_18 rfl ?_
    refine zx_bipush (v := zn_I 10) dL_weighs_19 (by decide) ?_
    refine zx_iload_n dL_weighs_21 rfl ?_
    refine zy_imul dL_weighs_22 ?_
    refine zx_iconst (v := zn_I 1) dL_weighs_23 rfl ?_
    refine zy_iadd dL_weighs_24 ?_
    refine zy_iald (i := 10 * t + 1) dL_weighs_25 rfl (by decide) (by omega) (by omega) ((hB t ht).1.2) ?_
    refine zy_iadd dL_weighs_26 ?_
    refine zx_goto (tgt := 38) dL_weighs_27 (by decide) ?_
    refine zx_iret (st := []) dL_weighs_38 rfl rfl ?_
    first | exact zk_I (by rw [zt_w, if_pos (by omega)]; omega) | exact zk_I (by rw [zt_w, if_neg (by omega)])
set_option maxRecDepth 100000 in
set_option maxHeartbeats 600000 in
theorem mL_east {l : zw_Lh} {d : Nat} {M : zw_M} {π : zP} (hp : π.1 ≤ 5 ∧ π.2.1 ≤ 6) (hA : lA M π) {c : Nat} (hc : c < zp_n π) : zw_C l d iL_east [.ref 33, .int (zn_I (c : Int))] M (zw_i (zn_I (zp_e π c)) M) := by
  have h30 := zp_30 hp
  obtain ⟨hw0, hr0, hm, hq⟩ := zp_w0 hc
  have hs1 := hA.2.1
  refine zw_of (by decide +kernel) (Nat.le_of_ble_eq_true rfl) ?_
  refine zy_loc (L1 := [.ref 33, .int (zn_I (c : Int))]) rfl ?_
  refine zx_iload_n dL_east_0 rfl ?_
  refine zx_aload_n dL_east_1 rfl ?_
  refine zx_iconst (v := zn_I 1) dL_east_2 rfl ?_
  refine zy_iald (i := 1) dL_east_3 rfl (by decide) (by omega) (by omega) (hs1) ?_
  refine zy_irem (a := c) (b := π.2.1) dL_east_4 (by omega) ?_
  refine zx_iload_n dL_east_5 rfl ?_
  refine zx_aload_n dL_east_6 rfl ?_
  refine zx_iconst (v := zn_I 1) dL_east_7 rfl ?_
  refine zy_iald (i := 1) dL_east_8 rfl (by decide) (by omega) (by omega) (hs1) ?_
  refine zy_irem (a := c) (b := π.2.1) dL_east_9 (by omega) ?_
  refine zy_iadd dL_east_10 ?_
  refine zx_iconst (v := zn_I 1) dL_east_11 rfl ?_
  refine zy_iadd dL_east_12 ?_
  refine zx_aload_n dL_east_13 rfl ?_
  refine zx_iconst (v := zn_I 1) dL_east_14 rfl ?_
  refine zy_iald (i := 1) dL_east_15 rfl (by decide) (by omega) (by omega) (hs1) ?_
  refine zy_isub dL_east_16 ?_
  refine zx_iret (st := []) dL_east_17 rfl rfl ?_
  exact zk_I (by unfold zp_e; omega)
set_option maxRecDepth 100000 in
set_option maxHeartbeats 600000 in
theorem mL_south {l : zw_Lh} {d : Nat} {M : zw_M} {π : zP} (hp : π.1 ≤ 5 ∧ π.2.1 ≤ 6) (hA : lA M π) {c : Nat} (hc : c < zp_n π) : zw_C l d iL_south [.ref 33, .int (zn_I (c : Int))] M (zw_i (zn_I (zp_s π c)) M) := by
  have h30 := zp_30 hp
  obtain ⟨hw0, hr0, hm, hq⟩ := zp_w0 hc
  have hs1 := hA.2.1
  have hs0 := hA.1
  refine zw_of (by decide +kernel) (Nat.le_of_ble_eq_true rfl) ?_
  refine zy_loc (L1 := [.ref 33, .int (zn_I (c : Int))]) rfl ?_
  refine zx_iload_n dL_south_0 rfl ?_
  refine zx_aload_n dL_south_1 rfl ?_
  refine zx_iconst (v := zn_I 1) dL_south_2 rfl ?_
  refine zy_iald (i := 1) dL_south_3 rfl (by decide) (by omega) (by omega) (hs1) ?_
  refine zy_idiv (a := c) (b := π.2.1) dL_south_4 (by omega) ?_
  refine zx_iload_n dL_south_5 rfl ?_
  refine zx_aload_n dL_south_6 rfl ?_
  refine zx_iconst (v := zn_I 1) dL_south_7 rfl ?_
  refine zy_iald (i := 1) dL_south_8 rfl (by decide) (by omega) (by omega) (hs1) ?_
  refine zy_idiv (a := c) (b := π.2.1) dL_south_9 (by omega) ?_
  refine zy_iadd dL_south_10 ?_
  refine zx_iconst (v := zn_I 1) dL_south_11 rfl ?_
  refine zy_iadd dL_south_12 ?_
  refine zx_aload_n dL_south_13 rfl ?_
  refine zx_iconst (v := zn_I 0) dL_south_14 rfl ?_
  refine zy_iald (i := 0) dL_south_15 rfl (by decide) (by omega) (by omega) (hs0) ?_
  refine zy_isub dL_south_16 ?_
  refine zx_iret (st := []) dL_south_17 rfl rfl ?_
  exact zk_I (by unfold zp_s; omega)
set_option maxRecDepth 100000 in
set_option maxHeartbeats 600000 in
theorem mL_wet {l : zw_Lh} {d : Nat} {M : zw_M} {π : zP} (hp : π.1 ≤ 5 ∧ π.2.1 ≤ 6) (hA : lA M π) (hH : ∀ s, s < zp_n π → 0 ≤ π.2.2 s ∧ π.2.2 s ≤ 9) {a b : Int} (ha : -1000000 ≤ a ∧ a ≤ 1000000) (hb : -1000000 ≤ b ∧ b ≤ 1000000) : zw_C l (d + 1) iL_wet [.ref 33, .ref 34, .int (zn_I a), .int (zn_I b)] M (zw_i (zn_I (zp_bits π a b (zp_n π) : Nat)) M) := by
  have h30 := zp_30 hp
  have hs0 := hA.1
  have hs1 := hA.2.1
  have hhi := hA.2.2
  refine zw_of (by decide +kernel) (Nat.le_of_ble_eq_true rfl) ?_
  refine zy_loc (L1 := [.ref 33, .ref 34, .int (zn_I a), .int (zn_I b), .retAddr 0, .retAddr 0, .retAddr 0]) rfl ?_
  have loop : ∀ s : Nat, s ≤ zp_n π → ∀ v6 : Value, zw_X l (d + 1) iL_wet (zw_i (zn_I (zp_bits π a b (zp_n π) : Nat)) M) 6 [.ref 33, .ref 34, .int (zn_I a), .int (zn_I b), .int (zn_I (zp_bits π a b s : Nat)), .int (zn_I (s : Nat)), v6] [] M := by
    refine zw_loop (zp_n π) (P := fun s => ∀ v6 : Value, zw_X l (d + 1) iL_wet (zw_i (zn_I (zp_bits π a b (zp_n π) : Nat)) M) 6 [.ref 33, .ref 34, .int (zn_I a), .int (zn_I b), .int (zn_I (zp_bits π a b s : Nat)), .int (zn_I (s : Nat)), v6] [] M) (fun s hs ih v6 => ?_)
    refine zx_iload dL_wet_6 rfl ?_
    refine zx_aload_n dL_wet_8 rfl ?_
    refine zx_iconst (v := zn_I 0) dL_wet_9 rfl ?_
    refine zy_iald (i := 0) dL_wet_10 rfl (by decide) (by omega) (by omega) (hs0) ?_
    refine zx_aload_n dL_wet_11 rfl ?_
    refine zx_iconst (v := zn_I 1) dL_wet_12 rfl ?_
    refine zy_iald (i := 1) dL_wet_13 rfl (by decide) (by omega) (by omega) (hs1) ?_
    refine zy_imul dL_wet_14 ?_
    refine zy_top (show _ = zn_I (zp_n π : Nat) from congrArg zn_I (Int.natCast_mul π.1 π.2.1).symm) ?_
    refine zy_icmp_ge (tgt := 75) dL_wet_15 (by decide) (by omega) (fun h_15 => ?_) (fun h_15 => ?_)
    · refine zx_iload dL_wet_75 rfl ?_
      refine zx_iret (st := []) dL_wet_77 rfl rfl ?_
      exact zk_I (by rw [show s = zp_n π by omega])
    · have hlt : s < zp_n π := by omega
      have h7 := zp_dip_rng hp hlt ha hb
      have h8 := hH s hlt
      unfold zp_dip at h7
      refine zx_iload_n dL_wet_18 rfl ?_
      refine zx_aload_n dL_wet_19 rfl ?_
      refine zx_iload dL_wet_20 rfl ?_
      refine zx_callS (y1 := iL_east) dL_wet_22 lL_42 sL_east (mL_east hp hA (c := s) hlt) rfl rfl (Nat.le_of_ble_eq_true rfl) ?_
      refine zk_i ?_
      refine zy_imul dL_wet_25 ?_
      refine zx_iload_n dL_wet_26 rfl ?_
      refine zx_aload_n dL_wet_27 rfl ?_
      refine zx_iload dL_wet_28 rfl ?_
      refine zx_callS (y1 := iL_south) dL_wet_30 lL_45 sL_south (mL_south hp hA (c := s) hlt) rfl rfl (Nat.le_of_ble_eq_true rfl) ?_
      refine zk_i ?_
      refine zy_imul dL_wet_33 ?_
      refine zy_iadd dL_wet_34 ?_
      refine zx_istore dL_wet_35 rfl (Nat.le_of_ble_eq_true rfl) ?_
      refine zx_iload dL_wet_37 rfl ?_
      refine zx_aload_n dL_wet_39 rfl ?_
      refine zx_iload dL_wet_40 rfl ?_
      refine zy_iald dL_wet_42 rfl (by decide) rfl (by omega) ((hhi s (by omega))) ?_
      refine zy_if_le (tgt := 65) dL_wet_43 (by decide) (by omega) (fun h_43 => ?_) (fun h_43 => ?_)
      · refine zx_iconst (v := zn_I 0) dL_wet_65 rfl ?_
        refine zx_ior dL_wet_66 ?_
        refine zy_top (zb_or0 _) ?_
        rw [show zp_bits π a b s = zp_bits π a b (s + 1) by rw [zp_bits, if_neg (fun q => by have q1 := q.1; have q2 := q.2; unfold zp_dip at q2; omega), Nat.add_zero]]
        refine zx_istore dL_wet_67 rfl (Nat.le_of_ble_eq_true rfl) ?_
        refine zy_iinc dL_wet_69 rfl rfl ?_
        refine zx_goto (tgt := 6) dL_wet_72 (by decide) ?_
        exact ih (by omega) _
      · refine zx_iload dL_wet_46 rfl ?_
        refine zx_bipush (v := zn_I 50) dL_wet_48 (by decide) ?_
        refine zx_aload_n dL_wet_50 rfl ?_
        refine zx_iload dL_wet_51 rfl ?_
        refine zy_iald dL_wet_53 rfl (by decide) rfl (by omega) ((hhi s (by omega))) ?_
        refine zy_imul dL_wet_54 ?_
        refine zy_icmp_lt (tgt := 65) dL_wet_55 (by decide) (by omega) (fun h_55 => ?_) (fun h_55 => ?_)
        · refine zx_iconst (v := zn_I 0) dL_wet_65 rfl ?_
          refine zx_ior dL_wet_66 ?_
          refine zy_top (zb_or0 _) ?_
          rw [show zp_bits π a b s = zp_bits π a b (s + 1) by rw [zp_bits, if_neg (fun q => by have q1 := q.1; have q2 := q.2; unfold zp_dip at q2; omega), Nat.add_zero]]
          refine zx_istore dL_wet_67 rfl (Nat.le_of_ble_eq_true rfl) ?_
          refine zy_iinc dL_wet_69 rfl rfl ?_
          refine zx_goto (tgt := 6) dL_wet_72 (by decide) ?_
          exact ih (by omega) _
        · refine zx_iconst (v := zn_I 1) dL_wet_58 rfl ?_
          refine zx_iload dL_wet_59 rfl ?_
          refine zx_ishl dL_wet_61 ?_
          refine zx_goto (tgt := 66) dL_wet_62 (by decide) ?_
          refine zx_ior dL_wet_66 ?_
          refine zy_top (zb_or (by omega) (zp_bits_lt π a b s)) ?_
          rw [show zp_bits π a b s + 2 ^ s = zp_bits π a b (s + 1) by rw [zp_bits, if_pos ⟨by omega, by unfold zp_dip; omega⟩]]
          refine zx_istore dL_wet_67 rfl (Nat.le_of_ble_eq_true rfl) ?_
          refine zy_iinc dL_wet_69 rfl rfl ?_
          refine zx_goto (tgt := 6) dL_wet_72 (by decide) ?_
          exact ih (by omega) _
  refine zx_iconst (v := zn_I 0) dL_wet_0 rfl ?_
  refine zx_istore dL_wet_1 rfl (Nat.le_of_ble_eq_true rfl) ?_
  refine zx_iconst (v := zn_I 0) dL_wet_3 rfl ?_
  refine zx_istore dL_wet_4 rfl (Nat.le_of_ble_eq_true rfl) ?_
  exact loop 0 (by omega) _
set_option maxRecDepth 100000 in
set_option maxHeartbeats 600000 in
theorem mL_wetAt {l : zw_Lh} {d : Nat} {M : zw_M} {π : zP} (hp : π.1 ≤ 5 ∧ π.2.1 ≤ 6) (hA : lA M π) (hH : ∀ s, s < zp_n π → 0 ≤ π.2.2 s ∧ π.2.2 s ≤ 9) {n k : Nat} {τ : zQ} (hT : zT M n τ) (hB : lB M τ k) (hk : k ≤ τ.1) (hk6 : k ≤ 6) {pl : Nat → Nat} (hpl : ∀ t, t < k → M.1 36 t = zn_I (pl t : Nat) ∧ pl t < zp_n π) : zw_C l (d + 2) iL_wetAt [.ref 33, .ref 34, .ref 35, .int (zn_I (k : Int)), .ref 36] M (zw_i (zn_I (zp_bits π (lE π τ pl k) (lT π τ pl k) (zp_n π) : Nat)) M) := by
  have h30 := zp_30 hp
  refine zw_of (by decide +kernel) (Nat.le_of_ble_eq_true rfl) ?_
  refine zy_loc (L1 := [.ref 33, .ref 34, .ref 35, .int (zn_I (k : Int)), .ref 36, .retAddr 0, .retAddr 0, .retAddr 0]) rfl ?_
  have loop : ∀ s : Nat, s ≤ k → zw_X l (d + 2) iL_wetAt (zw_i (zn_I (zp_bits π (lE π τ pl k) (lT π τ pl k) (zp_n π) : Nat)) M) 9 [.ref 33, .ref 34, .ref 35, .int (zn_I (k : Int)), .ref 36, .int (zn_I (lE π τ pl s)), .int (zn_I (lT π τ pl s)), .int (zn_I (s : Nat))] [] M := by
    refine zw_loop k (P := fun s => zw_X l (d + 2) iL_wetAt (zw_i (zn_I (zp_bits π (lE π τ pl k) (lT π τ pl k) (zp_n π) : Nat)) M) 9 [.ref 33, .ref 34, .ref 35, .int (zn_I (k : Int)), .ref 36, .int (zn_I (lE π τ pl s)), .int (zn_I (lT π τ pl s)), .int (zn_I (s : Nat))] [] M) (fun s hs ih => ?_)
    refine zx_iload dL_wetAt_9 rfl ?_
    refine zx_iload_n dL_wetAt_11 rfl ?_
    refine zy_icmp_ge (tgt := 63) dL_wetAt_12 (by decide) (by omega) (fun h_12 => ?_) (fun h_12 => ?_)
    · have es : s = k := by omega
      subst es
      have r1 := lE_rng (pl := pl) hp hT s (by omega) (fun u hu => (hpl u hu).2)
      have r2 := lT_rng (pl := pl) hp hT s (by omega) (fun u hu => (hpl u hu).2)
      refine zx_aload_n dL_wetAt_63 rfl ?_
      refine zx_aload_n dL_wetAt_64 rfl ?_
      refine zx_iload dL_wetAt_65 rfl ?_
      refine zx_iload dL_wetAt_67 rfl ?_
      refine zx_callS (y1 := iL_wet) dL_wetAt_69 lL_51 sL_wet (mL_wet hp hA hH (by omega) (by omega)) rfl rfl (Nat.le_of_ble_eq_true rfl) ?_
      refine zk_i ?_
      refine zx_iret (st := []) dL_wetAt_72 rfl rfl ?_
      exact ⟨rfl, rfl⟩
    · have hps := (hpl s (by omega)).2
      refine zx_iload dL_wetAt_15 rfl ?_
      refine zx_aload_n dL_wetAt_17 rfl ?_
      refine zx_iload dL_wetAt_18 rfl ?_
      refine zx_callS (y1 := iL_weighs) dL_wetAt_20 lL_48 sL_weighs (mL_weighs hT hB hk hk6 (t := s) (by omega)) rfl rfl (Nat.le_of_ble_eq_true rfl) ?_
      refine zk_i ?_
      refine zx_aload_n dL_wetAt_23 rfl ?_
      refine zx_aload dL_wetAt_24 rfl ?_
      refine zx_iload dL_wetAt_26 rfl ?_
      refine zy_iald dL_wetAt_28 rfl (by decide) rfl (by omega) ((hpl s (by omega)).1) ?_
      refine zx_callS (y1 := iL_east) dL_wetAt_29 lL_42 sL_east (mL_east hp hA (c := pl s) hps) rfl rfl (Nat.le_of_ble_eq_true rfl) ?_
      refine zk_i ?_
      refine zy_imul dL_wetAt_32 ?_
      refine zy_iadd dL_wetAt_33 ?_
      refine zx_istore dL_wetAt_34 rfl (Nat.le_of_ble_eq_true rfl) ?_
      refine zx_iload dL_wetAt_36 rfl ?_
      refine zx_aload_n dL_wetAt_38 rfl ?_
      refine zx_iload dL_wetAt_39 rfl ?_
      refine zx_callS (y1 := iL_weighs) dL_wetAt_41 lL_48 sL_weighs (mL_weighs hT hB hk hk6 (t := s) (by omega)) rfl rfl (Nat.le_of_ble_eq_true rfl) ?_
      refine zk_i ?_
      refine zx_aload_n dL_wetAt_44 rfl ?_
      refine zx_aload dL_wetAt_45 rfl ?_
      refine zx_iload dL_wetAt_47 rfl ?_
      refine zy_iald dL_wetAt_49 rfl (by decide) rfl (by omega) ((hpl s (by omega)).1) ?_
      refine zx_callS (y1 := iL_south) dL_wetAt_50 lL_45 sL_south (mL_south hp hA (c := pl s) hps) rfl rfl (Nat.le_of_ble_eq_true rfl) ?_
      refine zk_i ?_
      refine zy_imul dL_wetAt_53 ?_
      refine zy_iadd dL_wetAt_54 ?_
      refine zx_istore dL_wetAt_55 rfl (Nat.le_of_ble_eq_true rfl) ?_
      refine zy_iinc dL_wetAt_57 rfl rfl ?_
      refine zx_goto (tgt := 9) dL_wetAt_60 (by decide) ?_
      exact ih (by omega)
  refine zx_iconst (v := zn_I 0) dL_wetAt_0 rfl ?_
  refine zx_istore dL_wetAt_1 rfl (Nat.le_of_ble_eq_true rfl) ?_
  refine zx_iconst (v := zn_I 0) dL_wetAt_3 rfl ?_
  refine zx_istore dL_wetAt_4 rfl (Nat.le_of_ble_eq_true rfl) ?_
  refine zx_iconst (v := zn_I 0) dL_wetAt_6 rfl ?_
  refine zx_istore dL_wetAt_7 rfl (Nat.le_of_ble_eq_true rfl) ?_
  exact loop 0 (by omega)
