/-! whole numbers on the stack: every int is zn_I of an integer -/
def zn_I (z : Int) : Int32 := Int32.ofInt z
def zn_B (p : Prop) [Decidable p] : Int32 := if p then zn_I 1 else zn_I 0
theorem zn_nat (n : Nat) : nI n = zn_I (n : Int) := by
  apply Int32.toBitVec_inj.1
  simp [nI, zn_I, Int32.ofInt, Int32.ofNat]
theorem zn_add (a b : Int) : zn_I a + zn_I b = zn_I (a + b) := (Int32.ofInt_add a b).symm
theorem zn_mul (a b : Int) : zn_I a * zn_I b = zn_I (a * b) := (Int32.ofInt_mul a b).symm
theorem zn_neg (a : Int) : -zn_I a = zn_I (-a) := (Int32.ofInt_neg a).symm
theorem zn_sub (a b : Int) : zn_I a - zn_I b = zn_I (a - b) := by
  rw [Int32.sub_eq_add_neg, zn_neg, zn_add, Int.sub_eq_add_neg]
theorem zn_toInt {z : Int} (h : -2147483648 ≤ z ∧ z < 2147483648) : (zn_I z).toInt = z := by
  have h2 : z.bmod (2 ^ 32) = z := by rw [Int.bmod_eq_of_le (by omega) (by omega)]
  rw [zn_I, Int32.toInt_ofInt]
  exact h2
theorem zn_self (x : Int32) : zn_I x.toInt = x := Int32.ofInt_toInt x
theorem zn_rng (x : Int32) : -2147483648 ≤ x.toInt ∧ x.toInt < 2147483648 := by
  have h1 := Int32.le_toInt x
  have h2 := Int32.toInt_lt x
  omega
/-- any int is one of an integer in range -/
theorem zn_ex (x : Int32) : ∃ z : Int, -2147483648 ≤ z ∧ z < 2147483648 ∧ x = zn_I z := ⟨x.toInt, (zn_rng x).1, (zn_rng x).2, (zn_self x).symm⟩
theorem zn_lt {a b : Int} (h : -2147483648 ≤ a ∧ a < 2147483648 ∧ -2147483648 ≤ b ∧ b < 2147483648) : zn_I a < zn_I b ↔ a < b := by
  rw [Int32.lt_iff_toInt_lt, zn_toInt ⟨h.1, h.2.1⟩, zn_toInt ⟨h.2.2.1, h.2.2.2⟩]
theorem zn_le {a b : Int} (h : -2147483648 ≤ a ∧ a < 2147483648 ∧ -2147483648 ≤ b ∧ b < 2147483648) : zn_I a ≤ zn_I b ↔ a ≤ b := by
  rw [Int32.le_iff_toInt_le, zn_toInt ⟨h.1, h.2.1⟩, zn_toInt ⟨h.2.2.1, h.2.2.2⟩]
theorem zn_eq {a b : Int} (h : -2147483648 ≤ a ∧ a < 2147483648 ∧ -2147483648 ≤ b ∧ b < 2147483648) : zn_I a = zn_I b ↔ a = b := by
  rw [← Int32.toInt_inj, zn_toInt ⟨h.1, h.2.1⟩, zn_toInt ⟨h.2.2.1, h.2.2.2⟩]
theorem zn_0 : (0 : Int32) = zn_I 0 := rfl
theorem zn_1 : (1 : Int32) = zn_I 1 := rfl
theorem zn_Bt {p : Prop} [Decidable p] (h : p) : zn_I 1 = zn_B p := by rw [zn_B, if_pos h]
theorem zn_Bf {p : Prop} [Decidable p] (h : ¬ p) : zn_I 0 = zn_B p := by rw [zn_B, if_neg h]
theorem zn_Bc {p q : Prop} [Decidable p] [Decidable q] (h : p ↔ q) : zn_B p = zn_B q := by
  by_cases hp : p
  · rw [zn_B, zn_B, if_pos hp, if_pos (h.mp hp)]
  · rw [zn_B, zn_B, if_neg hp, if_neg (fun z => hp (h.mpr z))]
theorem zn_vi {i : Int} {n : Nat} (h0 : 0 ≤ i) (h1 : i < n) (hn : n ≤ 1000) : vp_in (zn_I i) n ∧ (zn_I i).toNatClampNeg = i.toNat := by
  have e : (zn_I i).toInt = i := zn_toInt ⟨by omega, by omega⟩
  have e2 : (zn_I i).toNatClampNeg = i.toNat := by
    show (zn_I i).toInt.toNat = _
    rw [e]
  refine ⟨?_, e2⟩
  rw [vp_in_iff, e]
  exact ⟨h0, h1⟩
theorem zy_iadd {l : zw_Lh} {d : Nat} {y : zw_I} {Q : Option Value → zw_M → Prop} {pc : Nat} {L st : List Value} {M : zw_M} {a b : Int} (hd : decode y.2.1 pc = .ok (.iadd, 1)) (k : zw_X l d y Q (pc + 1) L (.int (zn_I (a + b)) :: st) M) : zw_X l d y Q pc L (.int (zn_I b) :: .int (zn_I a) :: st) M := zx_iadd hd (by rw [zn_add]; exact k)
theorem zy_isub {l : zw_Lh} {d : Nat} {y : zw_I} {Q : Option Value → zw_M → Prop} {pc : Nat} {L st : List Value} {M : zw_M} {a b : Int} (hd : decode y.2.1 pc = .ok (.isub, 1)) (k : zw_X l d y Q (pc + 1) L (.int (zn_I (a - b)) :: st) M) : zw_X l d y Q pc L (.int (zn_I b) :: .int (zn_I a) :: st) M := zx_isub hd (by rw [zn_sub]; exact k)
theorem zy_imul {l : zw_Lh} {d : Nat} {y : zw_I} {Q : Option Value → zw_M → Prop} {pc : Nat} {L st : List Value} {M : zw_M} {a b : Int} (hd : decode y.2.1 pc = .ok (.imul, 1)) (k : zw_X l d y Q (pc + 1) L (.int (zn_I (a * b)) :: st) M) : zw_X l d y Q pc L (.int (zn_I b) :: .int (zn_I a) :: st) M := zx_imul hd (by rw [zn_mul]; exact k)
theorem zy_iinc {l : zw_Lh} {d : Nat} {y : zw_I} {Q : Option Value → zw_M → Prop} {pc : Nat} {L st : List Value} {M : zw_M} {i : Nat} {n a : Int} (hd : decode y.2.1 pc = .ok (.iinc i n, 3)) (hl : L[i]? = some (.int (zn_I a))) (ho : zw_ok L i = true) (k : zw_X l d y Q (pc + 3) (L.set i (.int (zn_I (a + n)))) st M) : zw_X l d y Q pc L st M := zx_iinc (v := zn_I n) hd hl rfl ho (by rw [zn_add]; exact k)
theorem zy_idiv {l : zw_Lh} {d : Nat} {y : zw_I} {Q : Option Value → zw_M → Prop} {pc : Nat} {L st : List Value} {M : zw_M} {a b : Nat} (hd : decode y.2.1 pc = .ok (.idiv, 1)) (h : a < 2147483648 ∧ 0 < b ∧ b < 2147483648) (k : zw_X l d y Q (pc + 1) L (.int (zn_I ((a / b : Nat) : Int)) :: st) M) : zw_X l d y Q pc L (.int (zn_I (b : Int)) :: .int (zn_I (a : Int)) :: st) M := by
  have hb : ¬ zn_I (b : Int) = 0 := by rw [zn_0, zn_eq ⟨by omega, by omega, by omega, by omega⟩]; omega
  refine zx_idiv hd hb ?_
  rw [← zn_nat, ← zn_nat, pk_div h.1 h.2.1 h.2.2, zn_nat]
  exact k
theorem zy_irem {l : zw_Lh} {d : Nat} {y : zw_I} {Q : Option Value → zw_M → Prop} {pc : Nat} {L st : List Value} {M : zw_M} {a b : Nat} (hd : decode y.2.1 pc = .ok (.irem, 1)) (h : a < 2147483648 ∧ 0 < b ∧ b < 2147483648) (k : zw_X l d y Q (pc + 1) L (.int (zn_I ((a % b : Nat) : Int)) :: st) M) : zw_X l d y Q pc L (.int (zn_I (b : Int)) :: .int (zn_I (a : Int)) :: st) M := by
  have hb : ¬ zn_I (b : Int) = 0 := by rw [zn_0, zn_eq ⟨by omega, by omega, by omega, by omega⟩]; omega
  refine zx_irem hd hb ?_
  rw [← zn_nat, ← zn_nat, pk_rem h.1 h.2.1 h.2.2, zn_nat]
  exact k
theorem zy_top {l : zw_Lh} {d : Nat} {y : zw_I} {Q : Option Value → zw_M → Prop} {pc : Nat} {L st : List Value} {M : zw_M} {a b : Int32} (h : a = b) (k : zw_X l d y Q pc L (.int b :: st) M) : zw_X l d y Q pc L (.int a :: st) M := by rw [h]; exact k
theorem zy_loc {l : zw_Lh} {d : Nat} {y : zw_I} {Q : Option Value → zw_M → Prop} {pc : Nat} {L st : List Value} {M : zw_M} {L1 : List Value} (h : L = L1) (k : zw_X l d y Q pc L1 st M) : zw_X l d y Q pc L st M := by rw [h]; exact k
theorem zy_mem {l : zw_Lh} {d : Nat} {y : zw_I} {Q : Option Value → zw_M → Prop} {pc : Nat} {L st : List Value} {M : zw_M} {M1 : zw_M} (h : M = M1) (k : zw_X l d y Q pc L st M1) : zw_X l d y Q pc L st M := by rw [h]; exact k
theorem zy_if_eq {l : zw_Lh} {d : Nat} {y : zw_I} {Q : Option Value → zw_M → Prop} {pc : Nat} {L st : List Value} {M : zw_M} {a : Int} {off : Int} {tgt : Nat} (hd : decode y.2.1 pc = .ok (.ifCond .eq off, 3)) (ht : (pc : Int) + off = (tgt : Int)) (hr : -2147483648 ≤ a ∧ a < 2147483648) (kt : a = 0 → zw_X l d y Q tgt L st M) (kf : ¬ a = 0 → zw_X l d y Q (pc + 3) L st M) : zw_X l d y Q pc L (.int (zn_I a) :: st) M := by
  have e : (zn_I a = zn_I 0) ↔ (a = 0) := zn_eq ⟨by omega, by omega, by omega, by omega⟩
  exact zx_if_eq hd ht (fun h => kt (by first | exact e.mp h | exact fun z => h (e.mpr z))) (fun h => kf (by first | exact e.mp h | exact fun z => h (e.mpr z)))
theorem zy_icmp_eq {l : zw_Lh} {d : Nat} {y : zw_I} {Q : Option Value → zw_M → Prop} {pc : Nat} {L st : List Value} {M : zw_M} {a b : Int} {off : Int} {tgt : Nat} (hd : decode y.2.1 pc = .ok (.if_icmp .eq off, 3)) (ht : (pc : Int) + off = (tgt : Int)) (hr : -2147483648 ≤ a ∧ a < 2147483648 ∧ -2147483648 ≤ b ∧ b < 2147483648) (kt : a = b → zw_X l d y Q tgt L st M) (kf : ¬ a = b → zw_X l d y Q (pc + 3) L st M) : zw_X l d y Q pc L (.int (zn_I b) :: .int (zn_I a) :: st) M := by
  have e : (zn_I a = zn_I b) ↔ (a = b) := zn_eq ⟨by omega, by omega, by omega, by omega⟩
  exact zx_icmp_eq hd ht (fun h => kt (by first | exact e.mp h | exact fun z => h (e.mpr z))) (fun h => kf (by first | exact e.mp h | exact fun z => h (e.mpr z)))
theorem zy_if_ne {l : zw_Lh} {d : Nat} {y : zw_I} {Q : Option Value → zw_M → Prop} {pc : Nat} {L st : List Value} {M : zw_M} {a : Int} {off : Int} {tgt : Nat} (hd : decode y.2.1 pc = .ok (.ifCond .ne off, 3)) (ht : (pc : Int) + off = (tgt : Int)) (hr : -2147483648 ≤ a ∧ a < 2147483648) (kt : ¬ a = 0 → zw_X l d y Q tgt L st M) (kf : a = 0 → zw_X l d y Q (pc + 3) L st M) : zw_X l d y Q pc L (.int (zn_I a) :: st) M := by
  have e : (zn_I a = zn_I 0) ↔ (a = 0) := zn_eq ⟨by omega, by omega, by omega, by omega⟩
  exact zx_if_ne hd ht (fun h => kt (by first | exact e.mp h | exact fun z => h (e.mpr z))) (fun h => kf (by first | exact e.mp h | exact fun z => h (e.mpr z)))
theorem zy_icmp_ne {l : zw_Lh} {d : Nat} {y : zw_I} {Q : Option Value → zw_M → Prop} {pc : Nat} {L st : List Value} {M : zw_M} {a b : Int} {off : Int} {tgt : Nat} (hd : decode y.2.1 pc = .ok (.if_icmp .ne off, 3)) (ht : (pc : Int) + off = (tgt : Int)) (hr : -2147483648 ≤ a ∧ a < 2147483648 ∧ -2147483648 ≤ b ∧ b < 2147483648) (kt : ¬ a = b → zw_X l d y Q tgt L st M) (kf : a = b → zw_X l d y Q (pc + 3) L st M) : zw_X l d y Q pc L (.int (zn_I b) :: .int (zn_I a) :: st) M := by
  have e : (zn_I a = zn_I b) ↔ (a = b) := zn_eq ⟨by omega, by omega, by omega, by omega⟩
  exact zx_icmp_ne hd ht (fun h => kt (by first | exact e.mp h | exact fun z => h (e.mpr z))) (fun h => kf (by first | exact e.mp h | exact fun z => h (e.mpr z)))
theorem zy_if_lt {l : zw_Lh} {d : Nat} {y : zw_I} {Q : Option Value → zw_M → Prop} {pc : Nat} {L st : List Value} {M : zw_M} {a : Int} {off : Int} {tgt : Nat} (hd : decode y.2.1 pc = .ok (.ifCond .lt off, 3)) (ht : (pc : Int) + off = (tgt : Int)) (hr : -2147483648 ≤ a ∧ a < 2147483648) (kt : a < 0 → zw_X l d y Q tgt L st M) (kf : ¬ a < 0 → zw_X l d y Q (pc + 3) L st M) : zw_X l d y Q pc L (.int (zn_I a) :: st) M := by
  have e : (zn_I a < zn_I 0) ↔ (a < 0) := zn_lt ⟨by omega, by omega, by omega, by omega⟩
  exact zx_if_lt hd ht (fun h => kt (by first | exact e.mp h | exact fun z => h (e.mpr z))) (fun h => kf (by first | exact e.mp h | exact fun z => h (e.mpr z)))
theorem zy_icmp_lt {l : zw_Lh} {d : Nat} {y : zw_I} {Q : Option Value → zw_M → Prop} {pc : Nat} {L st : List Value} {M : zw_M} {a b : Int} {off : Int} {tgt : Nat} (hd : decode y.2.1 pc = .ok (.if_icmp .lt off, 3)) (ht : (pc : Int) + off = (tgt : Int)) (hr : -2147483648 ≤ a ∧ a < 2147483648 ∧ -2147483648 ≤ b ∧ b < 2147483648) (kt : a < b → zw_X l d y Q tgt L st M) (kf : ¬ a < b → zw_X l d y Q (pc + 3) L st M) : zw_X l d y Q pc L (.int (zn_I b) :: .int (zn_I a) :: st) M := by
  have e : (zn_I a < zn_I b) ↔ (a < b) := zn_lt ⟨by omega, by omega, by omega, by omega⟩
  exact zx_icmp_lt hd ht (fun h => kt (by first | exact e.mp h | exact fun z => h (e.mpr z))) (fun h => kf (by first | exact e.mp h | exact fun z => h (e.mpr z)))
theorem zy_if_ge {l : zw_Lh} {d : Nat} {y : zw_I} {Q : Option Value → zw_M → Prop} {pc : Nat} {L st : List Value} {M : zw_M} {a : Int} {off : Int} {tgt : Nat} (hd : decode y.2.1 pc = .ok (.ifCond .ge off, 3)) (ht : (pc : Int) + off = (tgt : Int)) (hr : -2147483648 ≤ a ∧ a < 2147483648) (kt : 0 ≤ a → zw_X l d y Q tgt L st M) (kf : ¬ 0 ≤ a → zw_X l d y Q (pc + 3) L st M) : zw_X l d y Q pc L (.int (zn_I a) :: st) M := by
  have e : (zn_I 0 ≤ zn_I a) ↔ (0 ≤ a) := zn_le ⟨by omega, by omega, by omega, by omega⟩
  exact zx_if_ge hd ht (fun h => kt (by first | exact e.mp h | exact fun z => h (e.mpr z))) (fun h => kf (by first | exact e.mp h | exact fun z => h (e.mpr z)))
theorem zy_icmp_ge {l : zw_Lh} {d : Nat} {y : zw_I} {Q : Option Value → zw_M → Prop} {pc : Nat} {L st : List Value} {M : zw_M} {a b : Int} {off : Int} {tgt : Nat} (hd : decode y.2.1 pc = .ok (.if_icmp .ge off, 3)) (ht : (pc : Int) + off = (tgt : Int)) (hr : -2147483648 ≤ a ∧ a < 2147483648 ∧ -2147483648 ≤ b ∧ b < 2147483648) (kt : b ≤ a → zw_X l d y Q tgt L st M) (kf : ¬ b ≤ a → zw_X l d y Q (pc + 3) L st M) : zw_X l d y Q pc L (.int (zn_I b) :: .int (zn_I a) :: st) M := by
  have e : (zn_I b ≤ zn_I a) ↔ (b ≤ a) := zn_le ⟨by omega, by omega, by omega, by omega⟩
  exact zx_icmp_ge hd ht (fun h => kt (by first | exact e.mp h | exact fun z => h (e.mpr z))) (fun h => kf (by first | exact e.mp h | exact fun z => h (e.mpr z)))
theorem zy_if_gt {l : zw_Lh} {d : Nat} {y : zw_I} {Q : Option Value → zw_M → Prop} {pc : Nat} {L st : List Value} {M : zw_M} {a : Int} {off : Int} {tgt : Nat} (hd : decode y.2.1 pc = .ok (.ifCond .gt off, 3)) (ht : (pc : Int) + off = (tgt : Int)) (hr : -2147483648 ≤ a ∧ a < 2147483648) (kt : 0 < a → zw_X l d y Q tgt L st M) (kf : ¬ 0 < a → zw_X l d y Q (pc + 3) L st M) : zw_X l d y Q pc L (.int (zn_I a) :: st) M := by
  have e : (zn_I 0 < zn_I a) ↔ (0 < a) := zn_lt ⟨by omega, by omega, by omega, by omega⟩
  exact zx_if_gt hd ht (fun h => kt (by first | exact e.mp h | exact fun z => h (e.mpr z))) (fun h => kf (by first | exact e.mp h | exact fun z => h (e.mpr z)))
theorem zy_icmp_gt {l : zw_Lh} {d : Nat} {y : zw_I} {Q : Option Value → zw_M → Prop} {pc : Nat} {L st : List Value} {M : zw_M} {a b : Int} {off : Int} {tgt : Nat} (hd : decode y.2.1 pc = .ok (.if_icmp .gt off, 3)) (ht : (pc : Int) + off = (tgt : Int)) (hr : -2147483648 ≤ a ∧ a < 2147483648 ∧ -2147483648 ≤ b ∧ b < 2147483648) (kt : b < a → zw_X l d y Q tgt L st M) (kf : ¬ b < a → zw_X l d y Q (pc + 3) L st M) : zw_X l d y Q pc L (.int (zn_I b) :: .int (zn_I a) :: st) M := by
  have e : (zn_I b < zn_I a) ↔ (b < a) := zn_lt ⟨by omega, by omega, by omega, by omega⟩
  exact zx_icmp_gt hd ht (fun h => kt (by first | exact e.mp h | exact fun z => h (e.mpr z))) (fun h => kf (by first | exact e.mp h | exact fun z => h (e.mpr z)))
theorem zy_if_le {l : zw_Lh} {d : Nat} {y : zw_I} {Q : Option Value → zw_M → Prop} {pc : Nat} {L st : List Value} {M : zw_M} {a : Int} {off : Int} {tgt : Nat} (hd : decode y.2.1 pc = .ok (.ifCond .le off, 3)) (ht : (pc : Int) + off = (tgt : Int)) (hr : -2147483648 ≤ a ∧ a < 2147483648) (kt : a ≤ 0 → zw_X l d y Q tgt L st M) (kf : ¬ a ≤ 0 → zw_X l d y Q (pc + 3) L st M) : zw_X l d y Q pc L (.int (zn_I a) :: st) M := by
  have e : (zn_I a ≤ zn_I 0) ↔ (a ≤ 0) := zn_le ⟨by omega, by omega, by omega, by omega⟩
  exact zx_if_le hd ht (fun h => kt (by first | exact e.mp h | exact fun z => h (e.mpr z))) (fun h => kf (by first | exact e.mp h | exact fun z => h (e.mpr z)))
theorem zy_icmp_le {l : zw_Lh} {d : Nat} {y : zw_I} {Q : Option Value → zw_M → Prop} {pc : Nat} {L st : List Value} {M : zw_M} {a b : Int} {off : Int} {tgt : Nat} (hd : decode y.2.1 pc = .ok (.if_icmp .le off, 3)) (ht : (pc : Int) + off = (tgt : Int)) (hr : -2147483648 ≤ a ∧ a < 2147483648 ∧ -2147483648 ≤ b ∧ b < 2147483648) (kt : a ≤ b → zw_X l d y Q tgt L st M) (kf : ¬ a ≤ b → zw_X l d y Q (pc + 3) L st M) : zw_X l d y Q pc L (.int (zn_I b) :: .int (zn_I a) :: st) M := by
  have e : (zn_I a ≤ zn_I b) ↔ (a ≤ b) := zn_le ⟨by omega, by omega, by omega, by omega⟩
  exact zx_icmp_le hd ht (fun h => kt (by first | exact e.mp h | exact fun z => h (e.mpr z))) (fun h => kf (by first | exact e.mp h | exact fun z => h (e.mpr z)))
theorem zy_ifB_eq {l : zw_Lh} {d : Nat} {y : zw_I} {Q : Option Value → zw_M → Prop} {pc : Nat} {L st : List Value} {M : zw_M} {p : Prop} [Decidable p] {off : Int} {tgt : Nat} (hd : decode y.2.1 pc = .ok (.ifCond .eq off, 3)) (ht : (pc : Int) + off = (tgt : Int)) (kt : ¬ p → zw_X l d y Q tgt L st M) (kf : p → zw_X l d y Q (pc + 3) L st M) : zw_X l d y Q pc L (.int (zn_B p) :: st) M := by
  refine zx_if_eq hd ht (fun h => kt fun hp => ?_) (fun h => kf (Classical.byContradiction fun hp => h ?_))
  · rw [zn_B, if_pos hp] at h
    exact absurd h (by decide)
  · rw [zn_B, if_neg hp]
    rfl
theorem zy_ifB_ne {l : zw_Lh} {d : Nat} {y : zw_I} {Q : Option Value → zw_M → Prop} {pc : Nat} {L st : List Value} {M : zw_M} {p : Prop} [Decidable p] {off : Int} {tgt : Nat} (hd : decode y.2.1 pc = .ok (.ifCond .ne off, 3)) (ht : (pc : Int) + off = (tgt : Int)) (kt : p → zw_X l d y Q tgt L st M) (kf : ¬ p → zw_X l d y Q (pc + 3) L st M) : zw_X l d y Q pc L (.int (zn_B p) :: st) M := by
  refine zx_if_ne hd ht (fun h => kt (Classical.byContradiction fun hp => h ?_)) (fun h => kf fun hp => ?_)
  · rw [zn_B, if_neg hp]
    rfl
  · rw [zn_B, if_pos hp] at h
    exact absurd h (by decide)
theorem zy_geti {l : zw_Lh} {d : Nat} {y : zw_I} {Q : Option Value → zw_M → Prop} {pc : Nat} {L st : List Value} {M : zw_M} {q k idx : Nat} {ty : FieldType} {fin : Bool} {x : Int32} (hd : decode y.2.1 pc = .ok (.getfield idx, 3)) (hf : zw_F y.1.cls idx q k none ty fin) (hv : M.1 q k = x) (kk : zw_X l d y Q (pc + 3) L (.int x :: st) M) : zw_X l d y Q pc L (.ref q :: st) M := zx_geti hd hf (by rw [hv]; exact kk)
theorem zy_iald {l : zw_Lh} {d : Nat} {y : zw_I} {Q : Option Value → zw_M → Prop} {pc : Nat} {L st : List Value} {M : zw_M} {q n i : Nat} {z : Int} {x : Int32} (hd : decode y.2.1 pc = .ok (.iaload, 1)) (hs : zs_S[q]? = some (.inl (0, n))) (hn : n ≤ 1000) (hi : z = (i : Int)) (h1 : i < n) (hv : M.1 q i = x) (kk : zw_X l d y Q (pc + 1) L (.int x :: st) M) : zw_X l d y Q pc L (.int (zn_I z) :: .ref q :: st) M := by
  subst hi
  obtain ⟨e1, e2⟩ := zn_vi (i := (i : Int)) (n := n) (by omega) (by omega) hn
  refine zx_iald hd hs e1 ?_
  rw [e2, Int.toNat_natCast, hv]
  exact kk
theorem zy_iast {l : zw_Lh} {d : Nat} {y : zw_I} {Q : Option Value → zw_M → Prop} {pc : Nat} {L st : List Value} {M : zw_M} {q n i : Nat} {z : Int} {x : Int32} (hd : decode y.2.1 pc = .ok (.iastore, 1)) (hs : zs_S[q]? = some (.inl (0, n))) (hn : n ≤ 1000) (hi : z = (i : Int)) (h1 : i < n) (kk : zw_X l d y Q (pc + 1) L st (zw_s M q i (x))) : zw_X l d y Q pc L (.int x :: .int (zn_I z) :: .ref q :: st) M := by
  subst hi
  obtain ⟨e1, e2⟩ := zn_vi (i := (i : Int)) (n := n) (by omega) (by omega) hn
  refine zx_iast hd hs e1 ?_
  rw [e2, Int.toNat_natCast]
  exact kk
theorem zy_cald {l : zw_Lh} {d : Nat} {y : zw_I} {Q : Option Value → zw_M → Prop} {pc : Nat} {L st : List Value} {M : zw_M} {q n i : Nat} {z : Int} {x : Int32} (hd : decode y.2.1 pc = .ok (.caload, 1)) (hs : zs_S[q]? = some (.inl (1, n))) (hn : n ≤ 1000) (hi : z = (i : Int)) (h1 : i < n) (hv : M.1 q i = x) (kk : zw_X l d y Q (pc + 1) L (.int x :: st) M) : zw_X l d y Q pc L (.int (zn_I z) :: .ref q :: st) M := by
  subst hi
  obtain ⟨e1, e2⟩ := zn_vi (i := (i : Int)) (n := n) (by omega) (by omega) hn
  refine zx_cald hd hs e1 ?_
  rw [e2, Int.toNat_natCast, hv]
  exact kk
theorem zy_cast {l : zw_Lh} {d : Nat} {y : zw_I} {Q : Option Value → zw_M → Prop} {pc : Nat} {L st : List Value} {M : zw_M} {q n i : Nat} {z : Int} {x : Int32} (hd : decode y.2.1 pc = .ok (.castore, 1)) (hs : zs_S[q]? = some (.inl (1, n))) (hn : n ≤ 1000) (hi : z = (i : Int)) (h1 : i < n) (kk : zw_X l d y Q (pc + 1) L st (zw_s M q i (vp_nar .char x))) : zw_X l d y Q pc L (.int x :: .int (zn_I z) :: .ref q :: st) M := by
  subst hi
  obtain ⟨e1, e2⟩ := zn_vi (i := (i : Int)) (n := n) (by omega) (by omega) hn
  refine zx_cast hd hs e1 ?_
  rw [e2, Int.toNat_natCast]
  exact kk
theorem zk_B {p : Prop} [Decidable p] {M : zw_M} {x : Int32} (h : x = zn_B p) : zw_i (zn_B p) M (some (.int x)) M := ⟨by rw [h], rfl⟩
theorem zk_I {x z : Int} {M : zw_M} (h : x = z) : zw_i (zn_I z) M (some (.int (zn_I x))) M := ⟨by rw [h], rfl⟩
theorem zn_ite {p : Prop} [Decidable p] {a b : Int} : zn_I (if p then a else b) = if p then zn_I a else zn_I b := by split <;> rfl
/-- a contract at one end, at another -/
theorem zw_C_imp {l : zw_Lh} {d : Nat} {y : zw_I} {vs : List Value} {M : zw_M} {Q Q1 : Option Value → zw_M → Prop} (h : ∀ v M', Q v M' → Q1 v M') (hc : zw_C l d y vs M Q) : zw_C l d y vs M Q1 := by
  intro G sz hD p e g1 g2 g3 s m args below g4 g5 g6 g7
  obtain ⟨t, o, a, b1, b2, ⟨⟨v, M1, c1, c2, c3⟩, c4⟩, c5⟩ := hc G sz hD p e g1 g2 g3 s m args below g4 g5 g6 g7
  exact ⟨t, o, a, b1, b2, ⟨⟨v, M1, c1, h v M1 c2, c3⟩, c4⟩, c5⟩
