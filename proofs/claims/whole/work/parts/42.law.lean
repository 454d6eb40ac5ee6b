/-! THE CLAIM OUT OF ONE WALK OF THE LAW'S BODY. Your part is whole_start (and what it stands on); all else here is the same for every law, but numbers. -/
def R_law : String := "IslandThatLeansLaw"
def lw_P (b : Addr) (xs : List Int32) (args : Array Value) (s : State) : Prop := args = #[.ref b] ∧ s.IntsAt b xs ∧ xs.length ≤ 2560 ∧ (Jvm.Cond.and given_1 narrow_1).before args s = true
def lw_Q (_ : Array Value) (s : State) (o : Outcome) (t : State) : Prop := o = .returned (some (.int 1)) ∧ Framed s o t [] 600000 7302250
def lw_Z (below : List Frame) (a : Array Value) (s : State) : State → Prop := fun t => ∃ o, t.status = .running ∧ Ended t below o ∧ lw_Q a s o t
/-- the law's own end, with 1 on the stack, nothing written that was there before, its room as the claim has it -/
theorem lw_ret {p : Program} {l : Launch} {e : Env} {s : State} {m : MethodId} {below : List Frame} {meth : Method} {c : Code} {b : Nat} (hx : p.tables.exec = Jvm.exec) (hb : c.code = code) (hr : meth.sig.returnType = ret) (hlocks : meth.locks = false) {pc : Nat} {H : Heap} {ls : Array Slot} (hdg : decode code pc = .ok (.ireturn, 1)) : W p l e room_1 s m #[Value.ref b] below meth c H [] 600000 7302250 (lw_Z below #[Value.ref b] s) (F0 m pc ls [.int 1]) := by
  intro T hT X
  obtain ⟨fs, hret, hrun, hended, hW, hframe⟩ := X.leave (v := some (.int 1)) (hlocks := hlocks) (fun h => by rw [hr] at h; cases h)
  have hmeth' : T.vm.method? m = some meth := X.method'
  refine ⟨T.setFrames fs, ?_, .returned (some (.int 1)), hrun, hended, rfl, ⟨_, rfl⟩, hW, hframe⟩
  jvm_step X.here [X.here.top, hx, hb, hdg, hmeth', hr, ret, narrow_b1]
  (try refine ⟨rfl, ?_⟩); (try refine ⟨rfl, ?_⟩)
  first | (intro acts; rw [hret _ acts rfl rfl rfl]) | rw [hret _ _ rfl rfl rfl]
  exact Steps.refl _
/-- what holds at the law's entry: the machine, the code, the tables' words (any of lw_tbl by 'hts w (by decide +kernel)'), the script of L ints xs at the cell b, what the Statement gives of the start (any of its parts by flat_of_before) -/
def lw_At (p : Program) (s : State) (m : MethodId) (meth : Method) (c : Code) (b L : Nat) (xs : Nat → Int32) : Prop :=
  p.tables.exec = Jvm.exec ∧ c.code = code ∧ meth.sig.returnType = ret ∧ c.maxLocals = 4 ∧ s.vm.findClass R_law = some m.cls ∧ (∀ w ∈ lw_tbl, w.before #[Value.ref b] s = true) ∧ va_X b L xs s s.heap ∧ b < s.heap.size ∧ meth.locks = false ∧ (Jvm.Cond.and given_1 narrow_1).before #[Value.ref b] s = true
/-! THE LAW'S FRAME over the abstract memory -/
def lz_K (p : Program) (s : State) (m : MethodId) (meth : Method) (c : Code) (b L : Nat) (xs : Nat → Int32) (G : zw_G) : Prop :=
  lw_At p s m meth c b L xs ∧ va_K G.1 zs_cl (zw_t G) s ∧ zw_D G ∧ zw_N s ∧ (∀ k, k < zs_S.length → s.heap.size ≤ G.2.2 k) ∧ L ≤ 2560
def lz_ls (b : Nat) (G : zw_G) (i : Nat) : List (Nat × Value) := [(3, .int (zn_I (i : Int))), (2, .ref (G.2.2 33)), (1, .ref (G.2.2 0)), (0, .ref b)]
/-- a point in the law's body behind the making of both -/
def lz_X (p : Program) (l : Launch) (e : Env) (s : State) (m : MethodId) (below : List Frame) (meth : Method) (c : Code) (b : Nat) (G : zw_G) (i pc : Nat) (st : List Value) (M : zw_M) : Prop :=
  ∀ (H : Heap) (locs : List Loc) (ls : Array Slot), va_P G.1 zs_cl (zw_W G M) H → va_S (fun q : Nat => s.heap.size ≤ q) s.heap H locs → lv_has ls 4 (lz_ls b G i) →
    W p l e room_1 s m #[Value.ref b] below meth c H locs 100 2000 (lw_Z below #[Value.ref b] s) (F0 m pc ls (st.map (zw_v G.2.2)))
theorem lz_vi {i : Int} {n : Nat} (h0 : 0 ≤ i) (h1 : i < n) (hn : n ≤ 2560) : vp_in (zn_I i) n ∧ (zn_I i).toNatClampNeg = i.toNat := by
  have e : (zn_I i).toInt = i := zn_toInt ⟨by omega, by omega⟩
  refine ⟨?_, ?_⟩
  · rw [vp_in_iff, e]
    exact ⟨h0, h1⟩
  · show (zn_I i).toInt.toNat = _
    rw [e]
theorem lz_31 (x : Int32) : ∃ k : Nat, k < 32 ∧ x &&& 31 = zn_I (k : Int) := by
  refine ⟨(x &&& 31).toBitVec.toNat, ?_, ?_⟩
  · have e : (x &&& 31).toBitVec = x.toBitVec &&& 31#32 := rfl
    rw [e, BitVec.toNat_and]
    exact Nat.lt_of_le_of_lt Nat.and_le_right (by decide)
  · rw [← zn_nat]
    apply Int32.toBitVec_inj.1
    show (x &&& 31).toBitVec = BitVec.ofNat 32 (x &&& 31).toBitVec.toNat
    rw [BitVec.ofNat_toNat, BitVec.setWidth_eq]
theorem lz_ln (v : Int64) : ∃ w : Nat, w < 2 ^ 64 ∧ v = lN w := by
  refine ⟨v.toBitVec.toNat, v.toBitVec.isLt, ?_⟩
  apply wb_inj
  rw [wb_tb, BitVec.ofNat_toNat, BitVec.setWidth_eq]
section LZ
variable {p : Program} {l : Launch} {e : Env} {s : State} {m : MethodId} {below : List Frame} {meth : Method} {c : Code} {b L : Nat} {xs : Nat → Int32} {G : zw_G} {i pc : Nat} {st : List Value} {M : zw_M}
theorem lz_ref1 (C0 : lz_K p s m meth c b L xs G) (hd : decode code pc = .ok (.aload_n 1, 1)) (k : lz_X p l e s m below meth c b G i (pc + 1) (.ref 0 :: st) M) : lz_X p l e s m below meth c b G i pc st M := by
  intro H locs ls hP hS hl
  exact lv_aload_n C0.1.1 C0.1.2.1 hd rfl (lv_at hl 2 rfl) (k H locs ls hP hS hl)
theorem lz_ref2 (C0 : lz_K p s m meth c b L xs G) (hd : decode code pc = .ok (.aload_n 2, 1)) (k : lz_X p l e s m below meth c b G i (pc + 1) (.ref 33 :: st) M) : lz_X p l e s m below meth c b G i pc st M := by
  intro H locs ls hP hS hl
  exact lv_aload_n C0.1.1 C0.1.2.1 hd rfl (lv_at hl 1 rfl) (k H locs ls hP hS hl)
/-- an int of the script -/
theorem lz_arg (C0 : lz_K p s m meth c b L xs G) (j : Nat) (h0 : decode code pc = .ok (.aload_n 0, 1)) (h1 : decode code (pc + 1) = .ok (.iload_n 3, 1)) (h2 : decode code (pc + 2) = .ok (.iconst (j : Int), 1)) (h3 : decode code (pc + 3) = .ok (.iadd, 1)) (h4 : decode code (pc + 4) = .ok (.iaload, 1)) (hj : i + j < L) (k : lz_X p l e s m below meth c b G i (pc + 5) (.int (zn_I (xs (i + j)).toInt) :: st) M) : lz_X p l e s m below meth c b G i pc st M := by
  intro H locs ls hP hS hl
  obtain ⟨⟨hx, hb, hr, hml, hown, hts, hX, hbl, hlocks, hgv⟩, hK, hD, hN, hA, hL⟩ := C0
  refine lv_aload_n hx hb h0 rfl (lv_at hl 3 rfl) ?_
  refine lv_iload_n hx hb h1 rfl (lv_at hl 0 rfl) ?_
  refine lv_iconst (v := zn_I (j : Int)) hx hb h2 rfl ?_
  refine lv_iadd hx hb h3 ?_
  obtain ⟨e1, e2⟩ := lz_vi (i := (i : Int) + (j : Int)) (n := L) (by omega) (by omega) hL
  rw [zn_add]
  refine va_sld hx hb hX hbl (Nat.not_le.mpr hbl) hS e1 h4 ?_
  rw [e2, show ((i : Int) + (j : Int)).toNat = i + j by omega, ← zn_self (xs (i + j))]
  exact k H locs ls hP hS hl
/-- the first int of a call -/
theorem lz_arg0 (C0 : lz_K p s m meth c b L xs G) (h0 : decode code pc = .ok (.aload_n 0, 1)) (h1 : decode code (pc + 1) = .ok (.iload_n 3, 1)) (h4 : decode code (pc + 2) = .ok (.iaload, 1)) (hj : i < L) (k : lz_X p l e s m below meth c b G i (pc + 3) (.int (xs i) :: st) M) : lz_X p l e s m below meth c b G i pc st M := by
  intro H locs ls hP hS hl
  obtain ⟨⟨hx, hb, hr, hml, hown, hts, hX, hbl, hlocks, hgv⟩, hK, hD, hN, hA, hL⟩ := C0
  refine lv_aload_n hx hb h0 rfl (lv_at hl 3 rfl) ?_
  refine lv_iload_n hx hb h1 rfl (lv_at hl 0 rfl) ?_
  obtain ⟨e1, e2⟩ := lz_vi (i := (i : Int)) (n := L) (by omega) (by omega) hL
  refine va_sld hx hb hX hbl (Nat.not_le.mpr hbl) hS e1 h4 ?_
  rw [e2, Int.toNat_natCast]
  exact k H locs ls hP hS hl
theorem lz_bipush (C0 : lz_K p s m meth c b L xs G) {n : Int} {v : Int32} (hd : decode code pc = .ok (.bipush n, 2)) (hv : (Int8.ofInt n).toInt32 = v) (k : lz_X p l e s m below meth c b G i (pc + 2) (.int v :: st) M) : lz_X p l e s m below meth c b G i pc st M := by
  intro H locs ls hP hS hl
  exact lv_bipush C0.1.1 C0.1.2.1 hd hv (k H locs ls hP hS hl)
theorem lz_iand (C0 : lz_K p s m meth c b L xs G) {x y : Int32} (hd : decode code pc = .ok (.iand, 1)) (k : lz_X p l e s m below meth c b G i (pc + 1) (.int (x &&& y) :: st) M) : lz_X p l e s m below meth c b G i pc (.int y :: .int x :: st) M := by
  intro H locs ls hP hS hl
  exact lv_iand C0.1.1 C0.1.2.1 hd (k H locs ls hP hS hl)
theorem lz_i2l (C0 : lz_K p s m meth c b L xs G) {x : Int32} (hd : decode code pc = .ok (.i2l, 1)) (k : lz_X p l e s m below meth c b G i (pc + 1) (.long x.toInt64 :: st) M) : lz_X p l e s m below meth c b G i pc (.int x :: st) M := by
  intro H locs ls hP hS hl
  exact lv_i2l C0.1.1 C0.1.2.1 hd rfl (k H locs ls hP hS hl)
theorem lz_lshl (C0 : lz_K p s m meth c b L xs G) {x : Int64} {y : Int32} (hd : decode code pc = .ok (.lshl, 1)) (k : lz_X p l e s m below meth c b G i (pc + 1) (.long (x <<< (y.toInt64 &&& 63)) :: st) M) : lz_X p l e s m below meth c b G i pc (.int y :: .long x :: st) M := by
  intro H locs ls hP hS hl
  exact lv_lshl C0.1.1 C0.1.2.1 hd rfl (k H locs ls hP hS hl)
theorem lz_land (C0 : lz_K p s m meth c b L xs G) {x y : Int64} (hd : decode code pc = .ok (.land, 1)) (k : lz_X p l e s m below meth c b G i (pc + 1) (.long (x &&& y) :: st) M) : lz_X p l e s m below meth c b G i pc (.long y :: .long x :: st) M := by
  intro H locs ls hP hS hl
  exact lv_land C0.1.1 C0.1.2.1 hd (k H locs ls hP hS hl)
theorem lz_lor (C0 : lz_K p s m meth c b L xs G) {x y : Int64} (hd : decode code pc = .ok (.lor, 1)) (k : lz_X p l e s m below meth c b G i (pc + 1) (.long (x ||| y) :: st) M) : lz_X p l e s m below meth c b G i pc (.long y :: .long x :: st) M := by
  intro H locs ls hP hS hl
  exact lv_lor C0.1.1 C0.1.2.1 hd (k H locs ls hP hS hl)
theorem lz_ldc2 (C0 : lz_K p s m meth c b L xs G) {n : Nat} {v : Int64} (hd : decode code pc = .ok (.ldc2_w n, 3)) (hw : Cond.constantLong RL n v ∈ zs_G) (k : lz_X p l e s m below meth c b G i (pc + 3) (.long v :: st) M) : lz_X p l e s m below meth c b G i pc st M := by
  intro H locs ls hP hS hl
  exact lv_ldc2 C0.1.1 C0.1.2.1 C0.1.2.2.2.2.1 (C0.1.2.2.2.2.2.1 _ (List.mem_filter.mp hw).1) hd (k H locs ls hP hS hl)
/-- two like answers -/
theorem lz_eq (C0 : lz_K p s m meth c b L xs G) {x : Int32} {off : Int} {tgt : Nat} (hd : decode code pc = .ok (.if_icmp .eq off, 3)) (ht : (pc : Int) + off = (tgt : Int)) (k : lz_X p l e s m below meth c b G i tgt st M) : lz_X p l e s m below meth c b G i pc (.int x :: .int x :: st) M := by
  intro H locs ls hP hS hl
  exact lv_icmp_eq C0.1.1 C0.1.2.1 hd ht (fun _ => k H locs ls hP hS hl) (fun h => absurd rfl h)
theorem lz_lcmp (C0 : lz_K p s m meth c b L xs G) {x : Int64} {off : Int} {tgt : Nat} (hd : decode code pc = .ok (.lcmp, 1)) (hd2 : decode code (pc + 1) = .ok (.ifCond .eq off, 3)) (ht : ((pc + 1 : Nat) : Int) + off = (tgt : Int)) (k : lz_X p l e s m below meth c b G i tgt st M) : lz_X p l e s m below meth c b G i pc (.long x :: .long x :: st) M := by
  intro H locs ls hP hS hl
  refine W.lcmp C0.1.1 C0.1.2.1 hd ?_
  have e0 : lg_cmp x x = 0 := by simp [lg_cmp]
  rw [e0]
  exact lv_if_eq C0.1.1 C0.1.2.1 hd2 ht (fun _ => k H locs ls hP hS hl) (fun h => absurd rfl h)
theorem lz_tin (C0 : lz_K p s m meth c b L xs G) {dflt lo hi off z : Int} {offs : Array Int} {len tgt : Nat} {x : Int32} (hd : decode code pc = .ok (.tableswitch dflt lo hi offs, len)) (hx : x.toInt = z) (h1 : ¬ z < lo) (h2 : ¬ hi < z) (ho : offs[(z - lo).toNat]? = some off) (ht : (pc : Int) + off = (tgt : Int)) (k : lz_X p l e s m below meth c b G i tgt st M) : lz_X p l e s m below meth c b G i pc (.int x :: st) M := by
  intro H locs ls hP hS hl
  exact lv_tableIn C0.1.1 C0.1.2.1 hd (by rw [hx]; exact h1) (by rw [hx]; exact h2) (by rw [hx]; exact ho) ht (k H locs ls hP hS hl)
theorem lz_tout (C0 : lz_K p s m meth c b L xs G) {dflt lo hi : Int} {offs : Array Int} {len tgt : Nat} {x : Int32} (hd : decode code pc = .ok (.tableswitch dflt lo hi offs, len)) (h : x.toInt < lo ∨ hi < x.toInt) (ht : (pc : Int) + dflt = (tgt : Int)) (k : lz_X p l e s m below meth c b G i tgt st M) : lz_X p l e s m below meth c b G i pc (.int x :: st) M := by
  intro H locs ls hP hS hl
  exact lv_tableOut C0.1.1 C0.1.2.1 hd h ht (k H locs ls hP hS hl)
/-- the next call -/
theorem lz_next (C0 : lz_K p s m meth c b L xs G) (k : lz_X p l e s m below meth c b G (i + 5) 18 st M) : lz_X p l e s m below meth c b G i 921 st M := by
  intro H locs ls hP hS hl
  refine lv_iinc (v := zn_I ((i + 5 : Nat) : Int)) (lv' := lz_ls b G (i + 5)) C0.1.1 C0.1.2.1 dL_law_921 hl (k := 0) rfl (zn_add (i : Int) 5) (by decide) rfl (fun ls1 hl1 => ?_)
  exact lv_goto (tgt := 18) C0.1.1 C0.1.2.1 dL_law_924 (by decide) (k H locs ls1 hP hS hl1)
/-- is there another call; the end -/
theorem lz_head (C0 : lz_K p s m meth c b L xs G) (k : i + 5 ≤ L → lz_X p l e s m below meth c b G i 26 [] M) (hi : i ≤ L + 5) : lz_X p l e s m below meth c b G i 18 [] M := by
  intro H locs ls hP hS hl
  obtain ⟨⟨hx, hb, hr, hml, hown, hts, hX, hbl, hlocks, hgv⟩, hK, hD, hN, hA, hL⟩ := id C0
  refine lv_iload_n hx hb dL_law_18 rfl (lv_at hl 0 rfl) ?_
  refine lv_aload_n hx hb dL_law_19 rfl (lv_at hl 3 rfl) ?_
  refine va_slen hx hb hX hbl (Nat.not_le.mpr hbl) hS dL_law_20 ?_
  refine lv_iconst (v := zn_I 5) hx hb dL_law_21 rfl ?_
  refine lv_isub hx hb dL_law_22 ?_
  rw [show Int32.ofNat L = zn_I (L : Int) from zn_nat L, zn_sub]
  refine lv_icmp_gt (tgt := 927) hx hb dL_law_23 (by decide) (fun h => ?_) (fun h => ?_)
  · refine lv_iconst (v := 1) hx hb dL_law_927 rfl ?_
    refine va_forget (fun q hq => hS.2.2 q hq) ?_
    refine W.widen (k := 600000) (n := 7302250) (Nat.le_of_ble_eq_true rfl) (Nat.le_of_ble_eq_true rfl) ?_
    exact lw_ret hx hb hr hlocks dL_law_928
  · rw [zn_lt ⟨by omega, by omega, by omega, by omega⟩] at h
    exact k (by omega) H locs ls hP hS hl
theorem lz_go (C0 : lz_K p s m meth c b L xs G) {H : Heap} {locs : List Loc} {ls : Array Slot} {rest st0 : List Value} {a : Array Value} {A0 A1 : Nat → Prop} {H0 : Heap} {free : Addr → Prop} {R : Room} {args : Array Value} {Q : State → Prop} {Q1 : Option Value → zw_M → Prop} {cells slots : Nat} (hr : va_Run p l e R s m args below meth c H locs cells slots 0 0 (F0 m pc ls st0) rest (zw_Q G A1 Q1 a) free) (hS : va_S A0 H0 H locs) (hA : ∀ q, q < H.size → A1 q → A0 q) (hf : ∀ q, free q → A0 q)
    (kk : ∀ (v : Option Value) (M : zw_M) (H1 : Heap) (locs1 : List Loc), Q1 v M → va_P G.1 zs_cl (zw_W G M) H1 → va_S A0 H0 H1 locs1 → W p l e R s m args below meth c H1 locs1 cells slots Q (F0 m (pc + 3) ls ((v.map (zw_v G.2.2)).toList ++ rest))) : W p l e R s m args below meth c H locs cells slots Q (F0 m pc ls st0) := by
  intro T hT X
  obtain ⟨v, st₀, t, T', L, h0, X', hL, e1, e2, ⟨⟨r, u, hv, hp, hb⟩, hz, hk⟩, st⟩ := hr T hT X
  cases hv
  rw [h0] at hz hk
  obtain ⟨t2, a1, b1⟩ := kk r u T'.heap (locs ++ L) hp (by rw [e1]; exact hb)
    ⟨Nat.le_trans hS.1 (by rw [e1]; exact hz), fun q h1 h2 => by rw [e1, hk q (Nat.lt_of_lt_of_le h1 hS.1) (fun z => h2 (hA q (Nat.lt_of_lt_of_le h1 hS.1) z))]; exact hS.2.1 q h1 h2, fun q hq => by
      rcases List.mem_append.mp hq with h | h
      · exact hS.2.2 q h
      · exact hf _ (hL q h)⟩ T' rfl X'
  exact ⟨t2, st t2 a1, b1⟩
theorem lz_callV (C0 : lz_K p s m meth c b L xs G) {d : Nat} {st0 : List Value} {y1 : zw_I} {idx q : Nat} {vs : List Value} {Q1 : Option Value → zw_M → Prop} {n : Nat}
    (hd : decode code pc = .ok (.invokevirtual idx, 3)) (hl : Cond.methodLink RL idx y1.1 ∈ lw_tbl) (hy : zw_yV y1 n) (hrc : zw_rc q y1.1.cls) (hC : zw_C l d y1 (.ref q :: vs) M Q1) (hdp : d ≤ 2000) (hst : st0 = vs.reverse ++ .ref q :: st) (hn : vs.length = n) (hcat : (st.map fun v => v.category).sum ≤ 8)
    (k : ∀ v M', Q1 v M' → lz_X p l e s m below meth c b G i (pc + 3) (v.toList ++ st) M') : lz_X p l e s m below meth c b G i pc st0 M := by
  intro H locs ls hP hS hl1
  obtain ⟨⟨k1, k2, kr, k4, k5, k6, hX, hbl, hlocks, hgv⟩, k8, k9, k10, hA, hL⟩ := id C0
  obtain ⟨ci, ks, T, N, r1, r2⟩ := hrc
  have hw1 : ∀ w ∈ zs_G, w ∈ lw_tbl := fun w h => (List.mem_filter.mp h).1
  have hcode : Cond.code y1.1 y1.2.1 y1.2.2.1 y1.2.2.2 ∈ zs_G := hy.1 _ (by simp)
  have hgood : GoodIn lw_tbl (zw_ws y1) := fun w hw => by
    rcases List.mem_cons.mp hw with rfl | h
    · exact ⟨hw1 _ hcode, good_of_word (List.mem_filter.mp hcode).2⟩
    · exact ⟨hw1 _ h, good_of_word (List.mem_filter.mp h).2⟩
  have ok : ∀ w ∈ [Cond.instanceMethod y1.1, .selects y1.1.cls y1.1 y1.1, .initialized y1.1.cls, .code y1.1 y1.2.1 y1.2.2.1 y1.2.2.2], w.before #[Value.ref b] s = true := fun w h => k6 w (hw1 w (hy.1 w h))
  have hcb := callB_of (R := room_1) (rm := zw_rm d) (own := RL) (index := idx) (mc := 0) (ms := 0) n k6 hgood rfl rfl rfl (ok _ (by simp)) (k6 _ hl) hy.2.1 ⟨by show d + 1 ≤ 2048; omega, by show 8 + (y1.2.2.1 + 11) + d * 40 ≤ 84000; have := hy.2.2; omega⟩
  have hA2 : ∀ q, zw_A G H.size q → s.heap.size ≤ q := fun q hq => by
    rcases hq with ⟨k, h1, h2⟩ | h
    · rw [h2]; exact hA k h1
    · exact Nat.le_trans hS.1 h
  refine lz_go C0 (Q1 := Q1) (rest := st.map (zw_v G.2.2)) (va_runV (As := vs.map (zw_v G.2.2)) ⟨k1, k2, k4, k5, k6⟩ (hC G H.size k9) ⟨hcb, ok _ (by simp), ok _ (by simp)⟩ ⟨zw_blind, va_recv k8 hP r2 (zw_W_at r1), fun U hU hW => ⟨rfl, by rw [hU], by rw [hU]; exact hP, va_K.moved hW.alike k8, zw_N_warm hW k10⟩⟩ rfl (by simpa using hn) hl1.1 ?_ (lv_room (zw_cat hcat)) hd ⟨Nat.le_of_ble_eq_true rfl, Nat.le_of_ble_eq_true rfl⟩) hS (fun q _ => hA2 q) hA2 (fun v M1 H1 locs1 hQ hP1 hS1 => ?_)
  · show st0.map (zw_v G.2.2) = _
    rw [hst, List.map_append, List.map_reverse, List.map_cons]
    rfl
  · have := k v M1 hQ H1 locs1 ls hP1 hS1 hl1
    rw [List.map_append] at this
    cases v <;> exact this
end LZ
