/-! THE MAKING: rules over a world that grows -/
def zi_nest : List (String × Nat × MethodName × String) := [(RX10, 9, yX3_init, "IslandThatLeans"), (RX10, 18, yX4_init, "IslandThatLeans"), (RX10, 25, yX1_init, "IslandThatLeans"), (RX10, 32, yX8_init, "IslandThatLeans")]
def zi_N (U : State) : Prop := ∀ q ∈ zi_nest, va_Nw (.methodLinkNest q.1 q.2.1 q.2.2.1 q.2.2.2) U
theorem zi_N_same {U V : State} (h : U.vm = V.vm) (hN : zi_N U) : zi_N V := fun q hq => va_Nw.same rfl h (hN q hq)
theorem zi_N_warm {U V : State} (h : U.WarmedH V.vm) (hN : zi_N U) : zi_N V := fun q hq => va_Nw.warmM h (hN q hq)
def zi_rm (d mc ms : Nat) : Room := { frames := d, cells := mc, slots := ms, locals := d * 40 }
/-- the machine around the body of a maker -/
def zi_K (p : Program) (s : State) (m : MethodId) (args : Array Value) (c : Code) (cc : ByteArray) (own : String) (nL : Nat) (Ts : List Cond) (G : zw_G) (A : Nat → Prop) : Prop :=
  p.tables.exec = Jvm.exec ∧ c.code = cc ∧ c.maxLocals = nL ∧ s.vm.findClass own = some m.cls ∧ (∀ w ∈ Ts, w.before args s = true) ∧ va_K G.1 zs_cl (zw_t G) s ∧ (∀ q : Nat, s.heap.size ≤ q → A q) ∧ (∀ w ∈ zs_G, w ∈ Ts) ∧ zi_N s
def zi_X (p : Program) (l : Launch) (e : Env) (R : Room) (s : State) (m : MethodId) (args : Array Value) (below : List Frame) (meth : Method) (c : Code) (A : Nat → Prop) (Q : State → Prop) (G : zw_G) (pc : Nat) (Ls : List (Nat × Value)) (nL : Nat) (st : List Value) (ws : va_W) (cells slots : Nat) : Prop :=
  ∀ (H : Heap) (locs : List Loc) (ls : Array Slot), va_P G.1 zs_cl ws H → va_D A ws → va_S A s.heap H locs → lv_has ls nL Ls → W p l e R s m args below meth c H locs cells slots Q (F0 m pc ls st)
/-- A MAKER'S CONTRACT: out of a bare cell of class ci with the fields fs it makes the world that post says -/
def zi_C (l : Launch) (d : Nat) (y : zw_I) (vs : List Value) (ci : Nat) (fs : List Value) (mc ms : Nat) (G : zw_G) (post : Nat → va_W → Prop) : Prop :=
  ∀ (h0 sz : Nat), Met l y.1 (zw_ws y) (zi_rm d mc ms) (va_Pc (.ref h0 :: vs) (fun U => U.heap.size = sz ∧ va_P G.1 zs_cl [(h0, .inr (ci, fs))] U.heap ∧ va_K G.1 zs_cl (zw_t G) U ∧ zi_N U)) (va_Qv (fun w : va_W => post h0 w) (fun w t => va_P G.1 zs_cl w t.heap ∧ va_D (va_A [(h0, .inr (ci, fs))] sz) w) (va_A [(h0, .inr (ci, fs))] sz)) mc ms (va_A [(h0, .inr (ci, fs))] sz)
theorem zi_blind {G : zw_G} {vs : List Value} {sz h0 : Nat} {x : va_E} : FrameBlind (va_Pc vs (fun U => U.heap.size = sz ∧ va_P G.1 zs_cl [(h0, x)] U.heap ∧ va_K G.1 zs_cl (zw_t G) U ∧ zi_N U)) :=
  fun a U g mk q => ⟨q.1, q.2.1, q.2.2.1, va_K.moved (u := U) (U := U.calling g mk a) (Vm.Alike.refl U.vm) q.2.2.2.1, zi_N_same (U := U) (V := U.calling g mk a) rfl q.2.2.2.2⟩
theorem zi_D1 {a sz : Nat} {x : va_E} : va_D (va_A [(a, x)] sz) [(a, x)] := by
  refine ⟨fun i j p q hi hj _ => ?_, fun k q hk => va_A.in hk⟩
  have h1 := (List.getElem?_eq_some_iff.mp hi).1
  have h2 := (List.getElem?_eq_some_iff.mp hj).1
  simp at h1 h2
  omega
theorem zi_join {A0 : Nat → Prop} {D : va_G} {cl : List vw_C} {wr w1 : va_W} {x : Nat × va_E} {H H1 : Heap} (hP : va_P D cl (wr ++ [x]) H) (hD : va_D A0 (wr ++ [x])) (hk : ∀ q : Nat, q < H.size → ¬ va_A [x] H.size q → H1[q]? = H[q]?) (hF : ∀ q, va_A [x] H.size q → A0 q) (hP1 : va_P D cl w1 H1) (hD1 : va_D (va_A [x] H.size) w1) : va_P D cl (wr ++ w1) H1 ∧ va_D A0 (wr ++ w1) := by
  have at1 : ∀ (k : Nat) (q : Nat × va_E), wr[k]? = some q → (wr ++ [x])[k]? = some q := fun k q h => by
    rw [List.getElem?_append_left (List.getElem?_eq_some_iff.mp h).1]
    exact h
  have at2 : (wr ++ [x])[wr.length]? = some x := by
    rw [List.getElem?_append_right (Nat.le_refl _), Nat.sub_self]
    rfl
  have apart : ∀ (k : Nat) (q : Nat × va_E), wr[k]? = some q → q.1 < H.size ∧ ¬ va_A [x] H.size q.1 := by
    intro k q hq
    have hl := (hP k q (at1 k q hq)).lt
    refine ⟨hl, fun h => ?_⟩
    rcases h with ⟨k2, e, h⟩ | h
    · have h0 : k2 < 1 := (List.getElem?_eq_some_iff.mp h).1
      rw [show k2 = 0 by omega] at h
      have hx : x = (q.1, e) := by cases h; rfl
      have h3 := hD.1 k wr.length q x (at1 k q hq) at2 (by rw [hx])
      have h4 := (List.getElem?_eq_some_iff.mp hq).1
      omega
    · omega
  refine ⟨va_P.app (fun k q hq => (hP k q (at1 k q hq)).kept (hk q.1 (apart k q hq).1 (apart k q hq).2)) hP1, va_D.app ⟨fun i j a b hi hj he => hD.1 i j a b (at1 i a hi) (at1 j b hj) he, fun k q hq => hD.2 k q (at1 k q hq)⟩ (hD1.weaken (fun k q _ h => hF q.1 h)) (fun i j a b ha hb hab => (apart i a ha).2 (by rw [hab]; exact hD1.2 j b hb))⟩
/-- a maker's facts -/
def zi_y (y : zw_I) (n : Nat) : Prop := zw_in [.instanceMethod y.1, .initialized y.1.cls, .code y.1 y.2.1 y.2.2.1 none] ∧ (y.1.cls ≠ "java/lang/invoke/MethodHandle" ∧ y.1.cls ≠ "java/lang/invoke/VarHandle" ∧ (parseMethodDescriptor y.1.desc).map (fun d => d.parameters.length) = some n) ∧ y.1.name = "<init>" ∧ y.2.2.2 = none ∧ y.2.2.1 ≤ 21
section ZI
variable {p : Program} {l : Launch} {e : Env} {R : Room} {s : State} {m : MethodId} {args : Array Value} {below : List Frame} {meth : Method} {c : Code} {A : Nat → Prop} {Q : State → Prop} {G : zw_G} {cc : ByteArray} {own : String} {nL : Nat} {Ts : List Cond} {pc : Nat} {Ls : List (Nat × Value)} {st : List Value} {ws : va_W} {cells slots : Nat}
theorem zi_aload (C : zi_K p s m args c cc own nL Ts G A) (k : Nat) {i : Fin 4} {x : Nat} (hd : decode cc pc = .ok (.aload_n i, 1)) (hl : Ls[k]? = some ((i : Nat), .ref x)) (kk : zi_X p l e R s m args below meth c A Q G (pc + 1) Ls nL (.ref x :: st) ws cells slots) : zi_X p l e R s m args below meth c A Q G pc Ls nL st ws cells slots := by
  intro H locs ls hP hD hS h
  exact lv_aload_n C.1 C.2.1 hd rfl (lv_at h k hl) (kk H locs ls hP hD hS h)
theorem zi_bipush (C : zi_K p s m args c cc own nL Ts G A) {n : Int} {v : Int32} (hd : decode cc pc = .ok (.bipush n, 2)) (hv : (Int8.ofInt n).toInt32 = v) (kk : zi_X p l e R s m args below meth c A Q G (pc + 2) Ls nL (.int v :: st) ws cells slots) : zi_X p l e R s m args below meth c A Q G pc Ls nL st ws cells slots := by
  intro H locs ls hP hD hS h
  exact lv_bipush C.1 C.2.1 hd hv (kk H locs ls hP hD hS h)
theorem zi_iconst (C : zi_K p s m args c cc own nL Ts G A) {n : Int} {v : Int32} (hd : decode cc pc = .ok (.iconst n, 1)) (hv : Int32.ofInt n = v) (kk : zi_X p l e R s m args below meth c A Q G (pc + 1) Ls nL (.int v :: st) ws cells slots) : zi_X p l e R s m args below meth c A Q G pc Ls nL st ws cells slots := by
  intro H locs ls hP hD hS h
  exact lv_iconst C.1 C.2.1 hd hv (kk H locs ls hP hD hS h)
theorem zi_dup (C : zi_K p s m args c cc own nL Ts G A) {x : Nat} (hd : decode cc pc = .ok (.dup, 1)) (kk : zi_X p l e R s m args below meth c A Q G (pc + 1) Ls nL (.ref x :: .ref x :: st) ws cells slots) : zi_X p l e R s m args below meth c A Q G pc Ls nL (.ref x :: st) ws cells slots := by
  intro H locs ls hP hD hS h
  exact lv_dup C.1 C.2.1 hd rfl (kk H locs ls hP hD hS h)
theorem zi_obj (C : zi_K p s m args c cc own nL Ts G A) {idx x : Nat} (hd : decode cc pc = .ok (.invokespecial idx, 3)) (hw : zw_in [Cond.methodLink own idx objectInit, .instanceMethod objectInit, .code objectInit ⟨#[0xb1]⟩ 1 none]) (hR : 1 ≤ R.frames ∧ 12 ≤ R.locals) (kk : zi_X p l e R s m args below meth c A Q G (pc + 3) Ls nL [] ws cells slots) : zi_X p l e R s m args below meth c A Q G pc Ls nL [.ref x] ws cells slots := by
  intro H locs ls hP hD hS h
  have hw1 : ∀ w ∈ [Cond.methodLink own idx objectInit, .instanceMethod objectInit, .code objectInit ⟨#[0xb1]⟩ 1 none], w.before args s = true := fun w q => C.2.2.2.2.1 w (C.2.2.2.2.2.2.2.1 w (hw w q))
  refine W.objInit C.1 C.2.1 C.2.2.2.1 (hw1 _ (by simp)) (hw1 _ (by simp)) (hw1 _ (by simp)) rfl (by rw [C.2.2.1]; exact h.1) rfl hd hR.1 hR.2 ?_
  exact W.eq (g2 := F0 m (pc + 3) ls []) rfl (kk H locs ls hP hD hS h)
/-- a new row -/
theorem zi_newa (C : zi_K p s m args c cc own nL Ts G A) {atype : ArrayType} {ty : FieldType} {t N : Nat} {n : Int32} (hd : decode cc pc = .ok (.newarray atype, 2)) (hty : newarray.typeOf atype = ty) (hw : Cond.arrayClass (newarray.typeOf atype) ∈ zs_G) (ht : (zw_t G)[t]? = some (G.2.1 t, ty)) (hra : ∀ x, va_RA s x ty → s.vm.findClass ("[" ++ ty.toString) = some x) (ha : ∀ cA : ClassId, vp_cell cA (N, .inl (fun _ => 0)) = arrV cA N (fun _ => defaultValue ty)) (hn : ¬ n < 0) (hN : n.toNatClampNeg = N) (hb : N * componentBytes ty ≤ 536870912) (hc : cells + 1 ≤ R.cells) (hs : slots + N ≤ R.slots)
    (kk : ∀ q : Nat, zi_X p l e R s m args below meth c A Q G (pc + 2) Ls nL (.ref q :: st) (ws ++ [(q, .inl (G.2.1 t, N, .inl (fun _ => 0)))]) (cells + 1) (slots + N)) : zi_X p l e R s m args below meth c A Q G pc Ls nL (.int n :: st) ws cells slots := by
  intro H locs ls hP hD hS h
  have hK := C.2.2.2.2.2.1
  refine va_newa (a0 := (N, .inl (fun _ => 0))) C.1 C.2.1 (C.2.2.2.2.1 _ (C.2.2.2.2.2.2.2.1 _ hw)) hty hK hP hD hS C.2.2.2.2.2.2.1 ha hn hN hb hc hs hd (fun q cA H1 hK1 hP1 hD1 hS1 => ?_)
  have e1 := hra _ (hK.2 t _ ht).2
  have e2 : (zw_t G ++ [(cA, ty)])[2]? = some (cA, ty) := rfl
  have e3 := hra _ (hK1.2 2 _ e2).2
  have e4 : cA = G.2.1 t := Option.some.inj (e3.symm.trans e1)
  rw [e4] at hP1 hD1
  exact kk q H1 locs ls hP1 hD1 hS1 h
/-- a field's word -/
def zi_F (own : String) (idx ci k : Nat) (C : String) (T : u_T) (N : Nat) (tf : Nat → FieldType) : Prop := zw_okc ci C T N tf ∧ k < N ∧ Cond.fieldLink own idx (T k).1 (T k).2.1 (T k).2.2.1 ∈ zs_G
theorem zi_putF (C : zi_K p s m args c cc own nL Ts G A) (hnm : meth.name = "<init>") (j k : Nat) {idx ci N a : Nat} {Cl : String} {T : u_T} {tf : Nat → FieldType} {fs : List Value} {v : Value} (hd : decode cc pc = .ok (.putfield idx, 3)) (hf : zi_F own idx ci k Cl T N tf) (hfin : (T k).2.2.2 = true) (hdecl : (T k).1 = own) (he : ws[j]? = some (a, .inr (ci, fs))) (hnw : narrow (tf k) v = v) (hft : fits (tf k) v = true) (hl : k < fs.length)
    (kk : zi_X p l e R s m args below meth c A Q G (pc + 3) Ls nL st (ws.set j (a, .inr (ci, fs.set k v))) cells slots) : zi_X p l e R s m args below meth c A Q G pc Ls nL (v :: .ref a :: st) ws cells slots := by
  intro H locs ls hP hD hS h
  obtain ⟨⟨h1, h2, h3, h4⟩, h5, h6⟩ := hf
  exact va_putF (D := G.1) (cl := zs_cl) (ref := (T k).1) C.1 C.2.1 C.2.2.2.2.1 (fun w hw => C.2.2.2.2.2.2.2.1 w (h2 w hw)) tf h3 h4 C.2.2.2.1 C.2.2.2.2.2.1 hP hD hS j he h1 k h5 (C.2.2.2.2.1 _ (C.2.2.2.2.2.2.2.1 _ h6)) (fun _ h => h) hfin hnm hdecl (h3 k h5) hnw hft hl hd (fun H1 locs1 hP1 hD1 hS1 => kk H1 locs1 ls hP1 hD1 hS1 h)
theorem zi_put (C : zi_K p s m args c cc own nL Ts G A) (j k : Nat) {idx ci N a : Nat} {Cl : String} {T : u_T} {tf : Nat → FieldType} {fs : List Value} {v : Value} (hd : decode cc pc = .ok (.putfield idx, 3)) (hf : zi_F own idx ci k Cl T N tf) (hfin : (T k).2.2.2 = false) (he : ws[j]? = some (a, .inr (ci, fs))) (hnw : narrow (tf k) v = v) (hft : fits (tf k) v = true) (hl : k < fs.length)
    (kk : zi_X p l e R s m args below meth c A Q G (pc + 3) Ls nL st (ws.set j (a, .inr (ci, fs.set k v))) cells slots) : zi_X p l e R s m args below meth c A Q G pc Ls nL (v :: .ref a :: st) ws cells slots := by
  intro H locs ls hP hD hS h
  obtain ⟨⟨h1, h2, h3, h4⟩, h5, h6⟩ := hf
  exact va_put (D := G.1) (cl := zs_cl) (ref := (T k).1) C.1 C.2.1 C.2.2.2.2.1 (fun w hw => C.2.2.2.2.2.2.2.1 w (h2 w hw)) tf h3 h4 C.2.2.2.1 C.2.2.2.2.2.1 hP hD hS j he h1 k h5 (C.2.2.2.2.1 _ (C.2.2.2.2.2.2.2.1 _ h6)) (fun _ h => h) hfin (h3 k h5) hnw hft hl hd (fun H1 locs1 hP1 hD1 hS1 => kk H1 locs1 ls hP1 hD1 hS1 h)
theorem zi_get (C : zi_K p s m args c cc own nL Ts G A) (j k : Nat) {idx ci N a : Nat} {Cl : String} {T : u_T} {tf : Nat → FieldType} {fs : List Value} {v : Value} (hd : decode cc pc = .ok (.getfield idx, 3)) (hf : zi_F own idx ci k Cl T N tf) (he : ws[j]? = some (a, .inr (ci, fs))) (hv : fs[k]? = some v)
    (kk : zi_X p l e R s m args below meth c A Q G (pc + 3) Ls nL (v :: st) ws cells slots) : zi_X p l e R s m args below meth c A Q G pc Ls nL (.ref a :: st) ws cells slots := by
  intro H locs ls hP hD hS h
  obtain ⟨⟨h1, h2, h3, h4⟩, h5, h6⟩ := hf
  exact va_get (D := G.1) (cl := zs_cl) (ref := (T k).1) C.1 C.2.1 C.2.2.2.2.1 (fun w hw => C.2.2.2.2.2.2.2.1 w (h2 w hw)) C.2.2.2.1 C.2.2.2.2.2.1 hP j he h1 k h5 (C.2.2.2.2.1 _ (C.2.2.2.2.2.2.2.1 _ h6)) (fun _ h => h) hv hd (kk H locs ls hP hD hS h)
/-- a new object -/
theorem zi_new (C : zi_K p s m args c cc own nL Ts G A) {idx ci N : Nat} {Cl : String} {T : u_T} {tf : Nat → FieldType} (fs : List Value) (hd : decode cc pc = .ok (.new idx, 3)) (ho : zw_okc ci Cl T N tf) (hw : zw_in [Cond.classLink own idx Cl, .instantiable Cl N, .initialized Cl]) (hfs : ∀ j, j < N → defaultValue (tf j) = vp_V fs j) (hc : cells + 1 ≤ R.cells) (hs : slots + N ≤ R.slots)
    (kk : ∀ q : Nat, zi_X p l e R s m args below meth c A Q G (pc + 3) Ls nL (.ref q :: st) (ws ++ [(q, .inr (ci, fs))]) (cells + 1) (slots + N)) : zi_X p l e R s m args below meth c A Q G pc Ls nL st ws cells slots := by
  intro H locs ls hP hD hS h
  obtain ⟨h1, h2, h3, h4⟩ := ho
  have hw1 : ∀ w ∈ [Cond.classLink own idx Cl, .instantiable Cl N, .initialized Cl], w.before args s = true := fun w q => C.2.2.2.2.1 w (C.2.2.2.2.2.2.2.1 w (hw w q))
  exact va_new (fs := fs) C.1 C.2.1 C.2.2.2.2.1 (fun w hw => C.2.2.2.2.2.2.2.1 w (h2 w hw)) tf h3 C.2.2.2.1 (hw1 _ (by simp)) (hw1 _ (by simp)) (hw1 _ (by simp)) C.2.2.2.2.2.1 hP hD hS C.2.2.2.2.2.2.1 h1 hfs hc hs hd (fun q H1 hP1 hD1 hS1 => kk q H1 locs ls hP1 hD1 hS1 h)
theorem zi_astore (C : zi_K p s m args c cc own nL Ts G A) {i : Fin 4} {x : Nat} (Ls1 : List (Nat × Value)) (hd : decode cc pc = .ok (.astore_n i, 1)) (hi : (i : Nat) < nL) (hl : ((i : Nat), Value.ref x) :: Ls.filter (fun q => !(q.1 == (i : Nat)) && !(q.1 + 1 == (i : Nat) && q.2.category == 2)) = Ls1) (kk : zi_X p l e R s m args below meth c A Q G (pc + 1) Ls1 nL st ws cells slots) : zi_X p l e R s m args below meth c A Q G pc Ls nL (.ref x :: st) ws cells slots := by
  intro H locs ls hP hD hS h
  exact lv_astore_n C.1 C.2.1 hd rfl h hi hl (fun ls1 h1 => kk H locs ls1 hP hD hS h1)
/-- a maker is called -/
theorem zi_after {Ls : List (Nat × Value)} {ls : Array Slot} {H : Heap} {locs : List Loc} {mc ms a ci : Nat} {fs : List Value} {st0 : List Value} {av : Array Value} {wr : va_W} {post : Nat → va_W → Prop} (C : zi_K p s m args c cc own nL Ts G A) (hP : va_P G.1 zs_cl (wr ++ [(a, .inr (ci, fs))]) H) (hD : va_D A (wr ++ [(a, .inr (ci, fs))])) (hS : va_S A s.heap H locs) (h : lv_has ls nL Ls)
    (hr : va_Run p l e R s m args below meth c H locs cells slots mc ms (F0 m pc ls st0) st (va_Qv (fun w : va_W => post a w) (fun w t => va_P G.1 zs_cl w t.heap ∧ va_D (va_A [(a, .inr (ci, fs))] H.size) w) (va_A [(a, .inr (ci, fs))] H.size) av) (va_A [(a, .inr (ci, fs))] H.size))
    (kk : ∀ w, post a w → zi_X p l e R s m args below meth c A Q G (pc + 3) Ls nL st (wr ++ w) (cells + mc) (slots + ms)) : W p l e R s m args below meth c H locs cells slots Q (F0 m pc ls st0) := by
  have hF : ∀ q, va_A [(a, .inr (ci, fs))] H.size q → A q := fun q hq => by
    rcases hq with ⟨k2, x, h2⟩ | h2
    · have h0 : k2 < 1 := (List.getElem?_eq_some_iff.mp h2).1
      rw [show k2 = 0 by omega] at h2
      cases h2
      exact hD.2 wr.length (a, .inr (ci, fs)) (by rw [List.getElem?_append_right (Nat.le_refl _), Nat.sub_self]; rfl)
    · exact C.2.2.2.2.2.2.1 q (Nat.le_trans hS.1 h2)
  refine va_callv hr hS (fun q _ h => hF q h) hF (fun w t H1 locs1 ht hvm hpost hB hz hk1 hS1 => ?_)
  obtain ⟨hP1, hD1⟩ := hB
  rw [ht] at hP1
  obtain ⟨hP2, hD2⟩ := zi_join hP hD hk1 hF hP1 hD1
  exact kk w hpost H1 locs1 ls hP2 hD2 hS1 h
theorem zi_last {wr : va_W} {x : Nat × va_E} {D : va_G} {cl : List vw_C} {H : Heap} (hP : va_P D cl (wr ++ [x]) H) : va_P D cl [x] H := fun k q hk => by
  have h0 : k < 1 := (List.getElem?_eq_some_iff.mp hk).1
  rw [show k = 0 by omega] at hk
  exact hP wr.length q (by rw [List.getElem?_append_right (Nat.le_refl _), Nat.sub_self]; exact hk)
theorem zi_good (C : zi_K p s m args c cc own nL Ts G A) {y : zw_I} {n : Nat} (hy : zi_y y n) : GoodIn Ts (zw_ws y) := fun w hw => by
  have hcode : Cond.code y.1 y.2.1 y.2.2.1 none ∈ zs_G := hy.1 _ (by simp)
  rcases List.mem_cons.mp hw with rfl | h
  · rw [hy.2.2.2.1]
    exact ⟨C.2.2.2.2.2.2.2.1 _ hcode, good_of_word (List.mem_filter.mp hcode).2⟩
  · exact ⟨C.2.2.2.2.2.2.2.1 _ h, good_of_word (List.mem_filter.mp h).2⟩
theorem zi_callI (C : zi_K p s m args c cc own nL Ts G A) {y : zw_I} {d n idx mc ms a ci : Nat} {fs : List Value} {vs st0 : List Value} {wr : va_W} {post : Nat → va_W → Prop} (hd : decode cc pc = .ok (.invokespecial idx, 3)) (hl : Cond.methodLink own idx y.1 ∈ zs_G) (hy : zi_y y n) (hC : zi_C l d y vs ci fs mc ms G post) (hst : st0 = vs.reverse ++ .ref a :: st) (hn : vs.length = n) (hcat : (st.map fun v => v.category).sum ≤ 8) (hR : d + 1 ≤ R.frames ∧ 8 + (y.2.2.1 + 11) + d * 40 ≤ R.locals) (hf : cells + mc ≤ R.cells ∧ slots + ms ≤ R.slots)
    (kk : ∀ w, post a w → zi_X p l e R s m args below meth c A Q G (pc + 3) Ls nL st (wr ++ w) (cells + mc) (slots + ms)) : zi_X p l e R s m args below meth c A Q G pc Ls nL st0 (wr ++ [(a, .inr (ci, fs))]) cells slots := by
  intro H locs ls hP hD hS h
  have ok : ∀ w ∈ [Cond.instanceMethod y.1, .initialized y.1.cls, .code y.1 y.2.1 y.2.2.1 none], w.before args s = true := fun w q => C.2.2.2.2.1 w (C.2.2.2.2.2.2.2.1 w (hy.1 w q))
  have hws : zw_ws y = Cond.code y.1 y.2.1 y.2.2.1 none :: zs_G := by rw [zw_ws, hy.2.2.2.1]
  exact zi_after C hP hD hS h (va_runI (As := vs) (rest := st) ⟨C.1, C.2.1, C.2.2.1, C.2.2.2.1, C.2.2.2.2.1⟩ (hC a H.size) (cwI n C.2.2.2.2.1 (zi_good C hy) hws rfl rfl (ok _ (by simp)) (C.2.2.2.2.1 _ (C.2.2.2.2.2.2.2.1 _ hl)) (ok _ (by simp)) hy.2.2.1 hy.2.1 hR) ⟨zi_blind, fun U hU hW => ⟨rfl, by rw [hU], by rw [hU]; exact zi_last hP, va_K.moved hW.alike C.2.2.2.2.2.1, zi_N_warm hW C.2.2.2.2.2.2.2.2⟩⟩ rfl hn h.1 hst (lv_room hcat) hd hf) kk
theorem zi_callN (C : zi_K p s m args c cc own nL Ts G A) {y : zw_I} {d n idx mc ms a ci : Nat} {host : String} {fs : List Value} {vs st0 : List Value} {wr : va_W} {post : Nat → va_W → Prop} (hd : decode cc pc = .ok (.invokespecial idx, 3)) (hl : (own, idx, y.1, host) ∈ zi_nest) (hy : zi_y y n) (hC : zi_C l d y vs ci fs mc ms G post) (hst : st0 = vs.reverse ++ .ref a :: st) (hn : vs.length = n) (hcat : (st.map fun v => v.category).sum ≤ 8) (hR : d + 1 ≤ R.frames ∧ 8 + (y.2.2.1 + 11) + d * 40 ≤ R.locals) (hf : cells + mc ≤ R.cells ∧ slots + ms ≤ R.slots)
    (kk : ∀ w, post a w → zi_X p l e R s m args below meth c A Q G (pc + 3) Ls nL st (wr ++ w) (cells + mc) (slots + ms)) : zi_X p l e R s m args below meth c A Q G pc Ls nL st0 (wr ++ [(a, .inr (ci, fs))]) cells slots := by
  intro H locs ls hP hD hS h
  have ok : ∀ w ∈ [Cond.instanceMethod y.1, .initialized y.1.cls, .code y.1 y.2.1 y.2.2.1 none], w.before args s = true := fun w q => C.2.2.2.2.1 w (C.2.2.2.2.2.2.2.1 w (hy.1 w q))
  have hws : zw_ws y = Cond.code y.1 y.2.1 y.2.2.1 none :: zs_G := by rw [zw_ws, hy.2.2.2.1]
  exact zi_after C hP hD hS h (va_runIN (As := vs) (rest := st) ⟨C.1, C.2.1, C.2.2.1, C.2.2.2.1, C.2.2.2.2.1⟩ (hC a H.size) ⟨va_cnB (args := args) (host := host) n C.2.2.2.2.1 (zi_good C hy) hws rfl rfl (C.2.2.2.2.2.2.2.2 _ hl) (ok _ (by simp)) hy.2.1 hR, hy.2.2.1, ok _ (by simp)⟩ ⟨zi_blind, fun U hU hW => ⟨rfl, by rw [hU], by rw [hU]; exact zi_last hP, va_K.moved hW.alike C.2.2.2.2.2.1, zi_N_warm hW C.2.2.2.2.2.2.2.2⟩⟩ rfl hn h.1 hst (lv_room hcat) hd hf) kk
end ZI
/-- a maker's contract out of a walk of its body -/
theorem zi_of {l : Launch} {d : Nat} {y : zw_I} {n : Nat} {vs : List Value} {ci : Nat} {fs : List Value} {mc ms : Nat} {G : zw_G} {post : Nat → va_W → Prop} (Ls : Nat → List (Nat × Value)) (hy : zi_y y n) (hp : plainName y.1.cls = true) (hlen : ∀ h0 : Nat, (lg_sl (.ref h0 :: vs)).length ≤ y.2.2.1) (hLs : ∀ h0 : Nat, lv_args 0 (.ref h0 :: vs) = Ls h0)
    (k : ∀ (h0 : Nat) (p : Program) (e : Env) (s : State) (m : MethodId) (args : Array Value) (below : List Frame) (meth : Method) (c : Code) (A : Nat → Prop) (Q : State → Prop), zi_K p s m args c y.2.1 y.1.cls y.2.2.1 (zw_ws y) G A → meth.name = "<init>" →
      (∀ (w : va_W) (pc : Nat) (Ls1 : List (Nat × Value)), post h0 w → decode y.2.1 pc = .ok (.return_, 1) → zi_X p l e (zi_rm d mc ms) s m args below meth c A Q G pc Ls1 y.2.2.1 [] w mc ms) →
      zi_X p l e (zi_rm d mc ms) s m args below meth c A Q G 0 (Ls h0) y.2.2.1 [] [(h0, .inr (ci, fs))] 0 0) : zi_C l d y vs ci fs mc ms G post := by
  intro h0 sz
  have hws : zw_ws y = Cond.code y.1 y.2.1 y.2.2.1 none :: zs_G := by rw [zw_ws, hy.2.2.2.1]
  refine Met.ofW (cc := y.2.1) (maxL := y.2.2.1) (ret := none) hp hws ?_
  intro p e s m args below meth c s₁ B hml hv
  obtain ⟨rfl, hsz, hP, hK, hN⟩ := hv
  have hx := B.exec
  have hb := B.bytes
  have hr := B.returns
  have hts := atoms_spec (ws := zw_ws y) B.pre
  have hown : s.vm.findClass y.1.cls = some m.cls := findClass_of_methodNamed B.named
  have hlocks := B.notSynchronized
  have hin : meth.name = "<init>" := (name_of_methodNamed B.named B.method).1.trans hy.2.2.1
  subst hsz
  rw [lg_entry_eq]
  have hl := lv_entry (.ref h0 :: vs) (n := y.2.2.1) (hlen h0)
  rw [hLs h0] at hl
  refine k h0 p e s m _ below meth c (va_A [(h0, .inr (ci, fs))] s.heap.size) _ ⟨hx, hb, hml, hown, hts, hK, fun q h => Or.inr h, fun w hw => List.mem_cons_of_mem _ hw, hN⟩ hin (fun w pc Ls1 hpost hd => ?_) s.heap [] _ hP zi_D1 va_S.rf hl
  intro H locs ls hP9 hD9 hS9 hl9
  exact W.vret hx hb hr (fun t ht hW => ⟨⟨w, rfl, hpost, by rw [ht]; exact hP9, hD9⟩, hS9.F ht⟩) hS9.2.2 hd
section ZI2
variable {p : Program} {l : Launch} {e : Env} {R : Room} {s : State} {m : MethodId} {args : Array Value} {below : List Frame} {meth : Method} {c : Code} {A : Nat → Prop} {Q : State → Prop} {G : zw_G} {cc : ByteArray} {own : String} {nL : Nat} {Ts : List Cond} {pc : Nat} {Ls : List (Nat × Value)} {st : List Value} {ws : va_W} {cells slots : Nat}
theorem zi_astoreN (C : zi_K p s m args c cc own nL Ts G A) {i : Nat} {x : Nat} (Ls1 : List (Nat × Value)) (hd : decode cc pc = .ok (.astore i, 2)) (hi : i < nL) (hl : (i, Value.ref x) :: Ls.filter (fun q => !(q.1 == i) && !(q.1 + 1 == i && q.2.category == 2)) = Ls1) (kk : zi_X p l e R s m args below meth c A Q G (pc + 2) Ls1 nL st ws cells slots) : zi_X p l e R s m args below meth c A Q G pc Ls nL (.ref x :: st) ws cells slots := by
  intro H locs ls hP hD hS h
  exact lv_astore C.1 C.2.1 hd h hi hl (fun ls1 h1 => kk H locs ls1 hP hD hS h1)
end ZI2
