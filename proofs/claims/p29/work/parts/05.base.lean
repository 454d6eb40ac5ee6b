/-! THE ABSTRACT MACHINE: a memory of whole numbers by (cell, place), over cells of a fixed shape; refs are numbers of cells -/
abbrev zw_M : Type := (Nat → Nat → Int32) × (Nat → Nat → Int64)
abbrev zw_I : Type := MethodName × ByteArray × Nat × Option FieldType
abbrev zw_H : Type := (Nat × Nat) ⊕ (Nat × List (Option (Option Nat)))
abbrev zw_G : Type := va_G × (Nat → ClassId) × (Nat → Nat)
def zw_v (ad : Nat → Nat) (v : Value) : Value := match v with
  | .ref k => .ref (ad k)
  | w => w
theorem zw_v_cat (ad : Nat → Nat) (v : Value) : (zw_v ad v).category = v.category := by cases v <;> rfl
def zw_f (ad : Nat → Nat) (M : zw_M) (q k : Nat) (x : Option (Option Nat)) : Value := match x with
  | none => .int (M.1 q k)
  | some none => .long (M.2 q k)
  | some (some r) => .ref (ad r)
def zw_e (G : zw_G) (M : zw_M) (q : Nat) (h : zw_H) : va_E := match h with
  | .inl (t, n) => .inl (G.2.1 t, n, .inl (M.1 q))
  | .inr (ci, ks) => .inr (ci, ks.mapIdx (fun k x => zw_f G.2.2 M q k x))
def zs_S : List zw_H := [.inr (10, [some (some 1), some (some 3), some (some 4), some (some 8), some (some 13), some (some 16), some (some 19), some (some 24), some (some 27), some (some 31), none, none, none]), .inr (3, [some (some 2), none]), .inl (1, 40), .inr (4, [none, none, none]), .inr (1, [some (some 5), some (some 6), some (some 7), none, none, none, none]), .inl (0, 30), .inl (0, 30), .inl (0, 30), .inr (8, [some (some 9), some (some 10), some (some 11), some (some 12), none, none]), .inl (0, 8), .inl (0, 8), .inl (0, 64), .inl (0, 64), .inr (0, [some (some 4), some (some 8), some (some 14), some (some 15)]), .inl (0, 8), .inl (0, 8), .inr (5, [some (some 1), some (some 4), some (some 13), some (some 17), some (some 18), none, none]), .inl (0, 8), .inl (0, 8), .inr (9, [some (some 4), some (some 8), some (some 13), some (some 20), some (some 21), some (some 22), some (some 23), none, none, none, none]), .inl (0, 6), .inl (0, 6), .inl (0, 6), .inl (0, 6), .inr (7, [some (some 4), some (some 8), some (some 13), some (some 25), some (some 26), none]), .inl (0, 5), .inl (0, 30), .inr (2, [some (some 4), some (some 8), some (some 13), some (some 28), some (some 29), some (some 30)]), .inl (0, 3), .inl (0, 8), .inl (0, 8), .inr (6, [some (some 4), some (some 8), some (some 32), some none]), .inl (0, 8), .inl (0, 2), .inl (0, 30), .inl (0, 60), .inl (0, 8)]
def zs_cl : List vw_C := [(RX0, TX0, 4), (RX1, TX1, 7), (RX2, TX2, 6), (RX3, TX3, 2), (RX4, TX4, 3), (RX5, TX5, 7), (RX6, TX6, 4), (RX7, TX7, 6), (RX8, TX8, 6), (RX9, TX9, 11), (RX10, TX10, 13)]
def zs_nest : List (String × Nat × MethodName × String) := [(RX8, 56, yX10_isQuarter, "IslandThatLeans")]
def zw_W (G : zw_G) (M : zw_M) : va_W := zs_S.mapIdx (fun q h => (G.2.2 q, zw_e G M q h))
def zw_t (G : zw_G) : List (ClassId × FieldType) := [(G.2.1 0, .int), (G.2.1 1, .char)]
theorem zw_W_at {G : zw_G} {M : zw_M} {q : Nat} {h : zw_H} (e : zs_S[q]? = some h) : (zw_W G M)[q]? = some (G.2.2 q, zw_e G M q h) := by
  simp [zw_W, List.getElem?_mapIdx, e]
theorem zw_W_of {G : zw_G} {M : zw_M} {q : Nat} {z : Nat × va_E} (e : (zw_W G M)[q]? = some z) : q < zs_S.length ∧ z.1 = G.2.2 q := by
  rw [zw_W, List.getElem?_mapIdx] at e
  cases h : zs_S[q]? with
  | none => rw [h] at e; cases e
  | some w =>
    rw [h] at e
    cases e
    exact ⟨(List.getElem?_eq_some_iff.mp h).1, rfl⟩
/-- a number is written -/
def zw_s (M : zw_M) (q k : Nat) (x : Int32) : zw_M := (fun p j => if p = q ∧ j = k then x else M.1 p j, M.2)
def zw_sl (M : zw_M) (q k : Nat) (x : Int64) : zw_M := (M.1, fun p j => if p = q ∧ j = k then x else M.2 p j)
/-- a whole row is written -/
def zw_sr (M : zw_M) (q : Nat) (f : Nat → Int32) : zw_M := (fun p => if p = q then f else M.1 p, M.2)
theorem zw_e_row {G : zw_G} {M M' : zw_M} {q : Nat} {h : zw_H} (e1 : ∀ j, M'.1 q j = M.1 q j) (e2 : ∀ j, M'.2 q j = M.2 q j) : zw_e G M' q h = zw_e G M q h := by
  rcases h with ⟨t, n⟩ | ⟨ci, ks⟩
  · have : M'.1 q = M.1 q := funext e1
    simp only [zw_e, this]
  · simp only [zw_e]
    congr 2
    congr 1
    funext k x
    rcases x with _ | _ | r <;> simp [zw_f, e1, e2]
theorem zw_W_set {G : zw_G} {M M' : zw_M} {q : Nat} {h : zw_H} {e : va_E} (hs : zs_S[q]? = some h) (e1 : ∀ p j, p ≠ q → M'.1 p j = M.1 p j) (e2 : ∀ p j, p ≠ q → M'.2 p j = M.2 p j) (e3 : zw_e G M' q h = e) : (zw_W G M).set q (G.2.2 q, e) = zw_W G M' := by
  apply List.ext_getElem?
  intro j
  rw [List.getElem?_set]
  have hq : q < (zw_W G M).length := (List.getElem?_eq_some_iff.mp (zw_W_at hs)).1
  by_cases hj : q = j
  · subst hj
    rw [if_pos rfl, if_pos hq, zw_W_at hs, e3]
  · rw [if_neg hj]
    simp only [zw_W, List.getElem?_mapIdx]
    cases zs_S[j]? with
    | none => rfl
    | some w =>
      exact congrArg (fun z => some (G.2.2 j, z)) (zw_e_row (fun k => e1 j k (Ne.symm hj)) (fun k => e2 j k (Ne.symm hj))).symm
theorem zw_W_seta {G : zw_G} {M : zw_M} {q t n k : Nat} {x : Int32} (hs : zs_S[q]? = some (.inl (t, n))) : (zw_W G M).set q (G.2.2 q, .inl (G.2.1 t, n, .inl (upd (M.1 q) k x))) = zw_W G (zw_s M q k x) := by
  refine zw_W_set hs (fun p j hp => by simp [zw_s, hp]) (fun p j _ => rfl) ?_
  simp only [zw_e]
  congr 4
  funext j
  simp [zw_s, upd]
theorem zw_W_setr {G : zw_G} {M : zw_M} {q t n : Nat} {f : Nat → Int32} (hs : zs_S[q]? = some (.inl (t, n))) : (zw_W G M).set q (G.2.2 q, .inl (G.2.1 t, n, .inl f)) = zw_W G (zw_sr M q f) := by
  refine zw_W_set hs (fun p j hp => by simp [zw_sr, hp]) (fun p j _ => rfl) ?_
  simp [zw_e, zw_sr]
theorem zw_mi {ad : Nat → Nat} {M M' : zw_M} {q k : Nat} {ks : List (Option (Option Nat))} {v : Value} (hk : ∃ x, ks[k]? = some x ∧ zw_f ad M' q k x = v) (e : ∀ i x, ks[i]? = some x → i ≠ k → zw_f ad M' q i x = zw_f ad M q i x) : ks.mapIdx (fun k x => zw_f ad M' q k x) = (ks.mapIdx (fun k x => zw_f ad M q k x)).set k v := by
  apply List.ext_getElem?
  intro j
  obtain ⟨x, hx, hv⟩ := hk
  have hlt : k < (ks.mapIdx (fun k x => zw_f ad M q k x)).length := by simpa using (List.getElem?_eq_some_iff.mp hx).1
  rw [List.getElem?_set, List.getElem?_mapIdx]
  by_cases hj : k = j
  · subst hj
    rw [if_pos rfl, if_pos hlt, hx]
    simp [hv]
  · rw [if_neg hj, List.getElem?_mapIdx]
    cases h : ks[j]? with
    | none => rfl
    | some z => simp [e j z h (Ne.symm hj)]
theorem zw_W_seti {G : zw_G} {M : zw_M} {q ci k : Nat} {ks : List (Option (Option Nat))} {x : Int32} (hs : zs_S[q]? = some (.inr (ci, ks))) (hk : ks[k]? = some none) : (zw_W G M).set q (G.2.2 q, .inr (ci, (ks.mapIdx (fun k x => zw_f G.2.2 M q k x)).set k (.int x))) = zw_W G (zw_s M q k x) := by
  refine zw_W_set hs (fun p j hp => by simp [zw_s, hp]) (fun p j _ => rfl) ?_
  simp only [zw_e]
  congr 2
  refine zw_mi ⟨none, hk, by simp [zw_f, zw_s]⟩ (fun i z hz hi => ?_)
  rcases z with _ | _ | r <;> simp [zw_f, zw_s, hi]
theorem zw_W_setl {G : zw_G} {M : zw_M} {q ci k : Nat} {ks : List (Option (Option Nat))} {x : Int64} (hs : zs_S[q]? = some (.inr (ci, ks))) (hk : ks[k]? = some (some none)) : (zw_W G M).set q (G.2.2 q, .inr (ci, (ks.mapIdx (fun k x => zw_f G.2.2 M q k x)).set k (.long x))) = zw_W G (zw_sl M q k x) := by
  refine zw_W_set hs (fun p j _ => rfl) (fun p j hp => by simp [zw_sl, hp]) ?_
  simp only [zw_e]
  congr 2
  refine zw_mi ⟨some none, hk, by simp [zw_f, zw_sl]⟩ (fun i z hz hi => ?_)
  rcases z with _ | _ | r <;> simp [zw_f, zw_sl, hi]
/-- the cells' addresses are apart; what a method may change -/
def zw_D (G : zw_G) : Prop := (∀ i j, i < zs_S.length → j < zs_S.length → G.2.2 i = G.2.2 j → i = j) ∧ ∀ k, k < zs_S.length → G.2.2 k ≠ G.2.2 37
def zw_A (G : zw_G) (sz : Nat) : Nat → Prop := fun q => (∃ k, k < zs_S.length ∧ q = G.2.2 k) ∨ sz ≤ q
theorem zw_D_at {G : zw_G} {M : zw_M} {sz : Nat} (h : zw_D G) : va_D (zw_A G sz) (zw_W G M) := by
  refine ⟨fun i j p q hi hj e => ?_, fun k q hk => ?_⟩
  · obtain ⟨h1, h2⟩ := zw_W_of hi
    obtain ⟨h3, h4⟩ := zw_W_of hj
    exact h.1 i j h1 h3 (by rw [← h2, ← h4]; exact e)
  · obtain ⟨h1, h2⟩ := zw_W_of hk
    exact Or.inl ⟨k, h1, h2⟩
/-- the words of all -/
def zs_G : List Cond := lw_tbl.filter goodWord
def zw_ws (y : zw_I) : List Cond := .code y.1 y.2.1 y.2.2.1 y.2.2.2 :: zs_G
def zw_rm (d : Nat) : Room := { frames := d, cells := 0, slots := 0, locals := d * 40 }
/-- the launch, the script: how many ints, which -/
abbrev zw_Lh : Type := Launch × Nat × (Nat → Int32)
def zw_N (l : zw_Lh) (G : zw_G) (U : State) : Prop := (∀ q ∈ zs_nest, va_Nw (.methodLinkNest q.1 q.2.1 q.2.2.1 q.2.2.2) U) ∧ va_X (G.2.2 37) l.2.1 l.2.2 U U.heap ∧ G.2.2 37 < U.heap.size
def zw_in (ws : List Cond) : Prop := ∀ w ∈ ws, w ∈ zs_G
theorem zw_in_p {ws : List Cond} (ps : List Nat) (h : ws.map some = ps.map (fun i => lw_tbl[i]?)) (hg : ws.all goodWord = true) : zw_in ws := by
  intro w hw
  have h1 := List.all_eq_true.mp hg w hw
  obtain ⟨k, hk⟩ := List.getElem?_of_mem hw
  have h2 : (ws.map some)[k]? = some (some w) := by rw [List.getElem?_map, hk]; rfl
  rw [h, List.getElem?_map] at h2
  cases hi : ps[k]? with
  | none => rw [hi] at h2; cases h2
  | some i =>
    rw [hi] at h2
    exact List.mem_filter.mpr ⟨List.mem_of_getElem? (Option.some.inj h2), h1⟩
theorem zw_good {ws : List Cond} (h : zw_in ws) {big : List Cond} (hb : ∀ w ∈ zs_G, w ∈ big) : GoodIn big ws := fun w hw =>
  ⟨hb w (h w hw), good_of_word (List.mem_filter.mp (h w hw)).2⟩
/-- what a method's end is -/
def zw_Q (G : zw_G) (A : Nat → Prop) (Q : Option Value → zw_M → Prop) : Array Value → State → Outcome → State → Prop := fun _ st oc t =>
  (∃ (v : Option Value) (M : zw_M), oc = .returned (v.map (zw_v G.2.2)) ∧ Q v M ∧ va_P G.1 zs_cl (zw_W G M) t.heap) ∧ va_F A st t
/-- A METHOD'S CONTRACT: at the arguments vs, the memory M, with d frames of room: it returns, with an answer and a memory that Q says -/
def zw_C (l : zw_Lh) (d : Nat) (y : zw_I) (vs : List Value) (M : zw_M) (Q : Option Value → zw_M → Prop) : Prop :=
  ∀ (G : zw_G) (sz : Nat), zw_D G → Met l.1 y.1 (zw_ws y) (zw_rm d) (va_Pc (vs.map (zw_v G.2.2)) (fun U => U.heap.size = sz ∧ va_P G.1 zs_cl (zw_W G M) U.heap ∧ va_K G.1 zs_cl (zw_t G) U ∧ zw_N l G U)) (zw_Q G (zw_A G sz) Q) 0 0 (zw_A G sz)
/-- the locals -/
def zw_L (ad : Nat → Nat) (ls : Array Slot) (nL : Nat) (L : List Value) : Prop := L.length = nL ∧ ls.size = nL ∧ lv_wf ls ∧ ∀ (i : Nat) (v : Value), L[i]? = some v → v ≠ .retAddr 0 → ls[i]? = some (.val (zw_v ad v))
/-- the machine around a method's body -/
def zw_K (l : zw_Lh) (p : Program) (s : State) (m : MethodId) (args : Array Value) (meth : Method) (c : Code) (y : zw_I) (G : zw_G) : Prop :=
  p.tables.exec = Jvm.exec ∧ c.code = y.2.1 ∧ meth.sig.returnType = y.2.2.2 ∧ c.maxLocals = y.2.2.1 ∧ s.vm.findClass y.1.cls = some m.cls ∧ (∀ w ∈ zs_G, w.before args s = true) ∧ meth.locks = false ∧ va_K G.1 zs_cl (zw_t G) s ∧ zw_D G ∧ zw_N l G s
/-- the room around a body, and what its end is to give -/
def zw_E (d : Nat) (R : Room) (cells slots : Nat) (below : List Frame) (G : zw_G) (Q : Option Value → zw_M → Prop) (args : Array Value) (s : State) (Z : State → Prop) : Prop :=
  (d ≤ R.frames ∧ d * 40 ≤ R.locals ∧ cells ≤ R.cells ∧ slots ≤ R.slots) ∧ ∀ t, MQ below (zw_Q G (zw_A G s.heap.size) Q) args s cells slots (zw_A G s.heap.size) t → Z t
theorem zw_Zi {p : Program} {l : Launch} {e : Env} {R : Room} {s : State} {m : MethodId} {args : Array Value} {below : List Frame} {meth : Method} {c : Code} {H : Heap} {locs : List Loc} {cells slots : Nat} {Q Z : State → Prop} {g : JFrame} (h : ∀ t, Q t → Z t) (k : W p l e R s m args below meth c H locs cells slots Q g) : W p l e R s m args below meth c H locs cells slots Z g := fun T hT X => by
  obtain ⟨t, a, b⟩ := k T hT X
  exact ⟨t, a, h t b⟩
/-- A POINT IN A METHOD'S BODY from which it comes to an end that Q says -/
def zw_X (l : zw_Lh) (d : Nat) (y : zw_I) (Q : Option Value → zw_M → Prop) (pc : Nat) (L st : List Value) (M : zw_M) : Prop :=
  ∀ (p : Program) (e : Env) (s : State) (m : MethodId) (args : Array Value) (below : List Frame) (meth : Method) (c : Code) (H : Heap) (locs : List Loc) (ls : Array Slot) (G : zw_G) (R : Room) (cells slots : Nat) (Z : State → Prop),
    zw_K l p s m args meth c y G → zw_E d R cells slots below G Q args s Z → va_P G.1 zs_cl (zw_W G M) H → va_S (zw_A G s.heap.size) s.heap H locs → zw_L G.2.2 ls y.2.2.1 L →
    W p l.1 e R s m args below meth c H locs cells slots Z (F0 m pc ls (st.map (zw_v G.2.2)))
/-- the locals as the kit has them -/
def zw_lv (ad : Nat → Nat) (L : List Value) : List (Nat × Value) := (List.range L.length).filterMap (fun i => match L[i]? with
  | some v => if v = .retAddr 0 then none else some (i, zw_v ad v)
  | none => none)
theorem zw_lv_mem {ad : Nat → Nat} {L : List Value} {q : Nat × Value} : q ∈ zw_lv ad L ↔ ∃ v, L[q.1]? = some v ∧ v ≠ .retAddr 0 ∧ q.2 = zw_v ad v := by
  constructor
  · intro h
    obtain ⟨i, hi, he⟩ := List.mem_filterMap.mp h
    cases hv : L[i]? with
    | none => rw [hv] at he; cases he
    | some v =>
      rw [hv] at he
      dsimp only at he
      split at he
      · cases he
      · next hn =>
        cases he
        exact ⟨v, hv, hn, rfl⟩
  · rintro ⟨v, h1, h2, h3⟩
    refine List.mem_filterMap.mpr ⟨q.1, List.mem_range.mpr (List.getElem?_eq_some_iff.mp h1).1, ?_⟩
    rw [h1]
    dsimp only
    rw [if_neg h2, ← h3]
theorem zw_L_has {ad : Nat → Nat} {ls : Array Slot} {nL : Nat} {L : List Value} (h : zw_L ad ls nL L) : lv_has ls nL (zw_lv ad L) := by
  refine ⟨h.2.1, h.2.2.1, fun q hq => ?_⟩
  obtain ⟨v, h1, h2, h3⟩ := zw_lv_mem.mp hq
  rw [h3]
  exact h.2.2.2 q.1 v h1 h2
/-- the place ahead holds no long -/
def zw_ok (L : List Value) (i : Nat) : Bool := match i with
  | 0 => true
  | j + 1 => match L[j]? with
    | some v => decide (v.category = 1)
    | none => true
theorem zw_L_st1 {ad : Nat → Nat} {ls' : Array Slot} {nL i : Nat} {L : List Value} {v : Value} (hlen : L.length = nL) (ho : zw_ok L i = true)
    (h : lv_has ls' nL ((i, zw_v ad v) :: (zw_lv ad L).filter (fun q => !(q.1 == i) && !(q.1 + 1 == i && q.2.category == 2)))) : zw_L ad ls' nL (L.set i v) := by
  refine ⟨by simp [hlen], h.1, h.2.1, fun j w hj hw => ?_⟩
  by_cases hji : i = j
  · subst hji
    rw [List.getElem?_set] at hj
    rw [if_pos rfl] at hj
    split at hj
    · cases hj
      exact h.2.2 (i, zw_v ad v) List.mem_cons_self
    · cases hj
  · rw [List.getElem?_set, if_neg hji] at hj
    refine h.2.2 (j, zw_v ad w) (List.mem_cons_of_mem _ (List.mem_filter.mpr ⟨zw_lv_mem.mpr ⟨w, hj, hw, rfl⟩, ?_⟩))
    have n1 : (j == i) = false := by simpa using Ne.symm hji
    have n2 : (j + 1 == i && (zw_v ad w).category == 2) = false := by
      by_cases q : j + 1 = i
      · subst q
        simp only [zw_ok, hj, decide_eq_true_eq] at ho
        rw [zw_v_cat, ho]
        simp
      · simp [q]
    show (!(j == i) && !(j + 1 == i && (zw_v ad w).category == 2)) = true
    rw [n1, n2]
    rfl
theorem zw_L_st2 {ad : Nat → Nat} {ls' : Array Slot} {nL i : Nat} {L : List Value} {v : Value} (hlen : L.length = nL) (ho : zw_ok L i = true)
    (h : lv_has ls' nL ((i, zw_v ad v) :: (zw_lv ad L).filter (fun q => !(q.1 == i) && (!(q.1 == i + 1) && !(q.1 + 1 == i && q.2.category == 2))))) : zw_L ad ls' nL ((L.set i v).set (i + 1) (.retAddr 0)) := by
  refine ⟨by simp [hlen], h.1, h.2.1, fun j w hj hw => ?_⟩
  by_cases hj1 : i + 1 = j
  · rw [List.getElem?_set, if_pos hj1] at hj
    split at hj
    · cases hj
      exact absurd rfl hw
    · cases hj
  · rw [List.getElem?_set, if_neg hj1] at hj
    by_cases hji : i = j
    · subst hji
      rw [List.getElem?_set] at hj
      rw [if_pos rfl] at hj
      split at hj
      · cases hj
        exact h.2.2 (i, zw_v ad v) List.mem_cons_self
      · cases hj
    · rw [List.getElem?_set, if_neg hji] at hj
      refine h.2.2 (j, zw_v ad w) (List.mem_cons_of_mem _ (List.mem_filter.mpr ⟨zw_lv_mem.mpr ⟨w, hj, hw, rfl⟩, ?_⟩))
      have n1 : (j == i) = false := by simpa using Ne.symm hji
      have n3 : (j == i + 1) = false := by simpa using Ne.symm hj1
      have n2 : (j + 1 == i && (zw_v ad w).category == 2) = false := by
        by_cases q : j + 1 = i
        · subst q
          simp only [zw_ok, hj, decide_eq_true_eq] at ho
          rw [zw_v_cat, ho]
          simp
        · simp [q]
      show (!(j == i) && (!(j == i + 1) && !(j + 1 == i && (zw_v ad w).category == 2))) = true
      rw [n1, n2, n3]
      rfl
/-- the locals with which a method begins -/
def zw_ex : List Value → List Value
  | [] => []
  | v :: r => if v.category = 2 then v :: .retAddr 0 :: zw_ex r else v :: zw_ex r
def zw_en (vs : List Value) (n : Nat) : List Value := zw_ex vs ++ List.replicate (n - (zw_ex vs).length) (.retAddr 0)
theorem zw_ex_args (ad : Nat → Nat) : ∀ (vs : List Value) (o i : Nat) (v : Value), (zw_ex vs)[i]? = some v → v ≠ .retAddr 0 → (o + i, zw_v ad v) ∈ lv_args o (vs.map (zw_v ad))
  | [], o, i, v, h, _ => by simp [zw_ex] at h
  | w :: r, o, i, v, h, hv => by
    rw [zw_ex] at h
    rw [List.map_cons, lv_args, zw_v_cat]
    by_cases hc : w.category = 2
    · rw [if_pos hc] at h ⊢
      match i, h with
      | 0, h => cases h; exact List.mem_cons_self
      | 1, h => cases h; exact absurd rfl hv
      | j + 2, h =>
        have := zw_ex_args ad r (o + 2) j v (by simpa using h) hv
        rw [show o + (j + 2) = o + 2 + j by omega]
        exact List.mem_cons_of_mem _ this
    · rw [if_neg hc] at h ⊢
      match i, h with
      | 0, h => cases h; exact List.mem_cons_self
      | j + 1, h =>
        have := zw_ex_args ad r (o + 1) j v (by simpa using h) hv
        rw [show o + (j + 1) = o + 1 + j by omega]
        exact List.mem_cons_of_mem _ this
theorem zw_ex_len (ad : Nat → Nat) : ∀ vs : List Value, (lg_sl (vs.map (zw_v ad))).length = (zw_ex vs).length
  | [] => rfl
  | w :: r => by
    have ih := zw_ex_len ad r
    rw [zw_ex, List.map_cons]
    simp only [lg_sl, List.flatMap_cons, List.length_append, zw_v_cat] at ih ⊢
    by_cases hc : w.category = 2
    · rw [if_pos hc, if_pos hc, ih]
      simp; omega
    · rw [if_neg hc, if_neg hc, ih]
      simp; omega
theorem zw_entry {ad : Nat → Nat} {vs : List Value} {n : Nat} (h : (zw_ex vs).length ≤ n) : zw_L ad ((lg_sl (vs.map (zw_v ad)) ++ List.replicate (n - (lg_sl (vs.map (zw_v ad))).length) Slot.unset).toArray) n (zw_en vs n) := by
  have hl := lv_entry (vs.map (zw_v ad)) (n := n) (by rw [zw_ex_len]; exact h)
  refine ⟨by simp [zw_en]; omega, hl.1, hl.2.1, fun i v hi hv => ?_⟩
  rw [zw_en] at hi
  by_cases hlt : i < (zw_ex vs).length
  · rw [List.getElem?_append_left hlt] at hi
    have := zw_ex_args ad vs 0 i v hi hv
    rw [Nat.zero_add] at this
    exact hl.2.2 _ this
  · rw [List.getElem?_append_right (by omega)] at hi
    exact absurd (List.eq_of_mem_replicate (List.mem_of_getElem? hi)) hv
/-- a contract out of a walk of the body -/
theorem zw_of {l : zw_Lh} {d : Nat} {y : zw_I} {vs : List Value} {M : zw_M} {Q : Option Value → zw_M → Prop} (hy : plainName y.1.cls = true) (hn : (zw_ex vs).length ≤ y.2.2.1) (k : zw_X l d y Q 0 (zw_en vs y.2.2.1) [] M) : zw_C l d y vs M Q := by
  intro G sz hD
  refine Met.ofW (cc := y.2.1) (maxL := y.2.2.1) (ret := y.2.2.2) hy rfl ?_
  intro p e s m args below meth c s₁ B hml hv
  obtain ⟨rfl, hsz, hP, hK, hN⟩ := hv
  have hts := atoms_spec (ws := zw_ws y) B.pre
  have hown : s.vm.findClass y.1.cls = some m.cls := findClass_of_methodNamed B.named
  subst hsz
  rw [lg_entry_eq]
  exact k p e s m _ below meth c s.heap [] _ G (zw_rm d) 0 0 _ ⟨B.exec, B.bytes, B.returns, hml, hown, fun w h => hts w (List.mem_cons_of_mem _ h), B.notSynchronized, hK, hD, hN⟩ ⟨⟨Nat.le_refl _, Nat.le_refl _, Nat.le_refl _, Nat.le_refl _⟩, fun _ h => h⟩ hP va_S.rf (zw_entry hn)

theorem zw_Xb {l : zw_Lh} {G : zw_G} {s : State} (hD : zw_D G) (hN : zw_N l G s) : ¬ zw_A G s.heap.size (G.2.2 37) := fun h => by
  rcases h with ⟨k, h1, h2⟩ | h
  · exact hD.2 k h1 h2.symm
  · exact absurd hN.2.2 (Nat.not_lt.mpr h)
theorem zx_iconst {l : zw_Lh} {d : Nat} {y : zw_I} {Q : Option Value → zw_M → Prop} {pc : Nat} {L st : List Value} {M : zw_M} {n : Int} {v : Int32} (hd : decode y.2.1 pc = .ok (.iconst n, 1)) (hv : Int32.ofInt n = v) (k : zw_X l d y Q (pc + 1) L (.int v :: st) M) : zw_X l d y Q pc L st M := by
  intro p e s m args below meth c H locs ls G R cells slots Z hK hE hP hS hL
  exact lv_iconst hK.1 hK.2.1 hd hv (k p e s m args below meth c H locs ls G R cells slots Z hK hE hP hS hL)
theorem zx_bipush {l : zw_Lh} {d : Nat} {y : zw_I} {Q : Option Value → zw_M → Prop} {pc : Nat} {L st : List Value} {M : zw_M} {n : Int} {v : Int32} (hd : decode y.2.1 pc = .ok (.bipush n, 2)) (hv : (Int8.ofInt n).toInt32 = v) (k : zw_X l d y Q (pc + 2) L (.int v :: st) M) : zw_X l d y Q pc L st M := by
  intro p e s m args below meth c H locs ls G R cells slots Z hK hE hP hS hL
  exact lv_bipush hK.1 hK.2.1 hd hv (k p e s m args below meth c H locs ls G R cells slots Z hK hE hP hS hL)
theorem zx_sipush {l : zw_Lh} {d : Nat} {y : zw_I} {Q : Option Value → zw_M → Prop} {pc : Nat} {L st : List Value} {M : zw_M} {n : Int} {v : Int32} (hd : decode y.2.1 pc = .ok (.sipush n, 3)) (hv : (Int16.ofInt n).toInt32 = v) (k : zw_X l d y Q (pc + 3) L (.int v :: st) M) : zw_X l d y Q pc L st M := by
  intro p e s m args below meth c H locs ls G R cells slots Z hK hE hP hS hL
  exact lv_sipush hK.1 hK.2.1 hd hv (k p e s m args below meth c H locs ls G R cells slots Z hK hE hP hS hL)
theorem zx_lconst {l : zw_Lh} {d : Nat} {y : zw_I} {Q : Option Value → zw_M → Prop} {pc : Nat} {L st : List Value} {M : zw_M} {n : Fin 2} {v : Int64} (hd : decode y.2.1 pc = .ok (.lconst n, 1)) (hv : Int64.ofNat (n : Nat) = v) (k : zw_X l d y Q (pc + 1) L (.long v :: st) M) : zw_X l d y Q pc L st M := by
  intro p e s m args below meth c H locs ls G R cells slots Z hK hE hP hS hL
  exact lv_lconst hK.1 hK.2.1 hd hv (k p e s m args below meth c H locs ls G R cells slots Z hK hE hP hS hL)
theorem zx_ldc {l : zw_Lh} {d : Nat} {y : zw_I} {Q : Option Value → zw_M → Prop} {pc : Nat} {L st : List Value} {M : zw_M} {i : Nat} {v : Int32} (hd : decode y.2.1 pc = .ok (.ldc i, 2)) (hw : Cond.constant y.1.cls i v ∈ zs_G) (k : zw_X l d y Q (pc + 2) L (.int v :: st) M) : zw_X l d y Q pc L st M := by
  intro p e s m args below meth c H locs ls G R cells slots Z hK hE hP hS hL
  exact lv_ldc hK.1 hK.2.1 hK.2.2.2.2.1 (hK.2.2.2.2.2.1 _ hw) hd (k p e s m args below meth c H locs ls G R cells slots Z hK hE hP hS hL)
theorem zx_ldcw {l : zw_Lh} {d : Nat} {y : zw_I} {Q : Option Value → zw_M → Prop} {pc : Nat} {L st : List Value} {M : zw_M} {i : Nat} {v : Int32} (hd : decode y.2.1 pc = .ok (.ldc_w i, 3)) (hw : Cond.constant y.1.cls i v ∈ zs_G) (k : zw_X l d y Q (pc + 3) L (.int v :: st) M) : zw_X l d y Q pc L st M := by
  intro p e s m args below meth c H locs ls G R cells slots Z hK hE hP hS hL
  exact lv_ldcw hK.1 hK.2.1 hK.2.2.2.2.1 (hK.2.2.2.2.2.1 _ hw) hd (k p e s m args below meth c H locs ls G R cells slots Z hK hE hP hS hL)
theorem zx_ldc2 {l : zw_Lh} {d : Nat} {y : zw_I} {Q : Option Value → zw_M → Prop} {pc : Nat} {L st : List Value} {M : zw_M} {i : Nat} {v : Int64} (hd : decode y.2.1 pc = .ok (.ldc2_w i, 3)) (hw : Cond.constantLong y.1.cls i v ∈ zs_G) (k : zw_X l d y Q (pc + 3) L (.long v :: st) M) : zw_X l d y Q pc L st M := by
  intro p e s m args below meth c H locs ls G R cells slots Z hK hE hP hS hL
  exact lv_ldc2 hK.1 hK.2.1 hK.2.2.2.2.1 (hK.2.2.2.2.2.1 _ hw) hd (k p e s m args below meth c H locs ls G R cells slots Z hK hE hP hS hL)
theorem zx_iload_n {l : zw_Lh} {d : Nat} {y : zw_I} {Q : Option Value → zw_M → Prop} {pc : Nat} {L st : List Value} {M : zw_M} {i : Fin 4} {x : Int32} (hd : decode y.2.1 pc = .ok (.iload_n i, 1)) (hl : L[(i : Nat)]? = some (.int x)) (k : zw_X l d y Q (pc + 1) L (.int x :: st) M) : zw_X l d y Q pc L st M := by
  intro p e s m args below meth c H locs ls G R cells slots Z hK hE hP hS hL
  exact lv_iload_n hK.1 hK.2.1 hd rfl (hL.2.2.2 _ _ hl (fun h => by cases h)) (k p e s m args below meth c H locs ls G R cells slots Z hK hE hP hS hL)
theorem zx_iload {l : zw_Lh} {d : Nat} {y : zw_I} {Q : Option Value → zw_M → Prop} {pc : Nat} {L st : List Value} {M : zw_M} {i : Nat} {x : Int32} (hd : decode y.2.1 pc = .ok (.iload i, 2)) (hl : L[i]? = some (.int x)) (k : zw_X l d y Q (pc + 2) L (.int x :: st) M) : zw_X l d y Q pc L st M := by
  intro p e s m args below meth c H locs ls G R cells slots Z hK hE hP hS hL
  exact lv_iload hK.1 hK.2.1 hd (hL.2.2.2 _ _ hl (fun h => by cases h)) (k p e s m args below meth c H locs ls G R cells slots Z hK hE hP hS hL)
theorem zx_lload_n {l : zw_Lh} {d : Nat} {y : zw_I} {Q : Option Value → zw_M → Prop} {pc : Nat} {L st : List Value} {M : zw_M} {i : Fin 4} {x : Int64} (hd : decode y.2.1 pc = .ok (.lload_n i, 1)) (hl : L[(i : Nat)]? = some (.long x)) (k : zw_X l d y Q (pc + 1) L (.long x :: st) M) : zw_X l d y Q pc L st M := by
  intro p e s m args below meth c H locs ls G R cells slots Z hK hE hP hS hL
  exact lv_lload_n hK.1 hK.2.1 hd rfl (hL.2.2.2 _ _ hl (fun h => by cases h)) (k p e s m args below meth c H locs ls G R cells slots Z hK hE hP hS hL)
theorem zx_lload {l : zw_Lh} {d : Nat} {y : zw_I} {Q : Option Value → zw_M → Prop} {pc : Nat} {L st : List Value} {M : zw_M} {i : Nat} {x : Int64} (hd : decode y.2.1 pc = .ok (.lload i, 2)) (hl : L[i]? = some (.long x)) (k : zw_X l d y Q (pc + 2) L (.long x :: st) M) : zw_X l d y Q pc L st M := by
  intro p e s m args below meth c H locs ls G R cells slots Z hK hE hP hS hL
  exact lv_lload hK.1 hK.2.1 hd (hL.2.2.2 _ _ hl (fun h => by cases h)) (k p e s m args below meth c H locs ls G R cells slots Z hK hE hP hS hL)
theorem zx_aload_n {l : zw_Lh} {d : Nat} {y : zw_I} {Q : Option Value → zw_M → Prop} {pc : Nat} {L st : List Value} {M : zw_M} {i : Fin 4} {x : Nat} (hd : decode y.2.1 pc = .ok (.aload_n i, 1)) (hl : L[(i : Nat)]? = some (.ref x)) (k : zw_X l d y Q (pc + 1) L (.ref x :: st) M) : zw_X l d y Q pc L st M := by
  intro p e s m args below meth c H locs ls G R cells slots Z hK hE hP hS hL
  exact lv_aload_n hK.1 hK.2.1 hd rfl (hL.2.2.2 _ _ hl (fun h => by cases h)) (k p e s m args below meth c H locs ls G R cells slots Z hK hE hP hS hL)
theorem zx_aload {l : zw_Lh} {d : Nat} {y : zw_I} {Q : Option Value → zw_M → Prop} {pc : Nat} {L st : List Value} {M : zw_M} {i : Nat} {x : Nat} (hd : decode y.2.1 pc = .ok (.aload i, 2)) (hl : L[i]? = some (.ref x)) (k : zw_X l d y Q (pc + 2) L (.ref x :: st) M) : zw_X l d y Q pc L st M := by
  intro p e s m args below meth c H locs ls G R cells slots Z hK hE hP hS hL
  exact lv_aload hK.1 hK.2.1 hd (hL.2.2.2 _ _ hl (fun h => by cases h)) (k p e s m args below meth c H locs ls G R cells slots Z hK hE hP hS hL)
theorem zx_istore_n {l : zw_Lh} {d : Nat} {y : zw_I} {Q : Option Value → zw_M → Prop} {pc : Nat} {L st : List Value} {M : zw_M} {i : Fin 4} {x : Int32} (hd : decode y.2.1 pc = .ok (.istore_n i, 1)) (ho : zw_ok L (i : Nat) = true) (hi : (i : Nat) < L.length) (k : zw_X l d y Q (pc + 1) (L.set (i : Nat) (.int x)) st M) : zw_X l d y Q pc L (.int x :: st) M := by
  intro p e s m args below meth c H locs ls G R cells slots Z hK hE hP hS hL
  exact lv_istore_n hK.1 hK.2.1 hd rfl (zw_L_has hL) (by rw [← hL.1]; exact hi) rfl (fun ls1 h1 => k p e s m args below meth c H locs ls1 G R cells slots Z hK hE hP hS (zw_L_st1 (v := .int x) hL.1 ho h1))
theorem zx_istore {l : zw_Lh} {d : Nat} {y : zw_I} {Q : Option Value → zw_M → Prop} {pc : Nat} {L st : List Value} {M : zw_M} {i : Nat} {x : Int32} (hd : decode y.2.1 pc = .ok (.istore i, 2)) (ho : zw_ok L i = true) (hi : i < L.length) (k : zw_X l d y Q (pc + 2) (L.set i (.int x)) st M) : zw_X l d y Q pc L (.int x :: st) M := by
  intro p e s m args below meth c H locs ls G R cells slots Z hK hE hP hS hL
  exact lv_istore hK.1 hK.2.1 hd (zw_L_has hL) (by rw [← hL.1]; exact hi) rfl (fun ls1 h1 => k p e s m args below meth c H locs ls1 G R cells slots Z hK hE hP hS (zw_L_st1 (v := .int x) hL.1 ho h1))
theorem zx_astore_n {l : zw_Lh} {d : Nat} {y : zw_I} {Q : Option Value → zw_M → Prop} {pc : Nat} {L st : List Value} {M : zw_M} {i : Fin 4} {x : Nat} (hd : decode y.2.1 pc = .ok (.astore_n i, 1)) (ho : zw_ok L (i : Nat) = true) (hi : (i : Nat) < L.length) (k : zw_X l d y Q (pc + 1) (L.set (i : Nat) (.ref x)) st M) : zw_X l d y Q pc L (.ref x :: st) M := by
  intro p e s m args below meth c H locs ls G R cells slots Z hK hE hP hS hL
  exact lv_astore_n hK.1 hK.2.1 hd rfl (zw_L_has hL) (by rw [← hL.1]; exact hi) rfl (fun ls1 h1 => k p e s m args below meth c H locs ls1 G R cells slots Z hK hE hP hS (zw_L_st1 (v := .ref x) hL.1 ho h1))
theorem zx_astore {l : zw_Lh} {d : Nat} {y : zw_I} {Q : Option Value → zw_M → Prop} {pc : Nat} {L st : List Value} {M : zw_M} {i : Nat} {x : Nat} (hd : decode y.2.1 pc = .ok (.astore i, 2)) (ho : zw_ok L i = true) (hi : i < L.length) (k : zw_X l d y Q (pc + 2) (L.set i (.ref x)) st M) : zw_X l d y Q pc L (.ref x :: st) M := by
  intro p e s m args below meth c H locs ls G R cells slots Z hK hE hP hS hL
  exact lv_astore hK.1 hK.2.1 hd (zw_L_has hL) (by rw [← hL.1]; exact hi) rfl (fun ls1 h1 => k p e s m args below meth c H locs ls1 G R cells slots Z hK hE hP hS (zw_L_st1 (v := .ref x) hL.1 ho h1))
theorem zx_lstore_n {l : zw_Lh} {d : Nat} {y : zw_I} {Q : Option Value → zw_M → Prop} {pc : Nat} {L st : List Value} {M : zw_M} {i : Fin 4} {x : Int64} (hd : decode y.2.1 pc = .ok (.lstore_n i, 1)) (ho : zw_ok L (i : Nat) = true) (hi : (i : Nat) + 1 < L.length) (k : zw_X l d y Q (pc + 1) ((L.set (i : Nat) (.long x)).set ((i : Nat) + 1) (.retAddr 0)) st M) : zw_X l d y Q pc L (.long x :: st) M := by
  intro p e s m args below meth c H locs ls G R cells slots Z hK hE hP hS hL
  exact lv_lstore_n hK.1 hK.2.1 hd rfl (zw_L_has hL) (by rw [← hL.1]; exact hi) rfl (fun ls1 h1 => k p e s m args below meth c H locs ls1 G R cells slots Z hK hE hP hS (zw_L_st2 (v := .long x) hL.1 ho h1))
theorem zx_lstore {l : zw_Lh} {d : Nat} {y : zw_I} {Q : Option Value → zw_M → Prop} {pc : Nat} {L st : List Value} {M : zw_M} {i : Nat} {x : Int64} (hd : decode y.2.1 pc = .ok (.lstore i, 2)) (ho : zw_ok L i = true) (hi : i + 1 < L.length) (k : zw_X l d y Q (pc + 2) ((L.set i (.long x)).set (i + 1) (.retAddr 0)) st M) : zw_X l d y Q pc L (.long x :: st) M := by
  intro p e s m args below meth c H locs ls G R cells slots Z hK hE hP hS hL
  exact lv_lstore hK.1 hK.2.1 hd (zw_L_has hL) (by rw [← hL.1]; exact hi) rfl (fun ls1 h1 => k p e s m args below meth c H locs ls1 G R cells slots Z hK hE hP hS (zw_L_st2 (v := .long x) hL.1 ho h1))
theorem zw_lv_at {ad : Nat → Nat} {L : List Value} {i : Nat} {x : Int32} (h : L[i]? = some (.int x)) : ∃ k : Nat, (zw_lv ad L)[k]? = some (i, .int x) := by
  have : (i, Value.int x) ∈ zw_lv ad L := zw_lv_mem.mpr ⟨.int x, h, (fun q => by cases q), rfl⟩
  obtain ⟨k, hk⟩ := List.getElem?_of_mem this
  exact ⟨k, hk⟩
theorem zx_iinc {l : zw_Lh} {d : Nat} {y : zw_I} {Q : Option Value → zw_M → Prop} {pc : Nat} {L st : List Value} {M : zw_M} {i : Nat} {n : Int} {x v : Int32} (hd : decode y.2.1 pc = .ok (.iinc i n, 3)) (hl : L[i]? = some (.int x)) (hv : Int32.ofInt n = v) (ho : zw_ok L i = true) (k : zw_X l d y Q (pc + 3) (L.set i (.int (x + v))) st M) : zw_X l d y Q pc L st M := by
  intro p e s m args below meth c H locs ls G R cells slots Z hK hE hP hS hL
  obtain ⟨k0, hk0⟩ := zw_lv_at (ad := G.2.2) hl
  subst hv
  exact lv_iinc hK.1 hK.2.1 hd (zw_L_has hL) hk0 rfl (by rw [← hL.1]; exact (List.getElem?_eq_some_iff.mp hl).1) rfl (fun ls1 h1 => k p e s m args below meth c H locs ls1 G R cells slots Z hK hE hP hS (zw_L_st1 (v := .int (x + Int32.ofInt n)) hL.1 ho h1))
theorem zx_iadd {l : zw_Lh} {d : Nat} {y : zw_I} {Q : Option Value → zw_M → Prop} {pc : Nat} {L st : List Value} {M : zw_M} {a b : Int32} (hd : decode y.2.1 pc = .ok (.iadd, 1)) (k : zw_X l d y Q (pc + 1) L (.int (a + b) :: st) M) : zw_X l d y Q pc L (.int b :: .int a :: st) M := by
  intro p e s m args below meth c H locs ls G R cells slots Z hK hE hP hS hL
  exact lv_iadd hK.1 hK.2.1 hd (k p e s m args below meth c H locs ls G R cells slots Z hK hE hP hS hL)
theorem zx_isub {l : zw_Lh} {d : Nat} {y : zw_I} {Q : Option Value → zw_M → Prop} {pc : Nat} {L st : List Value} {M : zw_M} {a b : Int32} (hd : decode y.2.1 pc = .ok (.isub, 1)) (k : zw_X l d y Q (pc + 1) L (.int (a - b) :: st) M) : zw_X l d y Q pc L (.int b :: .int a :: st) M := by
  intro p e s m args below meth c H locs ls G R cells slots Z hK hE hP hS hL
  exact lv_isub hK.1 hK.2.1 hd (k p e s m args below meth c H locs ls G R cells slots Z hK hE hP hS hL)
theorem zx_imul {l : zw_Lh} {d : Nat} {y : zw_I} {Q : Option Value → zw_M → Prop} {pc : Nat} {L st : List Value} {M : zw_M} {a b : Int32} (hd : decode y.2.1 pc = .ok (.imul, 1)) (k : zw_X l d y Q (pc + 1) L (.int (a * b) :: st) M) : zw_X l d y Q pc L (.int b :: .int a :: st) M := by
  intro p e s m args below meth c H locs ls G R cells slots Z hK hE hP hS hL
  exact lv_imul hK.1 hK.2.1 hd (k p e s m args below meth c H locs ls G R cells slots Z hK hE hP hS hL)
theorem zx_iand {l : zw_Lh} {d : Nat} {y : zw_I} {Q : Option Value → zw_M → Prop} {pc : Nat} {L st : List Value} {M : zw_M} {a b : Int32} (hd : decode y.2.1 pc = .ok (.iand, 1)) (k : zw_X l d y Q (pc + 1) L (.int (a &&& b) :: st) M) : zw_X l d y Q pc L (.int b :: .int a :: st) M := by
  intro p e s m args below meth c H locs ls G R cells slots Z hK hE hP hS hL
  exact lv_iand hK.1 hK.2.1 hd (k p e s m args below meth c H locs ls G R cells slots Z hK hE hP hS hL)
theorem zx_ior {l : zw_Lh} {d : Nat} {y : zw_I} {Q : Option Value → zw_M → Prop} {pc : Nat} {L st : List Value} {M : zw_M} {a b : Int32} (hd : decode y.2.1 pc = .ok (.ior, 1)) (k : zw_X l d y Q (pc + 1) L (.int (a ||| b) :: st) M) : zw_X l d y Q pc L (.int b :: .int a :: st) M := by
  intro p e s m args below meth c H locs ls G R cells slots Z hK hE hP hS hL
  exact lv_ior hK.1 hK.2.1 hd (k p e s m args below meth c H locs ls G R cells slots Z hK hE hP hS hL)
theorem zx_ixor {l : zw_Lh} {d : Nat} {y : zw_I} {Q : Option Value → zw_M → Prop} {pc : Nat} {L st : List Value} {M : zw_M} {a b : Int32} (hd : decode y.2.1 pc = .ok (.ixor, 1)) (k : zw_X l d y Q (pc + 1) L (.int (a ^^^ b) :: st) M) : zw_X l d y Q pc L (.int b :: .int a :: st) M := by
  intro p e s m args below meth c H locs ls G R cells slots Z hK hE hP hS hL
  exact lv_ixor hK.1 hK.2.1 hd (k p e s m args below meth c H locs ls G R cells slots Z hK hE hP hS hL)
theorem zx_ishl {l : zw_Lh} {d : Nat} {y : zw_I} {Q : Option Value → zw_M → Prop} {pc : Nat} {L st : List Value} {M : zw_M} {a b : Int32} (hd : decode y.2.1 pc = .ok (.ishl, 1)) (k : zw_X l d y Q (pc + 1) L (.int (a <<< (b &&& 31)) :: st) M) : zw_X l d y Q pc L (.int b :: .int a :: st) M := by
  intro p e s m args below meth c H locs ls G R cells slots Z hK hE hP hS hL
  exact lv_ishl hK.1 hK.2.1 hd (k p e s m args below meth c H locs ls G R cells slots Z hK hE hP hS hL)
theorem zx_ishr {l : zw_Lh} {d : Nat} {y : zw_I} {Q : Option Value → zw_M → Prop} {pc : Nat} {L st : List Value} {M : zw_M} {a b : Int32} (hd : decode y.2.1 pc = .ok (.ishr, 1)) (k : zw_X l d y Q (pc + 1) L (.int (a >>> (b &&& 31)) :: st) M) : zw_X l d y Q pc L (.int b :: .int a :: st) M := by
  intro p e s m args below meth c H locs ls G R cells slots Z hK hE hP hS hL
  exact lv_ishr hK.1 hK.2.1 hd (k p e s m args below meth c H locs ls G R cells slots Z hK hE hP hS hL)
theorem zx_idiv {l : zw_Lh} {d : Nat} {y : zw_I} {Q : Option Value → zw_M → Prop} {pc : Nat} {L st : List Value} {M : zw_M} {a b : Int32} (hd : decode y.2.1 pc = .ok (.idiv, 1)) (hne : ¬ b = 0) (k : zw_X l d y Q (pc + 1) L (.int (a / b) :: st) M) : zw_X l d y Q pc L (.int b :: .int a :: st) M := by
  intro p e s m args below meth c H locs ls G R cells slots Z hK hE hP hS hL
  exact lv_idiv hK.1 hK.2.1 hd hne (k p e s m args below meth c H locs ls G R cells slots Z hK hE hP hS hL)
theorem zx_irem {l : zw_Lh} {d : Nat} {y : zw_I} {Q : Option Value → zw_M → Prop} {pc : Nat} {L st : List Value} {M : zw_M} {a b : Int32} (hd : decode y.2.1 pc = .ok (.irem, 1)) (hne : ¬ b = 0) (k : zw_X l d y Q (pc + 1) L (.int (a - a / b * b) :: st) M) : zw_X l d y Q pc L (.int b :: .int a :: st) M := by
  intro p e s m args below meth c H locs ls G R cells slots Z hK hE hP hS hL
  exact lv_irem hK.1 hK.2.1 hd hne (k p e s m args below meth c H locs ls G R cells slots Z hK hE hP hS hL)
theorem zx_ineg {l : zw_Lh} {d : Nat} {y : zw_I} {Q : Option Value → zw_M → Prop} {pc : Nat} {L st : List Value} {M : zw_M} {a : Int32} (hd : decode y.2.1 pc = .ok (.ineg, 1)) (k : zw_X l d y Q (pc + 1) L (.int (-a) :: st) M) : zw_X l d y Q pc L (.int a :: st) M := by
  intro p e s m args below meth c H locs ls G R cells slots Z hK hE hP hS hL
  exact lv_ineg hK.1 hK.2.1 hd (k p e s m args below meth c H locs ls G R cells slots Z hK hE hP hS hL)
theorem zx_iushr {l : zw_Lh} {d : Nat} {y : zw_I} {Q : Option Value → zw_M → Prop} {pc : Nat} {L st : List Value} {M : zw_M} {a b : Int32} (hd : decode y.2.1 pc = .ok (.iushr, 1)) (k : zw_X l d y Q (pc + 1) L (.int ((a.toUInt32 >>> (b.toUInt32 &&& Int32.toUInt32 31)).toInt32) :: st) M) : zw_X l d y Q pc L (.int b :: .int a :: st) M := by
  intro p e s m args below meth c H locs ls G R cells slots Z hK hE hP hS hL
  exact lv_iushr hK.1 hK.2.1 hd rfl (k p e s m args below meth c H locs ls G R cells slots Z hK hE hP hS hL)
theorem zx_ladd {l : zw_Lh} {d : Nat} {y : zw_I} {Q : Option Value → zw_M → Prop} {pc : Nat} {L st : List Value} {M : zw_M} {a b : Int64} (hd : decode y.2.1 pc = .ok (.ladd, 1)) (k : zw_X l d y Q (pc + 1) L (.long (a + b) :: st) M) : zw_X l d y Q pc L (.long b :: .long a :: st) M := by
  intro p e s m args below meth c H locs ls G R cells slots Z hK hE hP hS hL
  exact lv_ladd hK.1 hK.2.1 hd (k p e s m args below meth c H locs ls G R cells slots Z hK hE hP hS hL)
theorem zx_lmul {l : zw_Lh} {d : Nat} {y : zw_I} {Q : Option Value → zw_M → Prop} {pc : Nat} {L st : List Value} {M : zw_M} {a b : Int64} (hd : decode y.2.1 pc = .ok (.lmul, 1)) (k : zw_X l d y Q (pc + 1) L (.long (a * b) :: st) M) : zw_X l d y Q pc L (.long b :: .long a :: st) M := by
  intro p e s m args below meth c H locs ls G R cells slots Z hK hE hP hS hL
  exact lv_lmul hK.1 hK.2.1 hd (k p e s m args below meth c H locs ls G R cells slots Z hK hE hP hS hL)
theorem zx_land {l : zw_Lh} {d : Nat} {y : zw_I} {Q : Option Value → zw_M → Prop} {pc : Nat} {L st : List Value} {M : zw_M} {a b : Int64} (hd : decode y.2.1 pc = .ok (.land, 1)) (k : zw_X l d y Q (pc + 1) L (.long (a &&& b) :: st) M) : zw_X l d y Q pc L (.long b :: .long a :: st) M := by
  intro p e s m args below meth c H locs ls G R cells slots Z hK hE hP hS hL
  exact lv_land hK.1 hK.2.1 hd (k p e s m args below meth c H locs ls G R cells slots Z hK hE hP hS hL)
theorem zx_lor {l : zw_Lh} {d : Nat} {y : zw_I} {Q : Option Value → zw_M → Prop} {pc : Nat} {L st : List Value} {M : zw_M} {a b : Int64} (hd : decode y.2.1 pc = .ok (.lor, 1)) (k : zw_X l d y Q (pc + 1) L (.long (a ||| b) :: st) M) : zw_X l d y Q pc L (.long b :: .long a :: st) M := by
  intro p e s m args below meth c H locs ls G R cells slots Z hK hE hP hS hL
  exact lv_lor hK.1 hK.2.1 hd (k p e s m args below meth c H locs ls G R cells slots Z hK hE hP hS hL)
theorem zx_ldiv {l : zw_Lh} {d : Nat} {y : zw_I} {Q : Option Value → zw_M → Prop} {pc : Nat} {L st : List Value} {M : zw_M} {a b : Int64} (hd : decode y.2.1 pc = .ok (.ldiv, 1)) (hne : ¬ b = 0) (k : zw_X l d y Q (pc + 1) L (.long (a / b) :: st) M) : zw_X l d y Q pc L (.long b :: .long a :: st) M := by
  intro p e s m args below meth c H locs ls G R cells slots Z hK hE hP hS hL
  exact lv_ldiv hK.1 hK.2.1 hd hne (k p e s m args below meth c H locs ls G R cells slots Z hK hE hP hS hL)
theorem zx_lrem {l : zw_Lh} {d : Nat} {y : zw_I} {Q : Option Value → zw_M → Prop} {pc : Nat} {L st : List Value} {M : zw_M} {a b : Int64} (hd : decode y.2.1 pc = .ok (.lrem, 1)) (hne : ¬ b = 0) (k : zw_X l d y Q (pc + 1) L (.long (a - a / b * b) :: st) M) : zw_X l d y Q pc L (.long b :: .long a :: st) M := by
  intro p e s m args below meth c H locs ls G R cells slots Z hK hE hP hS hL
  exact lv_lrem hK.1 hK.2.1 hd hne (k p e s m args below meth c H locs ls G R cells slots Z hK hE hP hS hL)
theorem zx_lushr {l : zw_Lh} {d : Nat} {y : zw_I} {Q : Option Value → zw_M → Prop} {pc : Nat} {L st : List Value} {M : zw_M} {a : Int64} {b : Int32} (hd : decode y.2.1 pc = .ok (.lushr, 1)) (k : zw_X l d y Q (pc + 1) L (.long ((a.toUInt64 >>> (b.toInt64.toUInt64 &&& Int64.toUInt64 63)).toInt64) :: st) M) : zw_X l d y Q pc L (.int b :: .long a :: st) M := by
  intro p e s m args below meth c H locs ls G R cells slots Z hK hE hP hS hL
  exact lv_lushr hK.1 hK.2.1 hd rfl (k p e s m args below meth c H locs ls G R cells slots Z hK hE hP hS hL)
theorem zx_lshl {l : zw_Lh} {d : Nat} {y : zw_I} {Q : Option Value → zw_M → Prop} {pc : Nat} {L st : List Value} {M : zw_M} {a : Int64} {b : Int32} (hd : decode y.2.1 pc = .ok (.lshl, 1)) (k : zw_X l d y Q (pc + 1) L (.long (a <<< (b.toInt64 &&& 63)) :: st) M) : zw_X l d y Q pc L (.int b :: .long a :: st) M := by
  intro p e s m args below meth c H locs ls G R cells slots Z hK hE hP hS hL
  exact lv_lshl hK.1 hK.2.1 hd rfl (k p e s m args below meth c H locs ls G R cells slots Z hK hE hP hS hL)
theorem zx_lshr {l : zw_Lh} {d : Nat} {y : zw_I} {Q : Option Value → zw_M → Prop} {pc : Nat} {L st : List Value} {M : zw_M} {a : Int64} {b : Int32} (hd : decode y.2.1 pc = .ok (.lshr, 1)) (k : zw_X l d y Q (pc + 1) L (.long (a >>> (b.toInt64 &&& 63)) :: st) M) : zw_X l d y Q pc L (.int b :: .long a :: st) M := by
  intro p e s m args below meth c H locs ls G R cells slots Z hK hE hP hS hL
  exact lv_lshr hK.1 hK.2.1 hd rfl (k p e s m args below meth c H locs ls G R cells slots Z hK hE hP hS hL)
theorem zx_i2l {l : zw_Lh} {d : Nat} {y : zw_I} {Q : Option Value → zw_M → Prop} {pc : Nat} {L st : List Value} {M : zw_M} {a : Int32} (hd : decode y.2.1 pc = .ok (.i2l, 1)) (k : zw_X l d y Q (pc + 1) L (.long (a.toInt64) :: st) M) : zw_X l d y Q pc L (.int a :: st) M := by
  intro p e s m args below meth c H locs ls G R cells slots Z hK hE hP hS hL
  exact lv_i2l hK.1 hK.2.1 hd rfl (k p e s m args below meth c H locs ls G R cells slots Z hK hE hP hS hL)
theorem zx_l2i {l : zw_Lh} {d : Nat} {y : zw_I} {Q : Option Value → zw_M → Prop} {pc : Nat} {L st : List Value} {M : zw_M} {a : Int64} (hd : decode y.2.1 pc = .ok (.l2i, 1)) (k : zw_X l d y Q (pc + 1) L (.int (a.toInt32) :: st) M) : zw_X l d y Q pc L (.long a :: st) M := by
  intro p e s m args below meth c H locs ls G R cells slots Z hK hE hP hS hL
  exact lv_l2i hK.1 hK.2.1 hd rfl (k p e s m args below meth c H locs ls G R cells slots Z hK hE hP hS hL)
theorem zx_i2b {l : zw_Lh} {d : Nat} {y : zw_I} {Q : Option Value → zw_M → Prop} {pc : Nat} {L st : List Value} {M : zw_M} {a : Int32} (hd : decode y.2.1 pc = .ok (.i2b, 1)) (k : zw_X l d y Q (pc + 1) L (.int (a.toInt8.toInt32) :: st) M) : zw_X l d y Q pc L (.int a :: st) M := by
  intro p e s m args below meth c H locs ls G R cells slots Z hK hE hP hS hL
  exact lv_i2b hK.1 hK.2.1 hd rfl (k p e s m args below meth c H locs ls G R cells slots Z hK hE hP hS hL)
theorem zx_i2c {l : zw_Lh} {d : Nat} {y : zw_I} {Q : Option Value → zw_M → Prop} {pc : Nat} {L st : List Value} {M : zw_M} {a : Int32} (hd : decode y.2.1 pc = .ok (.i2c, 1)) (k : zw_X l d y Q (pc + 1) L (.int ((a.toUInt32 % 65536).toInt32) :: st) M) : zw_X l d y Q pc L (.int a :: st) M := by
  intro p e s m args below meth c H locs ls G R cells slots Z hK hE hP hS hL
  exact lv_i2c hK.1 hK.2.1 hd rfl (k p e s m args below meth c H locs ls G R cells slots Z hK hE hP hS hL)
theorem zx_dup {l : zw_Lh} {d : Nat} {y : zw_I} {Q : Option Value → zw_M → Prop} {pc : Nat} {L st : List Value} {M : zw_M} {a : Value} (hd : decode y.2.1 pc = .ok (.dup, 1)) (hc : a.category = 1) (k : zw_X l d y Q (pc + 1) L (a :: a :: st) M) : zw_X l d y Q pc L (a :: st) M := by
  intro p e s m args below meth c H locs ls G R cells slots Z hK hE hP hS hL
  exact lv_dup hK.1 hK.2.1 hd (by rw [zw_v_cat]; exact hc) (k p e s m args below meth c H locs ls G R cells slots Z hK hE hP hS hL)
theorem zx_pop {l : zw_Lh} {d : Nat} {y : zw_I} {Q : Option Value → zw_M → Prop} {pc : Nat} {L st : List Value} {M : zw_M} {a : Value} (hd : decode y.2.1 pc = .ok (.pop, 1)) (hc : a.category = 1) (k : zw_X l d y Q (pc + 1) L st M) : zw_X l d y Q pc L (a :: st) M := by
  intro p e s m args below meth c H locs ls G R cells slots Z hK hE hP hS hL
  exact lv_pop hK.1 hK.2.1 hd (by rw [zw_v_cat]; exact hc) (k p e s m args below meth c H locs ls G R cells slots Z hK hE hP hS hL)
theorem zx_dup_x1 {l : zw_Lh} {d : Nat} {y : zw_I} {Q : Option Value → zw_M → Prop} {pc : Nat} {L st : List Value} {M : zw_M} {a b : Value} (hd : decode y.2.1 pc = .ok (.dup_x1, 1)) (hc : a.category = 1) (hc2 : b.category = 1) (k : zw_X l d y Q (pc + 1) L (a :: b :: a :: st) M) : zw_X l d y Q pc L (a :: b :: st) M := by
  intro p e s m args below meth c H locs ls G R cells slots Z hK hE hP hS hL
  exact lv_dup_x1 hK.1 hK.2.1 hd (by rw [zw_v_cat]; exact hc) (by rw [zw_v_cat]; exact hc2) (k p e s m args below meth c H locs ls G R cells slots Z hK hE hP hS hL)
theorem zx_dup2 {l : zw_Lh} {d : Nat} {y : zw_I} {Q : Option Value → zw_M → Prop} {pc : Nat} {L st : List Value} {M : zw_M} {a b : Value} (hd : decode y.2.1 pc = .ok (.dup2, 1)) (hc : a.category = 1) (hc2 : b.category = 1) (k : zw_X l d y Q (pc + 1) L (a :: b :: a :: b :: st) M) : zw_X l d y Q pc L (a :: b :: st) M := by
  intro p e s m args below meth c H locs ls G R cells slots Z hK hE hP hS hL
  exact lv_dup2_11 hK.1 hK.2.1 hd (by rw [zw_v_cat]; exact hc) (by rw [zw_v_cat]; exact hc2) (k p e s m args below meth c H locs ls G R cells slots Z hK hE hP hS hL)
theorem zx_if_eq {l : zw_Lh} {d : Nat} {y : zw_I} {Q : Option Value → zw_M → Prop} {pc : Nat} {L st : List Value} {M : zw_M} {x : Int32} {off : Int} {tgt : Nat} (hd : decode y.2.1 pc = .ok (.ifCond .eq off, 3)) (ht : (pc : Int) + off = (tgt : Int)) (kt : x = 0 → zw_X l d y Q tgt L st M) (kf : ¬ x = 0 → zw_X l d y Q (pc + 3) L st M) : zw_X l d y Q pc L (.int x :: st) M := by
  intro p e s m args below meth c H locs ls G R cells slots Z hK hE hP hS hL
  exact lv_if_eq hK.1 hK.2.1 hd ht (fun h => kt h p e s m args below meth c H locs ls G R cells slots Z hK hE hP hS hL) (fun h => kf h p e s m args below meth c H locs ls G R cells slots Z hK hE hP hS hL)
theorem zx_icmp_eq {l : zw_Lh} {d : Nat} {y : zw_I} {Q : Option Value → zw_M → Prop} {pc : Nat} {L st : List Value} {M : zw_M} {x b : Int32} {off : Int} {tgt : Nat} (hd : decode y.2.1 pc = .ok (.if_icmp .eq off, 3)) (ht : (pc : Int) + off = (tgt : Int)) (kt : x = b → zw_X l d y Q tgt L st M) (kf : ¬ x = b → zw_X l d y Q (pc + 3) L st M) : zw_X l d y Q pc L (.int b :: .int x :: st) M := by
  intro p e s m args below meth c H locs ls G R cells slots Z hK hE hP hS hL
  exact lv_icmp_eq hK.1 hK.2.1 hd ht (fun h => kt h p e s m args below meth c H locs ls G R cells slots Z hK hE hP hS hL) (fun h => kf h p e s m args below meth c H locs ls G R cells slots Z hK hE hP hS hL)
theorem zx_if_ne {l : zw_Lh} {d : Nat} {y : zw_I} {Q : Option Value → zw_M → Prop} {pc : Nat} {L st : List Value} {M : zw_M} {x : Int32} {off : Int} {tgt : Nat} (hd : decode y.2.1 pc = .ok (.ifCond .ne off, 3)) (ht : (pc : Int) + off = (tgt : Int)) (kt : ¬ x = 0 → zw_X l d y Q tgt L st M) (kf : x = 0 → zw_X l d y Q (pc + 3) L st M) : zw_X l d y Q pc L (.int x :: st) M := by
  intro p e s m args below meth c H locs ls G R cells slots Z hK hE hP hS hL
  exact lv_if_ne hK.1 hK.2.1 hd ht (fun h => kt h p e s m args below meth c H locs ls G R cells slots Z hK hE hP hS hL) (fun h => kf h p e s m args below meth c H locs ls G R cells slots Z hK hE hP hS hL)
theorem zx_icmp_ne {l : zw_Lh} {d : Nat} {y : zw_I} {Q : Option Value → zw_M → Prop} {pc : Nat} {L st : List Value} {M : zw_M} {x b : Int32} {off : Int} {tgt : Nat} (hd : decode y.2.1 pc = .ok (.if_icmp .ne off, 3)) (ht : (pc : Int) + off = (tgt : Int)) (kt : ¬ x = b → zw_X l d y Q tgt L st M) (kf : x = b → zw_X l d y Q (pc + 3) L st M) : zw_X l d y Q pc L (.int b :: .int x :: st) M := by
  intro p e s m args below meth c H locs ls G R cells slots Z hK hE hP hS hL
  exact lv_icmp_ne hK.1 hK.2.1 hd ht (fun h => kt h p e s m args below meth c H locs ls G R cells slots Z hK hE hP hS hL) (fun h => kf h p e s m args below meth c H locs ls G R cells slots Z hK hE hP hS hL)
theorem zx_if_lt {l : zw_Lh} {d : Nat} {y : zw_I} {Q : Option Value → zw_M → Prop} {pc : Nat} {L st : List Value} {M : zw_M} {x : Int32} {off : Int} {tgt : Nat} (hd : decode y.2.1 pc = .ok (.ifCond .lt off, 3)) (ht : (pc : Int) + off = (tgt : Int)) (kt : x < 0 → zw_X l d y Q tgt L st M) (kf : ¬ x < 0 → zw_X l d y Q (pc + 3) L st M) : zw_X l d y Q pc L (.int x :: st) M := by
  intro p e s m args below meth c H locs ls G R cells slots Z hK hE hP hS hL
  exact lv_if_lt hK.1 hK.2.1 hd ht (fun h => kt h p e s m args below meth c H locs ls G R cells slots Z hK hE hP hS hL) (fun h => kf h p e s m args below meth c H locs ls G R cells slots Z hK hE hP hS hL)
theorem zx_icmp_lt {l : zw_Lh} {d : Nat} {y : zw_I} {Q : Option Value → zw_M → Prop} {pc : Nat} {L st : List Value} {M : zw_M} {x b : Int32} {off : Int} {tgt : Nat} (hd : decode y.2.1 pc = .ok (.if_icmp .lt off, 3)) (ht : (pc : Int) + off = (tgt : Int)) (kt : x < b → zw_X l d y Q tgt L st M) (kf : ¬ x < b → zw_X l d y Q (pc + 3) L st M) : zw_X l d y Q pc L (.int b :: .int x :: st) M := by
  intro p e s m args below meth c H locs ls G R cells slots Z hK hE hP hS hL
  exact lv_icmp_lt hK.1 hK.2.1 hd ht (fun h => kt h p e s m args below meth c H locs ls G R cells slots Z hK hE hP hS hL) (fun h => kf h p e s m args below meth c H locs ls G R cells slots Z hK hE hP hS hL)
theorem zx_if_ge {l : zw_Lh} {d : Nat} {y : zw_I} {Q : Option Value → zw_M → Prop} {pc : Nat} {L st : List Value} {M : zw_M} {x : Int32} {off : Int} {tgt : Nat} (hd : decode y.2.1 pc = .ok (.ifCond .ge off, 3)) (ht : (pc : Int) + off = (tgt : Int)) (kt : 0 ≤ x → zw_X l d y Q tgt L st M) (kf : ¬ 0 ≤ x → zw_X l d y Q (pc + 3) L st M) : zw_X l d y Q pc L (.int x :: st) M := by
  intro p e s m args below meth c H locs ls G R cells slots Z hK hE hP hS hL
  exact lv_if_ge hK.1 hK.2.1 hd ht (fun h => kt h p e s m args below meth c H locs ls G R cells slots Z hK hE hP hS hL) (fun h => kf h p e s m args below meth c H locs ls G R cells slots Z hK hE hP hS hL)
theorem zx_icmp_ge {l : zw_Lh} {d : Nat} {y : zw_I} {Q : Option Value → zw_M → Prop} {pc : Nat} {L st : List Value} {M : zw_M} {x b : Int32} {off : Int} {tgt : Nat} (hd : decode y.2.1 pc = .ok (.if_icmp .ge off, 3)) (ht : (pc : Int) + off = (tgt : Int)) (kt : b ≤ x → zw_X l d y Q tgt L st M) (kf : ¬ b ≤ x → zw_X l d y Q (pc + 3) L st M) : zw_X l d y Q pc L (.int b :: .int x :: st) M := by
  intro p e s m args below meth c H locs ls G R cells slots Z hK hE hP hS hL
  exact lv_icmp_ge hK.1 hK.2.1 hd ht (fun h => kt h p e s m args below meth c H locs ls G R cells slots Z hK hE hP hS hL) (fun h => kf h p e s m args below meth c H locs ls G R cells slots Z hK hE hP hS hL)
theorem zx_if_gt {l : zw_Lh} {d : Nat} {y : zw_I} {Q : Option Value → zw_M → Prop} {pc : Nat} {L st : List Value} {M : zw_M} {x : Int32} {off : Int} {tgt : Nat} (hd : decode y.2.1 pc = .ok (.ifCond .gt off, 3)) (ht : (pc : Int) + off = (tgt : Int)) (kt : 0 < x → zw_X l d y Q tgt L st M) (kf : ¬ 0 < x → zw_X l d y Q (pc + 3) L st M) : zw_X l d y Q pc L (.int x :: st) M := by
  intro p e s m args below meth c H locs ls G R cells slots Z hK hE hP hS hL
  exact lv_if_gt hK.1 hK.2.1 hd ht (fun h => kt h p e s m args below meth c H locs ls G R cells slots Z hK hE hP hS hL) (fun h => kf h p e s m args below meth c H locs ls G R cells slots Z hK hE hP hS hL)
theorem zx_icmp_gt {l : zw_Lh} {d : Nat} {y : zw_I} {Q : Option Value → zw_M → Prop} {pc : Nat} {L st : List Value} {M : zw_M} {x b : Int32} {off : Int} {tgt : Nat} (hd : decode y.2.1 pc = .ok (.if_icmp .gt off, 3)) (ht : (pc : Int) + off = (tgt : Int)) (kt : b < x → zw_X l d y Q tgt L st M) (kf : ¬ b < x → zw_X l d y Q (pc + 3) L st M) : zw_X l d y Q pc L (.int b :: .int x :: st) M := by
  intro p e s m args below meth c H locs ls G R cells slots Z hK hE hP hS hL
  exact lv_icmp_gt hK.1 hK.2.1 hd ht (fun h => kt h p e s m args below meth c H locs ls G R cells slots Z hK hE hP hS hL) (fun h => kf h p e s m args below meth c H locs ls G R cells slots Z hK hE hP hS hL)
theorem zx_if_le {l : zw_Lh} {d : Nat} {y : zw_I} {Q : Option Value → zw_M → Prop} {pc : Nat} {L st : List Value} {M : zw_M} {x : Int32} {off : Int} {tgt : Nat} (hd : decode y.2.1 pc = .ok (.ifCond .le off, 3)) (ht : (pc : Int) + off = (tgt : Int)) (kt : x ≤ 0 → zw_X l d y Q tgt L st M) (kf : ¬ x ≤ 0 → zw_X l d y Q (pc + 3) L st M) : zw_X l d y Q pc L (.int x :: st) M := by
  intro p e s m args below meth c H locs ls G R cells slots Z hK hE hP hS hL
  exact lv_if_le hK.1 hK.2.1 hd ht (fun h => kt h p e s m args below meth c H locs ls G R cells slots Z hK hE hP hS hL) (fun h => kf h p e s m args below meth c H locs ls G R cells slots Z hK hE hP hS hL)
theorem zx_icmp_le {l : zw_Lh} {d : Nat} {y : zw_I} {Q : Option Value → zw_M → Prop} {pc : Nat} {L st : List Value} {M : zw_M} {x b : Int32} {off : Int} {tgt : Nat} (hd : decode y.2.1 pc = .ok (.if_icmp .le off, 3)) (ht : (pc : Int) + off = (tgt : Int)) (kt : x ≤ b → zw_X l d y Q tgt L st M) (kf : ¬ x ≤ b → zw_X l d y Q (pc + 3) L st M) : zw_X l d y Q pc L (.int b :: .int x :: st) M := by
  intro p e s m args below meth c H locs ls G R cells slots Z hK hE hP hS hL
  exact lv_icmp_le hK.1 hK.2.1 hd ht (fun h => kt h p e s m args below meth c H locs ls G R cells slots Z hK hE hP hS hL) (fun h => kf h p e s m args below meth c H locs ls G R cells slots Z hK hE hP hS hL)
theorem zx_goto {l : zw_Lh} {d : Nat} {y : zw_I} {Q : Option Value → zw_M → Prop} {pc : Nat} {L st : List Value} {M : zw_M} {off : Int} {tgt : Nat} (hd : decode y.2.1 pc = .ok (.goto off, 3)) (ht : (pc : Int) + off = (tgt : Int)) (k : zw_X l d y Q tgt L st M) : zw_X l d y Q pc L st M := by
  intro p e s m args below meth c H locs ls G R cells slots Z hK hE hP hS hL
  exact lv_goto hK.1 hK.2.1 hd ht (k p e s m args below meth c H locs ls G R cells slots Z hK hE hP hS hL)
theorem zx_tout {l : zw_Lh} {d : Nat} {y : zw_I} {Q : Option Value → zw_M → Prop} {pc : Nat} {L st : List Value} {M : zw_M} {dflt lo hi : Int} {offs : Array Int} {len tgt : Nat} {x : Int32} (hd : decode y.2.1 pc = .ok (.tableswitch dflt lo hi offs, len)) (h : x.toInt < lo ∨ hi < x.toInt) (ht : (pc : Int) + dflt = (tgt : Int)) (k : zw_X l d y Q tgt L st M) : zw_X l d y Q pc L (.int x :: st) M := by
  intro p e s m args below meth c H locs ls G R cells slots Z hK hE hP hS hL
  exact lv_tableOut hK.1 hK.2.1 hd h ht (k p e s m args below meth c H locs ls G R cells slots Z hK hE hP hS hL)
theorem zx_tin {l : zw_Lh} {d : Nat} {y : zw_I} {Q : Option Value → zw_M → Prop} {pc : Nat} {L st : List Value} {M : zw_M} {dflt lo hi off z : Int} {offs : Array Int} {len tgt : Nat} {x : Int32} (hd : decode y.2.1 pc = .ok (.tableswitch dflt lo hi offs, len)) (hx : x.toInt = z) (h1 : ¬ z < lo) (h2 : ¬ hi < z) (ho : offs[(z - lo).toNat]? = some off) (ht : (pc : Int) + off = (tgt : Int)) (k : zw_X l d y Q tgt L st M) : zw_X l d y Q pc L (.int x :: st) M := by
  intro p e s m args below meth c H locs ls G R cells slots Z hK hE hP hS hL
  exact lv_tableIn hK.1 hK.2.1 hd (by rw [hx]; exact h1) (by rw [hx]; exact h2) (by rw [hx]; exact ho) ht (k p e s m args below meth c H locs ls G R cells slots Z hK hE hP hS hL)
theorem zx_lookup {l : zw_Lh} {d : Nat} {y : zw_I} {Q : Option Value → zw_M → Prop} {pc : Nat} {L st : List Value} {M : zw_M} {dflt off : Int} {ps : Array (Int × Int)} {len tgt : Nat} {x : Int32} (hd : decode y.2.1 pc = .ok (.lookupswitch dflt ps, len)) (hp : (ps.toList.zip (ps.toList.drop 1)).all (fun (a, next) => a.1 < next.1) = true) (ho : Op.lookupswitch.offset ps.toList dflt x.toInt = off) (ht : (pc : Int) + off = (tgt : Int)) (k : zw_X l d y Q tgt L st M) : zw_X l d y Q pc L (.int x :: st) M := by
  intro p e s m args below meth c H locs ls G R cells slots Z hK hE hP hS hL
  exact lv_lookup hK.1 hK.2.1 hd hp ho ht (k p e s m args below meth c H locs ls G R cells slots Z hK hE hP hS hL)
/-- a class of the world, as the tables have it -/
def zw_okc (ci : Nat) (C : String) (T : u_T) (N : Nat) (tf : Nat → FieldType) : Prop := zs_cl[ci]? = some (C, T, N) ∧ (∀ w ∈ u_ws C T N, w ∈ zs_G) ∧ (∀ k, k < N → parseFieldDescriptor (T k).2.2.1 = some (tf k)) ∧ (∀ a, a < N → ∀ b, b < N → a ≠ b → (T a).2.1 ≠ (T b).2.1)
/-- a field of the cell q, as a class's own constant names it -/
def zw_F (own : String) (idx q k : Nat) (x : Option (Option Nat)) (ty : FieldType) (fin : Bool) : Prop := ∃ (ci : Nat) (C : String) (T : u_T) (N : Nat) (tf : Nat → FieldType) (ks : List (Option (Option Nat))), zw_okc ci C T N tf ∧ k < N ∧ Cond.fieldLink own idx (T k).1 (T k).2.1 (T k).2.2.1 ∈ zs_G ∧ zs_S[q]? = some (.inr (ci, ks)) ∧ ks[k]? = some x ∧ tf k = ty ∧ (T k).2.2.2 = fin
theorem zx_get {l : zw_Lh} {d : Nat} {y : zw_I} {Q : Option Value → zw_M → Prop} {pc : Nat} {L st : List Value} {M : zw_M} {q k idx : Nat} {x : Option (Option Nat)} {ty : FieldType} {fin : Bool} (hd : decode y.2.1 pc = .ok (.getfield idx, 3)) (hf : zw_F y.1.cls idx q k x ty fin) {v : Value} (hv : ∀ ad, zw_f ad M q k x = zw_v ad v) (kk : zw_X l d y Q (pc + 3) L (v :: st) M) : zw_X l d y Q pc L (.ref q :: st) M := by
  intro p e s m args below meth c H locs ls G R cells slots Z hK hE hP hS hL
  obtain ⟨ci, C, T, N, tf, ks, ⟨h1, h2, h3, h4⟩, h5, h6, h7, h8, h9, h10⟩ := hf
  exact va_get (D := G.1) (cl := zs_cl) (ws := zw_W G M) (tys := zw_t G) (v := zw_v G.2.2 v) (ref := (T k).1) hK.1 hK.2.1 hK.2.2.2.2.2.1 (fun w hw => h2 w hw) hK.2.2.2.2.1 hK.2.2.2.2.2.2.2.1 hP q (fs := ks.mapIdx (fun k x => zw_f G.2.2 M q k x)) (zw_W_at h7) h1 k h5 (hK.2.2.2.2.2.1 _ h6) (fun _ h => h) (by rw [List.getElem?_mapIdx, h8]; simp [hv]) hd (kk p e s m args below meth c H locs ls G R cells slots Z hK hE hP hS hL)
theorem zx_geti {l : zw_Lh} {d : Nat} {y : zw_I} {Q : Option Value → zw_M → Prop} {pc : Nat} {L st : List Value} {M : zw_M} {q k idx : Nat} {ty : FieldType} {fin : Bool} (hd : decode y.2.1 pc = .ok (.getfield idx, 3)) (hf : zw_F y.1.cls idx q k none ty fin) (kk : zw_X l d y Q (pc + 3) L (.int (M.1 q k) :: st) M) : zw_X l d y Q pc L (.ref q :: st) M := zx_get hd hf (fun _ => rfl) kk
theorem zx_getr {l : zw_Lh} {d : Nat} {y : zw_I} {Q : Option Value → zw_M → Prop} {pc : Nat} {L st : List Value} {M : zw_M} {q k idx r : Nat} {ty : FieldType} {fin : Bool} (hd : decode y.2.1 pc = .ok (.getfield idx, 3)) (hf : zw_F y.1.cls idx q k (some (some r)) ty fin) (kk : zw_X l d y Q (pc + 3) L (.ref r :: st) M) : zw_X l d y Q pc L (.ref q :: st) M := zx_get hd hf (fun _ => rfl) kk
theorem zx_getl {l : zw_Lh} {d : Nat} {y : zw_I} {Q : Option Value → zw_M → Prop} {pc : Nat} {L st : List Value} {M : zw_M} {q k idx : Nat} {ty : FieldType} {fin : Bool} (hd : decode y.2.1 pc = .ok (.getfield idx, 3)) (hf : zw_F y.1.cls idx q k (some none) ty fin) (kk : zw_X l d y Q (pc + 3) L (.long (M.2 q k) :: st) M) : zw_X l d y Q pc L (.ref q :: st) M := zx_get hd hf (fun _ => rfl) kk
theorem zx_puti {l : zw_Lh} {d : Nat} {y : zw_I} {Q : Option Value → zw_M → Prop} {pc : Nat} {L st : List Value} {M : zw_M} {q k idx : Nat} {x : Int32} (hd : decode y.2.1 pc = .ok (.putfield idx, 3)) (hf : zw_F y.1.cls idx q k none .int false) (kk : zw_X l d y Q (pc + 3) L st (zw_s M q k x)) : zw_X l d y Q pc L (.int x :: .ref q :: st) M := by
  intro p e s m args below meth c H locs ls G R cells slots Z hK hE hP hS hL
  obtain ⟨ci, C, T, N, tf, ks, ⟨h1, h2, h3, h4⟩, h5, h6, h7, h8, h9, h10⟩ := hf
  refine va_put (D := G.1) (cl := zs_cl) (ws := zw_W G M) (tys := zw_t G) (v := .int x) (ref := (T k).1) (ty := .int) hK.1 hK.2.1 hK.2.2.2.2.2.1 (fun w hw => h2 w hw) tf h3 h4 hK.2.2.2.2.1 hK.2.2.2.2.2.2.2.1 hP (zw_D_at hK.2.2.2.2.2.2.2.2.1) hS q (fs := ks.mapIdx (fun k x => zw_f G.2.2 M q k x)) (zw_W_at h7) h1 k h5 (hK.2.2.2.2.2.1 _ h6) (fun _ h => h) h10 (by rw [h3 k h5, h9]) rfl rfl (by simpa using (List.getElem?_eq_some_iff.mp h8).1) hd (fun H1 locs1 hP1 _ hS1 => ?_)
  rw [zw_W_seti h7 h8] at hP1
  exact kk p e s m args below meth c H1 locs1 ls G R cells slots Z hK hE hP1 hS1 hL
theorem zx_putz {l : zw_Lh} {d : Nat} {y : zw_I} {Q : Option Value → zw_M → Prop} {pc : Nat} {L st : List Value} {M : zw_M} {q k idx : Nat} {x : Int32} (hd : decode y.2.1 pc = .ok (.putfield idx, 3)) (hf : zw_F y.1.cls idx q k none .boolean false) (hz : narrow .boolean (.int x) = .int x) (hz2 : fits .boolean (.int x) = true) (kk : zw_X l d y Q (pc + 3) L st (zw_s M q k x)) : zw_X l d y Q pc L (.int x :: .ref q :: st) M := by
  intro p e s m args below meth c H locs ls G R cells slots Z hK hE hP hS hL
  obtain ⟨ci, C, T, N, tf, ks, ⟨h1, h2, h3, h4⟩, h5, h6, h7, h8, h9, h10⟩ := hf
  refine va_put (D := G.1) (cl := zs_cl) (ws := zw_W G M) (tys := zw_t G) (v := .int x) (ref := (T k).1) (ty := .boolean) hK.1 hK.2.1 hK.2.2.2.2.2.1 (fun w hw => h2 w hw) tf h3 h4 hK.2.2.2.2.1 hK.2.2.2.2.2.2.2.1 hP (zw_D_at hK.2.2.2.2.2.2.2.2.1) hS q (fs := ks.mapIdx (fun k x => zw_f G.2.2 M q k x)) (zw_W_at h7) h1 k h5 (hK.2.2.2.2.2.1 _ h6) (fun _ h => h) h10 (by rw [h3 k h5, h9]) hz hz2 (by simpa using (List.getElem?_eq_some_iff.mp h8).1) hd (fun H1 locs1 hP1 _ hS1 => ?_)
  rw [zw_W_seti h7 h8] at hP1
  exact kk p e s m args below meth c H1 locs1 ls G R cells slots Z hK hE hP1 hS1 hL
theorem zx_putl {l : zw_Lh} {d : Nat} {y : zw_I} {Q : Option Value → zw_M → Prop} {pc : Nat} {L st : List Value} {M : zw_M} {q k idx : Nat} {x : Int64} (hd : decode y.2.1 pc = .ok (.putfield idx, 3)) (hf : zw_F y.1.cls idx q k (some none) .long false) (kk : zw_X l d y Q (pc + 3) L st (zw_sl M q k x)) : zw_X l d y Q pc L (.long x :: .ref q :: st) M := by
  intro p e s m args below meth c H locs ls G R cells slots Z hK hE hP hS hL
  obtain ⟨ci, C, T, N, tf, ks, ⟨h1, h2, h3, h4⟩, h5, h6, h7, h8, h9, h10⟩ := hf
  refine va_put (D := G.1) (cl := zs_cl) (ws := zw_W G M) (tys := zw_t G) (v := .long x) (ref := (T k).1) (ty := .long) hK.1 hK.2.1 hK.2.2.2.2.2.1 (fun w hw => h2 w hw) tf h3 h4 hK.2.2.2.2.1 hK.2.2.2.2.2.2.2.1 hP (zw_D_at hK.2.2.2.2.2.2.2.2.1) hS q (fs := ks.mapIdx (fun k x => zw_f G.2.2 M q k x)) (zw_W_at h7) h1 k h5 (hK.2.2.2.2.2.1 _ h6) (fun _ h => h) h10 (by rw [h3 k h5, h9]) rfl rfl (by simpa using (List.getElem?_eq_some_iff.mp h8).1) hd (fun H1 locs1 hP1 _ hS1 => ?_)
  rw [zw_W_setl h7 h8] at hP1
  exact kk p e s m args below meth c H1 locs1 ls G R cells slots Z hK hE hP1 hS1 hL
theorem zx_iald {l : zw_Lh} {d : Nat} {y : zw_I} {Q : Option Value → zw_M → Prop} {pc : Nat} {L st : List Value} {M : zw_M} {q n : Nat} {i : Int32} (hd : decode y.2.1 pc = .ok (.iaload, 1)) (hs : zs_S[q]? = some (.inl (0, n))) (hi : vp_in i n) (kk : zw_X l d y Q (pc + 1) L (.int (M.1 q i.toNatClampNeg) :: st) M) : zw_X l d y Q pc L (.int i :: .ref q :: st) M := by
  intro p e s m args below meth c H locs ls G R cells slots Z hK hE hP hS hL
  exact va_iald (D := G.1) (cl := zs_cl) (ws := zw_W G M) (tys := zw_t G) hK.1 hK.2.1 hK.2.2.2.2.2.2.2.1 hP q 0 (zw_W_at hs) rfl hi hd (kk p e s m args below meth c H locs ls G R cells slots Z hK hE hP hS hL)
theorem zx_iast {l : zw_Lh} {d : Nat} {y : zw_I} {Q : Option Value → zw_M → Prop} {pc : Nat} {L st : List Value} {M : zw_M} {q n : Nat} {i x : Int32} (hd : decode y.2.1 pc = .ok (.iastore, 1)) (hs : zs_S[q]? = some (.inl (0, n))) (hi : vp_in i n) (kk : zw_X l d y Q (pc + 1) L st (zw_s M q i.toNatClampNeg (x))) : zw_X l d y Q pc L (.int x :: .int i :: .ref q :: st) M := by
  intro p e s m args below meth c H locs ls G R cells slots Z hK hE hP hS hL
  refine va_iast (D := G.1) (cl := zs_cl) (ws := zw_W G M) (tys := zw_t G) hK.1 hK.2.1 hK.2.2.2.2.2.2.2.1 hP (zw_D_at hK.2.2.2.2.2.2.2.2.1) hS q 0 (zw_W_at hs) rfl hi hd (fun H1 locs1 hP1 _ hS1 => ?_)
  rw [zw_W_seta hs] at hP1
  exact kk p e s m args below meth c H1 locs1 ls G R cells slots Z hK hE hP1 hS1 hL
theorem zx_cald {l : zw_Lh} {d : Nat} {y : zw_I} {Q : Option Value → zw_M → Prop} {pc : Nat} {L st : List Value} {M : zw_M} {q n : Nat} {i : Int32} (hd : decode y.2.1 pc = .ok (.caload, 1)) (hs : zs_S[q]? = some (.inl (1, n))) (hi : vp_in i n) (kk : zw_X l d y Q (pc + 1) L (.int (M.1 q i.toNatClampNeg) :: st) M) : zw_X l d y Q pc L (.int i :: .ref q :: st) M := by
  intro p e s m args below meth c H locs ls G R cells slots Z hK hE hP hS hL
  exact va_cald (D := G.1) (cl := zs_cl) (ws := zw_W G M) (tys := zw_t G) hK.1 hK.2.1 hK.2.2.2.2.2.2.2.1 hP q 1 (zw_W_at hs) rfl hi hd (kk p e s m args below meth c H locs ls G R cells slots Z hK hE hP hS hL)
theorem zx_cast {l : zw_Lh} {d : Nat} {y : zw_I} {Q : Option Value → zw_M → Prop} {pc : Nat} {L st : List Value} {M : zw_M} {q n : Nat} {i x : Int32} (hd : decode y.2.1 pc = .ok (.castore, 1)) (hs : zs_S[q]? = some (.inl (1, n))) (hi : vp_in i n) (kk : zw_X l d y Q (pc + 1) L st (zw_s M q i.toNatClampNeg (vp_nar .char x))) : zw_X l d y Q pc L (.int x :: .int i :: .ref q :: st) M := by
  intro p e s m args below meth c H locs ls G R cells slots Z hK hE hP hS hL
  refine va_cast (D := G.1) (cl := zs_cl) (ws := zw_W G M) (tys := zw_t G) hK.1 hK.2.1 hK.2.2.2.2.2.2.2.1 hP (zw_D_at hK.2.2.2.2.2.2.2.2.1) hS q 1 (zw_W_at hs) rfl hi hd (fun H1 locs1 hP1 _ hS1 => ?_)
  rw [zw_W_seta hs] at hP1
  exact kk p e s m args below meth c H1 locs1 ls G R cells slots Z hK hE hP1 hS1 hL
theorem zx_iret {l : zw_Lh} {d : Nat} {y : zw_I} {Q : Option Value → zw_M → Prop} {pc : Nat} {L st : List Value} {M : zw_M} {x : Int32} {ty : FieldType} (hd : decode y.2.1 pc = .ok (.ireturn, 1)) (hr : y.2.2.2 = some ty) (hn : narrow ty (.int x) = .int x) (h : Q (some (.int x)) M) : zw_X l d y Q pc L [.int x] M := by
  intro p e s m args below meth c H locs ls G R cells slots Z hK hE hP hS hL
  exact zw_Zi hE.2 <| W.zret (v := x) hK.1 hK.2.1 (hK.2.2.1.trans hr) hn (fun t ht _ => ⟨⟨some (.int x), M, rfl, h, by rw [ht]; exact hP⟩, hS.F ht⟩) hS.2.2 hd hK.2.2.2.2.2.2.1
theorem zx_lret {l : zw_Lh} {d : Nat} {y : zw_I} {Q : Option Value → zw_M → Prop} {pc : Nat} {L st : List Value} {M : zw_M} {x : Int64} (hd : decode y.2.1 pc = .ok (.lreturn, 1)) (hr : y.2.2.2 = some .long) (h : Q (some (.long x)) M) : zw_X l d y Q pc L [.long x] M := by
  intro p e s m args below meth c H locs ls G R cells slots Z hK hE hP hS hL
  exact zw_Zi hE.2 <| W.lret (v := x) hK.1 hK.2.1 (hK.2.2.1.trans hr) (fun t ht _ => ⟨⟨some (.long x), M, rfl, h, by rw [ht]; exact hP⟩, hS.F ht⟩) hS.2.2 hd hK.2.2.2.2.2.2.1
theorem zx_vret {l : zw_Lh} {d : Nat} {y : zw_I} {Q : Option Value → zw_M → Prop} {pc : Nat} {L st : List Value} {M : zw_M} (hd : decode y.2.1 pc = .ok (.return_, 1)) (hr : y.2.2.2 = none) (h : Q none M) : zw_X l d y Q pc L [] M := by
  intro p e s m args below meth c H locs ls G R cells slots Z hK hE hP hS hL
  exact zw_Zi hE.2 <| W.vret hK.1 hK.2.1 (hK.2.2.1.trans hr) (fun t ht _ => ⟨⟨none, M, rfl, h, by rw [ht]; exact hP⟩, hS.F ht⟩) hS.2.2 hd hK.2.2.2.2.2.2.1
/-- the script -/
theorem zx_slen {l : zw_Lh} {d : Nat} {y : zw_I} {Q : Option Value → zw_M → Prop} {pc : Nat} {L st : List Value} {M : zw_M} (hd : decode y.2.1 pc = .ok (.arraylength, 1)) (kk : zw_X l d y Q (pc + 1) L (.int (Int32.ofNat l.2.1) :: st) M) : zw_X l d y Q pc L (.ref 37 :: st) M := by
  intro p e s m args below meth c H locs ls G R cells slots Z hK hE hP hS hL
  exact va_slen hK.1 hK.2.1 hK.2.2.2.2.2.2.2.2.2.2.1 hK.2.2.2.2.2.2.2.2.2.2.2 (zw_Xb hK.2.2.2.2.2.2.2.2.1 hK.2.2.2.2.2.2.2.2.2) hS hd (kk p e s m args below meth c H locs ls G R cells slots Z hK hE hP hS hL)
theorem zx_sld {l : zw_Lh} {d : Nat} {y : zw_I} {Q : Option Value → zw_M → Prop} {pc : Nat} {L st : List Value} {M : zw_M} {i : Int32} (hd : decode y.2.1 pc = .ok (.iaload, 1)) (hi : vp_in i l.2.1) (kk : zw_X l d y Q (pc + 1) L (.int (l.2.2 i.toNatClampNeg) :: st) M) : zw_X l d y Q pc L (.int i :: .ref 37 :: st) M := by
  intro p e s m args below meth c H locs ls G R cells slots Z hK hE hP hS hL
  exact va_sld hK.1 hK.2.1 hK.2.2.2.2.2.2.2.2.2.2.1 hK.2.2.2.2.2.2.2.2.2.2.2 (zw_Xb hK.2.2.2.2.2.2.2.2.1 hK.2.2.2.2.2.2.2.2.2) hS hi hd (kk p e s m args below meth c H locs ls G R cells slots Z hK hE hP hS hL)
/-! calls -/
def zw_yV (y : zw_I) (n : Nat) : Prop := zw_in [.instanceMethod y.1, .selects y.1.cls y.1 y.1, .initialized y.1.cls, .code y.1 y.2.1 y.2.2.1 y.2.2.2] ∧ (y.1.cls ≠ "java/lang/invoke/MethodHandle" ∧ y.1.cls ≠ "java/lang/invoke/VarHandle" ∧ (parseMethodDescriptor y.1.desc).map (fun d => d.parameters.length) = some n) ∧ y.2.2.1 ≤ 21
def zw_yS (y : zw_I) (n : Nat) : Prop := zw_in [.static y.1, .initialized y.1.cls, .code y.1 y.2.1 y.2.2.1 y.2.2.2] ∧ (y.1.cls ≠ "java/lang/invoke/MethodHandle" ∧ y.1.cls ≠ "java/lang/invoke/VarHandle" ∧ (parseMethodDescriptor y.1.desc).map (fun d => d.parameters.length) = some n) ∧ y.2.2.1 ≤ 21
def zw_rc (q : Nat) (C : String) : Prop := ∃ (ci : Nat) (ks : List (Option (Option Nat))) (T : u_T) (N : Nat), zs_S[q]? = some (.inr (ci, ks)) ∧ zs_cl[ci]? = some (C, T, N)
section ZGO
variable {p : Program} {l : Launch} {e : Env} {R : Room} {s : State} {m : MethodId} {args : Array Value} {below : List Frame} {meth : Method} {c : Code} {H : Heap} {locs : List Loc} {Q : State → Prop}
variable {pc : Nat} {ls : Array Slot} {rest st0 : List Value} {a : Array Value} {A0 A1 : Nat → Prop} {H0 : Heap} {free : Addr → Prop} {cells slots : Nat}
theorem zw_go {G : zw_G} {Q1 : Option Value → zw_M → Prop} (hr : va_Run p l e R s m args below meth c H locs cells slots 0 0 (F0 m pc ls st0) rest (zw_Q G A1 Q1 a) free) (hS : va_S A0 H0 H locs) (hA : ∀ q, q < H.size → A1 q → A0 q) (hf : ∀ q, free q → A0 q)
    (kk : ∀ (v : Option Value) (M : zw_M) (H1 : Heap) (locs1 : List Loc), Q1 v M → va_P G.1 zs_cl (zw_W G M) H1 → va_S A0 H0 H1 locs1 → W p l e R s m args below meth c H1 locs1 cells slots Q (F0 m (pc + 3) ls ((v.map (zw_v G.2.2)).toList ++ rest))) : W p l e R s m args below meth c H locs cells slots Q (F0 m pc ls st0) := by
  intro T hT X
  obtain ⟨v, st₀, t, T', L, h0, X', hL, e1, e2, ⟨⟨r, u, hv, hp, hb⟩, hz, hk⟩, st⟩ := hr T hT X
  cases hv
  rw [h0] at hz hk
  obtain ⟨t2, a1, b1⟩ := kk r u T'.heap (locs ++ L) hp (by rw [e1]; exact hb)
    ⟨Nat.le_trans hS.1 (by rw [e1]; exact hz), fun q h1 h2 => by rw [e1, hk q (Nat.lt_of_lt_of_le h1 hS.1) (fun z => h2 (hA q (Nat.lt_of_lt_of_le h1 hS.1) z))]; exact hS.2.1 q h1 h2, fun q hq => by
      rcases List.mem_append.mp hq with h | h
      · exact hS.2.2 q h
      · exact hf _ (hL q h)⟩ T' rfl X'
  exact ⟨t2, st t2 a1, b1⟩
end ZGO
theorem zw_A_mono {G : zw_G} {n k : Nat} (h : n ≤ k) : ∀ q, zw_A G k q → zw_A G n q := fun q hq => hq.elim Or.inl (fun z => Or.inr (Nat.le_trans h z))
theorem zw_N_at {l : zw_Lh} {G : zw_G} {s U : State} {H : Heap} {locs : List Loc} (hW : s.WarmedH U.vm) (hU : U.heap = H) (hS : va_S (zw_A G s.heap.size) s.heap H locs) (hD : zw_D G) (h : zw_N l G s) : zw_N l G U := by
  subst hU
  exact ⟨fun q hq => va_Nw.warmM hW (h.1 q hq), (va_X.moved hW.alike h.2.1).kept (hS.2.1 _ h.2.2 (zw_Xb hD h)), Nat.lt_of_lt_of_le h.2.2 hS.1⟩
theorem zw_blind {l : zw_Lh} {G : zw_G} {vs : List Value} {sz : Nat} {M : zw_M} : FrameBlind (va_Pc (vs.map (zw_v G.2.2)) (fun U => U.heap.size = sz ∧ va_P G.1 zs_cl (zw_W G M) U.heap ∧ va_K G.1 zs_cl (zw_t G) U ∧ zw_N l G U)) :=
  fun a U g mk q => ⟨q.1, q.2.1, q.2.2.1, va_K.moved (u := U) (U := U.calling g mk a) (Vm.Alike.refl U.vm) q.2.2.2.1, fun z hz => va_Nw.same (u := U) (U := U.calling g mk a) rfl rfl (q.2.2.2.2.1 z hz), va_X.moved (u := U) (U := U.calling g mk a) (Vm.Alike.refl U.vm) q.2.2.2.2.2.1, q.2.2.2.2.2.2⟩
theorem zw_cat {ad : Nat → Nat} {st : List Value} (h : (st.map fun v => v.category).sum ≤ 8) : ((st.map (zw_v ad)).map fun v => v.category).sum ≤ 8 := by
  rw [List.map_map, show List.map ((fun v => Value.category v) ∘ zw_v ad) st = st.map fun v => v.category from List.map_congr_left (fun v _ => zw_v_cat _ v)]
  exact h
theorem zx_callV {l : zw_Lh} {d : Nat} {y : zw_I} {Q : Option Value → zw_M → Prop} {pc : Nat} {L st st0 : List Value} {M : zw_M} {y1 : zw_I} {idx q : Nat} {vs : List Value} {Q1 : Option Value → zw_M → Prop} {n : Nat}
    (hd : decode y.2.1 pc = .ok (.invokevirtual idx, 3)) (hl : zw_in [Cond.methodLink y.1.cls idx y1.1]) (hy : zw_yV y1 n) (hrc : zw_rc q y1.1.cls) (hC : zw_C l d y1 (.ref q :: vs) M Q1) (hst : st0 = vs.reverse ++ .ref q :: st) (hn : vs.length = n) (hcat : (st.map fun v => v.category).sum ≤ 8)
    (k : ∀ v M', Q1 v M' → zw_X l (d + 1) y Q (pc + 3) L (v.toList ++ st) M') : zw_X l (d + 1) y Q pc L st0 M := by
  intro p e s m args below meth c H locs ls G R cells slots Z hK hE hP hS hL
  obtain ⟨k1, k2, k3, k4, k5, k6, k7, k8, k9, k10⟩ := id hK
  obtain ⟨ci, ks, T, N, r1, r2⟩ := hrc
  have hw1 : ∀ w ∈ zs_G, w ∈ zs_G := fun w h => h
  have hcode : Cond.code y1.1 y1.2.1 y1.2.2.1 y1.2.2.2 ∈ zs_G := hy.1 _ (by simp)
  have hgood : GoodIn zs_G (zw_ws y1) := fun w hw => by
    rcases List.mem_cons.mp hw with rfl | h
    · exact ⟨hw1 _ hcode, good_of_word (List.mem_filter.mp hcode).2⟩
    · exact ⟨hw1 _ h, good_of_word (List.mem_filter.mp h).2⟩
  have ok : ∀ w ∈ [Cond.instanceMethod y1.1, .selects y1.1.cls y1.1 y1.1, .initialized y1.1.cls, .code y1.1 y1.2.1 y1.2.2.1 y1.2.2.2], w.before args s = true := fun w h => k6 w (hw1 w (hy.1 w h))
  have hcb := callB_of (R := R) (rm := zw_rm d) (own := y.1.cls) (index := idx) (mc := 0) (ms := 0) n k6 hgood rfl rfl rfl (ok _ (by simp)) (k6 _ (hw1 _ (hl _ (by simp)))) hy.2.1 ⟨by show d + 1 ≤ R.frames; exact hE.1.1, by show 8 + (y1.2.2.1 + 11) + d * 40 ≤ R.locals; have := hy.2.2; have := hE.1.2.1; omega⟩
  refine zw_go (Q1 := Q1) (rest := st.map (zw_v G.2.2)) (va_runV (As := vs.map (zw_v G.2.2)) ⟨k1, k2, k4, k5, k6⟩ (hC G H.size k9) ⟨hcb, ok _ (by simp), ok _ (by simp)⟩ ⟨zw_blind, va_recv k8 hP r2 (zw_W_at r1), fun U hU hW => ⟨rfl, by rw [hU], by rw [hU]; exact hP, va_K.moved hW.alike k8, zw_N_at hW hU hS k9 k10⟩⟩ rfl (by simpa using hn) hL.2.1 ?_ (lv_room (zw_cat hcat)) hd ⟨hE.1.2.2.1, hE.1.2.2.2⟩) hS (fun q _ => zw_A_mono hS.1 q) (fun q => zw_A_mono hS.1 q) (fun v M1 H1 locs1 hQ hP1 hS1 => ?_)
  · show st0.map (zw_v G.2.2) = _
    rw [hst, List.map_append, List.map_reverse, List.map_cons]
    rfl
  · have := k v M1 hQ p e s m args below meth c H1 locs1 ls G R cells slots Z hK hE hP1 hS1 hL
    rw [List.map_append] at this
    cases v <;> exact this
theorem zx_callS {l : zw_Lh} {d : Nat} {y : zw_I} {Q : Option Value → zw_M → Prop} {pc : Nat} {L st st0 : List Value} {M : zw_M} {y1 : zw_I} {idx : Nat} {vs : List Value} {Q1 : Option Value → zw_M → Prop} {n : Nat}
    (hd : decode y.2.1 pc = .ok (.invokestatic idx, 3)) (hl : zw_in [Cond.methodLink y.1.cls idx y1.1]) (hy : zw_yS y1 n) (hC : zw_C l d y1 vs M Q1) (hst : st0 = vs.reverse ++ st) (hn : vs.length = n) (hcat : (st.map fun v => v.category).sum ≤ 8)
    (k : ∀ v M', Q1 v M' → zw_X l (d + 1) y Q (pc + 3) L (v.toList ++ st) M') : zw_X l (d + 1) y Q pc L st0 M := by
  intro p e s m args below meth c H locs ls G R cells slots Z hK hE hP hS hL
  obtain ⟨k1, k2, k3, k4, k5, k6, k7, k8, k9, k10⟩ := id hK
  have hw1 : ∀ w ∈ zs_G, w ∈ zs_G := fun w h => h
  have hcode : Cond.code y1.1 y1.2.1 y1.2.2.1 y1.2.2.2 ∈ zs_G := hy.1 _ (by simp)
  have hgood : GoodIn zs_G (zw_ws y1) := fun w hw => by
    rcases List.mem_cons.mp hw with rfl | h
    · exact ⟨hw1 _ hcode, good_of_word (List.mem_filter.mp hcode).2⟩
    · exact ⟨hw1 _ h, good_of_word (List.mem_filter.mp h).2⟩
  have ok : ∀ w ∈ [Cond.static y1.1, .initialized y1.1.cls, .code y1.1 y1.2.1 y1.2.2.1 y1.2.2.2], w.before args s = true := fun w h => k6 w (hw1 w (hy.1 w h))
  have hcb := callB_of (R := R) (rm := zw_rm d) (own := y.1.cls) (index := idx) (mc := 0) (ms := 0) n k6 hgood rfl rfl rfl (ok _ (by simp)) (k6 _ (hw1 _ (hl _ (by simp)))) hy.2.1 ⟨by show d + 1 ≤ R.frames; exact hE.1.1, by show 8 + (y1.2.2.1 + 11) + d * 40 ≤ R.locals; have := hy.2.2; have := hE.1.2.1; omega⟩
  refine zw_go (Q1 := Q1) (rest := st.map (zw_v G.2.2)) (va_runS (As := vs.map (zw_v G.2.2)) ⟨k1, k2, k4, k5, k6⟩ (hC G H.size k9) ⟨hcb, ok _ (by simp)⟩ ⟨zw_blind, fun U hU hW => ⟨rfl, by rw [hU], by rw [hU]; exact hP, va_K.moved hW.alike k8, zw_N_at hW hU hS k9 k10⟩⟩ rfl (by simpa using hn) hL.2.1 ?_ (lv_room (zw_cat hcat)) hd ⟨hE.1.2.2.1, hE.1.2.2.2⟩) hS (fun q _ => zw_A_mono hS.1 q) (fun q => zw_A_mono hS.1 q) (fun v M1 H1 locs1 hQ hP1 hS1 => ?_)
  · show st0.map (zw_v G.2.2) = _
    rw [hst, List.map_append, List.map_reverse]
  · have := k v M1 hQ p e s m args below meth c H1 locs1 ls G R cells slots Z hK hE hP1 hS1 hL
    rw [List.map_append] at this
    cases v <;> exact this
/-- a nest mate's private static method -/
theorem zx_callN {l : zw_Lh} {d : Nat} {y : zw_I} {Q : Option Value → zw_M → Prop} {pc : Nat} {L st st0 : List Value} {M : zw_M} {y1 : zw_I} {idx : Nat} {host : String} {vs : List Value} {Q1 : Option Value → zw_M → Prop} {n : Nat}
    (hd : decode y.2.1 pc = .ok (.invokestatic idx, 3)) (hl : (y.1.cls, idx, y1.1, host) ∈ zs_nest) (hy : zw_yS y1 n) (hC : zw_C l d y1 vs M Q1) (hst : st0 = vs.reverse ++ st) (hn : vs.length = n) (hcat : (st.map fun v => v.category).sum ≤ 8)
    (k : ∀ v M', Q1 v M' → zw_X l (d + 1) y Q (pc + 3) L (v.toList ++ st) M') : zw_X l (d + 1) y Q pc L st0 M := by
  intro p e s m args below meth c H locs ls G R cells slots Z hK hE hP hS hL
  obtain ⟨k1, k2, k3, k4, k5, k6, k7, k8, k9, k10⟩ := id hK
  have hw1 : ∀ w ∈ zs_G, w ∈ zs_G := fun w h => h
  have hcode : Cond.code y1.1 y1.2.1 y1.2.2.1 y1.2.2.2 ∈ zs_G := hy.1 _ (by simp)
  have hgood : GoodIn zs_G (zw_ws y1) := fun w hw => by
    rcases List.mem_cons.mp hw with rfl | h
    · exact ⟨hw1 _ hcode, good_of_word (List.mem_filter.mp hcode).2⟩
    · exact ⟨hw1 _ h, good_of_word (List.mem_filter.mp h).2⟩
  have ok : ∀ w ∈ [Cond.static y1.1, .initialized y1.1.cls, .code y1.1 y1.2.1 y1.2.2.1 y1.2.2.2], w.before args s = true := fun w h => k6 w (hw1 w (hy.1 w h))
  have hcb := va_cnB (args := args) (R := R) (rm := zw_rm d) (own := y.1.cls) (index := idx) (host := host) (mc := 0) (ms := 0) n k6 hgood rfl rfl rfl (k10.1 _ hl) (ok _ (by simp)) hy.2.1 ⟨by show d + 1 ≤ R.frames; exact hE.1.1, by show 8 + (y1.2.2.1 + 11) + d * 40 ≤ R.locals; have := hy.2.2; have := hE.1.2.1; omega⟩
  refine zw_go (Q1 := Q1) (rest := st.map (zw_v G.2.2)) (va_runSN (As := vs.map (zw_v G.2.2)) ⟨k1, k2, k4, k5, k6⟩ (hC G H.size k9) ⟨hcb, ok _ (by simp), trivial⟩ ⟨zw_blind, fun U hU hW => ⟨rfl, by rw [hU], by rw [hU]; exact hP, va_K.moved hW.alike k8, zw_N_at hW hU hS k9 k10⟩⟩ rfl (by simpa using hn) hL.2.1 ?_ (lv_room (zw_cat hcat)) hd ⟨hE.1.2.2.1, hE.1.2.2.2⟩) hS (fun q _ => zw_A_mono hS.1 q) (fun q => zw_A_mono hS.1 q) (fun v M1 H1 locs1 hQ hP1 hS1 => ?_)
  · show st0.map (zw_v G.2.2) = _
    rw [hst, List.map_append, List.map_reverse]
  · have := k v M1 hQ p e s m args below meth c H1 locs1 ls G R cells slots Z hK hE hP1 hS1 hL
    rw [List.map_append] at this
    cases v <;> exact this
theorem zx_imp {l : zw_Lh} {d : Nat} {y : zw_I} {Q Q1 : Option Value → zw_M → Prop} {pc : Nat} {L st : List Value} {M : zw_M} (h : ∀ v M', Q1 v M' → Q v M') (k : zw_X l d y Q1 pc L st M) : zw_X l d y Q pc L st M := by
  intro p e s m args below meth c H locs ls G R cells slots Z hK hE hP hS hL
  refine k p e s m args below meth c H locs ls G R cells slots Z hK ⟨hE.1, fun t ht => hE.2 t ?_⟩ hP hS hL
  obtain ⟨o, b1, b2, ⟨⟨v, M1, c1, c2, c3⟩, c4⟩, b4⟩ := ht
  exact ⟨o, b1, b2, ⟨⟨v, M1, c1, h v M1 c2, c3⟩, c4⟩, b4⟩
/-- the answers' shapes -/
def zw_i (x : Int32) (M : zw_M) : Option Value → zw_M → Prop := fun v M' => v = some (.int x) ∧ M' = M
def zw_l (x : Int64) (M : zw_M) : Option Value → zw_M → Prop := fun v M' => v = some (.long x) ∧ M' = M
def zw_u (M : zw_M) : Option Value → zw_M → Prop := fun v M' => v = none ∧ M' = M
theorem zk_i {x : Int32} {M : zw_M} {P : Option Value → zw_M → Prop} (h : P (some (.int x)) M) : ∀ v M', zw_i x M v M' → P v M' := fun v M' q => by obtain ⟨rfl, rfl⟩ := q; exact h
theorem zk_l {x : Int64} {M : zw_M} {P : Option Value → zw_M → Prop} (h : P (some (.long x)) M) : ∀ v M', zw_l x M v M' → P v M' := fun v M' q => by obtain ⟨rfl, rfl⟩ := q; exact h
theorem zk_u {M : zw_M} {P : Option Value → zw_M → Prop} (h : P none M) : ∀ v M', zw_u M v M' → P v M' := fun v M' q => by obtain ⟨rfl, rfl⟩ := q; exact h
