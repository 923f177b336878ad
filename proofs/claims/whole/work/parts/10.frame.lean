/-! ===== the exact abstract heap: cells 0 .. 10 are older ones (ten static tables and the script), all others come from N0 on, in the order of their making ===== -/
abbrev gz_AC : Type := (FieldType × Nat × (Nat → Int32)) ⊕ (Nat × List Value)
abbrev gz_AH : Type := List gz_AC
abbrev gz_cl : List vw_C := [(RX0, TX0, 7), (RX1, TX1, 4), (RX2, TX2, 14), (RX3, TX3, 8), (RX4, TX4, 2), (RX5, TX5, 4), (RX6, TX6, 3), (RX7, TX7, 7), (RX8, TX8, 8), (RX9, TX9, 46)]
def gz_st : List (String × String) := [("ScanBench$Board", "AND_OF"), ("ScanBench$Board", "OR_OF"), ("ScanBench$Board", "XOR_OF"), ("ScanBench$Board", "INVERTED"), ("ScanBench$Controller", "CLOCKED_BY_ORDER"), ("ScanBench$Controller", "NEXT_BY_0"), ("ScanBench$Controller", "NEXT_BY_1"), ("ScanBench$Driver", "OPEN_LEADS"), ("ScanBench$Driver", "OPEN_INS"), ("ScanBench$Driver", "LOADED_LEADS")]
def gz_TB : List Cond := lw_tbl.filter goodWord
/-- the address of an abstract cell -/
def gz_ad (N0 : Nat) (ta : Nat → Nat) (k : Nat) : Nat := if k < 11 then ta k else N0 + (k - 11)
def gz_cv (N0 : Nat) (ta : Nat → Nat) : Value → Value
  | .ref k => .ref (gz_ad N0 ta k)
  | v => v
theorem gz_cv_cat (N0 : Nat) (ta : Nat → Nat) (v : Value) : (gz_cv N0 ta v).category = v.category := by cases v <;> rfl
def gz_cell (D : va_G) (N0 : Nat) (ta : Nat → Nat) (U : State) (H : Heap) (a : Nat) : gz_AC → Prop
  | .inl (ty, n, f) => ∃ cell : Cell, H[a]? = some cell ∧ U.isArrayOf cell ty ∧ cell.vm ≠ .unknown ∧ n ≤ cell.slots.size ∧ cell.slots.size.toInt32 = Int32.ofNat n ∧ ∀ j : Nat, j < n → cell.slots[j]? = some (.int (f j))
  | .inr (ci, fs) => if ci = 100 then ∃ cell : Cell, H[a]? = some cell ∧ U.isArrayOf cell (.array .int) ∧ cell.vm ≠ .unknown ∧ cell.slots.size = fs.length ∧ ∀ (j : Nat) (v : Value), fs[j]? = some v → cell.slots[j]? = some (gz_cv N0 ta v)
    else va_at D gz_cl (a, .inr (ci, fs.map (gz_cv N0 ta))) H
def gz_W (D : va_G) (N0 : Nat) (ta : Nat → Nat) (h : gz_AH) (U : State) (H : Heap) : Prop :=
  H.size + 11 = N0 + h.length ∧ 11 ≤ h.length ∧ (∀ k : Nat, k < 11 → ta k < N0) ∧ ∀ (k : Nat) (c : gz_AC), h[k]? = some c → gz_cell D N0 ta U H (gz_ad N0 ta k) c
def gz_A (N0 : Nat) : Nat → Prop := fun q => N0 ≤ q
/-- what the tables and the statics say -/
def gz_X (D : va_G) (N0 : Nat) (ta : Nat → Nat) (U : State) : Prop :=
  va_K D gz_cl [] U ∧ (∀ (j : Nat) (q : String × String), gz_st[j]? = some q → va_Z q.1 q.2 "[I" (.ref (ta j)) (gz_A N0) U U.heap) ∧
  (va_Nw (.methodLinkNest "ScanBench" 9 yX2_init "ScanBench") U ∧ va_Nw (.methodLinkNest "ScanBench" 39 yX6_init "ScanBench") U ∧ va_Nw (.methodLinkNest "ScanBench$Trial" 9 yX5_init "ScanBench") U ∧ va_Nw (.methodLinkNest "ScanBench" 64 yX5_init "ScanBench") U) ∧ va_Nw (.arrayOver (.array .int)) U
def gz_C (D : va_G) (N0 : Nat) (ta : Nat → Nat) (y : MethodName) (cc : ByteArray) (nL : Nat) (rt : Option FieldType) (p : Program) (s : State) (m : MethodId) (args : Array Value) (meth : Method) (c : Code) : Prop :=
  p.tables.exec = Jvm.exec ∧ c.code = cc ∧ meth.sig.returnType = rt ∧ meth.locks = false ∧ c.maxLocals = nL ∧ (∀ w ∈ gz_TB, w.before args s = true) ∧ s.vm.findClass y.cls = some m.cls ∧ meth.name = y.name ∧ gz_X D N0 ta s
def gz_L (N0 : Nat) (ta : Nat → Nat) (ls : List (Option Value)) (lsC : Array Slot) (nL : Nat) : Prop :=
  lsC.size = nL ∧ lv_wf lsC ∧ ls.length = nL ∧ ∀ (i : Nat) (v : Value), ls[i]? = some (some v) → lsC[i]? = some (.val (gz_cv N0 ta v))
def gz_Q (D : va_G) (N0 : Nat) (ta : Nat → Nat) (Q : Option Value → gz_AH → Prop) : Array Value → State → Outcome → State → Prop := fun _ st oc t =>
  (∃ (r : Option Value) (h' : gz_AH), oc = .returned (r.map (gz_cv N0 ta)) ∧ Q r h' ∧ gz_W D N0 ta h' t t.heap) ∧ va_F (gz_A N0) st t
abbrev gz_rm (d mc ms : Nat) : Room := { frames := d, cells := mc, slots := ms, locals := 45 * d }
/-- the machine, in method y at pc, with abstract locals, stack and heap, comes to its return, and Q holds of the answer and the heap -/
def gz_R (d : Nat) (y : MethodName) (cc : ByteArray) (nL : Nat) (rt : Option FieldType) (mc ms : Nat) (pc : Nat) (ls : List (Option Value)) (st : List Value) (h : gz_AH) (Q : Option Value → gz_AH → Prop) : Prop :=
  ∀ (l : Launch) (D : va_G) (N0 : Nat) (ta : Nat → Nat) (p : Program) (e : Env) (s : State) (m : MethodId) (args : Array Value) (below : List Frame) (meth : Method) (c : Code) (H : Heap) (locs : List Loc) (lsC : Array Slot) (cells slots MC MS : Nat),
    gz_C D N0 ta y cc nL rt p s m args meth c → va_S (gz_A N0) s.heap H locs → gz_W D N0 ta h s H → gz_L N0 ta ls lsC nL → cells + mc ≤ MC → slots + ms ≤ MS →
    W p l e (gz_rm d MC MS) s m args below meth c H locs cells slots (MQ below (gz_Q D N0 ta Q) args s MC MS (gz_A N0)) (F0 m pc lsC (st.map (gz_cv N0 ta)))
def gz_pc (D : va_G) (N0 : Nat) (ta : Nat → Nat) (av : List Value) (h : gz_AH) : Array Value → State → Prop := fun v U => v = (av.map (gz_cv N0 ta)).toArray ∧ gz_X D N0 ta U ∧ gz_W D N0 ta h U U.heap
/-- the contract of a method at given arguments and heap -/
def gz_M (d : Nat) (y : MethodName) (cc : ByteArray) (nL : Nat) (rt : Option FieldType) (mc ms : Nat) (av : List Value) (h : gz_AH) (Q : Option Value → gz_AH → Prop) : Prop :=
  ∀ (l : Launch) (D : va_G) (N0 : Nat) (ta : Nat → Nat), Met l y (Cond.code y cc nL rt :: gz_TB) (gz_rm d mc ms) (gz_pc D N0 ta av h) (gz_Q D N0 ta Q) mc ms (gz_A N0)
def gz_ent : List Value → List (Option Value)
  | [] => []
  | v :: vs => match v with
    | .long x => some (.long x) :: none :: gz_ent vs
    | .double x => some (.double x) :: none :: gz_ent vs
    | v => some v :: gz_ent vs
def gz_pad (nL : Nat) (ls : List (Option Value)) : List (Option Value) := ls ++ List.replicate (nL - ls.length) none
/-! moving -/
theorem gz_cell.moved {D : va_G} {N0 : Nat} {ta : Nat → Nat} {u U : State} {H : Heap} {a : Nat} {c : gz_AC} (hvm : u.vm.Alike U.vm) (h : gz_cell D N0 ta u H a c) : gz_cell D N0 ta U H a c := by
  match c, h with
  | .inl (ty, n, f), h =>
    obtain ⟨cell, h1, h2, h3⟩ := h
    exact ⟨cell, h1, State.isArrayOf_alike hvm h2, h3⟩
  | .inr (ci, fs), h =>
    unfold gz_cell at h ⊢
    by_cases hc : ci = 100
    · simp only [hc, if_true] at h ⊢
      obtain ⟨cell, h1, h2, h3⟩ := h
      exact ⟨cell, h1, State.isArrayOf_alike hvm h2, h3⟩
    · simp only [hc, if_false] at h ⊢
      exact h
theorem gz_cell.kept {D : va_G} {N0 : Nat} {ta : Nat → Nat} {U : State} {H H1 : Heap} {a : Nat} {c : gz_AC} (h : gz_cell D N0 ta U H a c) (hq : H1[a]? = H[a]?) : gz_cell D N0 ta U H1 a c := by
  match c, h with
  | .inl (ty, n, f), h =>
    obtain ⟨cell, h1, h2⟩ := h
    exact ⟨cell, hq.trans h1, h2⟩
  | .inr (ci, fs), h =>
    unfold gz_cell at h ⊢
    by_cases hc : ci = 100
    · simp only [hc, if_true] at h ⊢
      obtain ⟨cell, h1, h2⟩ := h
      exact ⟨cell, hq.trans h1, h2⟩
    · simp only [hc, if_false] at h ⊢
      exact va_at.kept h hq
theorem gz_W.moved {D : va_G} {N0 : Nat} {ta : Nat → Nat} {u U : State} {H : Heap} {h : gz_AH} (hvm : u.vm.Alike U.vm) (w : gz_W D N0 ta h u H) : gz_W D N0 ta h U H :=
  ⟨w.1, w.2.1, w.2.2.1, fun k c hk => (w.2.2.2 k c hk).moved hvm⟩
theorem gz_ad_inj {N0 : Nat} {ta : Nat → Nat} (ht : ∀ k : Nat, k < 11 → ta k < N0) {j k : Nat} (hk : 11 ≤ k) (hne : j ≠ k) : gz_ad N0 ta j ≠ gz_ad N0 ta k := by
  unfold gz_ad
  rw [if_neg (Nat.not_lt.mpr hk)]
  by_cases hj : j < 11
  · rw [if_pos hj]
    have := ht j hj
    omega
  · rw [if_neg hj]
    omega
/-- a cell written -/
theorem gz_W.set {D : va_G} {N0 : Nat} {ta : Nat → Nat} {U : State} {H H1 : Heap} {h : gz_AH} {k : Nat} {c : gz_AC} (w : gz_W D N0 ta h U H) (hk : 11 ≤ k) (hz : H1.size = H.size) (hc : gz_cell D N0 ta U H1 (gz_ad N0 ta k) c) (ho : ∀ q : Nat, q ≠ gz_ad N0 ta k → H1[q]? = H[q]?) : gz_W D N0 ta (h.set k c) U H1 := by
  refine ⟨by rw [hz, List.length_set]; exact w.1, by rw [List.length_set]; exact w.2.1, w.2.2.1, fun j x hj => ?_⟩
  by_cases e : j = k
  · subst e
    have hl : j < h.length := by
      have := (List.getElem?_eq_some_iff.mp hj).1
      rwa [List.length_set] at this
    rw [List.getElem?_set_self hl] at hj
    cases hj
    exact hc
  · rw [List.getElem?_set_ne (Ne.symm e)] at hj
    exact (w.2.2.2 j x hj).kept (ho _ (gz_ad_inj w.2.2.1 hk e))
/-- a cell made -/
theorem gz_W.push {D : va_G} {N0 : Nat} {ta : Nat → Nat} {U : State} {H H1 : Heap} {h : gz_AH} {c : gz_AC} (w : gz_W D N0 ta h U H) (hz : H1.size = H.size + 1) (hc : gz_cell D N0 ta U H1 H.size c) (ho : ∀ q : Nat, q < H.size → H1[q]? = H[q]?) : gz_W D N0 ta (h ++ [c]) U H1 ∧ gz_ad N0 ta h.length = H.size := by
  have hl := w.2.1
  have h1 := w.1
  have ha : gz_ad N0 ta h.length = H.size := by
    unfold gz_ad
    rw [if_neg (Nat.not_lt.mpr hl)]
    omega
  have hN : N0 ≤ H.size := by omega
  refine ⟨⟨by rw [hz, List.length_append, List.length_singleton]; omega, by rw [List.length_append]; omega, w.2.2.1, fun j x hj => ?_⟩, ha⟩
  by_cases e : j < h.length
  · rw [List.getElem?_append_left e] at hj
    refine (w.2.2.2 j x hj).kept (ho _ ?_)
    unfold gz_ad
    by_cases e1 : j < 11
    · rw [if_pos e1]
      have := w.2.2.1 j e1
      omega
    · rw [if_neg e1]
      omega
  · rw [List.getElem?_append_right (by omega)] at hj
    have h0 : j - h.length < 1 := (List.getElem?_eq_some_iff.mp hj).1
    have e2 : j = h.length := by omega
    subst e2
    rw [Nat.sub_self] at hj
    cases hj
    rw [ha]
    exact hc
theorem gz_idx (vm : Vm) (comp : ClassId) : (vm.bare.classes.findIdx? fun (x : Class) => match x.kind with | .array component _ => component == comp | _ => false) = (vm.classes.findIdx? fun (x : Class) => match x.kind with | .array component _ => component == comp | _ => false) := va_idx_bare vm comp
theorem gz_over {u U : State} (hvm : u.vm.Alike U.vm) (h : va_Nw (.arrayOver (.array .int)) u) : va_Nw (.arrayOver (.array .int)) U := by
  obtain ⟨comp, c, k, h1, h2, h3, h4, h5⟩ := arrayOverA_spec h
  obtain ⟨k', hk', he⟩ := hvm.2.2 _ _ h3
  have hi : (U.vm.classes.findIdx? fun (x : Class) => match x.kind with | .array component _ => component == comp | _ => false) = some c := by
    rw [← gz_idx]
    first | rw [hvm.bare_eq] | rw [← hvm.bare_eq]
    rw [gz_idx]
    exact h2
  have hkind : k'.kind = .array comp (.array .int) := by rw [he]; exact h4
  have f1 : U.vm.findClass (FieldType.array .int).toString = some comp := by rw [hvm.findClass]; exact h1
  have f2 : U.vm.findClass ("[" ++ (FieldType.array .int).toString) = some c := by rw [hvm.findClass]; exact h5
  unfold va_Nw Cond.before Cond.holds
  simp only [Cond.value]
  rw [f1, Option.bind_some]
  refine (congrArg (fun o : Option Nat => (o.bind (fun c => (U.vm.classes[c]?).map fun (k : Class) => match k.kind with | .array _ ty => decide (ty = FieldType.array .int) && decide (U.vm.findClass ("[" ++ (FieldType.array .int).toString) = some c) | _ => false) == some true)) hi).trans ?_
  simp [hk', hkind, f2]
theorem gz_X.warm {D : va_G} {N0 : Nat} {ta : Nat → Nat} {s U : State} {locs : List Loc} (hW : s.WarmedH U.vm) (hS : va_S (gz_A N0) s.heap U.heap locs) (h : gz_X D N0 ta s) : gz_X D N0 ta U := by
  obtain ⟨h1, h2, ⟨h3, h4, h5, h6⟩, h7⟩ := h
  refine ⟨va_K.moved hW.alike h1, fun j q hj => ?_, ⟨va_Nw.warmM hW h3, va_Nw.warmM hW h4, va_Nw.warmM hW h5, va_Nw.warmM hW h6⟩, ?_⟩
  · exact ((h2 j q hj).kept hS.2.1).moved hW.alike
  · exact gz_over hW.alike h7
theorem gz_L.at {N0 : Nat} {ta : Nat → Nat} {ls : List (Option Value)} {lsC : Array Slot} {nL i : Nat} {v : Value} (h : gz_L N0 ta ls lsC nL) (hi : ls[i]? = some (some v)) : lsC[i]? = some (.val (gz_cv N0 ta v)) := h.2.2.2 i v hi
/-- no wide value stands just ahead of place i -/
def gz_ok (ls : List (Option Value)) : Nat → Bool
  | 0 => true
  | j + 1 => match ls[j]? with
    | some (some (.long _)) => false
    | some (some (.double _)) => false
    | _ => true
theorem gz_L.store {N0 : Nat} {ta : Nat → Nat} {ls : List (Option Value)} {lsC : Array Slot} {nL i : Nat} {v : Value} (h : gz_L N0 ta ls lsC nL) (hi : i < nL) (hc : v.category = 1) (ho : gz_ok ls i = true) : ∃ lsC', storeLocals lsC i (gz_cv N0 ta v) = some lsC' ∧ gz_L N0 ta (ls.set i (some v)) lsC' nL := by
  obtain ⟨hs, hw, hn, hl⟩ := h
  have hc' : (gz_cv N0 ta v).category = 1 := by rw [gz_cv_cat]; exact hc
  obtain ⟨l1, e1, z1, w1, a1⟩ := lv_store1 (l := []) (i := i) (v := gz_cv N0 ta v) (nL := nL) ⟨hs, hw, fun q hq => by cases hq⟩ hi hc'
  refine ⟨l1, e1, z1, w1, by rw [List.length_set]; exact hn, fun j x hj => ?_⟩
  by_cases e : j = i
  · subst e
    rw [List.getElem?_set_self (by rw [hn]; exact hi)] at hj
    cases hj
    exact a1 _ List.mem_cons_self
  · rw [List.getElem?_set_ne (Ne.symm e)] at hj
    obtain ⟨l2, e2, -, -, a2⟩ := lv_store1 (l := [(j, gz_cv N0 ta x)]) (i := i) (v := gz_cv N0 ta v) (nL := nL) ⟨hs, hw, fun q hq => by rw [List.mem_singleton.mp hq]; exact hl j x hj⟩ hi hc'
    cases e1.symm.trans e2
    refine a2 (j, gz_cv N0 ta x) (List.mem_cons_of_mem _ (List.mem_filter.mpr ⟨List.mem_singleton.mpr rfl, ?_⟩))
    have e3 : (j == i) = false := by simp [e]
    by_cases e4 : j + 1 = i
    · subst e4
      simp only [gz_ok] at ho
      rw [hj] at ho
      have : x.category = 1 := by
        cases x <;> first | rfl | cases ho
      simp [gz_cv_cat, this]
    · simp [e, e4]
theorem gz_entry_at (N0 : Nat) (ta : Nat → Nat) : ∀ (av : List Value) (i0 i : Nat) (v : Value), (gz_ent av)[i]? = some (some v) → (i0 + i, gz_cv N0 ta v) ∈ lv_args i0 (av.map (gz_cv N0 ta))
  | [], i0, i, v, h => by simp [gz_ent] at h
  | x :: xs, i0, i, v, h => by
    have one : ∀ x : Value, x.category = 1 → (some x :: gz_ent xs)[i]? = some (some v) → (i0 + i, gz_cv N0 ta v) ∈ lv_args i0 ((x :: xs).map (gz_cv N0 ta)) := by
      intro x hx h
      rw [List.map_cons]
      unfold lv_args
      rw [gz_cv_cat, hx, if_neg (by decide)]
      match i, h with
      | 0, h => cases h; exact List.mem_cons_self
      | j + 1, h =>
        have := gz_entry_at N0 ta xs (i0 + 1) j v h
        rw [show i0 + (j + 1) = i0 + 1 + j by omega]
        exact List.mem_cons_of_mem _ this
    have two : ∀ x : Value, x.category = 2 → (some x :: none :: gz_ent xs)[i]? = some (some v) → (i0 + i, gz_cv N0 ta v) ∈ lv_args i0 ((x :: xs).map (gz_cv N0 ta)) := by
      intro x hx h
      rw [List.map_cons]
      unfold lv_args
      rw [gz_cv_cat, hx, if_pos rfl]
      match i, h with
      | 0, h => cases h; exact List.mem_cons_self
      | 1, h => cases h
      | j + 2, h =>
        have := gz_entry_at N0 ta xs (i0 + 2) j v h
        rw [show i0 + (j + 2) = i0 + 2 + j by omega]
        exact List.mem_cons_of_mem _ this
    cases x with
    | long z => exact two _ rfl h
    | double z => exact two _ rfl h
    | int z => exact one _ rfl h
    | float z => exact one _ rfl h
    | null => exact one _ rfl h
    | ref z => exact one _ rfl h
    | retAddr z => exact one _ rfl h
theorem gz_ent_len (N0 : Nat) (ta : Nat → Nat) : ∀ av : List Value, (lg_sl (av.map (gz_cv N0 ta))).length = (gz_ent av).length
  | [] => rfl
  | x :: xs => by
    have ih := gz_ent_len N0 ta xs
    have e : lg_sl ((x :: xs).map (gz_cv N0 ta)) = (if x.category = 2 then [.val (gz_cv N0 ta x), .second] else [.val (gz_cv N0 ta x)]) ++ lg_sl (xs.map (gz_cv N0 ta)) := by
      simp [lg_sl, gz_cv_cat]
    rw [e, List.length_append, ih]
    cases x <;> simp [Value.category, gz_ent] <;> omega
theorem gz_M.of {d : Nat} {y : MethodName} {cc : ByteArray} {nL : Nat} {rt : Option FieldType} {mc ms : Nat} {av : List Value} {h : gz_AH} {Q : Option Value → gz_AH → Prop} (hy : plainName y.cls = true) (hn : (gz_ent av).length ≤ nL)
    (k : gz_R d y cc nL rt mc ms 0 (gz_pad nL (gz_ent av)) [] h Q) : gz_M d y cc nL rt mc ms av h Q := by
  intro l D N0 ta
  refine Met.ofW (cc := cc) (maxL := nL) (ret := rt) hy rfl ?_
  intro p e s m args below meth c s₁ B hml hv
  obtain ⟨rfl, hX, hWd⟩ := hv
  have hts := atoms_spec (ws := Cond.code y cc nL rt :: gz_TB) B.pre
  have hl := lv_entry (av.map (gz_cv N0 ta)) (n := nL) (by rw [gz_ent_len]; exact hn)
  rw [lg_entry_eq]
  generalize (lg_sl (av.map (gz_cv N0 ta)) ++ List.replicate (nL - (lg_sl (av.map (gz_cv N0 ta))).length) Slot.unset).toArray = lsC at hl ⊢
  refine k l D N0 ta p e s m _ below meth c s.heap [] lsC 0 0 mc ms ⟨B.exec, B.bytes, B.returns, B.notSynchronized, hml, fun w hw => hts w (List.mem_cons_of_mem _ hw), findClass_of_methodNamed B.named, (name_of_methodNamed B.named B.method).1, hX⟩ va_S.rf hWd ?_ (by omega) (by omega)
  refine ⟨hl.1, hl.2.1, ?_, fun i v hi => ?_⟩
  · unfold gz_pad
    rw [List.length_append, List.length_replicate]
    omega
  · unfold gz_pad at hi
    by_cases hi2 : i < (gz_ent av).length
    · rw [List.getElem?_append_left hi2] at hi
      have := gz_entry_at N0 ta av 0 i v hi
      rw [Nat.zero_add] at this
      exact hl.2.2 _ this
    · rw [List.getElem?_append_right (by omega)] at hi
      have := List.mem_of_getElem? hi
      have := List.eq_of_mem_replicate this
      cases this
