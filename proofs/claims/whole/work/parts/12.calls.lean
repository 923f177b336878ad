/-! ===== calls, and what is made ===== -/
theorem gz_good : GoodIn gz_TB gz_TB := fun w hw => ⟨hw, good_of_word (List.mem_filter.mp hw).2⟩
theorem gz_goodC {w : Cond} (hw : w ∈ gz_TB) : GoodIn gz_TB (w :: gz_TB) := fun v hv => by
  rcases List.mem_cons.mp hv with rfl | hv
  · exact gz_good _ hw
  · exact gz_good _ hv
theorem gz_mem {w : Cond} (i : Nat) (h : lw_tbl[i]? = some w) (hg : goodWord w = true) : w ∈ gz_TB := List.mem_filter.mpr ⟨List.mem_of_getElem? h, hg⟩
theorem gz_blind (D : va_G) (N0 : Nat) (ta : Nat → Nat) (av : List Value) (h : gz_AH) : FrameBlind (gz_pc D N0 ta av h) := by
  intro a U g mk q
  obtain ⟨e, hX, hW⟩ := q
  have hA : U.vm.Alike (U.calling g mk a).vm := Vm.Alike.refl U.vm
  refine ⟨e, ?_, gz_W.moved hA hW⟩
  obtain ⟨h1, h2, ⟨h3, h4, h5, h6⟩, h7⟩ := hX
  exact ⟨va_K.moved hA h1, fun j q hj => (h2 j q hj).moved hA, ⟨va_Nw.same rfl rfl h3, va_Nw.same rfl rfl h4, va_Nw.same rfl rfl h5, va_Nw.same rfl rfl h6⟩, gz_over hA h7⟩
/-- the words of a call -/
def zc_V (own : String) (idx : Nat) (y' : MethodName) (cc' : ByteArray) (nL' : Nat) (rt' : Option FieldType) (n : Nat) : Prop :=
  Cond.methodLink own idx y' ∈ gz_TB ∧ Cond.instanceMethod y' ∈ gz_TB ∧ Cond.selects y'.cls y' y' ∈ gz_TB ∧ Cond.initialized y'.cls ∈ gz_TB ∧ Cond.code y' cc' nL' rt' ∈ gz_TB ∧ nL' ≤ 26 ∧ (y'.cls ≠ "java/lang/invoke/MethodHandle" ∧ y'.cls ≠ "java/lang/invoke/VarHandle" ∧ (parseMethodDescriptor y'.desc).map (fun d => d.parameters.length) = some n)
def zc_S (own : String) (idx : Nat) (y' : MethodName) (cc' : ByteArray) (nL' : Nat) (rt' : Option FieldType) (n : Nat) : Prop :=
  Cond.methodLink own idx y' ∈ gz_TB ∧ Cond.static y' ∈ gz_TB ∧ Cond.initialized y'.cls ∈ gz_TB ∧ Cond.code y' cc' nL' rt' ∈ gz_TB ∧ nL' ≤ 26 ∧ (y'.cls ≠ "java/lang/invoke/MethodHandle" ∧ y'.cls ≠ "java/lang/invoke/VarHandle" ∧ (parseMethodDescriptor y'.desc).map (fun d => d.parameters.length) = some n)
def zc_I (own : String) (idx : Nat) (y' : MethodName) (cc' : ByteArray) (nL' : Nat) (n : Nat) : Prop :=
  Cond.methodLink own idx y' ∈ gz_TB ∧ Cond.instanceMethod y' ∈ gz_TB ∧ Cond.initialized y'.cls ∈ gz_TB ∧ Cond.code y' cc' nL' none ∈ gz_TB ∧ nL' ≤ 26 ∧ y'.name = "<init>" ∧ (y'.cls ≠ "java/lang/invoke/MethodHandle" ∧ y'.cls ≠ "java/lang/invoke/VarHandle" ∧ (parseMethodDescriptor y'.desc).map (fun d => d.parameters.length) = some n)
/-- a nest mate's constructor: the link's word is one of the four of gz_X -/
def zc_N (own : String) (idx : Nat) (y' : MethodName) (cc' : ByteArray) (nL' : Nat) (n : Nat) : Prop :=
  (∀ (D : va_G) (N0 : Nat) (ta : Nat → Nat) (U : State), gz_X D N0 ta U → va_Nw (.methodLinkNest own idx y' "ScanBench") U) ∧ Cond.instanceMethod y' ∈ gz_TB ∧ Cond.initialized y'.cls ∈ gz_TB ∧ Cond.code y' cc' nL' none ∈ gz_TB ∧ nL' ≤ 26 ∧ y'.name = "<init>" ∧ (y'.cls ≠ "java/lang/invoke/MethodHandle" ∧ y'.cls ≠ "java/lang/invoke/VarHandle" ∧ (parseMethodDescriptor y'.desc).map (fun d => d.parameters.length) = some n)
section ZK
variable {p : Program} {l : Launch} {e : Env} {R : Room} {s : State} {m : MethodId} {args : Array Value} {below : List Frame} {meth : Method} {c : Code} {H : Heap} {locs : List Loc} {cells slots : Nat} {QQ : State → Prop}
theorem gz_call {D : va_G} {N0 : Nat} {ta : Nat → Nat} {Q' : Option Value → gz_AH → Prop} {pc mc ms : Nat} {ls : Array Slot} {st0 rest : List Value} {a : Array Value} (hr : va_Run p l e R s m args below meth c H locs cells slots mc ms (F0 m pc ls st0) rest (gz_Q D N0 ta Q' a) (gz_A N0)) (hS : va_S (gz_A N0) s.heap H locs)
    (kk : ∀ (r : Option Value) (h' : gz_AH) (H1 : Heap) (locs1 : List Loc), Q' r h' → gz_W D N0 ta h' s H1 → va_S (gz_A N0) s.heap H1 locs1 → W p l e R s m args below meth c H1 locs1 (cells + mc) (slots + ms) QQ (F0 m (pc + 3) ls ((r.map (gz_cv N0 ta)).toList ++ rest))) : W p l e R s m args below meth c H locs cells slots QQ (F0 m pc ls st0) := by
  intro T hT X
  obtain ⟨v, st₀, t, T', L, h0, X', hL, e1, e2, ⟨⟨r, u, hv, hp, hb⟩, hz, hk⟩, st⟩ := hr T hT X
  cases hv
  rw [h0] at hz hk
  have hal : s.vm.Alike t.vm := by rw [← e2]; exact X'.warmed.alike
  obtain ⟨t2, a1, b1⟩ := kk r u T'.heap (locs ++ L) hp (by rw [e1]; exact hb.moved hal.symm)
    ⟨Nat.le_trans hS.1 (by rw [e1]; exact hz), fun q h1 h2 => by rw [e1, hk q (Nat.lt_of_lt_of_le h1 hS.1) h2]; exact hS.2.1 q h1 h2, fun q hq => by
      rcases List.mem_append.mp hq with h | h
      · exact hS.2.2 q h
      · exact hL q h⟩ T' rfl X'
  exact ⟨t2, st t2 a1, b1⟩
end ZK
section ZL
variable {d d' : Nat} {y y' : MethodName} {cc cc' : ByteArray} {nL nL' : Nat} {rt rt' : Option FieldType} {mc ms mc' ms' pc : Nat} {ls : List (Option Value)} {st rest : List Value} {h : gz_AH} {Q Q' : Option Value → gz_AH → Prop}
theorem gz_tl (N0 : Nat) (ta : Nat → Nat) (r : Option Value) (rest : List Value) : (r.map (gz_cv N0 ta)).toList ++ rest.map (gz_cv N0 ta) = (r.toList ++ rest).map (gz_cv N0 ta) := by cases r <;> rfl
theorem gz_cats (N0 : Nat) (ta : Nat → Nat) (rest : List Value) : ((rest.map (gz_cv N0 ta)).map fun v => v.category) = rest.map fun v => v.category := by
  rw [List.map_map]
  apply List.map_congr_left
  intro v _
  exact gz_cv_cat N0 ta v
theorem zr_callV {idx k ci : Nat} {As fs : List Value} {T : u_T} {N : Nat} (hM : gz_M d' y' cc' nL' rt' mc' ms' (.ref k :: As) h Q') (hw : zc_V y.cls idx y' cc' nL' rt' As.length) (hd : decode cc pc = .ok (.invokevirtual idx, 3)) (hdd : d' + 1 ≤ d) (hmc : mc' ≤ mc) (hms : ms' ≤ ms) (hk : h[k]? = some (.inr (ci, fs))) (hci : ¬ ci = 100) (hcl : gz_cl[ci]? = some (y'.cls, T, N)) (hst : st = As.reverse ++ .ref k :: rest) (hcat : (rest.map fun v => v.category).sum ≤ 8)
    (kk : ∀ (r : Option Value) (h' : gz_AH), Q' r h' → gz_R d y cc nL rt (mc - mc') (ms - ms') (pc + 3) ls (r.toList ++ rest) h' Q) : gz_R d y cc nL rt mc ms pc ls st h Q := by
  intro l D N0 ta p e s m args below meth c H locs lsC cells slots MC MS C S Wd L hc hs
  obtain ⟨w1, w2, w3, w4, w5, w6, w7⟩ := hw
  have hts := C.2.2.2.2.2.1
  have hcell := Wd.2.2.2 k _ hk
  unfold gz_cell at hcell
  simp only [hci, if_false] at hcell
  obtain ⟨r, h1, cell, q1, q2, q3, q4⟩ := hcell
  have hr : r = (y'.cls, T, N) := Option.some.inj (h1.symm.trans hcl)
  subst hr
  have hfc := (C.2.2.2.2.2.2.2.2.1.1 ci _ hcl).2.1
  subst hst
  refine gz_call (va_runV (As := As.map (gz_cv N0 ta)) (rest := rest.map (gz_cv N0 ta)) (C := y'.cls) (b := gz_ad N0 ta k) (n := As.length) ⟨C.1, C.2.1, C.2.2.2.2.1, C.2.2.2.2.2.2.1, hts⟩ (hM l D N0 ta) ⟨callB_of As.length hts (gz_goodC w5) rfl rfl rfl (hts _ w4) (hts _ w1) w7 ⟨hdd, ?_⟩, hts _ w2, hts _ w3⟩ ⟨gz_blind D N0 ta _ h, ⟨cell, q1, by rw [q3]; rfl, by rw [q2]; exact hfc⟩, fun U hU hW => ⟨by rw [List.map_cons]; rfl, C.2.2.2.2.2.2.2.2.warm hW (locs := locs) (by rw [hU]; exact S), by rw [hU]; exact Wd.moved hW.alike⟩⟩ rfl (by rw [List.length_map]) L.1 (by show List.map _ _ = _; rw [List.map_append, List.map_reverse, List.map_cons]; rfl) (lv_room (by rw [gz_cats]; exact hcat)) hd ⟨by show cells + mc' ≤ MC; omega, by show slots + ms' ≤ MS; omega⟩) S (fun r h' H1 locs1 hq hW1 hS1 => ?_)
  · show 8 + (nL' + 11) + 45 * d' ≤ 45 * d
    omega
  · rw [gz_tl]
    exact kk r h' hq l D N0 ta p e s m args below meth c H1 locs1 lsC (cells + mc') (slots + ms') MC MS C hS1 hW1 L (by omega) (by omega)
theorem zr_callS {idx : Nat} {As : List Value} (hM : gz_M d' y' cc' nL' rt' mc' ms' As h Q') (hw : zc_S y.cls idx y' cc' nL' rt' As.length) (hd : decode cc pc = .ok (.invokestatic idx, 3)) (hdd : d' + 1 ≤ d) (hmc : mc' ≤ mc) (hms : ms' ≤ ms) (hst : st = As.reverse ++ rest) (hcat : (rest.map fun v => v.category).sum ≤ 8)
    (kk : ∀ (r : Option Value) (h' : gz_AH), Q' r h' → gz_R d y cc nL rt (mc - mc') (ms - ms') (pc + 3) ls (r.toList ++ rest) h' Q) : gz_R d y cc nL rt mc ms pc ls st h Q := by
  intro l D N0 ta p e s m args below meth c H locs lsC cells slots MC MS C S Wd L hc hs
  obtain ⟨w1, w2, w4, w5, w6, w7⟩ := hw
  have hts := C.2.2.2.2.2.1
  subst hst
  refine gz_call (va_runS (As := As.map (gz_cv N0 ta)) (rest := rest.map (gz_cv N0 ta)) (n := As.length) ⟨C.1, C.2.1, C.2.2.2.2.1, C.2.2.2.2.2.2.1, hts⟩ (hM l D N0 ta) ⟨callB_of As.length hts (gz_goodC w5) rfl rfl rfl (hts _ w4) (hts _ w1) w7 ⟨hdd, ?_⟩, hts _ w2⟩ ⟨gz_blind D N0 ta _ h, fun U hU hW => ⟨rfl, C.2.2.2.2.2.2.2.2.warm hW (locs := locs) (by rw [hU]; exact S), by rw [hU]; exact Wd.moved hW.alike⟩⟩ rfl (by rw [List.length_map]) L.1 (by show List.map _ _ = _; rw [List.map_append, List.map_reverse]) (lv_room (by rw [gz_cats]; exact hcat)) hd ⟨by show cells + mc' ≤ MC; omega, by show slots + ms' ≤ MS; omega⟩) S (fun r h' H1 locs1 hq hW1 hS1 => ?_)
  · show 8 + (nL' + 11) + 45 * d' ≤ 45 * d
    omega
  · rw [gz_tl]
    exact kk r h' hq l D N0 ta p e s m args below meth c H1 locs1 lsC (cells + mc') (slots + ms') MC MS C hS1 hW1 L (by omega) (by omega)
theorem zr_callI {idx k : Nat} {As : List Value} (hM : gz_M d' y' cc' nL' none mc' ms' (.ref k :: As) h Q') (hw : zc_I y.cls idx y' cc' nL' As.length) (hd : decode cc pc = .ok (.invokespecial idx, 3)) (hdd : d' + 1 ≤ d) (hmc : mc' ≤ mc) (hms : ms' ≤ ms) (hst : st = As.reverse ++ .ref k :: rest) (hcat : (rest.map fun v => v.category).sum ≤ 8)
    (kk : ∀ (r : Option Value) (h' : gz_AH), Q' r h' → gz_R d y cc nL rt (mc - mc') (ms - ms') (pc + 3) ls (r.toList ++ rest) h' Q) : gz_R d y cc nL rt mc ms pc ls st h Q := by
  intro l D N0 ta p e s m args below meth c H locs lsC cells slots MC MS C S Wd L hc hs
  obtain ⟨w1, w2, w4, w5, w6, w8, w7⟩ := hw
  have hts := C.2.2.2.2.2.1
  subst hst
  refine gz_call (va_runI (As := As.map (gz_cv N0 ta)) (b := gz_ad N0 ta k) (rest := rest.map (gz_cv N0 ta)) (n := As.length) ⟨C.1, C.2.1, C.2.2.2.2.1, C.2.2.2.2.2.2.1, hts⟩ (hM l D N0 ta) ⟨callB_of As.length hts (gz_goodC w5) rfl rfl rfl (hts _ w4) (hts _ w1) w7 ⟨hdd, ?_⟩, w8, hts _ w2⟩ ⟨gz_blind D N0 ta _ h, fun U hU hW => ⟨by rw [List.map_cons]; rfl, C.2.2.2.2.2.2.2.2.warm hW (locs := locs) (by rw [hU]; exact S), by rw [hU]; exact Wd.moved hW.alike⟩⟩ rfl (by rw [List.length_map]) L.1 (by show List.map _ _ = _; rw [List.map_append, List.map_reverse, List.map_cons]; rfl) (lv_room (by rw [gz_cats]; exact hcat)) hd ⟨by show cells + mc' ≤ MC; omega, by show slots + ms' ≤ MS; omega⟩) S (fun r h' H1 locs1 hq hW1 hS1 => ?_)
  · show 8 + (nL' + 11) + 45 * d' ≤ 45 * d
    omega
  · rw [gz_tl]
    exact kk r h' hq l D N0 ta p e s m args below meth c H1 locs1 lsC (cells + mc') (slots + ms') MC MS C hS1 hW1 L (by omega) (by omega)
theorem zr_callN {idx k : Nat} {As : List Value} (hM : gz_M d' y' cc' nL' none mc' ms' (.ref k :: As) h Q') (hw : zc_N y.cls idx y' cc' nL' As.length) (hd : decode cc pc = .ok (.invokespecial idx, 3)) (hdd : d' + 1 ≤ d) (hmc : mc' ≤ mc) (hms : ms' ≤ ms) (hst : st = As.reverse ++ .ref k :: rest) (hcat : (rest.map fun v => v.category).sum ≤ 8)
    (kk : ∀ (r : Option Value) (h' : gz_AH), Q' r h' → gz_R d y cc nL rt (mc - mc') (ms - ms') (pc + 3) ls (r.toList ++ rest) h' Q) : gz_R d y cc nL rt mc ms pc ls st h Q := by
  intro l D N0 ta p e s m args below meth c H locs lsC cells slots MC MS C S Wd L hc hs
  obtain ⟨w1, w2, w4, w5, w6, w8, w7⟩ := hw
  have hts := C.2.2.2.2.2.1
  subst hst
  refine gz_call (va_runIN (As := As.map (gz_cv N0 ta)) (b := gz_ad N0 ta k) (rest := rest.map (gz_cv N0 ta)) (n := As.length) ⟨C.1, C.2.1, C.2.2.2.2.1, C.2.2.2.2.2.2.1, hts⟩ (hM l D N0 ta) ⟨va_cnB As.length hts (gz_goodC w5) rfl rfl rfl (w1 D N0 ta s C.2.2.2.2.2.2.2.2) (hts _ w4) w7 ⟨hdd, ?_⟩, w8, hts _ w2⟩ ⟨gz_blind D N0 ta _ h, fun U hU hW => ⟨by rw [List.map_cons]; rfl, C.2.2.2.2.2.2.2.2.warm hW (locs := locs) (by rw [hU]; exact S), by rw [hU]; exact Wd.moved hW.alike⟩⟩ rfl (by rw [List.length_map]) L.1 (by show List.map _ _ = _; rw [List.map_append, List.map_reverse, List.map_cons]; rfl) (lv_room (by rw [gz_cats]; exact hcat)) hd ⟨by show cells + mc' ≤ MC; omega, by show slots + ms' ≤ MS; omega⟩) S (fun r h' H1 locs1 hq hW1 hS1 => ?_)
  · show 8 + (nL' + 11) + 45 * d' ≤ 45 * d
    omega
  · rw [gz_tl]
    exact kk r h' hq l D N0 ta p e s m args below meth c H1 locs1 lsC (cells + mc') (slots + ms') MC MS C hS1 hW1 L (by omega) (by omega)
theorem zr_obj {idx k : Nat} (hw : Cond.methodLink y.cls idx Lib.objectInit ∈ gz_TB) (hw2 : Cond.instanceMethod Lib.objectInit ∈ gz_TB) (hw3 : Cond.code Lib.objectInit ⟨#[0xb1]⟩ 1 none ∈ gz_TB) (hd : decode cc pc = .ok (.invokespecial idx, 3)) (hdd : 1 ≤ d) (hcat : (rest.map fun v => v.category).sum ≤ 8) (kk : gz_R d y cc nL rt mc ms (pc + 3) ls rest h Q) : gz_R d y cc nL rt mc ms pc ls (.ref k :: rest) h Q := by
  intro l D N0 ta p e s m args below meth c H locs lsC cells slots MC MS C S Wd L hc hs
  have hts := C.2.2.2.2.2.1
  have hr : 2 * (F0 m pc lsC ((Value.ref k :: rest).map (gz_cv N0 ta))).monitorRoom + ((rest.map (gz_cv N0 ta)).map fun v => v.category).sum ≤ 8 := lv_room (by rw [gz_cats]; exact hcat)
  refine W.objInit C.1 C.2.1 C.2.2.2.2.2.2.1 (hts _ hw) (hts _ hw2) (hts _ hw3) rfl (L.1.trans C.2.2.2.2.1.symm) (a := gz_ad N0 ta k) (rest := rest.map (gz_cv N0 ta)) rfl hd hdd ?_ (kk l D N0 ta p e s m args below meth c H locs lsC cells slots MC MS C S Wd L hc hs)
  show _ + 12 ≤ 45 * d
  omega
theorem zr_new {idx ci N : Nat} {CC : String} {T : u_T} {ty : Nat → FieldType} {fs : List Value} (hci : ¬ ci = 100) (hcl : gz_cl[ci]? = some (CC, T, N)) (hin : ∀ w ∈ u_ws CC T N, w ∈ gz_TB) (hty : ∀ k, k < N → parseFieldDescriptor (T k).2.2.1 = some (ty k)) (hw1 : Cond.classLink y.cls idx CC ∈ gz_TB) (hw2 : Cond.instantiable CC N ∈ gz_TB) (hw3 : Cond.initialized CC ∈ gz_TB) (hfs : ∀ j, j < N → defaultValue (ty j) = vp_V fs j) (hfc : ∀ (N0 : Nat) (ta : Nat → Nat), fs.map (gz_cv N0 ta) = fs) (hd : decode cc pc = .ok (.new idx, 3)) (hmc : 1 ≤ mc) (hms : N ≤ ms)
    (kk : gz_R d y cc nL rt (mc - 1) (ms - N) (pc + 3) ls (.ref h.length :: st) (h ++ [.inr (ci, fs)]) Q) : gz_R d y cc nL rt mc ms pc ls st h Q := by
  intro l D N0 ta p e s m args below meth c H locs lsC cells slots MC MS C S Wd L hc hs
  have hts := C.2.2.2.2.2.1
  have hKn := C.2.2.2.2.2.2.2.2.1.1 ci _ hcl
  refine W.newcK C.1 C.2.1 C.2.2.2.2.2.2.1 (hts _ hw1) (hts _ hw2) (hts _ hw3) rfl hd (by show cells + 1 ≤ MC; omega) (by show slots + N ≤ MS; omega) hKn.2.1 rfl fun H1 kC hkC e1 z1 o1 => ?_
  have hcell : gz_cell D N0 ta s H1 H.size (.inr (ci, fs)) := by
    unfold gz_cell
    simp only [hci, if_false]
    rw [hfc]
    exact ⟨_, hcl, (u_born ty hts hin hKn hkC e1 hty).to hfs⟩
  obtain ⟨Wd1, ha⟩ := Wd.push z1 hcell o1
  have S1 : va_S (gz_A N0) s.heap H1 locs := ⟨Nat.le_trans S.1 (by omega), fun x h1 h2 => (o1 x (Nat.lt_of_lt_of_le h1 S.1)).trans (S.2.1 x h1 h2), S.2.2⟩
  have W1 := kk l D N0 ta p e s m args below meth c H1 locs lsC (cells + 1) (slots + N) MC MS C S1 Wd1 L (by omega) (by omega)
  rw [List.map_cons] at W1
  have e3 : gz_cv N0 ta (.ref h.length) = .ref H.size := by show Value.ref (gz_ad N0 ta h.length) = _; rw [ha]
  rw [e3] at W1
  exact W1
theorem zr_newa {at_ : ArrayType} {n : Int32} {N : Nat} {ty : FieldType} (hw : Cond.arrayClass ty ∈ gz_TB) (hty : newarray.typeOf at_ = ty) (hdv : defaultValue ty = .int 0) (hn : ¬ n < 0) (hN : n.toNatClampNeg = N) (hN2 : N ≤ 1000) (hb : componentBytes ty ≤ 8) (hd : decode cc pc = .ok (.newarray at_, 2)) (hmc : 1 ≤ mc) (hms : N ≤ ms)
    (kk : gz_R d y cc nL rt (mc - 1) (ms - N) (pc + 2) ls (.ref h.length :: st) (h ++ [.inl (ty, N, fun _ => 0)]) Q) : gz_R d y cc nL rt mc ms pc ls (.int n :: st) h Q := by
  intro l D N0 ta p e s m args below meth c H locs lsC cells slots MC MS C S Wd L hc hs
  subst hty
  have hts := C.2.2.2.2.2.1
  refine va_newaK C.1 C.2.1 (hts _ hw) rfl hd rfl hn hN (by have := Nat.mul_le_mul hN2 hb; omega) (by show cells + 1 ≤ MC; omega) (by show slots + N ≤ MS; omega) rfl fun H1 cA e1 z1 o1 hAr hNm => ?_
  have hcell : gz_cell D N0 ta s H1 H.size (.inl (newarray.typeOf at_, N, fun _ => 0)) :=
    ⟨_, e1, hAr _ _, (fun q => by cases q), by rw [arrV_size]; exact Nat.le_refl _, by rw [arrV_size], fun j hj => by rw [arrV_read _ _ hj, hdv]⟩
  obtain ⟨Wd1, ha⟩ := Wd.push z1 hcell o1
  have S1 : va_S (gz_A N0) s.heap H1 locs := ⟨Nat.le_trans S.1 (by omega), fun x h1 h2 => (o1 x (Nat.lt_of_lt_of_le h1 S.1)).trans (S.2.1 x h1 h2), S.2.2⟩
  have W1 := kk l D N0 ta p e s m args below meth c H1 locs lsC (cells + 1) (slots + N) MC MS C S1 Wd1 L (by omega) (by omega)
  rw [List.map_cons] at W1
  have e3 : gz_cv N0 ta (.ref h.length) = .ref H.size := by show Value.ref (gz_ad N0 ta h.length) = _; rw [ha]
  rw [e3] at W1
  exact W1
end ZL
