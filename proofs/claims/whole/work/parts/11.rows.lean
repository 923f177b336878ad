/-! ===== one row an instruction, over the abstract heap ===== -/
section ZR
variable {d : Nat} {y : MethodName} {cc : ByteArray} {nL : Nat} {rt : Option FieldType} {mc ms pc : Nat} {ls : List (Option Value)} {st : List Value} {h : gz_AH} {Q : Option Value → gz_AH → Prop}
theorem zr_iconst {n : Int} {v : Int32} (hd : decode cc pc = .ok (.iconst n, 1)) (hv : Int32.ofInt n = v) (kk : gz_R d y cc nL rt mc ms (pc + 1) ls (.int v :: st) h Q) : gz_R d y cc nL rt mc ms pc ls st h Q := by
  intro l D N0 ta p e s m args below meth c H locs lsC cells slots MC MS C S Wd L hc hs
  exact lv_iconst C.1 C.2.1 hd hv (kk l D N0 ta p e s m args below meth c H locs lsC cells slots MC MS C S Wd L hc hs)
theorem zr_bipush {n : Int} {v : Int32} (hd : decode cc pc = .ok (.bipush n, 2)) (hv : (Int8.ofInt n).toInt32 = v) (kk : gz_R d y cc nL rt mc ms (pc + 2) ls (.int v :: st) h Q) : gz_R d y cc nL rt mc ms pc ls st h Q := by
  intro l D N0 ta p e s m args below meth c H locs lsC cells slots MC MS C S Wd L hc hs
  exact lv_bipush C.1 C.2.1 hd hv (kk l D N0 ta p e s m args below meth c H locs lsC cells slots MC MS C S Wd L hc hs)
theorem zr_sipush {n : Int} {v : Int32} (hd : decode cc pc = .ok (.sipush n, 3)) (hv : (Int16.ofInt n).toInt32 = v) (kk : gz_R d y cc nL rt mc ms (pc + 3) ls (.int v :: st) h Q) : gz_R d y cc nL rt mc ms pc ls st h Q := by
  intro l D N0 ta p e s m args below meth c H locs lsC cells slots MC MS C S Wd L hc hs
  exact lv_sipush C.1 C.2.1 hd hv (kk l D N0 ta p e s m args below meth c H locs lsC cells slots MC MS C S Wd L hc hs)
theorem zr_lconst {n : Fin 2} {v : Int64} (hd : decode cc pc = .ok (.lconst n, 1)) (hv : Int64.ofNat (n : Nat) = v) (kk : gz_R d y cc nL rt mc ms (pc + 1) ls (.long v :: st) h Q) : gz_R d y cc nL rt mc ms pc ls st h Q := by
  intro l D N0 ta p e s m args below meth c H locs lsC cells slots MC MS C S Wd L hc hs
  exact lv_lconst C.1 C.2.1 hd hv (kk l D N0 ta p e s m args below meth c H locs lsC cells slots MC MS C S Wd L hc hs)
theorem zr_ldc {n : Nat} {v : Int32} (hw : Cond.constant y.cls n v ∈ gz_TB) (hd : decode cc pc = .ok (.ldc n, 2)) (kk : gz_R d y cc nL rt mc ms (pc + 2) ls (.int v :: st) h Q) : gz_R d y cc nL rt mc ms pc ls st h Q := by
  intro l D N0 ta p e s m args below meth c H locs lsC cells slots MC MS C S Wd L hc hs
  exact lv_ldc C.1 C.2.1 C.2.2.2.2.2.2.1 (C.2.2.2.2.2.1 _ hw) hd (kk l D N0 ta p e s m args below meth c H locs lsC cells slots MC MS C S Wd L hc hs)
theorem zr_ldc2 {n : Nat} {v : Int64} (hw : Cond.constantLong y.cls n v ∈ gz_TB) (hd : decode cc pc = .ok (.ldc2_w n, 3)) (kk : gz_R d y cc nL rt mc ms (pc + 3) ls (.long v :: st) h Q) : gz_R d y cc nL rt mc ms pc ls st h Q := by
  intro l D N0 ta p e s m args below meth c H locs lsC cells slots MC MS C S Wd L hc hs
  exact lv_ldc2 C.1 C.2.1 C.2.2.2.2.2.2.1 (C.2.2.2.2.2.1 _ hw) hd (kk l D N0 ta p e s m args below meth c H locs lsC cells slots MC MS C S Wd L hc hs)
theorem zr_iload_n {k : Fin 4} {x : Int32} (hd : decode cc pc = .ok (.iload_n k, 1)) (hl : ls[(k : Nat)]? = some (some (.int x))) (kk : gz_R d y cc nL rt mc ms (pc + 1) ls (.int x :: st) h Q) : gz_R d y cc nL rt mc ms pc ls st h Q := by
  intro l D N0 ta p e s m args below meth c H locs lsC cells slots MC MS C S Wd L hc hs
  exact lv_iload_n C.1 C.2.1 hd rfl (L.at hl) (kk l D N0 ta p e s m args below meth c H locs lsC cells slots MC MS C S Wd L hc hs)
theorem zr_iload {k : Nat} {x : Int32} (hd : decode cc pc = .ok (.iload k, 2)) (hl : ls[k]? = some (some (.int x))) (kk : gz_R d y cc nL rt mc ms (pc + 2) ls (.int x :: st) h Q) : gz_R d y cc nL rt mc ms pc ls st h Q := by
  intro l D N0 ta p e s m args below meth c H locs lsC cells slots MC MS C S Wd L hc hs
  exact lv_iload C.1 C.2.1 hd (L.at hl) (kk l D N0 ta p e s m args below meth c H locs lsC cells slots MC MS C S Wd L hc hs)
theorem zr_lload_n {k : Fin 4} {x : Int64} (hd : decode cc pc = .ok (.lload_n k, 1)) (hl : ls[(k : Nat)]? = some (some (.long x))) (kk : gz_R d y cc nL rt mc ms (pc + 1) ls (.long x :: st) h Q) : gz_R d y cc nL rt mc ms pc ls st h Q := by
  intro l D N0 ta p e s m args below meth c H locs lsC cells slots MC MS C S Wd L hc hs
  exact lv_lload_n C.1 C.2.1 hd rfl (L.at hl) (kk l D N0 ta p e s m args below meth c H locs lsC cells slots MC MS C S Wd L hc hs)
theorem zr_lload {k : Nat} {x : Int64} (hd : decode cc pc = .ok (.lload k, 2)) (hl : ls[k]? = some (some (.long x))) (kk : gz_R d y cc nL rt mc ms (pc + 2) ls (.long x :: st) h Q) : gz_R d y cc nL rt mc ms pc ls st h Q := by
  intro l D N0 ta p e s m args below meth c H locs lsC cells slots MC MS C S Wd L hc hs
  exact lv_lload C.1 C.2.1 hd (L.at hl) (kk l D N0 ta p e s m args below meth c H locs lsC cells slots MC MS C S Wd L hc hs)
theorem zr_aload_n {k : Fin 4} {x : Nat} (hd : decode cc pc = .ok (.aload_n k, 1)) (hl : ls[(k : Nat)]? = some (some (.ref x))) (kk : gz_R d y cc nL rt mc ms (pc + 1) ls (.ref x :: st) h Q) : gz_R d y cc nL rt mc ms pc ls st h Q := by
  intro l D N0 ta p e s m args below meth c H locs lsC cells slots MC MS C S Wd L hc hs
  exact lv_aload_n C.1 C.2.1 hd rfl (L.at hl) (kk l D N0 ta p e s m args below meth c H locs lsC cells slots MC MS C S Wd L hc hs)
theorem zr_aload {k : Nat} {x : Nat} (hd : decode cc pc = .ok (.aload k, 2)) (hl : ls[k]? = some (some (.ref x))) (kk : gz_R d y cc nL rt mc ms (pc + 2) ls (.ref x :: st) h Q) : gz_R d y cc nL rt mc ms pc ls st h Q := by
  intro l D N0 ta p e s m args below meth c H locs lsC cells slots MC MS C S Wd L hc hs
  exact lv_aload C.1 C.2.1 hd (L.at hl) (kk l D N0 ta p e s m args below meth c H locs lsC cells slots MC MS C S Wd L hc hs)
theorem zr_istore_n {k : Fin 4} {x : Int32} (hd : decode cc pc = .ok (.istore_n k, 1)) (hn : (k : Nat) < nL) (ho : gz_ok ls (k : Nat) = true) (kk : gz_R d y cc nL rt mc ms (pc + 1) (ls.set (k : Nat) (some (.int x))) st h Q) : gz_R d y cc nL rt mc ms pc ls (.int x :: st) h Q := by
  intro l D N0 ta p e s m args below meth c H locs lsC cells slots MC MS C S Wd L hc hs
  obtain ⟨lsC', e', L'⟩ := L.store (v := .int x) hn rfl ho
  have W1 := kk l D N0 ta p e s m args below meth c H locs lsC' cells slots MC MS C S Wd L' hc hs
  intro T hT X
  obtain ⟨t, a, b⟩ := W1 T hT X
  refine ⟨t, ?_, b⟩
  have hexec := C.1
  have hb := C.2.1
  have e2 : storeLocals lsC (k : Nat) (.int x) = some lsC' := e'
  jvm_step X.here [X.here.top, ↓top_set X.here.top, hexec, hb, hd, e2, gz_cv]
  exact a
theorem zr_istore {k : Nat} {x : Int32} (hd : decode cc pc = .ok (.istore k, 2)) (hn : k < nL) (ho : gz_ok ls k = true) (kk : gz_R d y cc nL rt mc ms (pc + 2) (ls.set k (some (.int x))) st h Q) : gz_R d y cc nL rt mc ms pc ls (.int x :: st) h Q := by
  intro l D N0 ta p e s m args below meth c H locs lsC cells slots MC MS C S Wd L hc hs
  obtain ⟨lsC', e', L'⟩ := L.store (v := .int x) hn rfl ho
  have W1 := kk l D N0 ta p e s m args below meth c H locs lsC' cells slots MC MS C S Wd L' hc hs
  intro T hT X
  obtain ⟨t, a, b⟩ := W1 T hT X
  refine ⟨t, ?_, b⟩
  have hexec := C.1
  have hb := C.2.1
  have e2 : storeLocals lsC k (.int x) = some lsC' := e'
  jvm_step X.here [X.here.top, ↓top_set X.here.top, hexec, hb, hd, e2, gz_cv]
  exact a
theorem zr_astore_n {k : Fin 4} {x : Nat} (hd : decode cc pc = .ok (.astore_n k, 1)) (hn : (k : Nat) < nL) (ho : gz_ok ls (k : Nat) = true) (kk : gz_R d y cc nL rt mc ms (pc + 1) (ls.set (k : Nat) (some (.ref x))) st h Q) : gz_R d y cc nL rt mc ms pc ls (.ref x :: st) h Q := by
  intro l D N0 ta p e s m args below meth c H locs lsC cells slots MC MS C S Wd L hc hs
  obtain ⟨lsC', e', L'⟩ := L.store (v := .ref x) hn rfl ho
  have W1 := kk l D N0 ta p e s m args below meth c H locs lsC' cells slots MC MS C S Wd L' hc hs
  intro T hT X
  obtain ⟨t, a, b⟩ := W1 T hT X
  refine ⟨t, ?_, b⟩
  have hexec := C.1
  have hb := C.2.1
  have e2 : storeLocals lsC (k : Nat) (.ref (gz_ad N0 ta x)) = some lsC' := e'
  jvm_step X.here [X.here.top, ↓top_set X.here.top, hexec, hb, hd, e2, gz_cv, Value.isRef]
  exact a
theorem zr_astore {k : Nat} {x : Nat} (hd : decode cc pc = .ok (.astore k, 2)) (hn : k < nL) (ho : gz_ok ls k = true) (kk : gz_R d y cc nL rt mc ms (pc + 2) (ls.set k (some (.ref x))) st h Q) : gz_R d y cc nL rt mc ms pc ls (.ref x :: st) h Q := by
  intro l D N0 ta p e s m args below meth c H locs lsC cells slots MC MS C S Wd L hc hs
  obtain ⟨lsC', e', L'⟩ := L.store (v := .ref x) hn rfl ho
  have W1 := kk l D N0 ta p e s m args below meth c H locs lsC' cells slots MC MS C S Wd L' hc hs
  intro T hT X
  obtain ⟨t, a, b⟩ := W1 T hT X
  refine ⟨t, ?_, b⟩
  have hexec := C.1
  have hb := C.2.1
  have e2 : storeLocals lsC k (.ref (gz_ad N0 ta x)) = some lsC' := e'
  jvm_step X.here [X.here.top, ↓top_set X.here.top, hexec, hb, hd, e2, gz_cv, Value.isRef]
  exact a
theorem zr_iinc {k : Nat} {n : Int} {x v : Int32} (hd : decode cc pc = .ok (.iinc k n, 3)) (hl : ls[k]? = some (some (.int x))) (hv : x + Int32.ofInt n = v) (ho : gz_ok ls k = true) (kk : gz_R d y cc nL rt mc ms (pc + 3) (ls.set k (some (.int v))) st h Q) : gz_R d y cc nL rt mc ms pc ls st h Q := by
  intro l D N0 ta p e s m args below meth c H locs lsC cells slots MC MS C S Wd L hc hs
  subst hv
  have hn : k < nL := by have := (List.getElem?_eq_some_iff.mp hl).1; rw [L.2.2.1] at this; exact this
  obtain ⟨lsC', e', L'⟩ := L.store (v := .int (x + Int32.ofInt n)) hn rfl ho
  have W1 := kk l D N0 ta p e s m args below meth c H locs lsC' cells slots MC MS C S Wd L' hc hs
  intro T hT X
  obtain ⟨t, a, b⟩ := W1 T hT X
  refine ⟨t, ?_, b⟩
  have hexec := C.1
  have hb := C.2.1
  have hg : lsC[k]? = some (.val (.int x)) := L.at hl
  have e2 : storeLocals lsC k (.int (x + Int32.ofInt n)) = some lsC' := e'
  jvm_step X.here [X.here.top, ↓top_set X.here.top, hexec, hb, hd, hg, e2]
  exact a
theorem zr_iadd {x z : Int32} (hd : decode cc pc = .ok (.iadd, 1)) (kk : gz_R d y cc nL rt mc ms (pc + 1) ls (.int (x + z) :: st) h Q) : gz_R d y cc nL rt mc ms pc ls (.int z :: .int x :: st) h Q := by
  intro l D N0 ta p e s m args below meth c H locs lsC cells slots MC MS C S Wd L hc hs
  exact lv_iadd C.1 C.2.1 hd (kk l D N0 ta p e s m args below meth c H locs lsC cells slots MC MS C S Wd L hc hs)
theorem zr_isub {x z : Int32} (hd : decode cc pc = .ok (.isub, 1)) (kk : gz_R d y cc nL rt mc ms (pc + 1) ls (.int (x - z) :: st) h Q) : gz_R d y cc nL rt mc ms pc ls (.int z :: .int x :: st) h Q := by
  intro l D N0 ta p e s m args below meth c H locs lsC cells slots MC MS C S Wd L hc hs
  exact lv_isub C.1 C.2.1 hd (kk l D N0 ta p e s m args below meth c H locs lsC cells slots MC MS C S Wd L hc hs)
theorem zr_imul {x z : Int32} (hd : decode cc pc = .ok (.imul, 1)) (kk : gz_R d y cc nL rt mc ms (pc + 1) ls (.int (x * z) :: st) h Q) : gz_R d y cc nL rt mc ms pc ls (.int z :: .int x :: st) h Q := by
  intro l D N0 ta p e s m args below meth c H locs lsC cells slots MC MS C S Wd L hc hs
  exact lv_imul C.1 C.2.1 hd (kk l D N0 ta p e s m args below meth c H locs lsC cells slots MC MS C S Wd L hc hs)
theorem zr_iand {x z : Int32} (hd : decode cc pc = .ok (.iand, 1)) (kk : gz_R d y cc nL rt mc ms (pc + 1) ls (.int (x &&& z) :: st) h Q) : gz_R d y cc nL rt mc ms pc ls (.int z :: .int x :: st) h Q := by
  intro l D N0 ta p e s m args below meth c H locs lsC cells slots MC MS C S Wd L hc hs
  exact lv_iand C.1 C.2.1 hd (kk l D N0 ta p e s m args below meth c H locs lsC cells slots MC MS C S Wd L hc hs)
theorem zr_ior {x z : Int32} (hd : decode cc pc = .ok (.ior, 1)) (kk : gz_R d y cc nL rt mc ms (pc + 1) ls (.int (x ||| z) :: st) h Q) : gz_R d y cc nL rt mc ms pc ls (.int z :: .int x :: st) h Q := by
  intro l D N0 ta p e s m args below meth c H locs lsC cells slots MC MS C S Wd L hc hs
  exact lv_ior C.1 C.2.1 hd (kk l D N0 ta p e s m args below meth c H locs lsC cells slots MC MS C S Wd L hc hs)
theorem zr_ixor {x z : Int32} (hd : decode cc pc = .ok (.ixor, 1)) (kk : gz_R d y cc nL rt mc ms (pc + 1) ls (.int (x ^^^ z) :: st) h Q) : gz_R d y cc nL rt mc ms pc ls (.int z :: .int x :: st) h Q := by
  intro l D N0 ta p e s m args below meth c H locs lsC cells slots MC MS C S Wd L hc hs
  exact lv_ixor C.1 C.2.1 hd (kk l D N0 ta p e s m args below meth c H locs lsC cells slots MC MS C S Wd L hc hs)
theorem zr_ishl {x z : Int32} (hd : decode cc pc = .ok (.ishl, 1)) (kk : gz_R d y cc nL rt mc ms (pc + 1) ls (.int (x <<< (z &&& 31)) :: st) h Q) : gz_R d y cc nL rt mc ms pc ls (.int z :: .int x :: st) h Q := by
  intro l D N0 ta p e s m args below meth c H locs lsC cells slots MC MS C S Wd L hc hs
  exact lv_ishl C.1 C.2.1 hd (kk l D N0 ta p e s m args below meth c H locs lsC cells slots MC MS C S Wd L hc hs)
theorem zr_ishr {x z : Int32} (hd : decode cc pc = .ok (.ishr, 1)) (kk : gz_R d y cc nL rt mc ms (pc + 1) ls (.int (x >>> (z &&& 31)) :: st) h Q) : gz_R d y cc nL rt mc ms pc ls (.int z :: .int x :: st) h Q := by
  intro l D N0 ta p e s m args below meth c H locs lsC cells slots MC MS C S Wd L hc hs
  exact lv_ishr C.1 C.2.1 hd (kk l D N0 ta p e s m args below meth c H locs lsC cells slots MC MS C S Wd L hc hs)
theorem zr_iushr {x z : Int32} (hd : decode cc pc = .ok (.iushr, 1)) (kk : gz_R d y cc nL rt mc ms (pc + 1) ls (.int ((x.toUInt32 >>> (z.toUInt32 &&& Int32.toUInt32 31)).toInt32) :: st) h Q) : gz_R d y cc nL rt mc ms pc ls (.int z :: .int x :: st) h Q := by
  intro l D N0 ta p e s m args below meth c H locs lsC cells slots MC MS C S Wd L hc hs
  exact lv_iushr C.1 C.2.1 hd rfl (kk l D N0 ta p e s m args below meth c H locs lsC cells slots MC MS C S Wd L hc hs)
theorem zr_i2l {x : Int32} (hd : decode cc pc = .ok (.i2l, 1)) (kk : gz_R d y cc nL rt mc ms (pc + 1) ls (.long x.toInt64 :: st) h Q) : gz_R d y cc nL rt mc ms pc ls (.int x :: st) h Q := by
  intro l D N0 ta p e s m args below meth c H locs lsC cells slots MC MS C S Wd L hc hs
  exact lv_i2l C.1 C.2.1 hd rfl (kk l D N0 ta p e s m args below meth c H locs lsC cells slots MC MS C S Wd L hc hs)
theorem zr_lcmp {x z : Int64} (hd : decode cc pc = .ok (.lcmp, 1)) (kk : gz_R d y cc nL rt mc ms (pc + 1) ls (.int (lg_cmp x z) :: st) h Q) : gz_R d y cc nL rt mc ms pc ls (.long z :: .long x :: st) h Q := by
  intro l D N0 ta p e s m args below meth c H locs lsC cells slots MC MS C S Wd L hc hs
  exact W.lcmp C.1 C.2.1 hd (kk l D N0 ta p e s m args below meth c H locs lsC cells slots MC MS C S Wd L hc hs)
theorem zr_dup {v : Value} (hd : decode cc pc = .ok (.dup, 1)) (hv : v.category = 1) (kk : gz_R d y cc nL rt mc ms (pc + 1) ls (v :: v :: st) h Q) : gz_R d y cc nL rt mc ms pc ls (v :: st) h Q := by
  intro l D N0 ta p e s m args below meth c H locs lsC cells slots MC MS C S Wd L hc hs
  exact lv_dup C.1 C.2.1 hd (by rw [gz_cv_cat]; exact hv) (kk l D N0 ta p e s m args below meth c H locs lsC cells slots MC MS C S Wd L hc hs)
theorem zr_pop {v : Value} (hd : decode cc pc = .ok (.pop, 1)) (hv : v.category = 1) (kk : gz_R d y cc nL rt mc ms (pc + 1) ls st h Q) : gz_R d y cc nL rt mc ms pc ls (v :: st) h Q := by
  intro l D N0 ta p e s m args below meth c H locs lsC cells slots MC MS C S Wd L hc hs
  exact lv_pop C.1 C.2.1 hd (by rw [gz_cv_cat]; exact hv) (kk l D N0 ta p e s m args below meth c H locs lsC cells slots MC MS C S Wd L hc hs)
theorem zr_dup2 {v w : Value} (hd : decode cc pc = .ok (.dup2, 1)) (hv : v.category = 1) (hw : w.category = 1) (kk : gz_R d y cc nL rt mc ms (pc + 1) ls (v :: w :: v :: w :: st) h Q) : gz_R d y cc nL rt mc ms pc ls (v :: w :: st) h Q := by
  intro l D N0 ta p e s m args below meth c H locs lsC cells slots MC MS C S Wd L hc hs
  exact lv_dup2_11 C.1 C.2.1 hd (by rw [gz_cv_cat]; exact hv) (by rw [gz_cv_cat]; exact hw) (kk l D N0 ta p e s m args below meth c H locs lsC cells slots MC MS C S Wd L hc hs)
theorem zr_if_eq {x : Int32} {off : Int} (tgt : Nat) (hd : decode cc pc = .ok (.ifCond .eq off, 3)) (ht : (pc : Int) + off = (tgt : Int)) (kt : x = 0 → gz_R d y cc nL rt mc ms tgt ls st h Q) (kf : ¬ x = 0 → gz_R d y cc nL rt mc ms (pc + 3) ls st h Q) : gz_R d y cc nL rt mc ms pc ls (.int x :: st) h Q := by
  intro l D N0 ta p e s m args below meth c H locs lsC cells slots MC MS C S Wd L hc hs
  exact lv_if_eq C.1 C.2.1 hd ht (fun q => kt q l D N0 ta p e s m args below meth c H locs lsC cells slots MC MS C S Wd L hc hs) (fun q => kf q l D N0 ta p e s m args below meth c H locs lsC cells slots MC MS C S Wd L hc hs)
theorem zr_if_ne {x : Int32} {off : Int} (tgt : Nat) (hd : decode cc pc = .ok (.ifCond .ne off, 3)) (ht : (pc : Int) + off = (tgt : Int)) (kt : ¬ x = 0 → gz_R d y cc nL rt mc ms tgt ls st h Q) (kf : x = 0 → gz_R d y cc nL rt mc ms (pc + 3) ls st h Q) : gz_R d y cc nL rt mc ms pc ls (.int x :: st) h Q := by
  intro l D N0 ta p e s m args below meth c H locs lsC cells slots MC MS C S Wd L hc hs
  exact lv_if_ne C.1 C.2.1 hd ht (fun q => kt q l D N0 ta p e s m args below meth c H locs lsC cells slots MC MS C S Wd L hc hs) (fun q => kf q l D N0 ta p e s m args below meth c H locs lsC cells slots MC MS C S Wd L hc hs)
theorem zr_if_lt {x : Int32} {off : Int} (tgt : Nat) (hd : decode cc pc = .ok (.ifCond .lt off, 3)) (ht : (pc : Int) + off = (tgt : Int)) (kt : x < 0 → gz_R d y cc nL rt mc ms tgt ls st h Q) (kf : ¬ x < 0 → gz_R d y cc nL rt mc ms (pc + 3) ls st h Q) : gz_R d y cc nL rt mc ms pc ls (.int x :: st) h Q := by
  intro l D N0 ta p e s m args below meth c H locs lsC cells slots MC MS C S Wd L hc hs
  exact lv_if_lt C.1 C.2.1 hd ht (fun q => kt q l D N0 ta p e s m args below meth c H locs lsC cells slots MC MS C S Wd L hc hs) (fun q => kf q l D N0 ta p e s m args below meth c H locs lsC cells slots MC MS C S Wd L hc hs)
theorem zr_if_ge {x : Int32} {off : Int} (tgt : Nat) (hd : decode cc pc = .ok (.ifCond .ge off, 3)) (ht : (pc : Int) + off = (tgt : Int)) (kt : 0 ≤ x → gz_R d y cc nL rt mc ms tgt ls st h Q) (kf : ¬ 0 ≤ x → gz_R d y cc nL rt mc ms (pc + 3) ls st h Q) : gz_R d y cc nL rt mc ms pc ls (.int x :: st) h Q := by
  intro l D N0 ta p e s m args below meth c H locs lsC cells slots MC MS C S Wd L hc hs
  exact lv_if_ge C.1 C.2.1 hd ht (fun q => kt q l D N0 ta p e s m args below meth c H locs lsC cells slots MC MS C S Wd L hc hs) (fun q => kf q l D N0 ta p e s m args below meth c H locs lsC cells slots MC MS C S Wd L hc hs)
theorem zr_if_gt {x : Int32} {off : Int} (tgt : Nat) (hd : decode cc pc = .ok (.ifCond .gt off, 3)) (ht : (pc : Int) + off = (tgt : Int)) (kt : 0 < x → gz_R d y cc nL rt mc ms tgt ls st h Q) (kf : ¬ 0 < x → gz_R d y cc nL rt mc ms (pc + 3) ls st h Q) : gz_R d y cc nL rt mc ms pc ls (.int x :: st) h Q := by
  intro l D N0 ta p e s m args below meth c H locs lsC cells slots MC MS C S Wd L hc hs
  exact lv_if_gt C.1 C.2.1 hd ht (fun q => kt q l D N0 ta p e s m args below meth c H locs lsC cells slots MC MS C S Wd L hc hs) (fun q => kf q l D N0 ta p e s m args below meth c H locs lsC cells slots MC MS C S Wd L hc hs)
theorem zr_if_le {x : Int32} {off : Int} (tgt : Nat) (hd : decode cc pc = .ok (.ifCond .le off, 3)) (ht : (pc : Int) + off = (tgt : Int)) (kt : x ≤ 0 → gz_R d y cc nL rt mc ms tgt ls st h Q) (kf : ¬ x ≤ 0 → gz_R d y cc nL rt mc ms (pc + 3) ls st h Q) : gz_R d y cc nL rt mc ms pc ls (.int x :: st) h Q := by
  intro l D N0 ta p e s m args below meth c H locs lsC cells slots MC MS C S Wd L hc hs
  exact lv_if_le C.1 C.2.1 hd ht (fun q => kt q l D N0 ta p e s m args below meth c H locs lsC cells slots MC MS C S Wd L hc hs) (fun q => kf q l D N0 ta p e s m args below meth c H locs lsC cells slots MC MS C S Wd L hc hs)
theorem zr_icmp_eq {x z : Int32} {off : Int} (tgt : Nat) (hd : decode cc pc = .ok (.if_icmp .eq off, 3)) (ht : (pc : Int) + off = (tgt : Int)) (kt : x = z → gz_R d y cc nL rt mc ms tgt ls st h Q) (kf : ¬ x = z → gz_R d y cc nL rt mc ms (pc + 3) ls st h Q) : gz_R d y cc nL rt mc ms pc ls (.int z :: .int x :: st) h Q := by
  intro l D N0 ta p e s m args below meth c H locs lsC cells slots MC MS C S Wd L hc hs
  exact lv_icmp_eq C.1 C.2.1 hd ht (fun q => kt q l D N0 ta p e s m args below meth c H locs lsC cells slots MC MS C S Wd L hc hs) (fun q => kf q l D N0 ta p e s m args below meth c H locs lsC cells slots MC MS C S Wd L hc hs)
theorem zr_icmp_ne {x z : Int32} {off : Int} (tgt : Nat) (hd : decode cc pc = .ok (.if_icmp .ne off, 3)) (ht : (pc : Int) + off = (tgt : Int)) (kt : ¬ x = z → gz_R d y cc nL rt mc ms tgt ls st h Q) (kf : x = z → gz_R d y cc nL rt mc ms (pc + 3) ls st h Q) : gz_R d y cc nL rt mc ms pc ls (.int z :: .int x :: st) h Q := by
  intro l D N0 ta p e s m args below meth c H locs lsC cells slots MC MS C S Wd L hc hs
  exact lv_icmp_ne C.1 C.2.1 hd ht (fun q => kt q l D N0 ta p e s m args below meth c H locs lsC cells slots MC MS C S Wd L hc hs) (fun q => kf q l D N0 ta p e s m args below meth c H locs lsC cells slots MC MS C S Wd L hc hs)
theorem zr_icmp_lt {x z : Int32} {off : Int} (tgt : Nat) (hd : decode cc pc = .ok (.if_icmp .lt off, 3)) (ht : (pc : Int) + off = (tgt : Int)) (kt : x < z → gz_R d y cc nL rt mc ms tgt ls st h Q) (kf : ¬ x < z → gz_R d y cc nL rt mc ms (pc + 3) ls st h Q) : gz_R d y cc nL rt mc ms pc ls (.int z :: .int x :: st) h Q := by
  intro l D N0 ta p e s m args below meth c H locs lsC cells slots MC MS C S Wd L hc hs
  exact lv_icmp_lt C.1 C.2.1 hd ht (fun q => kt q l D N0 ta p e s m args below meth c H locs lsC cells slots MC MS C S Wd L hc hs) (fun q => kf q l D N0 ta p e s m args below meth c H locs lsC cells slots MC MS C S Wd L hc hs)
theorem zr_icmp_ge {x z : Int32} {off : Int} (tgt : Nat) (hd : decode cc pc = .ok (.if_icmp .ge off, 3)) (ht : (pc : Int) + off = (tgt : Int)) (kt : z ≤ x → gz_R d y cc nL rt mc ms tgt ls st h Q) (kf : ¬ z ≤ x → gz_R d y cc nL rt mc ms (pc + 3) ls st h Q) : gz_R d y cc nL rt mc ms pc ls (.int z :: .int x :: st) h Q := by
  intro l D N0 ta p e s m args below meth c H locs lsC cells slots MC MS C S Wd L hc hs
  exact lv_icmp_ge C.1 C.2.1 hd ht (fun q => kt q l D N0 ta p e s m args below meth c H locs lsC cells slots MC MS C S Wd L hc hs) (fun q => kf q l D N0 ta p e s m args below meth c H locs lsC cells slots MC MS C S Wd L hc hs)
theorem zr_icmp_gt {x z : Int32} {off : Int} (tgt : Nat) (hd : decode cc pc = .ok (.if_icmp .gt off, 3)) (ht : (pc : Int) + off = (tgt : Int)) (kt : z < x → gz_R d y cc nL rt mc ms tgt ls st h Q) (kf : ¬ z < x → gz_R d y cc nL rt mc ms (pc + 3) ls st h Q) : gz_R d y cc nL rt mc ms pc ls (.int z :: .int x :: st) h Q := by
  intro l D N0 ta p e s m args below meth c H locs lsC cells slots MC MS C S Wd L hc hs
  exact lv_icmp_gt C.1 C.2.1 hd ht (fun q => kt q l D N0 ta p e s m args below meth c H locs lsC cells slots MC MS C S Wd L hc hs) (fun q => kf q l D N0 ta p e s m args below meth c H locs lsC cells slots MC MS C S Wd L hc hs)
theorem zr_icmp_le {x z : Int32} {off : Int} (tgt : Nat) (hd : decode cc pc = .ok (.if_icmp .le off, 3)) (ht : (pc : Int) + off = (tgt : Int)) (kt : x ≤ z → gz_R d y cc nL rt mc ms tgt ls st h Q) (kf : ¬ x ≤ z → gz_R d y cc nL rt mc ms (pc + 3) ls st h Q) : gz_R d y cc nL rt mc ms pc ls (.int z :: .int x :: st) h Q := by
  intro l D N0 ta p e s m args below meth c H locs lsC cells slots MC MS C S Wd L hc hs
  exact lv_icmp_le C.1 C.2.1 hd ht (fun q => kt q l D N0 ta p e s m args below meth c H locs lsC cells slots MC MS C S Wd L hc hs) (fun q => kf q l D N0 ta p e s m args below meth c H locs lsC cells slots MC MS C S Wd L hc hs)
theorem zr_goto {off : Int} (tgt : Nat) (hd : decode cc pc = .ok (.goto off, 3)) (ht : (pc : Int) + off = (tgt : Int)) (kk : gz_R d y cc nL rt mc ms tgt ls st h Q) : gz_R d y cc nL rt mc ms pc ls st h Q := by
  intro l D N0 ta p e s m args below meth c H locs lsC cells slots MC MS C S Wd L hc hs
  exact lv_goto C.1 C.2.1 hd ht (kk l D N0 ta p e s m args below meth c H locs lsC cells slots MC MS C S Wd L hc hs)
theorem zr_tin {dflt lo hi : Int} {offs : Array Int} {len : Nat} {x : Int32} {off : Int} (tgt : Nat) (hd : decode cc pc = .ok (.tableswitch dflt lo hi offs, len)) (h1 : ¬ x.toInt < lo) (h2 : ¬ hi < x.toInt) (ho : offs[(x.toInt - lo).toNat]? = some off) (ht : (pc : Int) + off = (tgt : Int)) (kk : gz_R d y cc nL rt mc ms tgt ls st h Q) : gz_R d y cc nL rt mc ms pc ls (.int x :: st) h Q := by
  intro l D N0 ta p e s m args below meth c H locs lsC cells slots MC MS C S Wd L hc hs
  exact lv_tableIn C.1 C.2.1 hd h1 h2 ho ht (kk l D N0 ta p e s m args below meth c H locs lsC cells slots MC MS C S Wd L hc hs)
theorem zr_tout {dflt lo hi : Int} {offs : Array Int} {len : Nat} {x : Int32} (tgt : Nat) (hd : decode cc pc = .ok (.tableswitch dflt lo hi offs, len)) (h1 : x.toInt < lo ∨ hi < x.toInt) (ht : (pc : Int) + dflt = (tgt : Int)) (kk : gz_R d y cc nL rt mc ms tgt ls st h Q) : gz_R d y cc nL rt mc ms pc ls (.int x :: st) h Q := by
  intro l D N0 ta p e s m args below meth c H locs lsC cells slots MC MS C S Wd L hc hs
  exact lv_tableOut C.1 C.2.1 hd h1 ht (kk l D N0 ta p e s m args below meth c H locs lsC cells slots MC MS C S Wd L hc hs)
theorem zr_iret {v : Int32} (hd : decode cc pc = .ok (.ireturn, 1)) (hr : rt = some .int) (hq : Q (some (.int v)) h) : gz_R d y cc nL rt mc ms pc ls [.int v] h Q := by
  intro l D N0 ta p e s m args below meth c H locs lsC cells slots MC MS C S Wd L hc hs
  have hlk : meth.locks = false := C.2.2.2.1
  refine W.widen (k := MC) (n := MS) (by omega) (by omega) ?_
  exact W.iret C.1 C.2.1 (C.2.2.1.trans hr) (fun t ht hW => ⟨⟨some (.int v), h, rfl, hq, by rw [ht]; exact Wd.moved hW.alike⟩, S.F ht⟩) S.2.2 hd
theorem zr_zret {v : Int32} (hd : decode cc pc = .ok (.ireturn, 1)) (hr : rt = some .boolean) (hz : narrow .boolean (.int v) = .int v) (hq : Q (some (.int v)) h) : gz_R d y cc nL rt mc ms pc ls [.int v] h Q := by
  intro l D N0 ta p e s m args below meth c H locs lsC cells slots MC MS C S Wd L hc hs
  have hlk : meth.locks = false := C.2.2.2.1
  refine W.widen (k := MC) (n := MS) (by omega) (by omega) ?_
  exact W.zret C.1 C.2.1 (C.2.2.1.trans hr) hz (fun t ht hW => ⟨⟨some (.int v), h, rfl, hq, by rw [ht]; exact Wd.moved hW.alike⟩, S.F ht⟩) S.2.2 hd
theorem zr_vret (hd : decode cc pc = .ok (.return_, 1)) (hr : rt = none) (hq : Q (none) h) : gz_R d y cc nL rt mc ms pc ls [] h Q := by
  intro l D N0 ta p e s m args below meth c H locs lsC cells slots MC MS C S Wd L hc hs
  have hlk : meth.locks = false := C.2.2.2.1
  refine W.widen (k := MC) (n := MS) (by omega) (by omega) ?_
  exact W.vret C.1 C.2.1 (C.2.2.1.trans hr) (fun t ht hW => ⟨⟨none, h, rfl, hq, by rw [ht]; exact Wd.moved hW.alike⟩, S.F ht⟩) S.2.2 hd
/-- what the words say of a field reference -/
def zf_g (own : String) (idx ci k : Nat) : Prop := ∃ (C : String) (T : u_T) (N : Nat), gz_cl[ci]? = some (C, T, N) ∧ k < N ∧ (∀ w ∈ u_ws C T N, w ∈ gz_TB) ∧ Cond.fieldLink own idx (T k).1 (T k).2.1 (T k).2.2.1 ∈ gz_TB
def zf_p (own : String) (idx ci k : Nat) (ty : FieldType) (fin : Bool) : Prop := ∃ (C : String) (T : u_T) (N : Nat) (ty0 : Nat → FieldType), gz_cl[ci]? = some (C, T, N) ∧ k < N ∧ (∀ w ∈ u_ws C T N, w ∈ gz_TB) ∧ Cond.fieldLink own idx (T k).1 (T k).2.1 (T k).2.2.1 ∈ gz_TB ∧ (∀ k, k < N → parseFieldDescriptor (T k).2.2.1 = some (ty0 k)) ∧ (∀ a, a < N → ∀ b, b < N → a ≠ b → (T a).2.1 ≠ (T b).2.1) ∧ (T k).2.2.2 = fin ∧ parseFieldDescriptor (T k).2.2.1 = some ty ∧ (fin = true → (T k).1 = own)
theorem zr_get {a idx ci k : Nat} {fs : List Value} {v : Value} (hf : zf_g y.cls idx ci k) (hd : decode cc pc = .ok (.getfield idx, 3)) (ha : h[a]? = some (.inr (ci, fs))) (hci : ¬ ci = 100) (hv : fs[k]? = some v) (kk : gz_R d y cc nL rt mc ms (pc + 3) ls (v :: st) h Q) : gz_R d y cc nL rt mc ms pc ls (.ref a :: st) h Q := by
  intro l D N0 ta p e s m args below meth c H locs lsC cells slots MC MS C S Wd L hc hs
  obtain ⟨CC, T, N, f1, f2, f3, f4⟩ := hf
  have hcell := Wd.2.2.2 a _ ha
  unfold gz_cell at hcell
  simp only [hci, if_false] at hcell
  have hP : va_P D gz_cl [(gz_ad N0 ta a, .inr (ci, fs.map (gz_cv N0 ta)))] H := fun k q hk => by
    have hz : k < 1 := (List.getElem?_eq_some_iff.mp hk).1
    have h0 : k = 0 := by omega
    subst h0
    cases hk
    exact hcell
  exact va_get (D := D) (ci := ci) (v := gz_cv N0 ta v) (C := CC) (T := T) (N := N) C.1 C.2.1 C.2.2.2.2.2.1 f3 C.2.2.2.2.2.2.1 C.2.2.2.2.2.2.2.2.1 hP 0 rfl f1 k f2 (C.2.2.2.2.2.1 _ f4) (fun _ h9 => h9) (by rw [List.getElem?_map, hv]; rfl) hd (kk l D N0 ta p e s m args below meth c H locs lsC cells slots MC MS C S Wd L hc hs)
theorem zr_iald {a n : Nat} {f : Nat → Int32} {i : Int32} (hd : decode cc pc = .ok (.iaload, 1)) (ha : h[a]? = some (.inl (.int, n, f))) (hi : vp_in i n) (kk : gz_R d y cc nL rt mc ms (pc + 1) ls (.int (f i.toNatClampNeg) :: st) h Q) : gz_R d y cc nL rt mc ms pc ls (.int i :: .ref a :: st) h Q := by
  intro l D N0 ta p e s m args below meth c H locs lsC cells slots MC MS C S Wd L hc hs
  obtain ⟨cell, g1, g2, g3, g4, g5, g6⟩ := Wd.2.2.2 a _ ha
  have hlt : i.toNatClampNeg < n := Nat.not_le.mp fun q => hi (Or.inr q)
  exact W.iald (v := .int (f i.toNatClampNeg)) C.1 C.2.1 g1 g2 g3 (fun q => hi (q.imp id (fun q => Nat.le_trans g4 q))) (g6 _ hlt) rfl rfl hd (kk l D N0 ta p e s m args below meth c H locs lsC cells slots MC MS C S Wd L hc hs)
theorem zr_zald {a n : Nat} {f : Nat → Int32} {i : Int32} (hd : decode cc pc = .ok (.baload, 1)) (ha : h[a]? = some (.inl (.boolean, n, f))) (hi : vp_in i n) (kk : gz_R d y cc nL rt mc ms (pc + 1) ls (.int (f i.toNatClampNeg) :: st) h Q) : gz_R d y cc nL rt mc ms pc ls (.int i :: .ref a :: st) h Q := by
  intro l D N0 ta p e s m args below meth c H locs lsC cells slots MC MS C S Wd L hc hs
  obtain ⟨cell, g1, g2, g3, g4, g5, g6⟩ := Wd.2.2.2 a _ ha
  have hlt : i.toNatClampNeg < n := Nat.not_le.mp fun q => hi (Or.inr q)
  exact W.zald (v := .int (f i.toNatClampNeg)) C.1 C.2.1 g1 g2 g3 (fun q => hi (q.imp id (fun q => Nat.le_trans g4 q))) (g6 _ hlt) rfl rfl hd (kk l D N0 ta p e s m args below meth c H locs lsC cells slots MC MS C S Wd L hc hs)
theorem zr_aald {a : Nat} {fs : List Value} {i : Int32} {v : Value} (hd : decode cc pc = .ok (.aaload, 1)) (ha : h[a]? = some (.inr (100, fs))) (hi : vp_in i fs.length) (hv : fs[i.toNatClampNeg]? = some v) (kk : gz_R d y cc nL rt mc ms (pc + 1) ls (v :: st) h Q) : gz_R d y cc nL rt mc ms pc ls (.int i :: .ref a :: st) h Q := by
  intro l D N0 ta p e s m args below meth c H locs lsC cells slots MC MS C S Wd L hc hs
  have hcell := Wd.2.2.2 a _ ha
  unfold gz_cell at hcell
  simp only [if_true] at hcell
  obtain ⟨cell, g1, g2, g3, g4, g5⟩ := hcell
  exact W.aald (v := gz_cv N0 ta v) C.1 C.2.1 g1 g2 rfl g3 (by rw [g4]; exact hi) (g5 _ _ hv) rfl rfl hd (kk l D N0 ta p e s m args below meth c H locs lsC cells slots MC MS C S Wd L hc hs)
theorem zr_alen {a n : Nat} {ty : FieldType} {f : Nat → Int32} (hd : decode cc pc = .ok (.arraylength, 1)) (ha : h[a]? = some (.inl (ty, n, f))) (kk : gz_R d y cc nL rt mc ms (pc + 1) ls (.int (Int32.ofNat n) :: st) h Q) : gz_R d y cc nL rt mc ms pc ls (.ref a :: st) h Q := by
  intro l D N0 ta p e s m args below meth c H locs lsC cells slots MC MS C S Wd L hc hs
  obtain ⟨cell, g1, g2, g3, g4, g5, g6⟩ := Wd.2.2.2 a _ ha
  exact W.alen (n := Int32.ofNat n) C.1 C.2.1 g1 g2 g5 rfl rfl hd (kk l D N0 ta p e s m args below meth c H locs lsC cells slots MC MS C S Wd L hc hs)
theorem zr_iast {a n : Nat} {f : Nat → Int32} {i x : Int32} (hd : decode cc pc = .ok (.iastore, 1)) (h11 : 11 ≤ a) (ha : h[a]? = some (.inl (.int, n, f))) (hi : vp_in i n)  (kk : gz_R d y cc nL rt mc ms (pc + 1) ls st (h.set a (.inl (.int, n, upd f i.toNatClampNeg x))) Q) : gz_R d y cc nL rt mc ms pc ls (.int x :: .int i :: .ref a :: st) h Q := by
  intro l D N0 ta p e s m args below meth c H locs lsC cells slots MC MS C S Wd L hc hs
  obtain ⟨cell, g1, g2, g3, g4, g5, g6⟩ := Wd.2.2.2 a _ ha
  have hlt : i.toNatClampNeg < n := Nat.not_le.mp fun q => hi (Or.inr q)
  refine W.iast C.1 C.2.1 g1 g2 g3 (fun q => hi (q.imp id (fun q => Nat.le_trans g4 q))) rfl rfl hd fun H1 e1 z1 o1 => ?_
  
  have hadr : N0 ≤ gz_ad N0 ta a := by unfold gz_ad; rw [if_neg (Nat.not_lt.mpr h11)]; omega
  refine kk l D N0 ta p e s m args below meth c H1 _ lsC cells slots MC MS C (S.put z1 o1 hadr) (Wd.set h11 z1 ⟨_, e1, g2, g3, by show n ≤ (cell.slots.setIfInBounds _ _).size; rw [Array.size_setIfInBounds]; exact g4, by show (cell.slots.setIfInBounds _ _).size.toInt32 = _; rw [Array.size_setIfInBounds]; exact g5, fun j hj => ?_⟩ o1) L hc hs
  show (cell.slots.setIfInBounds _ _)[j]? = _
  rw [Array.getElem?_setIfInBounds]
  by_cases e : i.toNatClampNeg = j
  · subst e
    rw [if_pos rfl, if_pos (Nat.lt_of_lt_of_le hlt g4)]
    simp [upd]
  · rw [if_neg e, g6 j hj]
    simp [upd, Ne.symm e]
theorem zr_zast {a n : Nat} {f : Nat → Int32} {i x : Int32} (hd : decode cc pc = .ok (.bastore, 1)) (h11 : 11 ≤ a) (ha : h[a]? = some (.inl (.boolean, n, f))) (hi : vp_in i n) (hz : narrow .boolean (.int x) = .int x) (kk : gz_R d y cc nL rt mc ms (pc + 1) ls st (h.set a (.inl (.boolean, n, upd f i.toNatClampNeg x))) Q) : gz_R d y cc nL rt mc ms pc ls (.int x :: .int i :: .ref a :: st) h Q := by
  intro l D N0 ta p e s m args below meth c H locs lsC cells slots MC MS C S Wd L hc hs
  obtain ⟨cell, g1, g2, g3, g4, g5, g6⟩ := Wd.2.2.2 a _ ha
  have hlt : i.toNatClampNeg < n := Nat.not_le.mp fun q => hi (Or.inr q)
  refine W.zast C.1 C.2.1 g1 g2 g3 (fun q => hi (q.imp id (fun q => Nat.le_trans g4 q))) rfl rfl hd fun H1 e1 z1 o1 => ?_
  rw [hz] at e1
  have hadr : N0 ≤ gz_ad N0 ta a := by unfold gz_ad; rw [if_neg (Nat.not_lt.mpr h11)]; omega
  refine kk l D N0 ta p e s m args below meth c H1 _ lsC cells slots MC MS C (S.put z1 o1 hadr) (Wd.set h11 z1 ⟨_, e1, g2, g3, by show n ≤ (cell.slots.setIfInBounds _ _).size; rw [Array.size_setIfInBounds]; exact g4, by show (cell.slots.setIfInBounds _ _).size.toInt32 = _; rw [Array.size_setIfInBounds]; exact g5, fun j hj => ?_⟩ o1) L hc hs
  show (cell.slots.setIfInBounds _ _)[j]? = _
  rw [Array.getElem?_setIfInBounds]
  by_cases e : i.toNatClampNeg = j
  · subst e
    rw [if_pos rfl, if_pos (Nat.lt_of_lt_of_le hlt g4)]
    simp [upd]
  · rw [if_neg e, g6 j hj]
    simp [upd, Ne.symm e]
theorem zr_put {a idx ci k : Nat} {fs : List Value} {ty : FieldType} {v : Value} (hf : zf_p y.cls idx ci k ty false)  (hd : decode cc pc = .ok (.putfield idx, 3)) (h11 : 11 ≤ a) (ha : h[a]? = some (.inr (ci, fs))) (hci : ¬ ci = 100) (hn : ∀ (N0 : Nat) (ta : Nat → Nat), narrow ty (gz_cv N0 ta v) = gz_cv N0 ta v) (hfit : ∀ (N0 : Nat) (ta : Nat → Nat), fits ty (gz_cv N0 ta v) = true) (hl : k < fs.length) (kk : gz_R d y cc nL rt mc ms (pc + 3) ls st (h.set a (.inr (ci, fs.set k v))) Q) : gz_R d y cc nL rt mc ms pc ls (v :: .ref a :: st) h Q := by
  intro l D N0 ta p e s m args below meth c H locs lsC cells slots MC MS C S Wd L hc hs
  obtain ⟨CC, T, N, ty0, f1, f2, f3, f4, hty, hnm, hfin, hdty, hdecl⟩ := hf
  have hcell := Wd.2.2.2 a _ ha
  unfold gz_cell at hcell
  simp only [hci, if_false] at hcell
  have hK := C.2.2.2.2.2.2.2.2.1
  have hts := C.2.2.2.2.2.1
  have hown := C.2.2.2.2.2.2.1
  have hap := va_apart (own := y.cls) hts f3 ty0 hty hnm hK f1
  obtain ⟨r, h1, cell, q1, q2, q3, q4⟩ := hcell
  have hr : r = (CC, T, N) := Option.some.inj (h1.symm.trans f1)
  subst hr
  obtain ⟨hS, hfc, kC, hkC, hkind⟩ := hK.1 ci _ f1
  obtain ⟨cf, kf, fi, f, hi, hsl⟩ := hS k f2
  have hlay := hts _ (f3 _ (u_in_lay f2))
  unfold u_lay at hlay
  rw [if_neg (by rw [hfin]; decide)] at hlay
  have hst := (u_facts hfc hkC (u_lays hts f3 f2) hi).1
  have h6 := u_store hfc hkC hkind hlay hi hdty (hn N0 ta) (hfit N0 ta)
  refine W.putK C.1 C.2.1 (f := f) (v := gz_cv N0 ta v) ⟨hown, hts _ f4, ⟨_, _, _, hi⟩, hst⟩ (by rw [q2]; exact h6) q1 q3 (by rw [hsl]; exact k2_hasslot (q4 k f2)) rfl rfl hd fun H' e1 e2 e3 => ?_
  rw [hsl] at e1 ⊢
  have hadr : N0 ≤ gz_ad N0 ta a := by unfold gz_ad; rw [if_neg (Nat.not_lt.mpr h11)]; omega
  have hl' : k < (fs.map (gz_cv N0 ta)).length := by rw [List.length_map]; exact hl
  refine kk l D N0 ta p e s m args below meth c H' _ lsC cells slots MC MS C (S.put e2 e3 hadr) (Wd.set h11 e2 ?_ e3) L hc hs
  unfold gz_cell
  simp only [hci, if_false]
  rw [List.map_set]
  exact ⟨_, f1, t_OB.to (V := updV (vp_V (fs.map (gz_cv N0 ta))) k (gz_cv N0 ta v)) ⟨_, e1, q2, q3, t_set q4 hap f2 (gz_cv N0 ta v)⟩ (fun j _ => vp_updV_set hl' (gz_cv N0 ta v) j)⟩
theorem zr_putF {a idx ci k : Nat} {fs : List Value} {ty : FieldType} {v : Value} (hf : zf_p y.cls idx ci k ty true) (hin2 : y.name = "<init>") (hd : decode cc pc = .ok (.putfield idx, 3)) (h11 : 11 ≤ a) (ha : h[a]? = some (.inr (ci, fs))) (hci : ¬ ci = 100) (hn : ∀ (N0 : Nat) (ta : Nat → Nat), narrow ty (gz_cv N0 ta v) = gz_cv N0 ta v) (hfit : ∀ (N0 : Nat) (ta : Nat → Nat), fits ty (gz_cv N0 ta v) = true) (hl : k < fs.length) (kk : gz_R d y cc nL rt mc ms (pc + 3) ls st (h.set a (.inr (ci, fs.set k v))) Q) : gz_R d y cc nL rt mc ms pc ls (v :: .ref a :: st) h Q := by
  intro l D N0 ta p e s m args below meth c H locs lsC cells slots MC MS C S Wd L hc hs
  obtain ⟨CC, T, N, ty0, f1, f2, f3, f4, hty, hnm, hfin, hdty, hdecl⟩ := hf
  have hcell := Wd.2.2.2 a _ ha
  unfold gz_cell at hcell
  simp only [hci, if_false] at hcell
  have hK := C.2.2.2.2.2.2.2.2.1
  have hts := C.2.2.2.2.2.1
  have hown := C.2.2.2.2.2.2.1
  have hap := va_apart (own := y.cls) hts f3 ty0 hty hnm hK f1
  obtain ⟨r, h1, cell, q1, q2, q3, q4⟩ := hcell
  have hr : r = (CC, T, N) := Option.some.inj (h1.symm.trans f1)
  subst hr
  obtain ⟨hS, hfc, kC, hkC, hkind⟩ := hK.1 ci _ f1
  obtain ⟨cf, kf, fi, f, hi, hsl⟩ := hS k f2
  have hlay := hts _ (f3 _ (u_in_lay f2))
  unfold u_lay at hlay
  rw [if_pos hfin] at hlay
  have hst := (u_facts hfc hkC (u_lays hts f3 f2) hi).1
  have hcf : m.cls = cf := by
    obtain ⟨_, _, c', _, _, _, -, -, hf', -, -, -, hown2, -⟩ := Cond.laysFinal_spec hlay
    have e1 : c' = cf := by have := hi.symm.trans hf'; simp at this; exact this.1.symm
    rw [hdecl rfl] at hown2
    rw [← e1]; exact Option.some.inj (hown.symm.trans hown2)
  have h6 := u_fits hfc hkC hkind (Or.inr hlay) hi hdty (hn N0 ta) (hfit N0 ta)
  refine W.putFinK C.1 C.2.1 (v := gz_cv N0 ta v) hown (hts _ f4) hi hst hcf (by rw [C.2.2.2.2.2.2.2.1]; exact hin2) (by rw [q2]; exact h6) q1 q3 (by rw [hsl]; exact k2_hasslot (q4 k f2)) rfl rfl hd fun H' e1 e2 e3 => ?_
  rw [hsl] at e1 ⊢
  have hadr : N0 ≤ gz_ad N0 ta a := by unfold gz_ad; rw [if_neg (Nat.not_lt.mpr h11)]; omega
  have hl' : k < (fs.map (gz_cv N0 ta)).length := by rw [List.length_map]; exact hl
  refine kk l D N0 ta p e s m args below meth c H' _ lsC cells slots MC MS C (S.put e2 e3 hadr) (Wd.set h11 e2 ?_ e3) L hc hs
  unfold gz_cell
  simp only [hci, if_false]
  rw [List.map_set]
  exact ⟨_, f1, t_OB.to (V := updV (vp_V (fs.map (gz_cv N0 ta))) k (gz_cv N0 ta v)) ⟨_, e1, q2, q3, t_set q4 hap f2 (gz_cv N0 ta v)⟩ (fun j _ => vp_updV_set hl' (gz_cv N0 ta v) j)⟩
theorem zr_gets {j idx : Nat} {q : String × String} (hj : gz_st[j]? = some q) (h10 : j < 10) (hw : Cond.fieldLink y.cls idx q.1 q.2 "[I" ∈ gz_TB) (hd : decode cc pc = .ok (.getstatic idx, 3)) (kk : gz_R d y cc nL rt mc ms (pc + 3) ls (.ref j :: st) h Q) : gz_R d y cc nL rt mc ms pc ls st h Q := by
  intro l D N0 ta p e s m args below meth c H locs lsC cells slots MC MS C S Wd L hc hs
  have hZ := C.2.2.2.2.2.2.2.2.2.1 j q hj
  have eT : gz_ad N0 ta j = ta j := by unfold gz_ad; rw [if_pos (by omega)]
  refine va_gets C.1 C.2.1 hZ S C.2.2.2.2.2.2.1 (C.2.2.2.2.2.1 _ hw) (fun _ h9 => h9) hd ?_
  have W1 := kk l D N0 ta p e s m args below meth c H locs lsC cells slots MC MS C S Wd L hc hs
  have e3 : gz_cv N0 ta (.ref j) = .ref (ta j) := by show Value.ref (gz_ad N0 ta j) = _; rw [eT]
  rw [List.map_cons, e3] at W1
  exact W1
end ZR
