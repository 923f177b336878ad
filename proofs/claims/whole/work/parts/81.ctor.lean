/-! ===== the making: every constructor over an exact heap ===== -/
theorem gn_at {h0 : gz_AH} {a : Nat} (ha : h0.length = a) (tl : List gz_AC) (j : Nat) : (h0 ++ tl)[a + j]? = tl[j]? := by
  subst ha
  rw [List.getElem?_append_right (by omega), Nat.add_sub_cancel_left]
theorem gn_set {h0 : gz_AH} {a : Nat} (ha : h0.length = a) (tl : List gz_AC) (j : Nat) (c : gz_AC) : (h0 ++ tl).set (a + j) c = h0 ++ tl.set j c := by
  subst ha
  rw [List.set_append_right _ _ (by omega), Nat.add_sub_cancel_left]
section ZN
variable {d d' : Nat} {y y' : MethodName} {cc cc' : ByteArray} {nL nL' : Nat} {rt rt' : Option FieldType} {mc ms mc' ms' pc : Nat} {ls : List (Option Value)} {st rest : List Value} {h0 : gz_AH} {o : gz_AC} {tl tl' : List gz_AC} {a : Nat} {Q : Option Value → gz_AH → Prop}
theorem gn_len (ha : h0.length = a) : (h0 ++ o :: tl).length = a + 1 + tl.length := by
  rw [List.length_append, List.length_cons, ha]
  omega
theorem gn_app (c : List gz_AC) : (h0 ++ o :: tl) ++ c = h0 ++ o :: (tl ++ c) := by
  rw [List.append_assoc, List.cons_append]
theorem zn_newa {at_ : ArrayType} {n : Int32} {N b : Nat} {ty : FieldType} (ha : h0.length = a) (hw : Cond.arrayClass ty ∈ gz_TB) (hty : newarray.typeOf at_ = ty) (hdv : defaultValue ty = .int 0) (hn : decide (n < 0) = false) (hN : n.toNatClampNeg = N) (hN2 : Nat.ble N 1000 = true) (hb : Nat.ble (componentBytes ty) 8 = true) (hd : decode cc pc = .ok (.newarray at_, 2)) (hmc : Nat.ble 1 mc = true) (hms : Nat.ble N ms = true) (eb : a + 1 + tl.length = b) (et : tl ++ [.inl (ty, N, fun _ => 0)] = tl')
    (kk : gz_R d y cc nL rt (mc - 1) (ms - N) (pc + 2) ls (.ref b :: st) (h0 ++ o :: tl') Q) : gz_R d y cc nL rt mc ms pc ls (.int n :: st) (h0 ++ o :: tl) Q := by
  refine zr_newa hw hty hdv (of_decide_eq_false hn) hN (Nat.le_of_ble_eq_true hN2) (Nat.le_of_ble_eq_true hb) hd (Nat.le_of_ble_eq_true hmc) (Nat.le_of_ble_eq_true hms) ?_
  rw [gn_len ha, eb, gn_app, et]
  exact kk
theorem zn_new {idx ci N b : Nat} {CC : String} {T : u_T} {ty : Nat → FieldType} {fs : List Value} (ha : h0.length = a) (hci : (ci == 100) = false) (hcl : gz_cl[ci]? = some (CC, T, N)) (hin : ∀ w ∈ u_ws CC T N, w ∈ gz_TB) (hty : ∀ k, k < N → parseFieldDescriptor (T k).2.2.1 = some (ty k)) (hw1 : Cond.classLink y.cls idx CC ∈ gz_TB) (hw2 : Cond.instantiable CC N ∈ gz_TB) (hw3 : Cond.initialized CC ∈ gz_TB) (hfs : ∀ j, j < N → defaultValue (ty j) = vp_V fs j) (hfc : ∀ (N0 : Nat) (ta : Nat → Nat), fs.map (gz_cv N0 ta) = fs) (hd : decode cc pc = .ok (.new idx, 3)) (hmc : Nat.ble 1 mc = true) (hms : Nat.ble N ms = true) (eb : a + 1 + tl.length = b)
    (kk : gz_R d y cc nL rt (mc - 1) (ms - N) (pc + 3) ls (.ref b :: st) (h0 ++ o :: (tl ++ [.inr (ci, fs)])) Q) : gz_R d y cc nL rt mc ms pc ls st (h0 ++ o :: tl) Q := by
  refine zr_new (by simpa using hci) hcl hin hty hw1 hw2 hw3 hfs hfc hd (Nat.le_of_ble_eq_true hmc) (Nat.le_of_ble_eq_true hms) ?_
  rw [gn_len ha, eb, gn_app]
  exact kk
theorem zn_putF {idx ci k : Nat} {fs fs' : List Value} {ty : FieldType} {v : Value} (ha : h0.length = a) (h11 : 11 ≤ a) (hf : zf_p y.cls idx ci k ty true) (hin2 : y.name = "<init>") (hd : decode cc pc = .ok (.putfield idx, 3)) (hci : (ci == 100) = false) (hn : ∀ (N0 : Nat) (ta : Nat → Nat), narrow ty (gz_cv N0 ta v) = gz_cv N0 ta v) (hfit : ∀ (N0 : Nat) (ta : Nat → Nat), fits ty (gz_cv N0 ta v) = true) (hl : Nat.ble (k + 1) fs.length = true) (ef : fs.set k v = fs') (kk : gz_R d y cc nL rt mc ms (pc + 3) ls st (h0 ++ .inr (ci, fs') :: tl) Q) : gz_R d y cc nL rt mc ms pc ls (v :: .ref a :: st) (h0 ++ .inr (ci, fs) :: tl) Q := by
  refine zr_putF hf hin2 hd h11 (by have := gn_at ha (.inr (ci, fs) :: tl) 0; exact this) (by simpa using hci) hn hfit (Nat.le_of_ble_eq_true hl) ?_
  have := gn_set ha (.inr (ci, fs) :: tl) 0 (.inr (ci, fs.set k v))
  rw [Nat.add_zero] at this
  rw [this, ef]
  exact kk
theorem zn_put {idx ci k : Nat} {fs fs' : List Value} {ty : FieldType} {v : Value} (ha : h0.length = a) (h11 : 11 ≤ a) (hf : zf_p y.cls idx ci k ty false) (hd : decode cc pc = .ok (.putfield idx, 3)) (hci : (ci == 100) = false) (hn : ∀ (N0 : Nat) (ta : Nat → Nat), narrow ty (gz_cv N0 ta v) = gz_cv N0 ta v) (hfit : ∀ (N0 : Nat) (ta : Nat → Nat), fits ty (gz_cv N0 ta v) = true) (hl : Nat.ble (k + 1) fs.length = true) (ef : fs.set k v = fs') (kk : gz_R d y cc nL rt mc ms (pc + 3) ls st (h0 ++ .inr (ci, fs') :: tl) Q) : gz_R d y cc nL rt mc ms pc ls (v :: .ref a :: st) (h0 ++ .inr (ci, fs) :: tl) Q := by
  refine zr_put hf hd h11 (by have := gn_at ha (.inr (ci, fs) :: tl) 0; exact this) (by simpa using hci) hn hfit (Nat.le_of_ble_eq_true hl) ?_
  have := gn_set ha (.inr (ci, fs) :: tl) 0 (.inr (ci, fs.set k v))
  rw [Nat.add_zero] at this
  rw [this, ef]
  exact kk
theorem zn_get {idx ci k : Nat} {fs : List Value} {v : Value} (ha : h0.length = a) (hf : zf_g y.cls idx ci k) (hd : decode cc pc = .ok (.getfield idx, 3)) (hci : (ci == 100) = false) (hv : fs[k]? = some v) (kk : gz_R d y cc nL rt mc ms (pc + 3) ls (v :: st) (h0 ++ .inr (ci, fs) :: tl) Q) : gz_R d y cc nL rt mc ms pc ls (.ref a :: st) (h0 ++ .inr (ci, fs) :: tl) Q :=
  zr_get hf hd (by have := gn_at ha (.inr (ci, fs) :: tl) 0; exact this) (by simpa using hci) hv kk
theorem zn_obj {idx k : Nat} (hw : Cond.methodLink y.cls idx Lib.objectInit ∈ gz_TB) (hd : decode cc pc = .ok (.invokespecial idx, 3)) (hdd : Nat.ble 1 d = true) (hcat : Nat.ble (rest.map fun v => v.category).sum 8 = true) (kk : gz_R d y cc nL rt mc ms (pc + 3) ls rest h0 Q) : gz_R d y cc nL rt mc ms pc ls (.ref k :: rest) h0 Q :=
  zr_obj hw zo_i zo_c hd (Nat.le_of_ble_eq_true hdd) (Nat.le_of_ble_eq_true hcat) kk
theorem zn_mna {idx b : Nat} (ha : h0.length = a) (hw1 : Cond.classLink y.cls idx ("[" ++ (FieldType.array .int).toString) ∈ gz_TB) (hd : decode cc pc = .ok (.multianewarray idx 2, 4)) (hmc : Nat.ble 4 mc = true) (hms : Nat.ble 63 ms = true) (eb : a + 1 + tl.length = b) (et : tl ++ [.inr (100, [.ref (b + 1), .ref (b + 2), .ref (b + 3)]), .inl (.int, 20, fun _ => 0), .inl (.int, 20, fun _ => 0), .inl (.int, 20, fun _ => 0)] = tl')
    (kk : gz_R d y cc nL rt (mc - 4) (ms - 63) (pc + 4) ls (.ref b :: st) (h0 ++ o :: tl') Q) : gz_R d y cc nL rt mc ms pc ls (.int 20 :: .int 3 :: st) (h0 ++ o :: tl) Q := by
  refine zr_mna hw1 zv_int hd (Nat.le_of_ble_eq_true hmc) (Nat.le_of_ble_eq_true hms) ?_
  rw [gn_len ha, eb, gn_app, gn_app, gn_app, gn_app]
  subst et
  simpa using kk
/-- a constructor's contract: the object at b, whatever lies ahead of it and behind -/
def gn_K (d : Nat) (y : MethodName) (cc : ByteArray) (nL mc ms b : Nat) (As : List Value) (nw : gz_AC) (r : List gz_AC) (res : List gz_AC) : Prop :=
  ∀ h1 : gz_AH, h1.length = b → gz_M d y cc nL none mc ms (.ref b :: As) (h1 ++ nw :: r) (fun v h' => v = none ∧ h' = h1 ++ res)
theorem zn_ctI {idx b n : Nat} {As : List Value} {tl1 r res : List gz_AC} {nw : gz_AC} (ha : h0.length = a) (hM : gn_K d' y' cc' nL' mc' ms' b As nw r res) (hw : zc_I y.cls idx y' cc' nL' n) (hn : As.length = n) (hd : decode cc pc = .ok (.invokespecial idx, 3)) (hdd : Nat.ble (d' + 1) d = true) (hmc : Nat.ble mc' mc = true) (hms : Nat.ble ms' ms = true) (hst : st = As.reverse ++ .ref b :: rest) (hcat : Nat.ble (rest.map fun v => v.category).sum 8 = true) (et : tl = tl1 ++ nw :: r) (eb : a + 1 + tl1.length = b) (et' : tl1 ++ res = tl')
    (kk : gz_R d y cc nL rt (mc - mc') (ms - ms') (pc + 3) ls rest (h0 ++ o :: tl') Q) : gz_R d y cc nL rt mc ms pc ls st (h0 ++ o :: tl) Q := by
  subst et hn
  have e1 : (h0 ++ o :: tl1).length = b := (gn_len ha).trans eb
  rw [← gn_app]
  refine zr_callI (hM _ e1) hw hd (Nat.le_of_ble_eq_true hdd) (Nat.le_of_ble_eq_true hmc) (Nat.le_of_ble_eq_true hms) hst (Nat.le_of_ble_eq_true hcat) (fun r' h' q => ?_)
  obtain ⟨rfl, rfl⟩ := q
  rw [gn_app, et']
  exact kk
theorem zn_ctN {idx b n : Nat} {As : List Value} {tl1 r res : List gz_AC} {nw : gz_AC} (ha : h0.length = a) (hM : gn_K d' y' cc' nL' mc' ms' b As nw r res) (hw : zc_N y.cls idx y' cc' nL' n) (hn : As.length = n) (hd : decode cc pc = .ok (.invokespecial idx, 3)) (hdd : Nat.ble (d' + 1) d = true) (hmc : Nat.ble mc' mc = true) (hms : Nat.ble ms' ms = true) (hst : st = As.reverse ++ .ref b :: rest) (hcat : Nat.ble (rest.map fun v => v.category).sum 8 = true) (et : tl = tl1 ++ nw :: r) (eb : a + 1 + tl1.length = b) (et' : tl1 ++ res = tl')
    (kk : gz_R d y cc nL rt (mc - mc') (ms - ms') (pc + 3) ls rest (h0 ++ o :: tl') Q) : gz_R d y cc nL rt mc ms pc ls st (h0 ++ o :: tl) Q := by
  subst et hn
  have e1 : (h0 ++ o :: tl1).length = b := (gn_len ha).trans eb
  rw [← gn_app]
  refine zr_callN (hM _ e1) hw hd (Nat.le_of_ble_eq_true hdd) (Nat.le_of_ble_eq_true hmc) (Nat.le_of_ble_eq_true hms) hst (Nat.le_of_ble_eq_true hcat) (fun r' h' q => ?_)
  obtain ⟨rfl, rfl⟩ := q
  rw [gn_app, et']
  exact kk
theorem gn_K.of {b : Nat} {As : List Value} {nw : gz_AC} {r res : List gz_AC} (hy : plainName y.cls = true) (hn : Nat.ble (gz_ent (.ref b :: As)).length nL = true)
    (k : ∀ h1 : gz_AH, h1.length = b → gz_R d y cc nL none mc ms 0 (gz_pad nL (gz_ent (.ref b :: As))) [] (h1 ++ nw :: r) (fun v h' => v = none ∧ h' = h1 ++ res)) : gn_K d y cc nL mc ms b As nw r res :=
  fun h1 hb => gz_M.of hy (Nat.le_of_ble_eq_true hn) (k h1 hb)
end ZN
def gn_f (n : Nat) (x : Int32) (f : Nat → Int32) : Nat → Int32 := fun j => if j < n then x else f j
theorem gn_f_up (n : Nat) (x : Int32) (f : Nat → Int32) : upd (gn_f n x f) n x = gn_f (n + 1) x f := by
  funext j
  unfold gn_f upd
  by_cases e : j = n
  · subst e
    simp
  · by_cases h : j < n
    · have h2 : j < n + 1 := by omega
      simp [e, h, h2]
    · have h2 : ¬ j < n + 1 := by omega
      simp [e, h, h2]
theorem gn_fill (h : gz_AH) (k n : Nat) (f : Nat → Int32) (x : Int32) (hk : h[k]? = some (.inl (.int, n, f))) (h11 : 11 ≤ k) (hn : n ≤ 1000) : gz_M 0 yJ7_fill_53178 cJ7_fill_53178 4 none 0 0 [.ref k, .int x] h (fun r h' => r = none ∧ h' = h.set k (.inl (.int, n, gn_f n x f))) := by
  have hkl : k < h.length := (List.getElem?_eq_some_iff.mp hk).1
  refine gz_M.of rfl (Nat.le_of_ble_eq_true rfl) ?_
  refine zr_iconst (v := 0) dJ7_fill_53178_0 kc_iconst_0 ?_
  refine zr_istore_n dJ7_fill_53178_1 (by decide) rfl ?_
  refine zr_aload_n dJ7_fill_53178_2 rfl ?_
  refine zr_alen dJ7_fill_53178_3 hk ?_
  refine zr_istore_n dJ7_fill_53178_4 (by decide) rfl ?_
  have key : ∀ i (t : Unit), i ≤ n → True → gz_R 0 yJ7_fill_53178 cJ7_fill_53178 4 none 0 0 5 [some (.ref k), some (.int x), some (.int (nI i)), some (.int (Int32.ofNat n))] [] (h.set k (.inl (.int, n, gn_f i x f))) (fun r h' => r = none ∧ h' = h.set k (.inl (.int, n, gn_f n x f))) := by
    refine zl_up n (fun _ _ => True) (fun i _ => gz_R 0 yJ7_fill_53178 cJ7_fill_53178 4 none 0 0 5 [some (.ref k), some (.int x), some (.int (nI i)), some (.int (Int32.ofNat n))] [] (h.set k (.inl (.int, n, gn_f i x f))) (fun r h' => r = none ∧ h' = h.set k (.inl (.int, n, gn_f n x f)))) ?_ ?_
    · intro _ _
      refine zr_iload_n dJ7_fill_53178_5 rfl ?_
      refine zr_iload_n dJ7_fill_53178_6 rfl ?_
      refine zr_icmp_ge 20 dJ7_fill_53178_7 (by decide) (fun _ => ?_) (fun q => absurd (Int32.le_refl _) q)
      exact zr_vret dJ7_fill_53178_20 rfl ⟨rfl, rfl⟩
    · intro i _ hi _ ih
      refine zr_iload_n dJ7_fill_53178_5 rfl ?_
      refine zr_iload_n dJ7_fill_53178_6 rfl ?_
      refine zr_icmp_ge 20 dJ7_fill_53178_7 (by decide) (fun q => absurd q (nI_ge hi (by omega))) (fun _ => ?_)
      refine zr_aload_n dJ7_fill_53178_10 rfl ?_
      refine zr_iload_n dJ7_fill_53178_11 rfl ?_
      refine zr_iload_n dJ7_fill_53178_12 rfl ?_
      refine zr_iast (n := n) (f := gn_f i x f) dJ7_fill_53178_13 h11 (List.getElem?_set_self hkl) (vp_in_nI hi (by omega)) ?_
      rw [nI_clamp (by omega), gn_f_up, List.set_set]
      refine zr_iinc dJ7_fill_53178_14 rfl (kc_inc i) rfl ?_
      refine zr_goto 5 dJ7_fill_53178_17 (by decide) ?_
      exact ih () trivial
  have e0 : h.set k (.inl (.int, n, gn_f 0 x f)) = h := by
    have e1 : gn_f 0 x f = f := by funext j; simp [gn_f]
    rw [e1]
    apply List.ext_getElem?
    intro j
    by_cases e : j = k
    · subst e
      rw [List.getElem?_set_self hkl, hk]
    · rw [List.getElem?_set_ne (Ne.symm e)]
  have := key 0 () (Nat.zero_le _) trivial
  rw [e0] at this
  exact this
theorem zn_fill {d : Nat} {y : MethodName} {cc : ByteArray} {nL : Nat} {rt : Option FieldType} {mc ms pc : Nat} {ls : List (Option Value)} {rest : List Value} {h0 : gz_AH} {o : gz_AC} {tl tl' : List gz_AC} {a idx n b j : Nat} {f : Nat → Int32} {x : Int32} {Q : Option Value → gz_AH → Prop} (ha : h0.length = a) (h11 : 11 ≤ a) (hw : zc_S y.cls idx yJ7_fill_53178 cJ7_fill_53178 4 none 2) (hd : decode cc pc = .ok (.invokestatic idx, 3)) (hdd : Nat.ble 1 d = true) (hcat : Nat.ble (rest.map fun v => v.category).sum 8 = true) (eb : a + (1 + j) = b) (hk : tl[j]? = some (.inl (.int, n, f))) (hn : Nat.ble n 1000 = true) (et : tl.set j (.inl (.int, n, gn_f n x f)) = tl')
    (kk : gz_R d y cc nL rt mc ms (pc + 3) ls rest (h0 ++ o :: tl') Q) : gz_R d y cc nL rt mc ms pc ls (.int x :: .ref b :: rest) (h0 ++ o :: tl) Q := by
  subst eb
  have hk2 : (h0 ++ o :: tl)[a + (1 + j)]? = some (.inl (.int, n, f)) := by
    rw [gn_at ha, Nat.add_comm 1 j]
    exact hk
  refine zr_callS (As := [.ref (a + (1 + j)), .int x]) (gn_fill _ _ n f x hk2 (by omega) (Nat.le_of_ble_eq_true hn)) hw hd (Nat.le_of_ble_eq_true hdd) (Nat.zero_le _) (Nat.zero_le _) rfl (Nat.le_of_ble_eq_true hcat) (fun r h' q => ?_)
  obtain ⟨rfl, rfl⟩ := q
  rw [gn_set ha, Nat.add_comm 1 j, List.set_cons_succ, et]
  exact kk

def gi_2 (a : Nat) : List gz_AC := [.inr (2, [.int 0, .int 0, .int 0, .int 0, .ref (a + 1), .ref (a + 2), .ref (a + 3), .ref (a + 4), .ref (a + 5), .ref (a + 6), .ref (a + 7), .ref (a + 8), .ref (a + 9), .ref (a + 10)]), .inl (.int, 80, fun _ => 0), .inl (.int, 80, fun _ => 0), .inl (.int, 80, fun _ => 0), .inl (.int, 80, fun _ => 0), .inl (.int, 80, fun _ => 0), .inl (.boolean, 80, fun _ => 0), .inl (.int, 20, fun _ => 0), .inl (.int, 20, fun _ => 0), .inl (.int, 20, fun _ => 0), .inl (.int, 8, fun _ => 0)]
theorem ck_2 (a : Nat) (h11 : 11 ≤ a) : gn_K 1 yX2_init cX2_init 1 10 548 a [] (.inr (2, [.int 0, .int 0, .int 0, .int 0, .null, .null, .null, .null, .null, .null, .null, .null, .null, .null])) [] (gi_2 a) := by
  refine gn_K.of rfl rfl (fun h0 ha => ?_)
  refine zr_aload_n dX2_init_0 rfl ?_
  refine zn_obj zo_X2_3 dX2_init_1 rfl rfl ?_
  refine zr_aload_n dX2_init_4 rfl ?_
  refine zr_bipush (v := 80) dX2_init_5 kc_bipush_80 ?_
  refine zn_newa (N := 80) (b := (a + 1)) (ty := .int) (tl' := [.inl (.int, 80, fun _ => 0)]) ha zv_int rfl rfl (by decide) (by decide) rfl rfl dX2_init_7 rfl rfl rfl rfl ?_
  refine zn_putF (fs' := [.int 0, .int 0, .int 0, .int 0, .ref (a + 1), .null, .null, .null, .null, .null, .null, .null, .null, .null]) ha h11 zp_X2_9 rfl dX2_init_9 rfl (fun _ _ => rfl) (fun _ _ => rfl) rfl rfl ?_
  refine zr_aload_n dX2_init_12 rfl ?_
  refine zr_bipush (v := 80) dX2_init_13 kc_bipush_80 ?_
  refine zn_newa (N := 80) (b := (a + 2)) (ty := .int) (tl' := [.inl (.int, 80, fun _ => 0), .inl (.int, 80, fun _ => 0)]) ha zv_int rfl rfl (by decide) (by decide) rfl rfl dX2_init_15 rfl rfl rfl rfl ?_
  refine zn_putF (fs' := [.int 0, .int 0, .int 0, .int 0, .ref (a + 1), .ref (a + 2), .null, .null, .null, .null, .null, .null, .null, .null]) ha h11 zp_X2_15 rfl dX2_init_17 rfl (fun _ _ => rfl) (fun _ _ => rfl) rfl rfl ?_
  refine zr_aload_n dX2_init_20 rfl ?_
  refine zr_bipush (v := 80) dX2_init_21 kc_bipush_80 ?_
  refine zn_newa (N := 80) (b := (a + 3)) (ty := .int) (tl' := [.inl (.int, 80, fun _ => 0), .inl (.int, 80, fun _ => 0), .inl (.int, 80, fun _ => 0)]) ha zv_int rfl rfl (by decide) (by decide) rfl rfl dX2_init_23 rfl rfl rfl rfl ?_
  refine zn_putF (fs' := [.int 0, .int 0, .int 0, .int 0, .ref (a + 1), .ref (a + 2), .ref (a + 3), .null, .null, .null, .null, .null, .null, .null]) ha h11 zp_X2_18 rfl dX2_init_25 rfl (fun _ _ => rfl) (fun _ _ => rfl) rfl rfl ?_
  refine zr_aload_n dX2_init_28 rfl ?_
  refine zr_bipush (v := 80) dX2_init_29 kc_bipush_80 ?_
  refine zn_newa (N := 80) (b := (a + 4)) (ty := .int) (tl' := [.inl (.int, 80, fun _ => 0), .inl (.int, 80, fun _ => 0), .inl (.int, 80, fun _ => 0), .inl (.int, 80, fun _ => 0)]) ha zv_int rfl rfl (by decide) (by decide) rfl rfl dX2_init_31 rfl rfl rfl rfl ?_
  refine zn_putF (fs' := [.int 0, .int 0, .int 0, .int 0, .ref (a + 1), .ref (a + 2), .ref (a + 3), .ref (a + 4), .null, .null, .null, .null, .null, .null]) ha h11 zp_X2_21 rfl dX2_init_33 rfl (fun _ _ => rfl) (fun _ _ => rfl) rfl rfl ?_
  refine zr_aload_n dX2_init_36 rfl ?_
  refine zr_bipush (v := 80) dX2_init_37 kc_bipush_80 ?_
  refine zn_newa (N := 80) (b := (a + 5)) (ty := .int) (tl' := [.inl (.int, 80, fun _ => 0), .inl (.int, 80, fun _ => 0), .inl (.int, 80, fun _ => 0), .inl (.int, 80, fun _ => 0), .inl (.int, 80, fun _ => 0)]) ha zv_int rfl rfl (by decide) (by decide) rfl rfl dX2_init_39 rfl rfl rfl rfl ?_
  refine zn_putF (fs' := [.int 0, .int 0, .int 0, .int 0, .ref (a + 1), .ref (a + 2), .ref (a + 3), .ref (a + 4), .ref (a + 5), .null, .null, .null, .null, .null]) ha h11 zp_X2_24 rfl dX2_init_41 rfl (fun _ _ => rfl) (fun _ _ => rfl) rfl rfl ?_
  refine zr_aload_n dX2_init_44 rfl ?_
  refine zr_bipush (v := 80) dX2_init_45 kc_bipush_80 ?_
  refine zn_newa (N := 80) (b := (a + 6)) (ty := .boolean) (tl' := [.inl (.int, 80, fun _ => 0), .inl (.int, 80, fun _ => 0), .inl (.int, 80, fun _ => 0), .inl (.int, 80, fun _ => 0), .inl (.int, 80, fun _ => 0), .inl (.boolean, 80, fun _ => 0)]) ha zv_bool rfl rfl (by decide) (by decide) rfl rfl dX2_init_47 rfl rfl rfl rfl ?_
  refine zn_putF (fs' := [.int 0, .int 0, .int 0, .int 0, .ref (a + 1), .ref (a + 2), .ref (a + 3), .ref (a + 4), .ref (a + 5), .ref (a + 6), .null, .null, .null, .null]) ha h11 zp_X2_27 rfl dX2_init_49 rfl (fun _ _ => rfl) (fun _ _ => rfl) rfl rfl ?_
  refine zr_aload_n dX2_init_52 rfl ?_
  refine zr_bipush (v := 20) dX2_init_53 kc_bipush_20 ?_
  refine zn_newa (N := 20) (b := (a + 7)) (ty := .int) (tl' := [.inl (.int, 80, fun _ => 0), .inl (.int, 80, fun _ => 0), .inl (.int, 80, fun _ => 0), .inl (.int, 80, fun _ => 0), .inl (.int, 80, fun _ => 0), .inl (.boolean, 80, fun _ => 0), .inl (.int, 20, fun _ => 0)]) ha zv_int rfl rfl (by decide) (by decide) rfl rfl dX2_init_55 rfl rfl rfl rfl ?_
  refine zn_putF (fs' := [.int 0, .int 0, .int 0, .int 0, .ref (a + 1), .ref (a + 2), .ref (a + 3), .ref (a + 4), .ref (a + 5), .ref (a + 6), .ref (a + 7), .null, .null, .null]) ha h11 zp_X2_31 rfl dX2_init_57 rfl (fun _ _ => rfl) (fun _ _ => rfl) rfl rfl ?_
  refine zr_aload_n dX2_init_60 rfl ?_
  refine zr_bipush (v := 20) dX2_init_61 kc_bipush_20 ?_
  refine zn_newa (N := 20) (b := (a + 8)) (ty := .int) (tl' := [.inl (.int, 80, fun _ => 0), .inl (.int, 80, fun _ => 0), .inl (.int, 80, fun _ => 0), .inl (.int, 80, fun _ => 0), .inl (.int, 80, fun _ => 0), .inl (.boolean, 80, fun _ => 0), .inl (.int, 20, fun _ => 0), .inl (.int, 20, fun _ => 0)]) ha zv_int rfl rfl (by decide) (by decide) rfl rfl dX2_init_63 rfl rfl rfl rfl ?_
  refine zn_putF (fs' := [.int 0, .int 0, .int 0, .int 0, .ref (a + 1), .ref (a + 2), .ref (a + 3), .ref (a + 4), .ref (a + 5), .ref (a + 6), .ref (a + 7), .ref (a + 8), .null, .null]) ha h11 zp_X2_34 rfl dX2_init_65 rfl (fun _ _ => rfl) (fun _ _ => rfl) rfl rfl ?_
  refine zr_aload_n dX2_init_68 rfl ?_
  refine zr_bipush (v := 20) dX2_init_69 kc_bipush_20 ?_
  refine zn_newa (N := 20) (b := (a + 9)) (ty := .int) (tl' := [.inl (.int, 80, fun _ => 0), .inl (.int, 80, fun _ => 0), .inl (.int, 80, fun _ => 0), .inl (.int, 80, fun _ => 0), .inl (.int, 80, fun _ => 0), .inl (.boolean, 80, fun _ => 0), .inl (.int, 20, fun _ => 0), .inl (.int, 20, fun _ => 0), .inl (.int, 20, fun _ => 0)]) ha zv_int rfl rfl (by decide) (by decide) rfl rfl dX2_init_71 rfl rfl rfl rfl ?_
  refine zn_putF (fs' := [.int 0, .int 0, .int 0, .int 0, .ref (a + 1), .ref (a + 2), .ref (a + 3), .ref (a + 4), .ref (a + 5), .ref (a + 6), .ref (a + 7), .ref (a + 8), .ref (a + 9), .null]) ha h11 zp_X2_37 rfl dX2_init_73 rfl (fun _ _ => rfl) (fun _ _ => rfl) rfl rfl ?_
  refine zr_aload_n dX2_init_76 rfl ?_
  refine zr_bipush (v := 8) dX2_init_77 kc_bipush_8 ?_
  refine zn_newa (N := 8) (b := (a + 10)) (ty := .int) (tl' := [.inl (.int, 80, fun _ => 0), .inl (.int, 80, fun _ => 0), .inl (.int, 80, fun _ => 0), .inl (.int, 80, fun _ => 0), .inl (.int, 80, fun _ => 0), .inl (.boolean, 80, fun _ => 0), .inl (.int, 20, fun _ => 0), .inl (.int, 20, fun _ => 0), .inl (.int, 20, fun _ => 0), .inl (.int, 8, fun _ => 0)]) ha zv_int rfl rfl (by decide) (by decide) rfl rfl dX2_init_79 rfl rfl rfl rfl ?_
  refine zn_putF (fs' := [.int 0, .int 0, .int 0, .int 0, .ref (a + 1), .ref (a + 2), .ref (a + 3), .ref (a + 4), .ref (a + 5), .ref (a + 6), .ref (a + 7), .ref (a + 8), .ref (a + 9), .ref (a + 10)]) ha h11 zp_X2_40 rfl dX2_init_81 rfl (fun _ _ => rfl) (fun _ _ => rfl) rfl rfl ?_
  exact zr_vret dX2_init_84 rfl ⟨rfl, rfl⟩
def gi_1 (a : Nat) : List gz_AC := [.inr (1, [.ref (a + 1), .ref (a + 5), .ref (a + 6), .ref (a + 7)]), .inr (100, [.ref (a + 2), .ref (a + 3), .ref (a + 4)]), .inl (.int, 20, fun _ => 0), .inl (.int, 20, fun _ => 0), .inl (.int, 20, fun _ => 0), .inl (.int, 3, fun _ => 0), .inl (.int, 20, gn_f 20 (-1) (fun _ => 0)), .inl (.boolean, 20, fun _ => 0)]
theorem ck_1 (a : Nat) (h11 : 11 ≤ a) : gn_K 1 yX1_init cX1_init 1 7 106 a [] (.inr (1, [.null, .null, .null, .null])) [] (gi_1 a) := by
  refine gn_K.of rfl rfl (fun h0 ha => ?_)
  refine zr_aload_n dX1_init_0 rfl ?_
  refine zn_obj zo_X1_3 dX1_init_1 rfl rfl ?_
  refine zr_aload_n dX1_init_4 rfl ?_
  refine zr_iconst (v := 3) dX1_init_5 kc_iconst_3 ?_
  refine zr_bipush (v := 20) dX1_init_6 kc_bipush_20 ?_
  refine zn_mna (b := (a + 1)) (tl' := [.inr (100, [.ref (a + 2), .ref (a + 3), .ref (a + 4)]), .inl (.int, 20, fun _ => 0), .inl (.int, 20, fun _ => 0), .inl (.int, 20, fun _ => 0)]) ha ze_X1_9 dX1_init_8 rfl rfl rfl rfl ?_
  refine zn_putF (fs' := [.ref (a + 1), .null, .null, .null]) ha h11 zp_X1_11 rfl dX1_init_12 rfl (fun _ _ => rfl) (fun _ _ => rfl) rfl rfl ?_
  refine zr_aload_n dX1_init_15 rfl ?_
  refine zr_iconst (v := 3) dX1_init_16 kc_iconst_3 ?_
  refine zn_newa (N := 3) (b := (a + 5)) (ty := .int) (tl' := [.inr (100, [.ref (a + 2), .ref (a + 3), .ref (a + 4)]), .inl (.int, 20, fun _ => 0), .inl (.int, 20, fun _ => 0), .inl (.int, 20, fun _ => 0), .inl (.int, 3, fun _ => 0)]) ha zv_int rfl rfl (by decide) (by decide) rfl rfl dX1_init_17 rfl rfl rfl rfl ?_
  refine zn_putF (fs' := [.ref (a + 1), .ref (a + 5), .null, .null]) ha h11 zp_X1_16 rfl dX1_init_19 rfl (fun _ _ => rfl) (fun _ _ => rfl) rfl rfl ?_
  refine zr_aload_n dX1_init_22 rfl ?_
  refine zr_bipush (v := 20) dX1_init_23 kc_bipush_20 ?_
  refine zn_newa (N := 20) (b := (a + 6)) (ty := .int) (tl' := [.inr (100, [.ref (a + 2), .ref (a + 3), .ref (a + 4)]), .inl (.int, 20, fun _ => 0), .inl (.int, 20, fun _ => 0), .inl (.int, 20, fun _ => 0), .inl (.int, 3, fun _ => 0), .inl (.int, 20, fun _ => 0)]) ha zv_int rfl rfl (by decide) (by decide) rfl rfl dX1_init_25 rfl rfl rfl rfl ?_
  refine zn_putF (fs' := [.ref (a + 1), .ref (a + 5), .ref (a + 6), .null]) ha h11 zp_X1_20 rfl dX1_init_27 rfl (fun _ _ => rfl) (fun _ _ => rfl) rfl rfl ?_
  refine zr_aload_n dX1_init_30 rfl ?_
  refine zr_bipush (v := 20) dX1_init_31 kc_bipush_20 ?_
  refine zn_newa (N := 20) (b := (a + 7)) (ty := .boolean) (tl' := [.inr (100, [.ref (a + 2), .ref (a + 3), .ref (a + 4)]), .inl (.int, 20, fun _ => 0), .inl (.int, 20, fun _ => 0), .inl (.int, 20, fun _ => 0), .inl (.int, 3, fun _ => 0), .inl (.int, 20, fun _ => 0), .inl (.boolean, 20, fun _ => 0)]) ha zv_bool rfl rfl (by decide) (by decide) rfl rfl dX1_init_33 rfl rfl rfl rfl ?_
  refine zn_putF (fs' := [.ref (a + 1), .ref (a + 5), .ref (a + 6), .ref (a + 7)]) ha h11 zp_X1_23 rfl dX1_init_35 rfl (fun _ _ => rfl) (fun _ _ => rfl) rfl rfl ?_
  refine zr_aload_n dX1_init_38 rfl ?_
  refine zn_get ha zg_X1_20 dX1_init_39 rfl rfl ?_
  refine zr_iconst (v := (-1)) dX1_init_42 kc_iconst_m1 ?_
  refine zn_fill (j := 5) (tl' := [.inr (100, [.ref (a + 2), .ref (a + 3), .ref (a + 4)]), .inl (.int, 20, fun _ => 0), .inl (.int, 20, fun _ => 0), .inl (.int, 20, fun _ => 0), .inl (.int, 3, fun _ => 0), .inl (.int, 20, gn_f 20 (-1) (fun _ => 0)), .inl (.boolean, 20, fun _ => 0)]) ha h11 zc_X1_27 dX1_init_43 rfl rfl rfl rfl rfl rfl ?_
  exact zr_vret dX1_init_46 rfl ⟨rfl, rfl⟩
def gi_0 (a x0 x1 : Nat) : List gz_AC := [.inr (0, [.ref x0, .ref x1, .ref (a + 1), .ref (a + 2), .ref (a + 3), .int (-1), .int 0]), .inl (.int, 8, fun _ => 0), .inl (.int, 20, gn_f 20 2 (fun _ => 0)), .inl (.int, 80, fun _ => 0)]
theorem ck_0 (a x0 x1 : Nat) (h11 : 11 ≤ a) : gn_K 1 yX0_init cX0_init 3 3 108 a [.ref x0, .ref x1] (.inr (0, [.null, .null, .null, .null, .null, .int 0, .int 0])) [] (gi_0 a x0 x1) := by
  refine gn_K.of rfl rfl (fun h0 ha => ?_)
  refine zr_aload_n dX0_init_0 rfl ?_
  refine zn_obj zo_X0_3 dX0_init_1 rfl rfl ?_
  refine zr_aload_n dX0_init_4 rfl ?_
  refine zr_bipush (v := 8) dX0_init_5 kc_bipush_8 ?_
  refine zn_newa (N := 8) (b := (a + 1)) (ty := .int) (tl' := [.inl (.int, 8, fun _ => 0)]) ha zv_int rfl rfl (by decide) (by decide) rfl rfl dX0_init_7 rfl rfl rfl rfl ?_
  refine zn_putF (fs' := [.null, .null, .ref (a + 1), .null, .null, .int 0, .int 0]) ha h11 zp_X0_9 rfl dX0_init_9 rfl (fun _ _ => rfl) (fun _ _ => rfl) rfl rfl ?_
  refine zr_aload_n dX0_init_12 rfl ?_
  refine zr_bipush (v := 20) dX0_init_13 kc_bipush_20 ?_
  refine zn_newa (N := 20) (b := (a + 2)) (ty := .int) (tl' := [.inl (.int, 8, fun _ => 0), .inl (.int, 20, fun _ => 0)]) ha zv_int rfl rfl (by decide) (by decide) rfl rfl dX0_init_15 rfl rfl rfl rfl ?_
  refine zn_putF (fs' := [.null, .null, .ref (a + 1), .ref (a + 2), .null, .int 0, .int 0]) ha h11 zp_X0_15 rfl dX0_init_17 rfl (fun _ _ => rfl) (fun _ _ => rfl) rfl rfl ?_
  refine zr_aload_n dX0_init_20 rfl ?_
  refine zr_bipush (v := 80) dX0_init_21 kc_bipush_80 ?_
  refine zn_newa (N := 80) (b := (a + 3)) (ty := .int) (tl' := [.inl (.int, 8, fun _ => 0), .inl (.int, 20, fun _ => 0), .inl (.int, 80, fun _ => 0)]) ha zv_int rfl rfl (by decide) (by decide) rfl rfl dX0_init_23 rfl rfl rfl rfl ?_
  refine zn_putF (fs' := [.null, .null, .ref (a + 1), .ref (a + 2), .ref (a + 3), .int 0, .int 0]) ha h11 zp_X0_18 rfl dX0_init_25 rfl (fun _ _ => rfl) (fun _ _ => rfl) rfl rfl ?_
  refine zr_aload_n dX0_init_28 rfl ?_
  refine zr_iconst (v := (-1)) dX0_init_29 kc_iconst_m1 ?_
  refine zn_put (fs' := [.null, .null, .ref (a + 1), .ref (a + 2), .ref (a + 3), .int (-1), .int 0]) ha h11 zp_X0_21 dX0_init_30 rfl (fun _ _ => rfl) (fun _ _ => rfl) rfl rfl ?_
  refine zr_aload_n dX0_init_33 rfl ?_
  refine zr_aload_n dX0_init_34 rfl ?_
  refine zn_putF (fs' := [.ref x0, .null, .ref (a + 1), .ref (a + 2), .ref (a + 3), .int (-1), .int 0]) ha h11 zp_X0_25 rfl dX0_init_35 rfl (fun _ _ => rfl) (fun _ _ => rfl) rfl rfl ?_
  refine zr_aload_n dX0_init_38 rfl ?_
  refine zr_aload_n dX0_init_39 rfl ?_
  refine zn_putF (fs' := [.ref x0, .ref x1, .ref (a + 1), .ref (a + 2), .ref (a + 3), .int (-1), .int 0]) ha h11 zp_X0_29 rfl dX0_init_40 rfl (fun _ _ => rfl) (fun _ _ => rfl) rfl rfl ?_
  refine zr_aload_n dX0_init_43 rfl ?_
  refine zn_get ha zg_X0_15 dX0_init_44 rfl rfl ?_
  refine zr_iconst (v := 2) dX0_init_47 kc_iconst_2 ?_
  refine zn_fill (j := 1) (tl' := [.inl (.int, 8, fun _ => 0), .inl (.int, 20, gn_f 20 2 (fun _ => 0)), .inl (.int, 80, fun _ => 0)]) ha h11 zc_X0_33 dX0_init_48 rfl rfl rfl rfl rfl rfl ?_
  exact zr_vret dX0_init_51 rfl ⟨rfl, rfl⟩
def gi_6 (a : Nat) : List gz_AC := [.inr (6, [.ref (a + 1), .ref (a + 2), .int 0]), .inl (.int, 20, fun _ => 0), .inl (.int, 20, fun _ => 0)]
theorem ck_6 (a : Nat) (h11 : 11 ≤ a) : gn_K 1 yX6_init cX6_init 1 2 40 a [] (.inr (6, [.null, .null, .int 0])) [] (gi_6 a) := by
  refine gn_K.of rfl rfl (fun h0 ha => ?_)
  refine zr_aload_n dX6_init_0 rfl ?_
  refine zn_obj zo_X6_3 dX6_init_1 rfl rfl ?_
  refine zr_aload_n dX6_init_4 rfl ?_
  refine zr_bipush (v := 20) dX6_init_5 kc_bipush_20 ?_
  refine zn_newa (N := 20) (b := (a + 1)) (ty := .int) (tl' := [.inl (.int, 20, fun _ => 0)]) ha zv_int rfl rfl (by decide) (by decide) rfl rfl dX6_init_7 rfl rfl rfl rfl ?_
  refine zn_putF (fs' := [.ref (a + 1), .null, .int 0]) ha h11 zp_X6_9 rfl dX6_init_9 rfl (fun _ _ => rfl) (fun _ _ => rfl) rfl rfl ?_
  refine zr_aload_n dX6_init_12 rfl ?_
  refine zr_bipush (v := 20) dX6_init_13 kc_bipush_20 ?_
  refine zn_newa (N := 20) (b := (a + 2)) (ty := .int) (tl' := [.inl (.int, 20, fun _ => 0), .inl (.int, 20, fun _ => 0)]) ha zv_int rfl rfl (by decide) (by decide) rfl rfl dX6_init_15 rfl rfl rfl rfl ?_
  refine zn_putF (fs' := [.ref (a + 1), .ref (a + 2), .int 0]) ha h11 zp_X6_15 rfl dX6_init_17 rfl (fun _ _ => rfl) (fun _ _ => rfl) rfl rfl ?_
  exact zr_vret dX6_init_20 rfl ⟨rfl, rfl⟩
def gi_4 (a x0 : Nat) : List gz_AC := [.inr (4, [.ref x0, .ref (a + 1)]), .inl (.int, 20, fun _ => 0)]
theorem ck_4 (a x0 : Nat) (h11 : 11 ≤ a) : gn_K 1 yX4_init cX4_init 2 1 20 a [.ref x0] (.inr (4, [.null, .null])) [] (gi_4 a x0) := by
  refine gn_K.of rfl rfl (fun h0 ha => ?_)
  refine zr_aload_n dX4_init_0 rfl ?_
  refine zn_obj zo_X4_3 dX4_init_1 rfl rfl ?_
  refine zr_aload_n dX4_init_4 rfl ?_
  refine zr_bipush (v := 20) dX4_init_5 kc_bipush_20 ?_
  refine zn_newa (N := 20) (b := (a + 1)) (ty := .int) (tl' := [.inl (.int, 20, fun _ => 0)]) ha zv_int rfl rfl (by decide) (by decide) rfl rfl dX4_init_7 rfl rfl rfl rfl ?_
  refine zn_putF (fs' := [.null, .ref (a + 1)]) ha h11 zp_X4_9 rfl dX4_init_9 rfl (fun _ _ => rfl) (fun _ _ => rfl) rfl rfl ?_
  refine zr_aload_n dX4_init_12 rfl ?_
  refine zr_aload_n dX4_init_13 rfl ?_
  refine zn_putF (fs' := [.ref x0, .ref (a + 1)]) ha h11 zp_X4_15 rfl dX4_init_14 rfl (fun _ _ => rfl) (fun _ _ => rfl) rfl rfl ?_
  exact zr_vret dX4_init_17 rfl ⟨rfl, rfl⟩
def gi_5 (a : Nat) : List gz_AC := [.inr (5, [.ref (a + 1), .ref (a + 2), .int 0, .int 0]), .inl (.int, 8, fun _ => 0), .inl (.int, 20, fun _ => 0)]
theorem ck_5 (a : Nat) (h11 : 11 ≤ a) : gn_K 1 yX5_init cX5_init 1 2 28 a [] (.inr (5, [.null, .null, .int 0, .int 0])) [] (gi_5 a) := by
  refine gn_K.of rfl rfl (fun h0 ha => ?_)
  refine zr_aload_n dX5_init_0 rfl ?_
  refine zn_obj zo_X5_3 dX5_init_1 rfl rfl ?_
  refine zr_aload_n dX5_init_4 rfl ?_
  refine zr_bipush (v := 8) dX5_init_5 kc_bipush_8 ?_
  refine zn_newa (N := 8) (b := (a + 1)) (ty := .int) (tl' := [.inl (.int, 8, fun _ => 0)]) ha zv_int rfl rfl (by decide) (by decide) rfl rfl dX5_init_7 rfl rfl rfl rfl ?_
  refine zn_putF (fs' := [.ref (a + 1), .null, .int 0, .int 0]) ha h11 zp_X5_9 rfl dX5_init_9 rfl (fun _ _ => rfl) (fun _ _ => rfl) rfl rfl ?_
  refine zr_aload_n dX5_init_12 rfl ?_
  refine zr_bipush (v := 20) dX5_init_13 kc_bipush_20 ?_
  refine zn_newa (N := 20) (b := (a + 2)) (ty := .int) (tl' := [.inl (.int, 8, fun _ => 0), .inl (.int, 20, fun _ => 0)]) ha zv_int rfl rfl (by decide) (by decide) rfl rfl dX5_init_15 rfl rfl rfl rfl ?_
  refine zn_putF (fs' := [.ref (a + 1), .ref (a + 2), .int 0, .int 0]) ha h11 zp_X5_15 rfl dX5_init_17 rfl (fun _ _ => rfl) (fun _ _ => rfl) rfl rfl ?_
  exact zr_vret dX5_init_20 rfl ⟨rfl, rfl⟩
def gi_9 (a : Nat) : List gz_AC := [.inr (9, [.ref (a + 1), .ref (a + 2), .ref (a + 3), .int 0, .ref (a + 4), .int 0, .ref (a + 5), .ref (a + 6), .ref (a + 7), .ref (a + 8), .ref (a + 9), .int 0, .ref (a + 10), .int 0, .ref (a + 11), .ref (a + 12), .ref (a + 13), .ref (a + 14), .int 0, .ref (a + 15), .ref (a + 16), .int (-1), .int 0, .int 0, .int 4, .int 0, .int 0, .int 0, .int 0, .int 0, .ref (a + 17), .ref (a + 18), .ref (a + 19), .int 0, .ref (a + 20), .int 0, .int 0, .ref (a + 21), .int 0, .ref (a + 22), .int 0, .ref (a + 23), .ref (a + 24), .ref (a + 25), .ref (a + 26), .ref (a + 27)]), .inl (.int, 80, fun _ => 0), .inl (.int, 80, fun _ => 0), .inl (.int, 240, fun _ => 0), .inl (.int, 8, fun _ => 0), .inl (.int, 20, fun _ => 0), .inl (.int, 20, fun _ => 0), .inl (.int, 20, fun _ => 0), .inl (.int, 20, fun _ => 0), .inl (.boolean, 20, fun _ => 0), .inl (.int, 8, fun _ => 0), .inl (.int, 60, fun _ => 0), .inl (.int, 3, fun _ => 0), .inl (.int, 20, fun _ => 0), .inl (.int, 20, fun _ => 0), .inl (.int, 8, fun _ => 0), .inl (.int, 20, fun _ => 0), .inl (.int, 80, fun _ => 0), .inl (.int, 20, fun _ => 0), .inl (.int, 8, fun _ => 0), .inl (.int, 20, fun _ => 0), .inl (.int, 8, fun _ => 0), .inl (.int, 20, fun _ => 0), .inl (.int, 8, fun _ => 0), .inl (.int, 20, fun _ => 0), .inl (.int, 7, fun _ => 0), .inl (.int, 160, fun _ => 0), .inl (.int, 400, fun _ => 0)]
theorem ck_9 (a : Nat) (h11 : 11 ≤ a) : gn_K 1 yX9_init cX9_init 1 27 1398 a [] (.inr (9, [.null, .null, .null, .int 0, .null, .int 0, .null, .null, .null, .null, .null, .int 0, .null, .int 0, .null, .null, .null, .null, .int 0, .null, .null, .int 0, .int 0, .int 0, .int 0, .int 0, .int 0, .int 0, .int 0, .int 0, .null, .null, .null, .int 0, .null, .int 0, .int 0, .null, .int 0, .null, .int 0, .null, .null, .null, .null, .null])) [] (gi_9 a) := by
  refine gn_K.of rfl rfl (fun h0 ha => ?_)
  refine zr_aload_n dX9_init_0 rfl ?_
  refine zn_obj zo_X9_1 dX9_init_1 rfl rfl ?_
  refine zr_aload_n dX9_init_4 rfl ?_
  refine zr_bipush (v := 80) dX9_init_5 kc_bipush_80 ?_
  refine zn_newa (N := 80) (b := (a + 1)) (ty := .int) (tl' := [.inl (.int, 80, fun _ => 0)]) ha zv_int rfl rfl (by decide) (by decide) rfl rfl dX9_init_7 rfl rfl rfl rfl ?_
  refine zn_putF (fs' := [.ref (a + 1), .null, .null, .int 0, .null, .int 0, .null, .null, .null, .null, .null, .int 0, .null, .int 0, .null, .null, .null, .null, .int 0, .null, .null, .int 0, .int 0, .int 0, .int 0, .int 0, .int 0, .int 0, .int 0, .int 0, .null, .null, .null, .int 0, .null, .int 0, .int 0, .null, .int 0, .null, .int 0, .null, .null, .null, .null, .null]) ha h11 zp_X9_7 rfl dX9_init_9 rfl (fun _ _ => rfl) (fun _ _ => rfl) rfl rfl ?_
  refine zr_aload_n dX9_init_12 rfl ?_
  refine zr_bipush (v := 80) dX9_init_13 kc_bipush_80 ?_
  refine zn_newa (N := 80) (b := (a + 2)) (ty := .int) (tl' := [.inl (.int, 80, fun _ => 0), .inl (.int, 80, fun _ => 0)]) ha zv_int rfl rfl (by decide) (by decide) rfl rfl dX9_init_15 rfl rfl rfl rfl ?_
  refine zn_putF (fs' := [.ref (a + 1), .ref (a + 2), .null, .int 0, .null, .int 0, .null, .null, .null, .null, .null, .int 0, .null, .int 0, .null, .null, .null, .null, .int 0, .null, .null, .int 0, .int 0, .int 0, .int 0, .int 0, .int 0, .int 0, .int 0, .int 0, .null, .null, .null, .int 0, .null, .int 0, .int 0, .null, .int 0, .null, .int 0, .null, .null, .null, .null, .null]) ha h11 zp_X9_13 rfl dX9_init_17 rfl (fun _ _ => rfl) (fun _ _ => rfl) rfl rfl ?_
  refine zr_aload_n dX9_init_20 rfl ?_
  refine zr_sipush (v := 240) dX9_init_21 kc_sipush_240 ?_
  refine zn_newa (N := 240) (b := (a + 3)) (ty := .int) (tl' := [.inl (.int, 80, fun _ => 0), .inl (.int, 80, fun _ => 0), .inl (.int, 240, fun _ => 0)]) ha zv_int rfl rfl (by decide) (by decide) rfl rfl dX9_init_24 rfl rfl rfl rfl ?_
  refine zn_putF (fs' := [.ref (a + 1), .ref (a + 2), .ref (a + 3), .int 0, .null, .int 0, .null, .null, .null, .null, .null, .int 0, .null, .int 0, .null, .null, .null, .null, .int 0, .null, .null, .int 0, .int 0, .int 0, .int 0, .int 0, .int 0, .int 0, .int 0, .int 0, .null, .null, .null, .int 0, .null, .int 0, .int 0, .null, .int 0, .null, .int 0, .null, .null, .null, .null, .null]) ha h11 zp_X9_16 rfl dX9_init_26 rfl (fun _ _ => rfl) (fun _ _ => rfl) rfl rfl ?_
  refine zr_aload_n dX9_init_29 rfl ?_
  refine zr_bipush (v := 8) dX9_init_30 kc_bipush_8 ?_
  refine zn_newa (N := 8) (b := (a + 4)) (ty := .int) (tl' := [.inl (.int, 80, fun _ => 0), .inl (.int, 80, fun _ => 0), .inl (.int, 240, fun _ => 0), .inl (.int, 8, fun _ => 0)]) ha zv_int rfl rfl (by decide) (by decide) rfl rfl dX9_init_32 rfl rfl rfl rfl ?_
  refine zn_putF (fs' := [.ref (a + 1), .ref (a + 2), .ref (a + 3), .int 0, .ref (a + 4), .int 0, .null, .null, .null, .null, .null, .int 0, .null, .int 0, .null, .null, .null, .null, .int 0, .null, .null, .int 0, .int 0, .int 0, .int 0, .int 0, .int 0, .int 0, .int 0, .int 0, .null, .null, .null, .int 0, .null, .int 0, .int 0, .null, .int 0, .null, .int 0, .null, .null, .null, .null, .null]) ha h11 zp_X9_19 rfl dX9_init_34 rfl (fun _ _ => rfl) (fun _ _ => rfl) rfl rfl ?_
  refine zr_aload_n dX9_init_37 rfl ?_
  refine zr_bipush (v := 20) dX9_init_38 kc_bipush_20 ?_
  refine zn_newa (N := 20) (b := (a + 5)) (ty := .int) (tl' := [.inl (.int, 80, fun _ => 0), .inl (.int, 80, fun _ => 0), .inl (.int, 240, fun _ => 0), .inl (.int, 8, fun _ => 0), .inl (.int, 20, fun _ => 0)]) ha zv_int rfl rfl (by decide) (by decide) rfl rfl dX9_init_40 rfl rfl rfl rfl ?_
  refine zn_putF (fs' := [.ref (a + 1), .ref (a + 2), .ref (a + 3), .int 0, .ref (a + 4), .int 0, .ref (a + 5), .null, .null, .null, .null, .int 0, .null, .int 0, .null, .null, .null, .null, .int 0, .null, .null, .int 0, .int 0, .int 0, .int 0, .int 0, .int 0, .int 0, .int 0, .int 0, .null, .null, .null, .int 0, .null, .int 0, .int 0, .null, .int 0, .null, .int 0, .null, .null, .null, .null, .null]) ha h11 zp_X9_22 rfl dX9_init_42 rfl (fun _ _ => rfl) (fun _ _ => rfl) rfl rfl ?_
  refine zr_aload_n dX9_init_45 rfl ?_
  refine zr_bipush (v := 20) dX9_init_46 kc_bipush_20 ?_
  refine zn_newa (N := 20) (b := (a + 6)) (ty := .int) (tl' := [.inl (.int, 80, fun _ => 0), .inl (.int, 80, fun _ => 0), .inl (.int, 240, fun _ => 0), .inl (.int, 8, fun _ => 0), .inl (.int, 20, fun _ => 0), .inl (.int, 20, fun _ => 0)]) ha zv_int rfl rfl (by decide) (by decide) rfl rfl dX9_init_48 rfl rfl rfl rfl ?_
  refine zn_putF (fs' := [.ref (a + 1), .ref (a + 2), .ref (a + 3), .int 0, .ref (a + 4), .int 0, .ref (a + 5), .ref (a + 6), .null, .null, .null, .int 0, .null, .int 0, .null, .null, .null, .null, .int 0, .null, .null, .int 0, .int 0, .int 0, .int 0, .int 0, .int 0, .int 0, .int 0, .int 0, .null, .null, .null, .int 0, .null, .int 0, .int 0, .null, .int 0, .null, .int 0, .null, .null, .null, .null, .null]) ha h11 zp_X9_25 rfl dX9_init_50 rfl (fun _ _ => rfl) (fun _ _ => rfl) rfl rfl ?_
  refine zr_aload_n dX9_init_53 rfl ?_
  refine zr_bipush (v := 20) dX9_init_54 kc_bipush_20 ?_
  refine zn_newa (N := 20) (b := (a + 7)) (ty := .int) (tl' := [.inl (.int, 80, fun _ => 0), .inl (.int, 80, fun _ => 0), .inl (.int, 240, fun _ => 0), .inl (.int, 8, fun _ => 0), .inl (.int, 20, fun _ => 0), .inl (.int, 20, fun _ => 0), .inl (.int, 20, fun _ => 0)]) ha zv_int rfl rfl (by decide) (by decide) rfl rfl dX9_init_56 rfl rfl rfl rfl ?_
  refine zn_putF (fs' := [.ref (a + 1), .ref (a + 2), .ref (a + 3), .int 0, .ref (a + 4), .int 0, .ref (a + 5), .ref (a + 6), .ref (a + 7), .null, .null, .int 0, .null, .int 0, .null, .null, .null, .null, .int 0, .null, .null, .int 0, .int 0, .int 0, .int 0, .int 0, .int 0, .int 0, .int 0, .int 0, .null, .null, .null, .int 0, .null, .int 0, .int 0, .null, .int 0, .null, .int 0, .null, .null, .null, .null, .null]) ha h11 zp_X9_28 rfl dX9_init_58 rfl (fun _ _ => rfl) (fun _ _ => rfl) rfl rfl ?_
  refine zr_aload_n dX9_init_61 rfl ?_
  refine zr_bipush (v := 20) dX9_init_62 kc_bipush_20 ?_
  refine zn_newa (N := 20) (b := (a + 8)) (ty := .int) (tl' := [.inl (.int, 80, fun _ => 0), .inl (.int, 80, fun _ => 0), .inl (.int, 240, fun _ => 0), .inl (.int, 8, fun _ => 0), .inl (.int, 20, fun _ => 0), .inl (.int, 20, fun _ => 0), .inl (.int, 20, fun _ => 0), .inl (.int, 20, fun _ => 0)]) ha zv_int rfl rfl (by decide) (by decide) rfl rfl dX9_init_64 rfl rfl rfl rfl ?_
  refine zn_putF (fs' := [.ref (a + 1), .ref (a + 2), .ref (a + 3), .int 0, .ref (a + 4), .int 0, .ref (a + 5), .ref (a + 6), .ref (a + 7), .ref (a + 8), .null, .int 0, .null, .int 0, .null, .null, .null, .null, .int 0, .null, .null, .int 0, .int 0, .int 0, .int 0, .int 0, .int 0, .int 0, .int 0, .int 0, .null, .null, .null, .int 0, .null, .int 0, .int 0, .null, .int 0, .null, .int 0, .null, .null, .null, .null, .null]) ha h11 zp_X9_31 rfl dX9_init_66 rfl (fun _ _ => rfl) (fun _ _ => rfl) rfl rfl ?_
  refine zr_aload_n dX9_init_69 rfl ?_
  refine zr_bipush (v := 20) dX9_init_70 kc_bipush_20 ?_
  refine zn_newa (N := 20) (b := (a + 9)) (ty := .boolean) (tl' := [.inl (.int, 80, fun _ => 0), .inl (.int, 80, fun _ => 0), .inl (.int, 240, fun _ => 0), .inl (.int, 8, fun _ => 0), .inl (.int, 20, fun _ => 0), .inl (.int, 20, fun _ => 0), .inl (.int, 20, fun _ => 0), .inl (.int, 20, fun _ => 0), .inl (.boolean, 20, fun _ => 0)]) ha zv_bool rfl rfl (by decide) (by decide) rfl rfl dX9_init_72 rfl rfl rfl rfl ?_
  refine zn_putF (fs' := [.ref (a + 1), .ref (a + 2), .ref (a + 3), .int 0, .ref (a + 4), .int 0, .ref (a + 5), .ref (a + 6), .ref (a + 7), .ref (a + 8), .ref (a + 9), .int 0, .null, .int 0, .null, .null, .null, .null, .int 0, .null, .null, .int 0, .int 0, .int 0, .int 0, .int 0, .int 0, .int 0, .int 0, .int 0, .null, .null, .null, .int 0, .null, .int 0, .int 0, .null, .int 0, .null, .int 0, .null, .null, .null, .null, .null]) ha h11 zp_X9_34 rfl dX9_init_74 rfl (fun _ _ => rfl) (fun _ _ => rfl) rfl rfl ?_
  refine zr_aload_n dX9_init_77 rfl ?_
  refine zr_bipush (v := 8) dX9_init_78 kc_bipush_8 ?_
  refine zn_newa (N := 8) (b := (a + 10)) (ty := .int) (tl' := [.inl (.int, 80, fun _ => 0), .inl (.int, 80, fun _ => 0), .inl (.int, 240, fun _ => 0), .inl (.int, 8, fun _ => 0), .inl (.int, 20, fun _ => 0), .inl (.int, 20, fun _ => 0), .inl (.int, 20, fun _ => 0), .inl (.int, 20, fun _ => 0), .inl (.boolean, 20, fun _ => 0), .inl (.int, 8, fun _ => 0)]) ha zv_int rfl rfl (by decide) (by decide) rfl rfl dX9_init_80 rfl rfl rfl rfl ?_
  refine zn_putF (fs' := [.ref (a + 1), .ref (a + 2), .ref (a + 3), .int 0, .ref (a + 4), .int 0, .ref (a + 5), .ref (a + 6), .ref (a + 7), .ref (a + 8), .ref (a + 9), .int 0, .ref (a + 10), .int 0, .null, .null, .null, .null, .int 0, .null, .null, .int 0, .int 0, .int 0, .int 0, .int 0, .int 0, .int 0, .int 0, .int 0, .null, .null, .null, .int 0, .null, .int 0, .int 0, .null, .int 0, .null, .int 0, .null, .null, .null, .null, .null]) ha h11 zp_X9_38 rfl dX9_init_82 rfl (fun _ _ => rfl) (fun _ _ => rfl) rfl rfl ?_
  refine zr_aload_n dX9_init_85 rfl ?_
  refine zr_bipush (v := 60) dX9_init_86 kc_bipush_60 ?_
  refine zn_newa (N := 60) (b := (a + 11)) (ty := .int) (tl' := [.inl (.int, 80, fun _ => 0), .inl (.int, 80, fun _ => 0), .inl (.int, 240, fun _ => 0), .inl (.int, 8, fun _ => 0), .inl (.int, 20, fun _ => 0), .inl (.int, 20, fun _ => 0), .inl (.int, 20, fun _ => 0), .inl (.int, 20, fun _ => 0), .inl (.boolean, 20, fun _ => 0), .inl (.int, 8, fun _ => 0), .inl (.int, 60, fun _ => 0)]) ha zv_int rfl rfl (by decide) (by decide) rfl rfl dX9_init_88 rfl rfl rfl rfl ?_
  refine zn_putF (fs' := [.ref (a + 1), .ref (a + 2), .ref (a + 3), .int 0, .ref (a + 4), .int 0, .ref (a + 5), .ref (a + 6), .ref (a + 7), .ref (a + 8), .ref (a + 9), .int 0, .ref (a + 10), .int 0, .ref (a + 11), .null, .null, .null, .int 0, .null, .null, .int 0, .int 0, .int 0, .int 0, .int 0, .int 0, .int 0, .int 0, .int 0, .null, .null, .null, .int 0, .null, .int 0, .int 0, .null, .int 0, .null, .int 0, .null, .null, .null, .null, .null]) ha h11 zp_X9_41 rfl dX9_init_90 rfl (fun _ _ => rfl) (fun _ _ => rfl) rfl rfl ?_
  refine zr_aload_n dX9_init_93 rfl ?_
  refine zr_iconst (v := 3) dX9_init_94 kc_iconst_3 ?_
  refine zn_newa (N := 3) (b := (a + 12)) (ty := .int) (tl' := [.inl (.int, 80, fun _ => 0), .inl (.int, 80, fun _ => 0), .inl (.int, 240, fun _ => 0), .inl (.int, 8, fun _ => 0), .inl (.int, 20, fun _ => 0), .inl (.int, 20, fun _ => 0), .inl (.int, 20, fun _ => 0), .inl (.int, 20, fun _ => 0), .inl (.boolean, 20, fun _ => 0), .inl (.int, 8, fun _ => 0), .inl (.int, 60, fun _ => 0), .inl (.int, 3, fun _ => 0)]) ha zv_int rfl rfl (by decide) (by decide) rfl rfl dX9_init_95 rfl rfl rfl rfl ?_
  refine zn_putF (fs' := [.ref (a + 1), .ref (a + 2), .ref (a + 3), .int 0, .ref (a + 4), .int 0, .ref (a + 5), .ref (a + 6), .ref (a + 7), .ref (a + 8), .ref (a + 9), .int 0, .ref (a + 10), .int 0, .ref (a + 11), .ref (a + 12), .null, .null, .int 0, .null, .null, .int 0, .int 0, .int 0, .int 0, .int 0, .int 0, .int 0, .int 0, .int 0, .null, .null, .null, .int 0, .null, .int 0, .int 0, .null, .int 0, .null, .int 0, .null, .null, .null, .null, .null]) ha h11 zp_X9_44 rfl dX9_init_97 rfl (fun _ _ => rfl) (fun _ _ => rfl) rfl rfl ?_
  refine zr_aload_n dX9_init_100 rfl ?_
  refine zr_bipush (v := 20) dX9_init_101 kc_bipush_20 ?_
  refine zn_newa (N := 20) (b := (a + 13)) (ty := .int) (tl' := [.inl (.int, 80, fun _ => 0), .inl (.int, 80, fun _ => 0), .inl (.int, 240, fun _ => 0), .inl (.int, 8, fun _ => 0), .inl (.int, 20, fun _ => 0), .inl (.int, 20, fun _ => 0), .inl (.int, 20, fun _ => 0), .inl (.int, 20, fun _ => 0), .inl (.boolean, 20, fun _ => 0), .inl (.int, 8, fun _ => 0), .inl (.int, 60, fun _ => 0), .inl (.int, 3, fun _ => 0), .inl (.int, 20, fun _ => 0)]) ha zv_int rfl rfl (by decide) (by decide) rfl rfl dX9_init_103 rfl rfl rfl rfl ?_
  refine zn_putF (fs' := [.ref (a + 1), .ref (a + 2), .ref (a + 3), .int 0, .ref (a + 4), .int 0, .ref (a + 5), .ref (a + 6), .ref (a + 7), .ref (a + 8), .ref (a + 9), .int 0, .ref (a + 10), .int 0, .ref (a + 11), .ref (a + 12), .ref (a + 13), .null, .int 0, .null, .null, .int 0, .int 0, .int 0, .int 0, .int 0, .int 0, .int 0, .int 0, .int 0, .null, .null, .null, .int 0, .null, .int 0, .int 0, .null, .int 0, .null, .int 0, .null, .null, .null, .null, .null]) ha h11 zp_X9_47 rfl dX9_init_105 rfl (fun _ _ => rfl) (fun _ _ => rfl) rfl rfl ?_
  refine zr_aload_n dX9_init_108 rfl ?_
  refine zr_bipush (v := 20) dX9_init_109 kc_bipush_20 ?_
  refine zn_newa (N := 20) (b := (a + 14)) (ty := .int) (tl' := [.inl (.int, 80, fun _ => 0), .inl (.int, 80, fun _ => 0), .inl (.int, 240, fun _ => 0), .inl (.int, 8, fun _ => 0), .inl (.int, 20, fun _ => 0), .inl (.int, 20, fun _ => 0), .inl (.int, 20, fun _ => 0), .inl (.int, 20, fun _ => 0), .inl (.boolean, 20, fun _ => 0), .inl (.int, 8, fun _ => 0), .inl (.int, 60, fun _ => 0), .inl (.int, 3, fun _ => 0), .inl (.int, 20, fun _ => 0), .inl (.int, 20, fun _ => 0)]) ha zv_int rfl rfl (by decide) (by decide) rfl rfl dX9_init_111 rfl rfl rfl rfl ?_
  refine zn_putF (fs' := [.ref (a + 1), .ref (a + 2), .ref (a + 3), .int 0, .ref (a + 4), .int 0, .ref (a + 5), .ref (a + 6), .ref (a + 7), .ref (a + 8), .ref (a + 9), .int 0, .ref (a + 10), .int 0, .ref (a + 11), .ref (a + 12), .ref (a + 13), .ref (a + 14), .int 0, .null, .null, .int 0, .int 0, .int 0, .int 0, .int 0, .int 0, .int 0, .int 0, .int 0, .null, .null, .null, .int 0, .null, .int 0, .int 0, .null, .int 0, .null, .int 0, .null, .null, .null, .null, .null]) ha h11 zp_X9_50 rfl dX9_init_113 rfl (fun _ _ => rfl) (fun _ _ => rfl) rfl rfl ?_
  refine zr_aload_n dX9_init_116 rfl ?_
  refine zr_bipush (v := 8) dX9_init_117 kc_bipush_8 ?_
  refine zn_newa (N := 8) (b := (a + 15)) (ty := .int) (tl' := [.inl (.int, 80, fun _ => 0), .inl (.int, 80, fun _ => 0), .inl (.int, 240, fun _ => 0), .inl (.int, 8, fun _ => 0), .inl (.int, 20, fun _ => 0), .inl (.int, 20, fun _ => 0), .inl (.int, 20, fun _ => 0), .inl (.int, 20, fun _ => 0), .inl (.boolean, 20, fun _ => 0), .inl (.int, 8, fun _ => 0), .inl (.int, 60, fun _ => 0), .inl (.int, 3, fun _ => 0), .inl (.int, 20, fun _ => 0), .inl (.int, 20, fun _ => 0), .inl (.int, 8, fun _ => 0)]) ha zv_int rfl rfl (by decide) (by decide) rfl rfl dX9_init_119 rfl rfl rfl rfl ?_
  refine zn_putF (fs' := [.ref (a + 1), .ref (a + 2), .ref (a + 3), .int 0, .ref (a + 4), .int 0, .ref (a + 5), .ref (a + 6), .ref (a + 7), .ref (a + 8), .ref (a + 9), .int 0, .ref (a + 10), .int 0, .ref (a + 11), .ref (a + 12), .ref (a + 13), .ref (a + 14), .int 0, .ref (a + 15), .null, .int 0, .int 0, .int 0, .int 0, .int 0, .int 0, .int 0, .int 0, .int 0, .null, .null, .null, .int 0, .null, .int 0, .int 0, .null, .int 0, .null, .int 0, .null, .null, .null, .null, .null]) ha h11 zp_X9_53 rfl dX9_init_121 rfl (fun _ _ => rfl) (fun _ _ => rfl) rfl rfl ?_
  refine zr_aload_n dX9_init_124 rfl ?_
  refine zr_bipush (v := 20) dX9_init_125 kc_bipush_20 ?_
  refine zn_newa (N := 20) (b := (a + 16)) (ty := .int) (tl' := [.inl (.int, 80, fun _ => 0), .inl (.int, 80, fun _ => 0), .inl (.int, 240, fun _ => 0), .inl (.int, 8, fun _ => 0), .inl (.int, 20, fun _ => 0), .inl (.int, 20, fun _ => 0), .inl (.int, 20, fun _ => 0), .inl (.int, 20, fun _ => 0), .inl (.boolean, 20, fun _ => 0), .inl (.int, 8, fun _ => 0), .inl (.int, 60, fun _ => 0), .inl (.int, 3, fun _ => 0), .inl (.int, 20, fun _ => 0), .inl (.int, 20, fun _ => 0), .inl (.int, 8, fun _ => 0), .inl (.int, 20, fun _ => 0)]) ha zv_int rfl rfl (by decide) (by decide) rfl rfl dX9_init_127 rfl rfl rfl rfl ?_
  refine zn_putF (fs' := [.ref (a + 1), .ref (a + 2), .ref (a + 3), .int 0, .ref (a + 4), .int 0, .ref (a + 5), .ref (a + 6), .ref (a + 7), .ref (a + 8), .ref (a + 9), .int 0, .ref (a + 10), .int 0, .ref (a + 11), .ref (a + 12), .ref (a + 13), .ref (a + 14), .int 0, .ref (a + 15), .ref (a + 16), .int 0, .int 0, .int 0, .int 0, .int 0, .int 0, .int 0, .int 0, .int 0, .null, .null, .null, .int 0, .null, .int 0, .int 0, .null, .int 0, .null, .int 0, .null, .null, .null, .null, .null]) ha h11 zp_X9_56 rfl dX9_init_129 rfl (fun _ _ => rfl) (fun _ _ => rfl) rfl rfl ?_
  refine zr_aload_n dX9_init_132 rfl ?_
  refine zr_iconst (v := (-1)) dX9_init_133 kc_iconst_m1 ?_
  refine zn_put (fs' := [.ref (a + 1), .ref (a + 2), .ref (a + 3), .int 0, .ref (a + 4), .int 0, .ref (a + 5), .ref (a + 6), .ref (a + 7), .ref (a + 8), .ref (a + 9), .int 0, .ref (a + 10), .int 0, .ref (a + 11), .ref (a + 12), .ref (a + 13), .ref (a + 14), .int 0, .ref (a + 15), .ref (a + 16), .int (-1), .int 0, .int 0, .int 0, .int 0, .int 0, .int 0, .int 0, .int 0, .null, .null, .null, .int 0, .null, .int 0, .int 0, .null, .int 0, .null, .int 0, .null, .null, .null, .null, .null]) ha h11 zp_X9_59 dX9_init_134 rfl (fun _ _ => rfl) (fun _ _ => rfl) rfl rfl ?_
  refine zr_aload_n dX9_init_137 rfl ?_
  refine zr_iconst (v := 4) dX9_init_138 kc_iconst_4 ?_
  refine zn_put (fs' := [.ref (a + 1), .ref (a + 2), .ref (a + 3), .int 0, .ref (a + 4), .int 0, .ref (a + 5), .ref (a + 6), .ref (a + 7), .ref (a + 8), .ref (a + 9), .int 0, .ref (a + 10), .int 0, .ref (a + 11), .ref (a + 12), .ref (a + 13), .ref (a + 14), .int 0, .ref (a + 15), .ref (a + 16), .int (-1), .int 0, .int 0, .int 4, .int 0, .int 0, .int 0, .int 0, .int 0, .null, .null, .null, .int 0, .null, .int 0, .int 0, .null, .int 0, .null, .int 0, .null, .null, .null, .null, .null]) ha h11 zp_X9_63 dX9_init_139 rfl (fun _ _ => rfl) (fun _ _ => rfl) rfl rfl ?_
  refine zr_aload_n dX9_init_142 rfl ?_
  refine zr_bipush (v := 80) dX9_init_143 kc_bipush_80 ?_
  refine zn_newa (N := 80) (b := (a + 17)) (ty := .int) (tl' := [.inl (.int, 80, fun _ => 0), .inl (.int, 80, fun _ => 0), .inl (.int, 240, fun _ => 0), .inl (.int, 8, fun _ => 0), .inl (.int, 20, fun _ => 0), .inl (.int, 20, fun _ => 0), .inl (.int, 20, fun _ => 0), .inl (.int, 20, fun _ => 0), .inl (.boolean, 20, fun _ => 0), .inl (.int, 8, fun _ => 0), .inl (.int, 60, fun _ => 0), .inl (.int, 3, fun _ => 0), .inl (.int, 20, fun _ => 0), .inl (.int, 20, fun _ => 0), .inl (.int, 8, fun _ => 0), .inl (.int, 20, fun _ => 0), .inl (.int, 80, fun _ => 0)]) ha zv_int rfl rfl (by decide) (by decide) rfl rfl dX9_init_145 rfl rfl rfl rfl ?_
  refine zn_putF (fs' := [.ref (a + 1), .ref (a + 2), .ref (a + 3), .int 0, .ref (a + 4), .int 0, .ref (a + 5), .ref (a + 6), .ref (a + 7), .ref (a + 8), .ref (a + 9), .int 0, .ref (a + 10), .int 0, .ref (a + 11), .ref (a + 12), .ref (a + 13), .ref (a + 14), .int 0, .ref (a + 15), .ref (a + 16), .int (-1), .int 0, .int 0, .int 4, .int 0, .int 0, .int 0, .int 0, .int 0, .ref (a + 17), .null, .null, .int 0, .null, .int 0, .int 0, .null, .int 0, .null, .int 0, .null, .null, .null, .null, .null]) ha h11 zp_X9_66 rfl dX9_init_147 rfl (fun _ _ => rfl) (fun _ _ => rfl) rfl rfl ?_
  refine zr_aload_n dX9_init_150 rfl ?_
  refine zr_bipush (v := 20) dX9_init_151 kc_bipush_20 ?_
  refine zn_newa (N := 20) (b := (a + 18)) (ty := .int) (tl' := [.inl (.int, 80, fun _ => 0), .inl (.int, 80, fun _ => 0), .inl (.int, 240, fun _ => 0), .inl (.int, 8, fun _ => 0), .inl (.int, 20, fun _ => 0), .inl (.int, 20, fun _ => 0), .inl (.int, 20, fun _ => 0), .inl (.int, 20, fun _ => 0), .inl (.boolean, 20, fun _ => 0), .inl (.int, 8, fun _ => 0), .inl (.int, 60, fun _ => 0), .inl (.int, 3, fun _ => 0), .inl (.int, 20, fun _ => 0), .inl (.int, 20, fun _ => 0), .inl (.int, 8, fun _ => 0), .inl (.int, 20, fun _ => 0), .inl (.int, 80, fun _ => 0), .inl (.int, 20, fun _ => 0)]) ha zv_int rfl rfl (by decide) (by decide) rfl rfl dX9_init_153 rfl rfl rfl rfl ?_
  refine zn_putF (fs' := [.ref (a + 1), .ref (a + 2), .ref (a + 3), .int 0, .ref (a + 4), .int 0, .ref (a + 5), .ref (a + 6), .ref (a + 7), .ref (a + 8), .ref (a + 9), .int 0, .ref (a + 10), .int 0, .ref (a + 11), .ref (a + 12), .ref (a + 13), .ref (a + 14), .int 0, .ref (a + 15), .ref (a + 16), .int (-1), .int 0, .int 0, .int 4, .int 0, .int 0, .int 0, .int 0, .int 0, .ref (a + 17), .ref (a + 18), .null, .int 0, .null, .int 0, .int 0, .null, .int 0, .null, .int 0, .null, .null, .null, .null, .null]) ha h11 zp_X9_69 rfl dX9_init_155 rfl (fun _ _ => rfl) (fun _ _ => rfl) rfl rfl ?_
  refine zr_aload_n dX9_init_158 rfl ?_
  refine zr_bipush (v := 8) dX9_init_159 kc_bipush_8 ?_
  refine zn_newa (N := 8) (b := (a + 19)) (ty := .int) (tl' := [.inl (.int, 80, fun _ => 0), .inl (.int, 80, fun _ => 0), .inl (.int, 240, fun _ => 0), .inl (.int, 8, fun _ => 0), .inl (.int, 20, fun _ => 0), .inl (.int, 20, fun _ => 0), .inl (.int, 20, fun _ => 0), .inl (.int, 20, fun _ => 0), .inl (.boolean, 20, fun _ => 0), .inl (.int, 8, fun _ => 0), .inl (.int, 60, fun _ => 0), .inl (.int, 3, fun _ => 0), .inl (.int, 20, fun _ => 0), .inl (.int, 20, fun _ => 0), .inl (.int, 8, fun _ => 0), .inl (.int, 20, fun _ => 0), .inl (.int, 80, fun _ => 0), .inl (.int, 20, fun _ => 0), .inl (.int, 8, fun _ => 0)]) ha zv_int rfl rfl (by decide) (by decide) rfl rfl dX9_init_161 rfl rfl rfl rfl ?_
  refine zn_putF (fs' := [.ref (a + 1), .ref (a + 2), .ref (a + 3), .int 0, .ref (a + 4), .int 0, .ref (a + 5), .ref (a + 6), .ref (a + 7), .ref (a + 8), .ref (a + 9), .int 0, .ref (a + 10), .int 0, .ref (a + 11), .ref (a + 12), .ref (a + 13), .ref (a + 14), .int 0, .ref (a + 15), .ref (a + 16), .int (-1), .int 0, .int 0, .int 4, .int 0, .int 0, .int 0, .int 0, .int 0, .ref (a + 17), .ref (a + 18), .ref (a + 19), .int 0, .null, .int 0, .int 0, .null, .int 0, .null, .int 0, .null, .null, .null, .null, .null]) ha h11 zp_X9_72 rfl dX9_init_163 rfl (fun _ _ => rfl) (fun _ _ => rfl) rfl rfl ?_
  refine zr_aload_n dX9_init_166 rfl ?_
  refine zr_bipush (v := 20) dX9_init_167 kc_bipush_20 ?_
  refine zn_newa (N := 20) (b := (a + 20)) (ty := .int) (tl' := [.inl (.int, 80, fun _ => 0), .inl (.int, 80, fun _ => 0), .inl (.int, 240, fun _ => 0), .inl (.int, 8, fun _ => 0), .inl (.int, 20, fun _ => 0), .inl (.int, 20, fun _ => 0), .inl (.int, 20, fun _ => 0), .inl (.int, 20, fun _ => 0), .inl (.boolean, 20, fun _ => 0), .inl (.int, 8, fun _ => 0), .inl (.int, 60, fun _ => 0), .inl (.int, 3, fun _ => 0), .inl (.int, 20, fun _ => 0), .inl (.int, 20, fun _ => 0), .inl (.int, 8, fun _ => 0), .inl (.int, 20, fun _ => 0), .inl (.int, 80, fun _ => 0), .inl (.int, 20, fun _ => 0), .inl (.int, 8, fun _ => 0), .inl (.int, 20, fun _ => 0)]) ha zv_int rfl rfl (by decide) (by decide) rfl rfl dX9_init_169 rfl rfl rfl rfl ?_
  refine zn_putF (fs' := [.ref (a + 1), .ref (a + 2), .ref (a + 3), .int 0, .ref (a + 4), .int 0, .ref (a + 5), .ref (a + 6), .ref (a + 7), .ref (a + 8), .ref (a + 9), .int 0, .ref (a + 10), .int 0, .ref (a + 11), .ref (a + 12), .ref (a + 13), .ref (a + 14), .int 0, .ref (a + 15), .ref (a + 16), .int (-1), .int 0, .int 0, .int 4, .int 0, .int 0, .int 0, .int 0, .int 0, .ref (a + 17), .ref (a + 18), .ref (a + 19), .int 0, .ref (a + 20), .int 0, .int 0, .null, .int 0, .null, .int 0, .null, .null, .null, .null, .null]) ha h11 zp_X9_75 rfl dX9_init_171 rfl (fun _ _ => rfl) (fun _ _ => rfl) rfl rfl ?_
  refine zr_aload_n dX9_init_174 rfl ?_
  refine zr_bipush (v := 8) dX9_init_175 kc_bipush_8 ?_
  refine zn_newa (N := 8) (b := (a + 21)) (ty := .int) (tl' := [.inl (.int, 80, fun _ => 0), .inl (.int, 80, fun _ => 0), .inl (.int, 240, fun _ => 0), .inl (.int, 8, fun _ => 0), .inl (.int, 20, fun _ => 0), .inl (.int, 20, fun _ => 0), .inl (.int, 20, fun _ => 0), .inl (.int, 20, fun _ => 0), .inl (.boolean, 20, fun _ => 0), .inl (.int, 8, fun _ => 0), .inl (.int, 60, fun _ => 0), .inl (.int, 3, fun _ => 0), .inl (.int, 20, fun _ => 0), .inl (.int, 20, fun _ => 0), .inl (.int, 8, fun _ => 0), .inl (.int, 20, fun _ => 0), .inl (.int, 80, fun _ => 0), .inl (.int, 20, fun _ => 0), .inl (.int, 8, fun _ => 0), .inl (.int, 20, fun _ => 0), .inl (.int, 8, fun _ => 0)]) ha zv_int rfl rfl (by decide) (by decide) rfl rfl dX9_init_177 rfl rfl rfl rfl ?_
  refine zn_putF (fs' := [.ref (a + 1), .ref (a + 2), .ref (a + 3), .int 0, .ref (a + 4), .int 0, .ref (a + 5), .ref (a + 6), .ref (a + 7), .ref (a + 8), .ref (a + 9), .int 0, .ref (a + 10), .int 0, .ref (a + 11), .ref (a + 12), .ref (a + 13), .ref (a + 14), .int 0, .ref (a + 15), .ref (a + 16), .int (-1), .int 0, .int 0, .int 4, .int 0, .int 0, .int 0, .int 0, .int 0, .ref (a + 17), .ref (a + 18), .ref (a + 19), .int 0, .ref (a + 20), .int 0, .int 0, .ref (a + 21), .int 0, .null, .int 0, .null, .null, .null, .null, .null]) ha h11 zp_X9_78 rfl dX9_init_179 rfl (fun _ _ => rfl) (fun _ _ => rfl) rfl rfl ?_
  refine zr_aload_n dX9_init_182 rfl ?_
  refine zr_bipush (v := 20) dX9_init_183 kc_bipush_20 ?_
  refine zn_newa (N := 20) (b := (a + 22)) (ty := .int) (tl' := [.inl (.int, 80, fun _ => 0), .inl (.int, 80, fun _ => 0), .inl (.int, 240, fun _ => 0), .inl (.int, 8, fun _ => 0), .inl (.int, 20, fun _ => 0), .inl (.int, 20, fun _ => 0), .inl (.int, 20, fun _ => 0), .inl (.int, 20, fun _ => 0), .inl (.boolean, 20, fun _ => 0), .inl (.int, 8, fun _ => 0), .inl (.int, 60, fun _ => 0), .inl (.int, 3, fun _ => 0), .inl (.int, 20, fun _ => 0), .inl (.int, 20, fun _ => 0), .inl (.int, 8, fun _ => 0), .inl (.int, 20, fun _ => 0), .inl (.int, 80, fun _ => 0), .inl (.int, 20, fun _ => 0), .inl (.int, 8, fun _ => 0), .inl (.int, 20, fun _ => 0), .inl (.int, 8, fun _ => 0), .inl (.int, 20, fun _ => 0)]) ha zv_int rfl rfl (by decide) (by decide) rfl rfl dX9_init_185 rfl rfl rfl rfl ?_
  refine zn_putF (fs' := [.ref (a + 1), .ref (a + 2), .ref (a + 3), .int 0, .ref (a + 4), .int 0, .ref (a + 5), .ref (a + 6), .ref (a + 7), .ref (a + 8), .ref (a + 9), .int 0, .ref (a + 10), .int 0, .ref (a + 11), .ref (a + 12), .ref (a + 13), .ref (a + 14), .int 0, .ref (a + 15), .ref (a + 16), .int (-1), .int 0, .int 0, .int 4, .int 0, .int 0, .int 0, .int 0, .int 0, .ref (a + 17), .ref (a + 18), .ref (a + 19), .int 0, .ref (a + 20), .int 0, .int 0, .ref (a + 21), .int 0, .ref (a + 22), .int 0, .null, .null, .null, .null, .null]) ha h11 zp_X9_81 rfl dX9_init_187 rfl (fun _ _ => rfl) (fun _ _ => rfl) rfl rfl ?_
  refine zr_aload_n dX9_init_190 rfl ?_
  refine zr_bipush (v := 8) dX9_init_191 kc_bipush_8 ?_
  refine zn_newa (N := 8) (b := (a + 23)) (ty := .int) (tl' := [.inl (.int, 80, fun _ => 0), .inl (.int, 80, fun _ => 0), .inl (.int, 240, fun _ => 0), .inl (.int, 8, fun _ => 0), .inl (.int, 20, fun _ => 0), .inl (.int, 20, fun _ => 0), .inl (.int, 20, fun _ => 0), .inl (.int, 20, fun _ => 0), .inl (.boolean, 20, fun _ => 0), .inl (.int, 8, fun _ => 0), .inl (.int, 60, fun _ => 0), .inl (.int, 3, fun _ => 0), .inl (.int, 20, fun _ => 0), .inl (.int, 20, fun _ => 0), .inl (.int, 8, fun _ => 0), .inl (.int, 20, fun _ => 0), .inl (.int, 80, fun _ => 0), .inl (.int, 20, fun _ => 0), .inl (.int, 8, fun _ => 0), .inl (.int, 20, fun _ => 0), .inl (.int, 8, fun _ => 0), .inl (.int, 20, fun _ => 0), .inl (.int, 8, fun _ => 0)]) ha zv_int rfl rfl (by decide) (by decide) rfl rfl dX9_init_193 rfl rfl rfl rfl ?_
  refine zn_putF (fs' := [.ref (a + 1), .ref (a + 2), .ref (a + 3), .int 0, .ref (a + 4), .int 0, .ref (a + 5), .ref (a + 6), .ref (a + 7), .ref (a + 8), .ref (a + 9), .int 0, .ref (a + 10), .int 0, .ref (a + 11), .ref (a + 12), .ref (a + 13), .ref (a + 14), .int 0, .ref (a + 15), .ref (a + 16), .int (-1), .int 0, .int 0, .int 4, .int 0, .int 0, .int 0, .int 0, .int 0, .ref (a + 17), .ref (a + 18), .ref (a + 19), .int 0, .ref (a + 20), .int 0, .int 0, .ref (a + 21), .int 0, .ref (a + 22), .int 0, .ref (a + 23), .null, .null, .null, .null]) ha h11 zp_X9_84 rfl dX9_init_195 rfl (fun _ _ => rfl) (fun _ _ => rfl) rfl rfl ?_
  refine zr_aload_n dX9_init_198 rfl ?_
  refine zr_bipush (v := 20) dX9_init_199 kc_bipush_20 ?_
  refine zn_newa (N := 20) (b := (a + 24)) (ty := .int) (tl' := [.inl (.int, 80, fun _ => 0), .inl (.int, 80, fun _ => 0), .inl (.int, 240, fun _ => 0), .inl (.int, 8, fun _ => 0), .inl (.int, 20, fun _ => 0), .inl (.int, 20, fun _ => 0), .inl (.int, 20, fun _ => 0), .inl (.int, 20, fun _ => 0), .inl (.boolean, 20, fun _ => 0), .inl (.int, 8, fun _ => 0), .inl (.int, 60, fun _ => 0), .inl (.int, 3, fun _ => 0), .inl (.int, 20, fun _ => 0), .inl (.int, 20, fun _ => 0), .inl (.int, 8, fun _ => 0), .inl (.int, 20, fun _ => 0), .inl (.int, 80, fun _ => 0), .inl (.int, 20, fun _ => 0), .inl (.int, 8, fun _ => 0), .inl (.int, 20, fun _ => 0), .inl (.int, 8, fun _ => 0), .inl (.int, 20, fun _ => 0), .inl (.int, 8, fun _ => 0), .inl (.int, 20, fun _ => 0)]) ha zv_int rfl rfl (by decide) (by decide) rfl rfl dX9_init_201 rfl rfl rfl rfl ?_
  refine zn_putF (fs' := [.ref (a + 1), .ref (a + 2), .ref (a + 3), .int 0, .ref (a + 4), .int 0, .ref (a + 5), .ref (a + 6), .ref (a + 7), .ref (a + 8), .ref (a + 9), .int 0, .ref (a + 10), .int 0, .ref (a + 11), .ref (a + 12), .ref (a + 13), .ref (a + 14), .int 0, .ref (a + 15), .ref (a + 16), .int (-1), .int 0, .int 0, .int 4, .int 0, .int 0, .int 0, .int 0, .int 0, .ref (a + 17), .ref (a + 18), .ref (a + 19), .int 0, .ref (a + 20), .int 0, .int 0, .ref (a + 21), .int 0, .ref (a + 22), .int 0, .ref (a + 23), .ref (a + 24), .null, .null, .null]) ha h11 zp_X9_87 rfl dX9_init_203 rfl (fun _ _ => rfl) (fun _ _ => rfl) rfl rfl ?_
  refine zr_aload_n dX9_init_206 rfl ?_
  refine zr_bipush (v := 7) dX9_init_207 kc_bipush_7 ?_
  refine zn_newa (N := 7) (b := (a + 25)) (ty := .int) (tl' := [.inl (.int, 80, fun _ => 0), .inl (.int, 80, fun _ => 0), .inl (.int, 240, fun _ => 0), .inl (.int, 8, fun _ => 0), .inl (.int, 20, fun _ => 0), .inl (.int, 20, fun _ => 0), .inl (.int, 20, fun _ => 0), .inl (.int, 20, fun _ => 0), .inl (.boolean, 20, fun _ => 0), .inl (.int, 8, fun _ => 0), .inl (.int, 60, fun _ => 0), .inl (.int, 3, fun _ => 0), .inl (.int, 20, fun _ => 0), .inl (.int, 20, fun _ => 0), .inl (.int, 8, fun _ => 0), .inl (.int, 20, fun _ => 0), .inl (.int, 80, fun _ => 0), .inl (.int, 20, fun _ => 0), .inl (.int, 8, fun _ => 0), .inl (.int, 20, fun _ => 0), .inl (.int, 8, fun _ => 0), .inl (.int, 20, fun _ => 0), .inl (.int, 8, fun _ => 0), .inl (.int, 20, fun _ => 0), .inl (.int, 7, fun _ => 0)]) ha zv_int rfl rfl (by decide) (by decide) rfl rfl dX9_init_209 rfl rfl rfl rfl ?_
  refine zn_putF (fs' := [.ref (a + 1), .ref (a + 2), .ref (a + 3), .int 0, .ref (a + 4), .int 0, .ref (a + 5), .ref (a + 6), .ref (a + 7), .ref (a + 8), .ref (a + 9), .int 0, .ref (a + 10), .int 0, .ref (a + 11), .ref (a + 12), .ref (a + 13), .ref (a + 14), .int 0, .ref (a + 15), .ref (a + 16), .int (-1), .int 0, .int 0, .int 4, .int 0, .int 0, .int 0, .int 0, .int 0, .ref (a + 17), .ref (a + 18), .ref (a + 19), .int 0, .ref (a + 20), .int 0, .int 0, .ref (a + 21), .int 0, .ref (a + 22), .int 0, .ref (a + 23), .ref (a + 24), .ref (a + 25), .null, .null]) ha h11 zp_X9_90 rfl dX9_init_211 rfl (fun _ _ => rfl) (fun _ _ => rfl) rfl rfl ?_
  refine zr_aload_n dX9_init_214 rfl ?_
  refine zr_sipush (v := 160) dX9_init_215 kc_sipush_160 ?_
  refine zn_newa (N := 160) (b := (a + 26)) (ty := .int) (tl' := [.inl (.int, 80, fun _ => 0), .inl (.int, 80, fun _ => 0), .inl (.int, 240, fun _ => 0), .inl (.int, 8, fun _ => 0), .inl (.int, 20, fun _ => 0), .inl (.int, 20, fun _ => 0), .inl (.int, 20, fun _ => 0), .inl (.int, 20, fun _ => 0), .inl (.boolean, 20, fun _ => 0), .inl (.int, 8, fun _ => 0), .inl (.int, 60, fun _ => 0), .inl (.int, 3, fun _ => 0), .inl (.int, 20, fun _ => 0), .inl (.int, 20, fun _ => 0), .inl (.int, 8, fun _ => 0), .inl (.int, 20, fun _ => 0), .inl (.int, 80, fun _ => 0), .inl (.int, 20, fun _ => 0), .inl (.int, 8, fun _ => 0), .inl (.int, 20, fun _ => 0), .inl (.int, 8, fun _ => 0), .inl (.int, 20, fun _ => 0), .inl (.int, 8, fun _ => 0), .inl (.int, 20, fun _ => 0), .inl (.int, 7, fun _ => 0), .inl (.int, 160, fun _ => 0)]) ha zv_int rfl rfl (by decide) (by decide) rfl rfl dX9_init_218 rfl rfl rfl rfl ?_
  refine zn_putF (fs' := [.ref (a + 1), .ref (a + 2), .ref (a + 3), .int 0, .ref (a + 4), .int 0, .ref (a + 5), .ref (a + 6), .ref (a + 7), .ref (a + 8), .ref (a + 9), .int 0, .ref (a + 10), .int 0, .ref (a + 11), .ref (a + 12), .ref (a + 13), .ref (a + 14), .int 0, .ref (a + 15), .ref (a + 16), .int (-1), .int 0, .int 0, .int 4, .int 0, .int 0, .int 0, .int 0, .int 0, .ref (a + 17), .ref (a + 18), .ref (a + 19), .int 0, .ref (a + 20), .int 0, .int 0, .ref (a + 21), .int 0, .ref (a + 22), .int 0, .ref (a + 23), .ref (a + 24), .ref (a + 25), .ref (a + 26), .null]) ha h11 zp_X9_93 rfl dX9_init_220 rfl (fun _ _ => rfl) (fun _ _ => rfl) rfl rfl ?_
  refine zr_aload_n dX9_init_223 rfl ?_
  refine zr_sipush (v := 400) dX9_init_224 kc_sipush_400 ?_
  refine zn_newa (N := 400) (b := (a + 27)) (ty := .int) (tl' := [.inl (.int, 80, fun _ => 0), .inl (.int, 80, fun _ => 0), .inl (.int, 240, fun _ => 0), .inl (.int, 8, fun _ => 0), .inl (.int, 20, fun _ => 0), .inl (.int, 20, fun _ => 0), .inl (.int, 20, fun _ => 0), .inl (.int, 20, fun _ => 0), .inl (.boolean, 20, fun _ => 0), .inl (.int, 8, fun _ => 0), .inl (.int, 60, fun _ => 0), .inl (.int, 3, fun _ => 0), .inl (.int, 20, fun _ => 0), .inl (.int, 20, fun _ => 0), .inl (.int, 8, fun _ => 0), .inl (.int, 20, fun _ => 0), .inl (.int, 80, fun _ => 0), .inl (.int, 20, fun _ => 0), .inl (.int, 8, fun _ => 0), .inl (.int, 20, fun _ => 0), .inl (.int, 8, fun _ => 0), .inl (.int, 20, fun _ => 0), .inl (.int, 8, fun _ => 0), .inl (.int, 20, fun _ => 0), .inl (.int, 7, fun _ => 0), .inl (.int, 160, fun _ => 0), .inl (.int, 400, fun _ => 0)]) ha zv_int rfl rfl (by decide) (by decide) rfl rfl dX9_init_227 rfl rfl rfl rfl ?_
  refine zn_putF (fs' := [.ref (a + 1), .ref (a + 2), .ref (a + 3), .int 0, .ref (a + 4), .int 0, .ref (a + 5), .ref (a + 6), .ref (a + 7), .ref (a + 8), .ref (a + 9), .int 0, .ref (a + 10), .int 0, .ref (a + 11), .ref (a + 12), .ref (a + 13), .ref (a + 14), .int 0, .ref (a + 15), .ref (a + 16), .int (-1), .int 0, .int 0, .int 4, .int 0, .int 0, .int 0, .int 0, .int 0, .ref (a + 17), .ref (a + 18), .ref (a + 19), .int 0, .ref (a + 20), .int 0, .int 0, .ref (a + 21), .int 0, .ref (a + 22), .int 0, .ref (a + 23), .ref (a + 24), .ref (a + 25), .ref (a + 26), .ref (a + 27)]) ha h11 zp_X9_96 rfl dX9_init_229 rfl (fun _ _ => rfl) (fun _ _ => rfl) rfl rfl ?_
  exact zr_vret dX9_init_232 rfl ⟨rfl, rfl⟩
theorem dvX0 : ∀ j, j < 7 → defaultValue (tyX0 j) = vp_V [.null, .null, .null, .null, .null, .int 0, .int 0] j := by
  intro j hj
  match j, hj with
  | 0, _ => rfl
  | 1, _ => rfl
  | 2, _ => rfl
  | 3, _ => rfl
  | 4, _ => rfl
  | 5, _ => rfl
  | 6, _ => rfl
  | j + 7, h => exact absurd h (by omega)
theorem dvX1 : ∀ j, j < 4 → defaultValue (tyX1 j) = vp_V [.null, .null, .null, .null] j := by
  intro j hj
  match j, hj with
  | 0, _ => rfl
  | 1, _ => rfl
  | 2, _ => rfl
  | 3, _ => rfl
  | j + 4, h => exact absurd h (by omega)
theorem dvX2 : ∀ j, j < 14 → defaultValue (tyX2 j) = vp_V [.int 0, .int 0, .int 0, .int 0, .null, .null, .null, .null, .null, .null, .null, .null, .null, .null] j := by
  intro j hj
  match j, hj with
  | 0, _ => rfl
  | 1, _ => rfl
  | 2, _ => rfl
  | 3, _ => rfl
  | 4, _ => rfl
  | 5, _ => rfl
  | 6, _ => rfl
  | 7, _ => rfl
  | 8, _ => rfl
  | 9, _ => rfl
  | 10, _ => rfl
  | 11, _ => rfl
  | 12, _ => rfl
  | 13, _ => rfl
  | j + 14, h => exact absurd h (by omega)
theorem dvX3 : ∀ j, j < 8 → defaultValue (tyX3 j) = vp_V [.null, .int 0, .int 0, .int 0, .int 0, .int 0, .int 0, .int 0] j := by
  intro j hj
  match j, hj with
  | 0, _ => rfl
  | 1, _ => rfl
  | 2, _ => rfl
  | 3, _ => rfl
  | 4, _ => rfl
  | 5, _ => rfl
  | 6, _ => rfl
  | 7, _ => rfl
  | j + 8, h => exact absurd h (by omega)
theorem dvX4 : ∀ j, j < 2 → defaultValue (tyX4 j) = vp_V [.null, .null] j := by
  intro j hj
  match j, hj with
  | 0, _ => rfl
  | 1, _ => rfl
  | j + 2, h => exact absurd h (by omega)
theorem dvX5 : ∀ j, j < 4 → defaultValue (tyX5 j) = vp_V [.null, .null, .int 0, .int 0] j := by
  intro j hj
  match j, hj with
  | 0, _ => rfl
  | 1, _ => rfl
  | 2, _ => rfl
  | 3, _ => rfl
  | j + 4, h => exact absurd h (by omega)
theorem dvX6 : ∀ j, j < 3 → defaultValue (tyX6 j) = vp_V [.null, .null, .int 0] j := by
  intro j hj
  match j, hj with
  | 0, _ => rfl
  | 1, _ => rfl
  | 2, _ => rfl
  | j + 3, h => exact absurd h (by omega)
theorem dvX7 : ∀ j, j < 7 → defaultValue (tyX7 j) = vp_V [.null, .null, .null, .null, .null, .int 0, .int 0] j := by
  intro j hj
  match j, hj with
  | 0, _ => rfl
  | 1, _ => rfl
  | 2, _ => rfl
  | 3, _ => rfl
  | 4, _ => rfl
  | 5, _ => rfl
  | 6, _ => rfl
  | j + 7, h => exact absurd h (by omega)
theorem dvX8 : ∀ j, j < 8 → defaultValue (tyX8 j) = vp_V [.null, .null, .null, .null, .null, .null, .null, .null] j := by
  intro j hj
  match j, hj with
  | 0, _ => rfl
  | 1, _ => rfl
  | 2, _ => rfl
  | 3, _ => rfl
  | 4, _ => rfl
  | 5, _ => rfl
  | 6, _ => rfl
  | 7, _ => rfl
  | j + 8, h => exact absurd h (by omega)
theorem dvX9 : ∀ j, j < 46 → defaultValue (tyX9 j) = vp_V [.null, .null, .null, .int 0, .null, .int 0, .null, .null, .null, .null, .null, .int 0, .null, .int 0, .null, .null, .null, .null, .int 0, .null, .null, .int 0, .int 0, .int 0, .int 0, .int 0, .int 0, .int 0, .int 0, .int 0, .null, .null, .null, .int 0, .null, .int 0, .int 0, .null, .int 0, .null, .int 0, .null, .null, .null, .null, .null] j := by
  intro j hj
  match j, hj with
  | 0, _ => rfl
  | 1, _ => rfl
  | 2, _ => rfl
  | 3, _ => rfl
  | 4, _ => rfl
  | 5, _ => rfl
  | 6, _ => rfl
  | 7, _ => rfl
  | 8, _ => rfl
  | 9, _ => rfl
  | 10, _ => rfl
  | 11, _ => rfl
  | 12, _ => rfl
  | 13, _ => rfl
  | 14, _ => rfl
  | 15, _ => rfl
  | 16, _ => rfl
  | 17, _ => rfl
  | 18, _ => rfl
  | 19, _ => rfl
  | 20, _ => rfl
  | 21, _ => rfl
  | 22, _ => rfl
  | 23, _ => rfl
  | 24, _ => rfl
  | 25, _ => rfl
  | 26, _ => rfl
  | 27, _ => rfl
  | 28, _ => rfl
  | 29, _ => rfl
  | 30, _ => rfl
  | 31, _ => rfl
  | 32, _ => rfl
  | 33, _ => rfl
  | 34, _ => rfl
  | 35, _ => rfl
  | 36, _ => rfl
  | 37, _ => rfl
  | 38, _ => rfl
  | 39, _ => rfl
  | 40, _ => rfl
  | 41, _ => rfl
  | 42, _ => rfl
  | 43, _ => rfl
  | 44, _ => rfl
  | 45, _ => rfl
  | j + 46, h => exact absurd h (by omega)
def gi_3 (x0 : Nat) : gz_AC := .inr (3, [.ref x0, .int 0, .int 4, .int 0, .int 0, .int 0, .int 0, .int 0])
theorem ck_3 (a x0 : Nat) (h11 : 11 ≤ a) (r : List gz_AC) : gn_K 1 yX3_init cX3_init 2 0 0 a [.ref x0] (.inr (3, [.null, .int 0, .int 0, .int 0, .int 0, .int 0, .int 0, .int 0])) r (gi_3 x0 :: r) := by
  refine gn_K.of rfl rfl (fun h0 ha => ?_)
  refine zr_aload_n dX3_init_0 rfl ?_
  refine zn_obj zo_X3_3 dX3_init_1 rfl rfl ?_
  refine zr_aload_n dX3_init_4 rfl ?_
  refine zr_aload_n dX3_init_5 rfl ?_
  refine zn_putF (fs' := [.ref x0, .int 0, .int 0, .int 0, .int 0, .int 0, .int 0, .int 0]) ha h11 zp_X3_9 rfl dX3_init_6 rfl (fun _ _ => rfl) (fun _ _ => rfl) rfl rfl ?_
  refine zr_aload_n dX3_init_9 rfl ?_
  refine zr_iconst (v := 4) dX3_init_10 kc_iconst_4 ?_
  refine zn_put (fs' := [.ref x0, .int 0, .int 4, .int 0, .int 0, .int 0, .int 0, .int 0]) ha h11 zp_X3_15 dX3_init_11 rfl (fun _ _ => rfl) (fun _ _ => rfl) rfl rfl ?_
  exact zr_vret dX3_init_14 rfl ⟨rfl, rfl⟩
def gi_7 (a x0 x1 x2 : Nat) (r : List gz_AC) : List gz_AC := .inr (7, [.ref x0, .ref x1, .ref x2, .ref (a + 6), .ref (a + 9), .int 0, .int 0]) :: ((r ++ (gi_5 (a + 6))) ++ (gi_5 (a + 9)))
theorem ck_7 (a x0 x1 x2 : Nat) (h11 : 11 ≤ a) (r : List gz_AC) (hr : r.length = 5) : gn_K 2 yX7_init cX7_init 4 6 64 a [.ref x0, .ref x1, .ref x2] (.inr (7, [.null, .null, .null, .null, .null, .int 0, .int 0])) r (gi_7 a x0 x1 x2 r) := by
  refine gn_K.of rfl rfl (fun h0 ha => ?_)
  refine zr_aload_n dX7_init_0 rfl ?_
  refine zn_obj zo_X7_1 dX7_init_1 rfl rfl ?_
  refine zr_aload_n dX7_init_4 rfl ?_
  refine zn_new (ci := 5) (b := (a + 6)) (ty := tyX5) (fs := [.null, .null, .int 0, .int 0]) ha rfl rfl zk_X5 tyX5_ok ze_X7_7 zn_X5 zi_X5 dvX5 (fun _ _ => rfl) dX7_init_5 rfl rfl (by simp [hr, gi_5]) ?_
  refine zr_dup dX7_init_8 rfl ?_
  refine zn_ctN (b := (a + 6)) (As := []) (tl1 := r) (r := []) (tl' := (r ++ (gi_5 (a + 6)))) ha (ck_5 (a + 6) (by omega)) zc_X7_9 rfl dX7_init_9 rfl rfl rfl rfl rfl rfl (by simp [hr, gi_5]) rfl ?_
  refine zn_putF (fs' := [.null, .null, .null, .ref (a + 6), .null, .int 0, .int 0]) ha h11 zp_X7_10 rfl dX7_init_12 rfl (fun _ _ => rfl) (fun _ _ => rfl) rfl rfl ?_
  refine zr_aload_n dX7_init_15 rfl ?_
  refine zn_new (ci := 5) (b := (a + 9)) (ty := tyX5) (fs := [.null, .null, .int 0, .int 0]) ha rfl rfl zk_X5 tyX5_ok ze_X7_7 zn_X5 zi_X5 dvX5 (fun _ _ => rfl) dX7_init_16 rfl rfl (by simp [hr, gi_5]) ?_
  refine zr_dup dX7_init_19 rfl ?_
  refine zn_ctN (b := (a + 9)) (As := []) (tl1 := (r ++ (gi_5 (a + 6)))) (r := []) (tl' := ((r ++ (gi_5 (a + 6))) ++ (gi_5 (a + 9)))) ha (ck_5 (a + 9) (by omega)) zc_X7_9 rfl dX7_init_20 rfl rfl rfl rfl rfl rfl (by simp [hr, gi_5]) rfl ?_
  refine zn_putF (fs' := [.null, .null, .null, .ref (a + 6), .ref (a + 9), .int 0, .int 0]) ha h11 zp_X7_16 rfl dX7_init_23 rfl (fun _ _ => rfl) (fun _ _ => rfl) rfl rfl ?_
  refine zr_aload_n dX7_init_26 rfl ?_
  refine zr_aload_n dX7_init_27 rfl ?_
  refine zn_putF (fs' := [.ref x0, .null, .null, .ref (a + 6), .ref (a + 9), .int 0, .int 0]) ha h11 zp_X7_19 rfl dX7_init_28 rfl (fun _ _ => rfl) (fun _ _ => rfl) rfl rfl ?_
  refine zr_aload_n dX7_init_31 rfl ?_
  refine zr_aload_n dX7_init_32 rfl ?_
  refine zn_putF (fs' := [.ref x0, .ref x1, .null, .ref (a + 6), .ref (a + 9), .int 0, .int 0]) ha h11 zp_X7_23 rfl dX7_init_33 rfl (fun _ _ => rfl) (fun _ _ => rfl) rfl rfl ?_
  refine zr_aload_n dX7_init_36 rfl ?_
  refine zr_aload_n dX7_init_37 rfl ?_
  refine zn_putF (fs' := [.ref x0, .ref x1, .ref x2, .ref (a + 6), .ref (a + 9), .int 0, .int 0]) ha h11 zp_X7_27 rfl dX7_init_38 rfl (fun _ _ => rfl) (fun _ _ => rfl) rfl rfl ?_
  exact zr_vret dX7_init_41 rfl ⟨rfl, rfl⟩
def gi_8 : List gz_AC := .inr (8, [.ref 12, .ref 23, .ref 31, .ref 36, .ref 39, .ref 41, .ref 53, .ref 56]) :: (((((((((gi_2 12) ++ (gi_1 23)) ++ [gi_3 32]) ++ (gi_0 32 12 23)) ++ (gi_6 36)) ++ (gi_4 39 23)) ++ (gi_7 41 42 39 36 ([gi_3 43] ++ (gi_0 43 12 23)))) ++ (gi_5 53)) ++ [.inl (.int, 160, fun _ => 0)])
theorem ck_8 : gn_K 3 yX8_init cX8_init 1 45 1246 11 [] (.inr (8, [.null, .null, .null, .null, .null, .null, .null, .null])) [] gi_8 := by
  refine gn_K.of rfl rfl (fun h0 ha => ?_)
  refine zr_aload_n dX8_init_0 rfl ?_
  refine zn_obj zo_X8_1 dX8_init_1 rfl rfl ?_
  refine zr_aload_n dX8_init_4 rfl ?_
  refine zn_new (ci := 2) (b := 12) (ty := tyX2) (fs := [.int 0, .int 0, .int 0, .int 0, .null, .null, .null, .null, .null, .null, .null, .null, .null, .null]) ha rfl rfl zk_X2 tyX2_ok ze_X8_7 zn_X2 zi_X2 dvX2 (fun _ _ => rfl) dX8_init_5 rfl rfl rfl ?_
  refine zr_dup dX8_init_8 rfl ?_
  refine zn_ctN (b := 12) (As := []) (tl1 := ([] : List gz_AC)) (r := []) (tl' := (gi_2 12)) ha (ck_2 12 (by decide)) zc_X8_9 rfl dX8_init_9 rfl rfl rfl rfl rfl rfl rfl rfl ?_
  refine zn_putF (fs' := [.ref 12, .null, .null, .null, .null, .null, .null, .null]) ha (by decide) zp_X8_10 rfl dX8_init_12 rfl (fun _ _ => rfl) (fun _ _ => rfl) rfl rfl ?_
  refine zr_aload_n dX8_init_15 rfl ?_
  refine zn_new (ci := 1) (b := 23) (ty := tyX1) (fs := [.null, .null, .null, .null]) ha rfl rfl zk_X1 tyX1_ok ze_X8_16 zn_X1 zi_X1 dvX1 (fun _ _ => rfl) dX8_init_16 rfl rfl rfl ?_
  refine zr_dup dX8_init_19 rfl ?_
  refine zn_ctI (b := 23) (As := []) (tl1 := (gi_2 12)) (r := []) (tl' := ((gi_2 12) ++ (gi_1 23))) ha (ck_1 23 (by decide)) zc_X8_18 rfl dX8_init_20 rfl rfl rfl rfl rfl rfl rfl rfl ?_
  refine zn_putF (fs' := [.ref 12, .ref 23, .null, .null, .null, .null, .null, .null]) ha (by decide) zp_X8_19 rfl dX8_init_23 rfl (fun _ _ => rfl) (fun _ _ => rfl) rfl rfl ?_
  refine zr_aload_n dX8_init_26 rfl ?_
  refine zn_new (ci := 3) (b := 31) (ty := tyX3) (fs := [.null, .int 0, .int 0, .int 0, .int 0, .int 0, .int 0, .int 0]) ha rfl rfl zk_X3 tyX3_ok ze_X8_23 zn_X3 zi_X3 dvX3 (fun _ _ => rfl) dX8_init_27 rfl rfl rfl ?_
  refine zr_dup dX8_init_30 rfl ?_
  refine zn_new (ci := 0) (b := 32) (ty := tyX0) (fs := [.null, .null, .null, .null, .null, .int 0, .int 0]) ha rfl rfl zk_X0 tyX0_ok ze_X8_25 zn_X0 zi_X0 dvX0 (fun _ _ => rfl) dX8_init_31 rfl rfl rfl ?_
  refine zr_dup dX8_init_34 rfl ?_
  refine zr_aload_n dX8_init_35 rfl ?_
  refine zn_get ha zg_X8_10 dX8_init_36 rfl rfl ?_
  refine zr_aload_n dX8_init_39 rfl ?_
  refine zn_get ha zg_X8_19 dX8_init_40 rfl rfl ?_
  refine zn_ctI (b := 32) (As := [.ref 12, .ref 23]) (tl1 := (((gi_2 12) ++ (gi_1 23)) ++ [.inr (3, [.null, .int 0, .int 0, .int 0, .int 0, .int 0, .int 0, .int 0])])) (r := []) (tl' := ((((gi_2 12) ++ (gi_1 23)) ++ [.inr (3, [.null, .int 0, .int 0, .int 0, .int 0, .int 0, .int 0, .int 0])]) ++ (gi_0 32 12 23))) ha (ck_0 32 12 23 (by decide)) zc_X8_27 rfl dX8_init_43 rfl rfl rfl rfl rfl rfl rfl rfl ?_
  refine zn_ctI (b := 31) (As := [.ref 32]) (tl1 := ((gi_2 12) ++ (gi_1 23))) (r := (gi_0 32 12 23)) (tl' := ((((gi_2 12) ++ (gi_1 23)) ++ [gi_3 32]) ++ (gi_0 32 12 23))) ha (ck_3 31 32 (by decide) (gi_0 32 12 23)) zc_X8_30 rfl dX8_init_46 rfl rfl rfl rfl rfl rfl rfl rfl ?_
  refine zn_putF (fs' := [.ref 12, .ref 23, .ref 31, .null, .null, .null, .null, .null]) ha (by decide) zp_X8_33 rfl dX8_init_49 rfl (fun _ _ => rfl) (fun _ _ => rfl) rfl rfl ?_
  refine zr_aload_n dX8_init_52 rfl ?_
  refine zn_new (ci := 6) (b := 36) (ty := tyX6) (fs := [.null, .null, .int 0]) ha rfl rfl zk_X6 tyX6_ok ze_X8_37 zn_X6 zi_X6 dvX6 (fun _ _ => rfl) dX8_init_53 rfl rfl rfl ?_
  refine zr_dup dX8_init_56 rfl ?_
  refine zn_ctN (b := 36) (As := []) (tl1 := ((((gi_2 12) ++ (gi_1 23)) ++ [gi_3 32]) ++ (gi_0 32 12 23))) (r := []) (tl' := (((((gi_2 12) ++ (gi_1 23)) ++ [gi_3 32]) ++ (gi_0 32 12 23)) ++ (gi_6 36))) ha (ck_6 36 (by decide)) zc_X8_39 rfl dX8_init_57 rfl rfl rfl rfl rfl rfl rfl rfl ?_
  refine zn_putF (fs' := [.ref 12, .ref 23, .ref 31, .ref 36, .null, .null, .null, .null]) ha (by decide) zp_X8_40 rfl dX8_init_60 rfl (fun _ _ => rfl) (fun _ _ => rfl) rfl rfl ?_
  refine zr_aload_n dX8_init_63 rfl ?_
  refine zn_new (ci := 4) (b := 39) (ty := tyX4) (fs := [.null, .null]) ha rfl rfl zk_X4 tyX4_ok ze_X8_44 zn_X4 zi_X4 dvX4 (fun _ _ => rfl) dX8_init_64 rfl rfl rfl ?_
  refine zr_dup dX8_init_67 rfl ?_
  refine zr_aload_n dX8_init_68 rfl ?_
  refine zn_get ha zg_X8_19 dX8_init_69 rfl rfl ?_
  refine zn_ctI (b := 39) (As := [.ref 23]) (tl1 := (((((gi_2 12) ++ (gi_1 23)) ++ [gi_3 32]) ++ (gi_0 32 12 23)) ++ (gi_6 36))) (r := []) (tl' := ((((((gi_2 12) ++ (gi_1 23)) ++ [gi_3 32]) ++ (gi_0 32 12 23)) ++ (gi_6 36)) ++ (gi_4 39 23))) ha (ck_4 39 23 (by decide)) zc_X8_46 rfl dX8_init_72 rfl rfl rfl rfl rfl rfl rfl rfl ?_
  refine zn_putF (fs' := [.ref 12, .ref 23, .ref 31, .ref 36, .ref 39, .null, .null, .null]) ha (by decide) zp_X8_49 rfl dX8_init_75 rfl (fun _ _ => rfl) (fun _ _ => rfl) rfl rfl ?_
  refine zr_aload_n dX8_init_78 rfl ?_
  refine zn_new (ci := 7) (b := 41) (ty := tyX7) (fs := [.null, .null, .null, .null, .null, .int 0, .int 0]) ha rfl rfl zk_X7 tyX7_ok ze_X8_53 zn_X7 zi_X7 dvX7 (fun _ _ => rfl) dX8_init_79 rfl rfl rfl ?_
  refine zr_dup dX8_init_82 rfl ?_
  refine zn_new (ci := 3) (b := 42) (ty := tyX3) (fs := [.null, .int 0, .int 0, .int 0, .int 0, .int 0, .int 0, .int 0]) ha rfl rfl zk_X3 tyX3_ok ze_X8_23 zn_X3 zi_X3 dvX3 (fun _ _ => rfl) dX8_init_83 rfl rfl rfl ?_
  refine zr_dup dX8_init_86 rfl ?_
  refine zn_new (ci := 0) (b := 43) (ty := tyX0) (fs := [.null, .null, .null, .null, .null, .int 0, .int 0]) ha rfl rfl zk_X0 tyX0_ok ze_X8_25 zn_X0 zi_X0 dvX0 (fun _ _ => rfl) dX8_init_87 rfl rfl rfl ?_
  refine zr_dup dX8_init_90 rfl ?_
  refine zr_aload_n dX8_init_91 rfl ?_
  refine zn_get ha zg_X8_10 dX8_init_92 rfl rfl ?_
  refine zr_aload_n dX8_init_95 rfl ?_
  refine zn_get ha zg_X8_19 dX8_init_96 rfl rfl ?_
  refine zn_ctI (b := 43) (As := [.ref 12, .ref 23]) (tl1 := ((((((((gi_2 12) ++ (gi_1 23)) ++ [gi_3 32]) ++ (gi_0 32 12 23)) ++ (gi_6 36)) ++ (gi_4 39 23)) ++ [.inr (7, [.null, .null, .null, .null, .null, .int 0, .int 0])]) ++ [.inr (3, [.null, .int 0, .int 0, .int 0, .int 0, .int 0, .int 0, .int 0])])) (r := []) (tl' := (((((((((gi_2 12) ++ (gi_1 23)) ++ [gi_3 32]) ++ (gi_0 32 12 23)) ++ (gi_6 36)) ++ (gi_4 39 23)) ++ [.inr (7, [.null, .null, .null, .null, .null, .int 0, .int 0])]) ++ [.inr (3, [.null, .int 0, .int 0, .int 0, .int 0, .int 0, .int 0, .int 0])]) ++ (gi_0 43 12 23))) ha (ck_0 43 12 23 (by decide)) zc_X8_27 rfl dX8_init_99 rfl rfl rfl rfl rfl rfl rfl rfl ?_
  refine zn_ctI (b := 42) (As := [.ref 43]) (tl1 := (((((((gi_2 12) ++ (gi_1 23)) ++ [gi_3 32]) ++ (gi_0 32 12 23)) ++ (gi_6 36)) ++ (gi_4 39 23)) ++ [.inr (7, [.null, .null, .null, .null, .null, .int 0, .int 0])])) (r := (gi_0 43 12 23)) (tl' := (((((((((gi_2 12) ++ (gi_1 23)) ++ [gi_3 32]) ++ (gi_0 32 12 23)) ++ (gi_6 36)) ++ (gi_4 39 23)) ++ [.inr (7, [.null, .null, .null, .null, .null, .int 0, .int 0])]) ++ [gi_3 43]) ++ (gi_0 43 12 23))) ha (ck_3 42 43 (by decide) (gi_0 43 12 23)) zc_X8_30 rfl dX8_init_102 rfl rfl rfl rfl rfl rfl rfl rfl ?_
  refine zr_aload_n dX8_init_105 rfl ?_
  refine zn_get ha zg_X8_49 dX8_init_106 rfl rfl ?_
  refine zr_aload_n dX8_init_109 rfl ?_
  refine zn_get ha zg_X8_40 dX8_init_110 rfl rfl ?_
  refine zn_ctI (b := 41) (As := [.ref 42, .ref 39, .ref 36]) (tl1 := ((((((gi_2 12) ++ (gi_1 23)) ++ [gi_3 32]) ++ (gi_0 32 12 23)) ++ (gi_6 36)) ++ (gi_4 39 23))) (r := ([gi_3 43] ++ (gi_0 43 12 23))) (tl' := (((((((gi_2 12) ++ (gi_1 23)) ++ [gi_3 32]) ++ (gi_0 32 12 23)) ++ (gi_6 36)) ++ (gi_4 39 23)) ++ (gi_7 41 42 39 36 ([gi_3 43] ++ (gi_0 43 12 23))))) ha (ck_7 41 42 39 36 (by decide) ([gi_3 43] ++ (gi_0 43 12 23)) rfl) zc_X8_55 rfl dX8_init_113 rfl rfl rfl rfl rfl rfl rfl rfl ?_
  refine zn_putF (fs' := [.ref 12, .ref 23, .ref 31, .ref 36, .ref 39, .ref 41, .null, .null]) ha (by decide) zp_X8_58 rfl dX8_init_116 rfl (fun _ _ => rfl) (fun _ _ => rfl) rfl rfl ?_
  refine zr_aload_n dX8_init_119 rfl ?_
  refine zn_new (ci := 5) (b := 53) (ty := tyX5) (fs := [.null, .null, .int 0, .int 0]) ha rfl rfl zk_X5 tyX5_ok ze_X8_62 zn_X5 zi_X5 dvX5 (fun _ _ => rfl) dX8_init_120 rfl rfl rfl ?_
  refine zr_dup dX8_init_123 rfl ?_
  refine zn_ctN (b := 53) (As := []) (tl1 := (((((((gi_2 12) ++ (gi_1 23)) ++ [gi_3 32]) ++ (gi_0 32 12 23)) ++ (gi_6 36)) ++ (gi_4 39 23)) ++ (gi_7 41 42 39 36 ([gi_3 43] ++ (gi_0 43 12 23))))) (r := []) (tl' := ((((((((gi_2 12) ++ (gi_1 23)) ++ [gi_3 32]) ++ (gi_0 32 12 23)) ++ (gi_6 36)) ++ (gi_4 39 23)) ++ (gi_7 41 42 39 36 ([gi_3 43] ++ (gi_0 43 12 23)))) ++ (gi_5 53))) ha (ck_5 53 (by decide)) zc_X8_64 rfl dX8_init_124 rfl rfl rfl rfl rfl rfl rfl rfl ?_
  refine zn_putF (fs' := [.ref 12, .ref 23, .ref 31, .ref 36, .ref 39, .ref 41, .ref 53, .null]) ha (by decide) zp_X8_65 rfl dX8_init_127 rfl (fun _ _ => rfl) (fun _ _ => rfl) rfl rfl ?_
  refine zr_aload_n dX8_init_130 rfl ?_
  refine zr_sipush (v := 160) dX8_init_131 kc_sipush_160 ?_
  refine zn_newa (N := 160) (b := 56) (ty := .int) (tl' := (((((((((gi_2 12) ++ (gi_1 23)) ++ [gi_3 32]) ++ (gi_0 32 12 23)) ++ (gi_6 36)) ++ (gi_4 39 23)) ++ (gi_7 41 42 39 36 ([gi_3 43] ++ (gi_0 43 12 23)))) ++ (gi_5 53)) ++ [.inl (.int, 160, fun _ => 0)])) ha zv_int rfl rfl (by decide) (by decide) rfl rfl dX8_init_134 rfl rfl rfl rfl ?_
  refine zn_putF (fs' := [.ref 12, .ref 23, .ref 31, .ref 36, .ref 39, .ref 41, .ref 53, .ref 56]) ha (by decide) zp_X8_69 rfl dX8_init_136 rfl (fun _ _ => rfl) (fun _ _ => rfl) rfl rfl ?_
  exact zr_vret dX8_init_139 rfl ⟨rfl, rfl⟩
