/-! ===== the flat memory: after the making, all shapes are fixed; a state is what every place of every cell holds ===== -/
abbrev gz_Sh : Type := (FieldType × Nat × Option (List Int32)) ⊕ (Nat × List (Option Nat))
abbrev gz_Mm : Type := Nat → Nat → Int32
def gz_SH (L : Nat) : List gz_Sh := [
  .inl (.int, 9, some [0, 0, 0, 0, 1, 2, 0, 2, 2]),
  .inl (.int, 9, some [0, 1, 2, 1, 1, 1, 2, 1, 2]),
  .inl (.int, 9, some [0, 1, 2, 1, 0, 2, 2, 2, 2]),
  .inl (.int, 3, some [1, 0, 2]),
  .inl (.int, 8, some [7, 7, 7, 7, 0, 1, 0, 0]),
  .inl (.int, 16, some [1, 1, 3, 4, 4, 6, 6, 4, 1, 10, 11, 11, 13, 13, 11, 1]),
  .inl (.int, 16, some [0, 2, 9, 5, 5, 8, 7, 8, 2, 0, 12, 12, 15, 14, 15, 2]),
  .inl (.int, 17, some [1, 1, 1, 1, 1, 0, 1, 1, 0, 0, 0, 0, 1, 1, 1, 0, 0]),
  .inl (.int, 17, some [0, 0, 0, 0, 0, 0, 0, 0, 0, 0, 1, 1, 0, 0, 0, 0, 0]),
  .inl (.int, 3, some [1, 1, 0]),
  .inl (.int, L, none),
  .inr (8, [some 12, some 23, some 31, some 36, some 39, some 41, some 53, some 56]),
  .inr (2, [none, none, none, none, some 13, some 14, some 15, some 16, some 17, some 18, some 19, some 20, some 21, some 22]),
  .inl (.int, 80, none),
  .inl (.int, 80, none),
  .inl (.int, 80, none),
  .inl (.int, 80, none),
  .inl (.int, 80, none),
  .inl (.boolean, 80, none),
  .inl (.int, 20, none),
  .inl (.int, 20, none),
  .inl (.int, 20, none),
  .inl (.int, 8, none),
  .inr (1, [some 24, some 28, some 29, some 30]),
  .inr (100, [some 25, some 26, some 27]),
  .inl (.int, 20, none),
  .inl (.int, 20, none),
  .inl (.int, 20, none),
  .inl (.int, 3, none),
  .inl (.int, 20, none),
  .inl (.boolean, 20, none),
  .inr (3, [some 32, none, none, none, none, none, none, none]),
  .inr (0, [some 12, some 23, some 33, some 34, some 35, none, none]),
  .inl (.int, 8, none),
  .inl (.int, 20, none),
  .inl (.int, 80, none),
  .inr (6, [some 37, some 38, none]),
  .inl (.int, 20, none),
  .inl (.int, 20, none),
  .inr (4, [some 23, some 40]),
  .inl (.int, 20, none),
  .inr (7, [some 42, some 39, some 36, some 47, some 50, none, none]),
  .inr (3, [some 43, none, none, none, none, none, none, none]),
  .inr (0, [some 12, some 23, some 44, some 45, some 46, none, none]),
  .inl (.int, 8, none),
  .inl (.int, 20, none),
  .inl (.int, 80, none),
  .inr (5, [some 48, some 49, none, none]),
  .inl (.int, 8, none),
  .inl (.int, 20, none),
  .inr (5, [some 51, some 52, none, none]),
  .inl (.int, 8, none),
  .inl (.int, 20, none),
  .inr (5, [some 54, some 55, none, none]),
  .inl (.int, 8, none),
  .inl (.int, 20, none),
  .inl (.int, 160, none),
  .inr (9, [some 58, some 59, some 60, none, some 61, none, some 62, some 63, some 64, some 65, some 66, none, some 67, none, some 68, some 69, some 70, some 71, none, some 72, some 73, none, none, none, none, none, none, none, none, none, some 74, some 75, some 76, none, some 77, none, none, some 78, none, some 79, none, some 80, some 81, some 82, some 83, some 84]),
  .inl (.int, 80, none),
  .inl (.int, 80, none),
  .inl (.int, 240, none),
  .inl (.int, 8, none),
  .inl (.int, 20, none),
  .inl (.int, 20, none),
  .inl (.int, 20, none),
  .inl (.int, 20, none),
  .inl (.boolean, 20, none),
  .inl (.int, 8, none),
  .inl (.int, 60, none),
  .inl (.int, 3, none),
  .inl (.int, 20, none),
  .inl (.int, 20, none),
  .inl (.int, 8, none),
  .inl (.int, 20, none),
  .inl (.int, 80, none),
  .inl (.int, 20, none),
  .inl (.int, 8, none),
  .inl (.int, 20, none),
  .inl (.int, 8, none),
  .inl (.int, 20, none),
  .inl (.int, 8, none),
  .inl (.int, 20, none),
  .inl (.int, 7, none),
  .inl (.int, 160, none),
  .inl (.int, 400, none)]
def gz_fl (f : Nat → Int32) : Nat → List (Option Nat) → List Value
  | _, [] => []
  | j, some t :: r => .ref t :: gz_fl f (j + 1) r
  | j, none :: r => .int (f j) :: gz_fl f (j + 1) r
def gz_inst : gz_Sh → (Nat → Int32) → gz_AC
  | .inl (ty, n, none), f => .inl (ty, n, f)
  | .inl (ty, n, some t), _ => .inl (ty, n, fun j => t.getD j 0)
  | .inr (ci, rs), f => .inr (ci, gz_fl f 0 rs)
def gz_mkA (σ : gz_Mm) : Nat → List gz_Sh → gz_AH
  | _, [] => []
  | k, s :: r => gz_inst s (σ k) :: gz_mkA σ (k + 1) r
def gz_mk (L : Nat) (σ : gz_Mm) : gz_AH := gz_mkA σ 0 (gz_SH L)
def gz_wr (σ : gz_Mm) (k j : Nat) (x : Int32) : gz_Mm := fun a => if a = k then upd (σ k) j x else σ a
theorem gz_fl_get (f : Nat → Int32) : ∀ (rs : List (Option Nat)) (i j : Nat), (gz_fl f i rs)[j]? = (rs[j]?).map (fun o => match o with | some t => Value.ref t | none => .int (f (i + j)))
  | [], i, j => by simp [gz_fl]
  | some t :: r, i, 0 => rfl
  | none :: r, i, 0 => rfl
  | some t :: r, i, j + 1 => by
    show (gz_fl f (i + 1) r)[j]? = (r[j]?).map _
    rw [gz_fl_get f r (i + 1) j, show i + 1 + j = i + (j + 1) by omega]
  | none :: r, i, j + 1 => by
    show (gz_fl f (i + 1) r)[j]? = (r[j]?).map _
    rw [gz_fl_get f r (i + 1) j, show i + 1 + j = i + (j + 1) by omega]
theorem gz_fl_len (f : Nat → Int32) : ∀ (rs : List (Option Nat)) (i : Nat), (gz_fl f i rs).length = rs.length
  | [], i => rfl
  | some t :: r, i => congrArg (· + 1) (gz_fl_len f r (i + 1))
  | none :: r, i => congrArg (· + 1) (gz_fl_len f r (i + 1))
theorem gz_fl_set (f : Nat → Int32) (rs : List (Option Nat)) (j : Nat) (x : Int32) (hj : rs[j]? = some none) : (gz_fl f 0 rs).set j (.int x) = gz_fl (upd f j x) 0 rs := by
  apply List.ext_getElem?
  intro k
  have hl : j < (gz_fl f 0 rs).length := by rw [gz_fl_len]; exact (List.getElem?_eq_some_iff.mp hj).1
  by_cases e : k = j
  · subst e
    rw [List.getElem?_set_self hl, gz_fl_get, hj]
    simp [upd]
  · rw [List.getElem?_set_ne (Ne.symm e), gz_fl_get, gz_fl_get]
    cases rs[k]? with
    | none => rfl
    | some o => cases o <;> simp [upd, e]
theorem gz_mkA_get (σ : gz_Mm) : ∀ (sh : List gz_Sh) (i k : Nat), (gz_mkA σ i sh)[k]? = (sh[k]?).map (fun s => gz_inst s (σ (i + k)))
  | [], i, k => by simp [gz_mkA]
  | s :: r, i, 0 => rfl
  | s :: r, i, k + 1 => by
    show (gz_mkA σ (i + 1) r)[k]? = (r[k]?).map _
    rw [gz_mkA_get σ r (i + 1) k, show i + 1 + k = i + (k + 1) by omega]
theorem gz_mkA_len (σ : gz_Mm) : ∀ (sh : List gz_Sh) (i : Nat), (gz_mkA σ i sh).length = sh.length
  | [], i => rfl
  | s :: r, i => congrArg (· + 1) (gz_mkA_len σ r (i + 1))
theorem gz_mk_get {L : Nat} {σ : gz_Mm} {k : Nat} {s : gz_Sh} (hk : (gz_SH L)[k]? = some s) : (gz_mk L σ)[k]? = some (gz_inst s (σ k)) := by
  unfold gz_mk
  rw [gz_mkA_get, hk, Nat.zero_add]
  rfl
theorem gz_mk_set {L : Nat} {σ σ' : gz_Mm} {k : Nat} {s : gz_Sh} (hk : (gz_SH L)[k]? = some s) (ho : ∀ j : Nat, j ≠ k → σ' j = σ j) : (gz_mk L σ).set k (gz_inst s (σ' k)) = gz_mk L σ' := by
  apply List.ext_getElem?
  intro j
  unfold gz_mk
  have hl : k < (gz_mkA σ 0 (gz_SH L)).length := by rw [gz_mkA_len]; exact (List.getElem?_eq_some_iff.mp hk).1
  by_cases e : j = k
  · subst e
    rw [List.getElem?_set_self hl, gz_mkA_get, hk, Nat.zero_add]
    rfl
  · rw [List.getElem?_set_ne (Ne.symm e), gz_mkA_get, gz_mkA_get, Nat.zero_add, ho j e]
theorem gz_wr_ne {σ : gz_Mm} {k j : Nat} {x : Int32} {a : Nat} (h : a ≠ k) : gz_wr σ k j x a = σ a := if_neg h
theorem gz_wr_eq {σ : gz_Mm} {k j : Nat} {x : Int32} : gz_wr σ k j x k = upd (σ k) j x := if_pos rfl
/-- a method as a function of the memory -/
def gz_F (d : Nat) (y : MethodName) (cc : ByteArray) (nL : Nat) (rt : Option FieldType) (L : Nat) (av : List Value) (σ : gz_Mm) (r : Option Value) (σ' : gz_Mm) : Prop :=
  gz_M d y cc nL rt 0 0 av (gz_mk L σ) (fun r' h' => r' = r ∧ h' = gz_mk L σ')
section ZT
variable {d d' : Nat} {y y' : MethodName} {cc cc' : ByteArray} {nL nL' : Nat} {rt rt' : Option FieldType} {mc ms pc L : Nat} {ls : List (Option Value)} {st rest : List Value} {σ σ' : gz_Mm} {Q : Option Value → gz_AH → Prop}
theorem zt_geti {a idx ci k : Nat} {rs : List (Option Nat)} (hf : zf_g y.cls idx ci k) (hd : decode cc pc = .ok (.getfield idx, 3)) (ha : (gz_SH L)[a]? = some (.inr (ci, rs))) (hj : rs[k]? = some none) (hci : (ci == 100) = false) (kk : gz_R d y cc nL rt mc ms (pc + 3) ls (.int (σ a k) :: st) (gz_mk L σ) Q) : gz_R d y cc nL rt mc ms pc ls (.ref a :: st) (gz_mk L σ) Q :=
  zr_get hf hd (gz_mk_get ha) (by simpa using hci) (by rw [gz_fl_get, hj]; simp) kk
theorem zt_getr {a idx ci k t : Nat} {rs : List (Option Nat)} (hf : zf_g y.cls idx ci k) (hd : decode cc pc = .ok (.getfield idx, 3)) (ha : (gz_SH L)[a]? = some (.inr (ci, rs))) (hj : rs[k]? = some (some t)) (hci : (ci == 100) = false) (kk : gz_R d y cc nL rt mc ms (pc + 3) ls (.ref t :: st) (gz_mk L σ) Q) : gz_R d y cc nL rt mc ms pc ls (.ref a :: st) (gz_mk L σ) Q :=
  zr_get hf hd (gz_mk_get ha) (by simpa using hci) (by rw [gz_fl_get, hj]; simp) kk
theorem zt_put {a idx ci k : Nat} {x : Int32} {rs : List (Option Nat)} (hf : zf_p y.cls idx ci k .int false) (hd : decode cc pc = .ok (.putfield idx, 3)) (h11 : Nat.ble 11 a = true) (ha : (gz_SH L)[a]? = some (.inr (ci, rs))) (hj : rs[k]? = some none) (hci : (ci == 100) = false) (kk : gz_R d y cc nL rt mc ms (pc + 3) ls st (gz_mk L (gz_wr σ a k x)) Q) : gz_R d y cc nL rt mc ms pc ls (.int x :: .ref a :: st) (gz_mk L σ) Q := by
  refine zr_put hf hd (Nat.le_of_ble_eq_true h11) (gz_mk_get ha) (by simpa using hci) (fun _ _ => rfl) (fun _ _ => rfl) (by rw [gz_fl_len]; exact (List.getElem?_eq_some_iff.mp hj).1) ?_
  rw [gz_fl_set _ _ _ _ hj]
  have e := gz_mk_set (σ := σ) (σ' := gz_wr σ a k x) ha (fun j hj => gz_wr_ne hj)
  rw [gz_wr_eq] at e
  have e2 : (gz_inst (Sum.inr (ci, rs)) (upd (σ a) k x) : gz_AC) = .inr (ci, gz_fl (upd (σ a) k x) 0 rs) := rfl
  rw [← e2, e]
  exact kk
theorem zt_iald {a n : Nat} {i : Int32} (hd : decode cc pc = .ok (.iaload, 1)) (ha : (gz_SH L)[a]? = some (.inl (.int, n, none))) (hi : vp_in i n) (kk : gz_R d y cc nL rt mc ms (pc + 1) ls (.int (σ a i.toNatClampNeg) :: st) (gz_mk L σ) Q) : gz_R d y cc nL rt mc ms pc ls (.int i :: .ref a :: st) (gz_mk L σ) Q :=
  zr_iald hd (gz_mk_get ha) hi kk
theorem zt_tab {a n : Nat} {t : List Int32} {i : Int32} (hd : decode cc pc = .ok (.iaload, 1)) (ha : (gz_SH L)[a]? = some (.inl (.int, n, some t))) (hi : vp_in i n) (kk : gz_R d y cc nL rt mc ms (pc + 1) ls (.int (t.getD i.toNatClampNeg 0) :: st) (gz_mk L σ) Q) : gz_R d y cc nL rt mc ms pc ls (.int i :: .ref a :: st) (gz_mk L σ) Q :=
  zr_iald hd (gz_mk_get ha) hi kk
theorem zt_zald {a n : Nat} {i : Int32} (hd : decode cc pc = .ok (.baload, 1)) (ha : (gz_SH L)[a]? = some (.inl (.boolean, n, none))) (hi : vp_in i n) (kk : gz_R d y cc nL rt mc ms (pc + 1) ls (.int (σ a i.toNatClampNeg) :: st) (gz_mk L σ) Q) : gz_R d y cc nL rt mc ms pc ls (.int i :: .ref a :: st) (gz_mk L σ) Q :=
  zr_zald hd (gz_mk_get ha) hi kk
theorem zt_aald {a t : Nat} {rs : List (Option Nat)} {i : Int32} (hd : decode cc pc = .ok (.aaload, 1)) (ha : (gz_SH L)[a]? = some (.inr (100, rs))) (hi : vp_in i rs.length) (hj : rs[i.toNatClampNeg]? = some (some t)) (kk : gz_R d y cc nL rt mc ms (pc + 1) ls (.ref t :: st) (gz_mk L σ) Q) : gz_R d y cc nL rt mc ms pc ls (.int i :: .ref a :: st) (gz_mk L σ) Q :=
  zr_aald hd (gz_mk_get ha) (by rw [gz_fl_len]; exact hi) (by rw [gz_fl_get, hj]; simp) kk
theorem zt_alen {a n : Nat} {ty : FieldType} {o : Option (List Int32)} (hd : decode cc pc = .ok (.arraylength, 1)) (ha : (gz_SH L)[a]? = some (.inl (ty, n, o))) (kk : gz_R d y cc nL rt mc ms (pc + 1) ls (.int (Int32.ofNat n) :: st) (gz_mk L σ) Q) : gz_R d y cc nL rt mc ms pc ls (.ref a :: st) (gz_mk L σ) Q := by
  cases o with
  | none => exact zr_alen hd (gz_mk_get ha) kk
  | some t => exact zr_alen hd (gz_mk_get ha) kk
theorem zt_iast {a n : Nat} {i x : Int32} (hd : decode cc pc = .ok (.iastore, 1)) (h11 : Nat.ble 11 a = true) (ha : (gz_SH L)[a]? = some (.inl (.int, n, none))) (hi : vp_in i n) (kk : gz_R d y cc nL rt mc ms (pc + 1) ls st (gz_mk L (gz_wr σ a i.toNatClampNeg x)) Q) : gz_R d y cc nL rt mc ms pc ls (.int x :: .int i :: .ref a :: st) (gz_mk L σ) Q := by
  refine zr_iast hd (Nat.le_of_ble_eq_true h11) (gz_mk_get ha) hi ?_
  have e := gz_mk_set (σ := σ) (σ' := gz_wr σ a i.toNatClampNeg x) ha (fun j hj => gz_wr_ne hj)
  rw [gz_wr_eq] at e
  have e2 : (gz_inst (Sum.inl (.int, n, none)) (upd (σ a) i.toNatClampNeg x) : gz_AC) = .inl (.int, n, upd (σ a) i.toNatClampNeg x) := rfl
  rw [← e2, e]
  exact kk
theorem zt_zast {a n : Nat} {i x : Int32} (hd : decode cc pc = .ok (.bastore, 1)) (h11 : Nat.ble 11 a = true) (ha : (gz_SH L)[a]? = some (.inl (.boolean, n, none))) (hi : vp_in i n) (hz : narrow .boolean (.int x) = .int x) (kk : gz_R d y cc nL rt mc ms (pc + 1) ls st (gz_mk L (gz_wr σ a i.toNatClampNeg x)) Q) : gz_R d y cc nL rt mc ms pc ls (.int x :: .int i :: .ref a :: st) (gz_mk L σ) Q := by
  refine zr_zast hd (Nat.le_of_ble_eq_true h11) (gz_mk_get ha) hi hz ?_
  have e := gz_mk_set (σ := σ) (σ' := gz_wr σ a i.toNatClampNeg x) ha (fun j hj => gz_wr_ne hj)
  rw [gz_wr_eq] at e
  have e2 : (gz_inst (Sum.inl (.boolean, n, none)) (upd (σ a) i.toNatClampNeg x) : gz_AC) = .inl (.boolean, n, upd (σ a) i.toNatClampNeg x) := rfl
  rw [← e2, e]
  exact kk
theorem zt_callV {idx k ci n : Nat} {As : List Value} {rs : List (Option Nat)} {T : u_T} {N : Nat} {r : Option Value} (hF : gz_F d' y' cc' nL' rt' L (.ref k :: As) σ r σ') (hw : zc_V y.cls idx y' cc' nL' rt' n) (hn : As.length = n) (hd : decode cc pc = .ok (.invokevirtual idx, 3)) (hdd : Nat.ble (d' + 1) d = true) (hk : (gz_SH L)[k]? = some (.inr (ci, rs))) (hci : (ci == 100) = false) (hcl : gz_cl[ci]? = some (y'.cls, T, N)) (hst : st = As.reverse ++ .ref k :: rest) (hcat : Nat.ble (rest.map fun v => v.category).sum 8 = true)
    (kk : gz_R d y cc nL rt mc ms (pc + 3) ls (r.toList ++ rest) (gz_mk L σ') Q) : gz_R d y cc nL rt mc ms pc ls st (gz_mk L σ) Q := by
  subst hn
  refine zr_callV hF hw hd (Nat.le_of_ble_eq_true hdd) (Nat.zero_le _) (Nat.zero_le _) (gz_mk_get hk) (by simpa using hci) hcl hst (Nat.le_of_ble_eq_true hcat) (fun r' h' q => ?_)
  obtain ⟨rfl, rfl⟩ := q
  exact kk
theorem zt_callS {idx n : Nat} {As : List Value} {r : Option Value} (hF : gz_F d' y' cc' nL' rt' L As σ r σ') (hw : zc_S y.cls idx y' cc' nL' rt' n) (hn : As.length = n) (hd : decode cc pc = .ok (.invokestatic idx, 3)) (hdd : Nat.ble (d' + 1) d = true) (hst : st = As.reverse ++ rest) (hcat : Nat.ble (rest.map fun v => v.category).sum 8 = true)
    (kk : gz_R d y cc nL rt mc ms (pc + 3) ls (r.toList ++ rest) (gz_mk L σ') Q) : gz_R d y cc nL rt mc ms pc ls st (gz_mk L σ) Q := by
  subst hn
  refine zr_callS hF hw hd (Nat.le_of_ble_eq_true hdd) (Nat.zero_le _) (Nat.zero_le _) hst (Nat.le_of_ble_eq_true hcat) (fun r' h' q => ?_)
  obtain ⟨rfl, rfl⟩ := q
  exact kk
theorem gz_F.of {av : List Value} {r : Option Value} (hy : plainName y.cls = true) (hn : Nat.ble (gz_ent av).length nL = true)
    (k : gz_R d y cc nL rt 0 0 0 (gz_pad nL (gz_ent av)) [] (gz_mk L σ) (fun r' h' => r' = r ∧ h' = gz_mk L σ')) : gz_F d y cc nL rt L av σ r σ' := gz_M.of hy (Nat.le_of_ble_eq_true hn) k
theorem gz_eqσ (e : σ = σ') (kk : gz_R d y cc nL rt mc ms pc ls st (gz_mk L σ') Q) : gz_R d y cc nL rt mc ms pc ls st (gz_mk L σ) Q := e ▸ kk
end ZT
