theorem kc_inc (i : Nat) : nI i + Int32.ofInt 1 = nI (i + 1) := nI_1 i
theorem kc_dec (i : Nat) : nI (i + 1) + Int32.ofInt (-1) = nI i := pk_m1 i
theorem kc_bipush_6 : (Int8.ofInt (6)).toInt32 = 6 := by decide
theorem kc_bipush_7 : (Int8.ofInt (7)).toInt32 = 7 := by decide
theorem kc_bipush_8 : (Int8.ofInt (8)).toInt32 = 8 := by decide
theorem kc_bipush_9 : (Int8.ofInt (9)).toInt32 = 9 := by decide
theorem kc_bipush_10 : (Int8.ofInt (10)).toInt32 = 10 := by decide
theorem kc_bipush_11 : (Int8.ofInt (11)).toInt32 = 11 := by decide
theorem kc_bipush_12 : (Int8.ofInt (12)).toInt32 = 12 := by decide
theorem kc_bipush_13 : (Int8.ofInt (13)).toInt32 = 13 := by decide
theorem kc_bipush_14 : (Int8.ofInt (14)).toInt32 = 14 := by decide
theorem kc_bipush_15 : (Int8.ofInt (15)).toInt32 = 15 := by decide
theorem kc_bipush_20 : (Int8.ofInt (20)).toInt32 = 20 := by decide
theorem kc_bipush_31 : (Int8.ofInt (31)).toInt32 = 31 := by decide
theorem kc_bipush_60 : (Int8.ofInt (60)).toInt32 = 60 := by decide
theorem kc_bipush_80 : (Int8.ofInt (80)).toInt32 = 80 := by decide
theorem kc_iconst_m1 : Int32.ofInt (-1) = (-1) := by decide
theorem kc_iconst_0 : Int32.ofInt (0) = 0 := by decide
theorem kc_iconst_1 : Int32.ofInt (1) = 1 := by decide
theorem kc_iconst_2 : Int32.ofInt (2) = 2 := by decide
theorem kc_iconst_3 : Int32.ofInt (3) = 3 := by decide
theorem kc_iconst_4 : Int32.ofInt (4) = 4 := by decide
theorem kc_iconst_5 : Int32.ofInt (5) = 5 := by decide
theorem kc_sipush_m1004 : (Int16.ofInt (-1004)).toInt32 = (-1004) := by decide
theorem kc_sipush_m1003 : (Int16.ofInt (-1003)).toInt32 = (-1003) := by decide
theorem kc_sipush_m1002 : (Int16.ofInt (-1002)).toInt32 = (-1002) := by decide
theorem kc_sipush_m1001 : (Int16.ofInt (-1001)).toInt32 = (-1001) := by decide
theorem kc_sipush_160 : (Int16.ofInt (160)).toInt32 = 160 := by decide
theorem kc_sipush_240 : (Int16.ofInt (240)).toInt32 = 240 := by decide
theorem kc_sipush_400 : (Int16.ofInt (400)).toInt32 = 400 := by decide
/-- relational contracts: the answer and the memory behind it -/
def gz_Gi (d : Nat) (y : MethodName) (cc : ByteArray) (nL : Nat) (rt : Option FieldType) (L : Nat) (av : List Value) (σ : gz_Mm) (P : Int32 → gz_Mm → Prop) : Prop :=
  gz_M d y cc nL rt 0 0 av (gz_mk L σ) (fun r h' => ∃ (v : Int32) (σ' : gz_Mm), r = some (.int v) ∧ h' = gz_mk L σ' ∧ P v σ')
def gz_Gv (d : Nat) (y : MethodName) (cc : ByteArray) (nL : Nat) (rt : Option FieldType) (L : Nat) (av : List Value) (σ : gz_Mm) (P : gz_Mm → Prop) : Prop :=
  gz_M d y cc nL rt 0 0 av (gz_mk L σ) (fun r h' => ∃ (σ' : gz_Mm), r = none ∧ h' = gz_mk L σ' ∧ P σ')
section ZV
variable {d d' : Nat} {y y' : MethodName} {cc cc' : ByteArray} {nL nL' : Nat} {rt rt' : Option FieldType} {mc ms pc L : Nat} {ls : List (Option Value)} {st rest : List Value} {σ σ' : gz_Mm} {h : gz_AH} {Q : Option Value → gz_AH → Prop}
theorem zr_top {x v : Int32} (e : x = v) (kk : gz_R d y cc nL rt mc ms pc ls (.int v :: st) h Q) : gz_R d y cc nL rt mc ms pc ls (.int x :: st) h Q := e ▸ kk
theorem zt_callVi {idx k ci n : Nat} {As : List Value} {rs : List (Option Nat)} {T : u_T} {N : Nat} {v : Int32} (hF : gz_F d' y' cc' nL' rt' L (.ref k :: As) σ (some (.int v)) σ') (hw : zc_V y.cls idx y' cc' nL' rt' n) (hn : As.length = n) (hd : decode cc pc = .ok (.invokevirtual idx, 3)) (hdd : Nat.ble (d' + 1) d = true) (hk : (gz_SH L)[k]? = some (.inr (ci, rs))) (hci : (ci == 100) = false) (hcl : gz_cl[ci]? = some (y'.cls, T, N)) (hst : st = As.reverse ++ .ref k :: rest) (hcat : Nat.ble (rest.map fun v => v.category).sum 8 = true)
    (kk : gz_R d y cc nL rt mc ms (pc + 3) ls (.int v :: rest) (gz_mk L σ') Q) : gz_R d y cc nL rt mc ms pc ls st (gz_mk L σ) Q := zt_callV hF hw hn hd hdd hk hci hcl hst hcat kk
theorem zt_callVv {idx k ci n : Nat} {As : List Value} {rs : List (Option Nat)} {T : u_T} {N : Nat} (hF : gz_F d' y' cc' nL' rt' L (.ref k :: As) σ none σ') (hw : zc_V y.cls idx y' cc' nL' rt' n) (hn : As.length = n) (hd : decode cc pc = .ok (.invokevirtual idx, 3)) (hdd : Nat.ble (d' + 1) d = true) (hk : (gz_SH L)[k]? = some (.inr (ci, rs))) (hci : (ci == 100) = false) (hcl : gz_cl[ci]? = some (y'.cls, T, N)) (hst : st = As.reverse ++ .ref k :: rest) (hcat : Nat.ble (rest.map fun v => v.category).sum 8 = true)
    (kk : gz_R d y cc nL rt mc ms (pc + 3) ls rest (gz_mk L σ') Q) : gz_R d y cc nL rt mc ms pc ls st (gz_mk L σ) Q := zt_callV hF hw hn hd hdd hk hci hcl hst hcat kk
theorem zt_callSi {idx n : Nat} {As : List Value} {v : Int32} (hF : gz_F d' y' cc' nL' rt' L As σ (some (.int v)) σ') (hw : zc_S y.cls idx y' cc' nL' rt' n) (hn : As.length = n) (hd : decode cc pc = .ok (.invokestatic idx, 3)) (hdd : Nat.ble (d' + 1) d = true) (hst : st = As.reverse ++ rest) (hcat : Nat.ble (rest.map fun v => v.category).sum 8 = true)
    (kk : gz_R d y cc nL rt mc ms (pc + 3) ls (.int v :: rest) (gz_mk L σ') Q) : gz_R d y cc nL rt mc ms pc ls st (gz_mk L σ) Q := zt_callS hF hw hn hd hdd hst hcat kk
theorem zt_callSv {idx n : Nat} {As : List Value} (hF : gz_F d' y' cc' nL' rt' L As σ none σ') (hw : zc_S y.cls idx y' cc' nL' rt' n) (hn : As.length = n) (hd : decode cc pc = .ok (.invokestatic idx, 3)) (hdd : Nat.ble (d' + 1) d = true) (hst : st = As.reverse ++ rest) (hcat : Nat.ble (rest.map fun v => v.category).sum 8 = true)
    (kk : gz_R d y cc nL rt mc ms (pc + 3) ls rest (gz_mk L σ') Q) : gz_R d y cc nL rt mc ms pc ls st (gz_mk L σ) Q := zt_callS hF hw hn hd hdd hst hcat kk
theorem zt_ildN {a n i : Nat} {x : Int32} (hd : decode cc pc = .ok (.iaload, 1)) (ha : (gz_SH L)[a]? = some (.inl (.int, n, none))) (hb : Nat.ble n 100000 = true) (hi : i < n) (hx : σ a i = x) (kk : gz_R d y cc nL rt mc ms (pc + 1) ls (.int x :: st) (gz_mk L σ) Q) : gz_R d y cc nL rt mc ms pc ls (.int (nI i) :: .ref a :: st) (gz_mk L σ) Q := by
  have hb := Nat.le_of_ble_eq_true hb
  refine zt_iald hd ha (vp_in_nI hi (by omega)) ?_
  rw [nI_clamp (by omega), hx]
  exact kk
theorem zt_zldN {a n i : Nat} {x : Int32} (hd : decode cc pc = .ok (.baload, 1)) (ha : (gz_SH L)[a]? = some (.inl (.boolean, n, none))) (hb : Nat.ble n 100000 = true) (hi : i < n) (hx : σ a i = x) (kk : gz_R d y cc nL rt mc ms (pc + 1) ls (.int x :: st) (gz_mk L σ) Q) : gz_R d y cc nL rt mc ms pc ls (.int (nI i) :: .ref a :: st) (gz_mk L σ) Q := by
  have hb := Nat.le_of_ble_eq_true hb
  refine zt_zald hd ha (vp_in_nI hi (by omega)) ?_
  rw [nI_clamp (by omega), hx]
  exact kk
theorem zt_tabN {a n i : Nat} {t : List Int32} {x : Int32} (hd : decode cc pc = .ok (.iaload, 1)) (ha : (gz_SH L)[a]? = some (.inl (.int, n, some t))) (hb : Nat.ble n 100000 = true) (hi : i < n) (hx : t.getD i 0 = x) (kk : gz_R d y cc nL rt mc ms (pc + 1) ls (.int x :: st) (gz_mk L σ) Q) : gz_R d y cc nL rt mc ms pc ls (.int (nI i) :: .ref a :: st) (gz_mk L σ) Q := by
  have hb := Nat.le_of_ble_eq_true hb
  refine zt_tab hd ha (vp_in_nI hi (by omega)) ?_
  rw [nI_clamp (by omega), hx]
  exact kk
theorem zt_istN {a n i : Nat} {x : Int32} (hd : decode cc pc = .ok (.iastore, 1)) (h11 : Nat.ble 11 a = true) (ha : (gz_SH L)[a]? = some (.inl (.int, n, none))) (hb : Nat.ble n 100000 = true) (hi : i < n) (kk : gz_R d y cc nL rt mc ms (pc + 1) ls st (gz_mk L (gz_wr σ a i x)) Q) : gz_R d y cc nL rt mc ms pc ls (.int x :: .int (nI i) :: .ref a :: st) (gz_mk L σ) Q := by
  have hb := Nat.le_of_ble_eq_true hb
  refine zt_iast hd h11 ha (vp_in_nI hi (by omega)) ?_
  rw [nI_clamp (by omega)]
  exact kk
theorem zt_zstN {a n i : Nat} {x : Int32} (hd : decode cc pc = .ok (.bastore, 1)) (h11 : Nat.ble 11 a = true) (ha : (gz_SH L)[a]? = some (.inl (.boolean, n, none))) (hb : Nat.ble n 100000 = true) (hi : i < n) (hz : narrow .boolean (.int x) = .int x) (kk : gz_R d y cc nL rt mc ms (pc + 1) ls st (gz_mk L (gz_wr σ a i x)) Q) : gz_R d y cc nL rt mc ms pc ls (.int x :: .int (nI i) :: .ref a :: st) (gz_mk L σ) Q := by
  have hb := Nat.le_of_ble_eq_true hb
  refine zt_zast hd h11 ha (vp_in_nI hi (by omega)) hz ?_
  rw [nI_clamp (by omega)]
  exact kk
theorem zt_aldN {a t i : Nat} {rs : List (Option Nat)} (hd : decode cc pc = .ok (.aaload, 1)) (ha : (gz_SH L)[a]? = some (.inr (100, rs))) (hb : Nat.ble rs.length 100000 = true) (hi : i < rs.length) (hj : rs[i]? = some (some t)) (kk : gz_R d y cc nL rt mc ms (pc + 1) ls (.ref t :: st) (gz_mk L σ) Q) : gz_R d y cc nL rt mc ms pc ls (.int (nI i) :: .ref a :: st) (gz_mk L σ) Q := by
  have hb := Nat.le_of_ble_eq_true hb
  exact zt_aald hd ha (vp_in_nI hi (by omega)) (by rw [nI_clamp (by omega)]; exact hj) kk
theorem zt_cVi {idx k ci n : Nat} {As : List Value} {rs : List (Option Nat)} {T : u_T} {N : Nat} {P : Int32 → gz_Mm → Prop} (hF : gz_Gi d' y' cc' nL' rt' L (.ref k :: As) σ P) (hw : zc_V y.cls idx y' cc' nL' rt' n) (hn : As.length = n) (hd : decode cc pc = .ok (.invokevirtual idx, 3)) (hdd : Nat.ble (d' + 1) d = true) (hk : (gz_SH L)[k]? = some (.inr (ci, rs))) (hci : (ci == 100) = false) (hcl : gz_cl[ci]? = some (y'.cls, T, N)) (hst : st = As.reverse ++ .ref k :: rest) (hcat : Nat.ble (rest.map fun v => v.category).sum 8 = true)
    (kk : ∀ (v : Int32) (σ' : gz_Mm), P v σ' → gz_R d y cc nL rt mc ms (pc + 3) ls (.int v :: rest) (gz_mk L σ') Q) : gz_R d y cc nL rt mc ms pc ls st (gz_mk L σ) Q := by
  subst hn
  refine zr_callV hF hw hd (Nat.le_of_ble_eq_true hdd) (Nat.zero_le _) (Nat.zero_le _) (gz_mk_get hk) (by simpa using hci) hcl hst (Nat.le_of_ble_eq_true hcat) (fun r' h' q => ?_)
  obtain ⟨v, σ1, rfl, rfl, hP⟩ := q
  exact kk v σ1 hP
theorem zt_cVv {idx k ci n : Nat} {As : List Value} {rs : List (Option Nat)} {T : u_T} {N : Nat} {P : gz_Mm → Prop} (hF : gz_Gv d' y' cc' nL' rt' L (.ref k :: As) σ P) (hw : zc_V y.cls idx y' cc' nL' rt' n) (hn : As.length = n) (hd : decode cc pc = .ok (.invokevirtual idx, 3)) (hdd : Nat.ble (d' + 1) d = true) (hk : (gz_SH L)[k]? = some (.inr (ci, rs))) (hci : (ci == 100) = false) (hcl : gz_cl[ci]? = some (y'.cls, T, N)) (hst : st = As.reverse ++ .ref k :: rest) (hcat : Nat.ble (rest.map fun v => v.category).sum 8 = true)
    (kk : ∀ (σ' : gz_Mm), P σ' → gz_R d y cc nL rt mc ms (pc + 3) ls rest (gz_mk L σ') Q) : gz_R d y cc nL rt mc ms pc ls st (gz_mk L σ) Q := by
  subst hn
  refine zr_callV hF hw hd (Nat.le_of_ble_eq_true hdd) (Nat.zero_le _) (Nat.zero_le _) (gz_mk_get hk) (by simpa using hci) hcl hst (Nat.le_of_ble_eq_true hcat) (fun r' h' q => ?_)
  obtain ⟨σ1, rfl, rfl, hP⟩ := q
  exact kk σ1 hP
theorem zt_cSi {idx n : Nat} {As : List Value} {P : Int32 → gz_Mm → Prop} (hF : gz_Gi d' y' cc' nL' rt' L As σ P) (hw : zc_S y.cls idx y' cc' nL' rt' n) (hn : As.length = n) (hd : decode cc pc = .ok (.invokestatic idx, 3)) (hdd : Nat.ble (d' + 1) d = true) (hst : st = As.reverse ++ rest) (hcat : Nat.ble (rest.map fun v => v.category).sum 8 = true)
    (kk : ∀ (v : Int32) (σ' : gz_Mm), P v σ' → gz_R d y cc nL rt mc ms (pc + 3) ls (.int v :: rest) (gz_mk L σ') Q) : gz_R d y cc nL rt mc ms pc ls st (gz_mk L σ) Q := by
  subst hn
  refine zr_callS hF hw hd (Nat.le_of_ble_eq_true hdd) (Nat.zero_le _) (Nat.zero_le _) hst (Nat.le_of_ble_eq_true hcat) (fun r' h' q => ?_)
  obtain ⟨v, σ1, rfl, rfl, hP⟩ := q
  exact kk v σ1 hP
theorem zt_cSv {idx n : Nat} {As : List Value} {P : gz_Mm → Prop} (hF : gz_Gv d' y' cc' nL' rt' L As σ P) (hw : zc_S y.cls idx y' cc' nL' rt' n) (hn : As.length = n) (hd : decode cc pc = .ok (.invokestatic idx, 3)) (hdd : Nat.ble (d' + 1) d = true) (hst : st = As.reverse ++ rest) (hcat : Nat.ble (rest.map fun v => v.category).sum 8 = true)
    (kk : ∀ (σ' : gz_Mm), P σ' → gz_R d y cc nL rt mc ms (pc + 3) ls rest (gz_mk L σ') Q) : gz_R d y cc nL rt mc ms pc ls st (gz_mk L σ) Q := by
  subst hn
  refine zr_callS hF hw hd (Nat.le_of_ble_eq_true hdd) (Nat.zero_le _) (Nat.zero_le _) hst (Nat.le_of_ble_eq_true hcat) (fun r' h' q => ?_)
  obtain ⟨σ1, rfl, rfl, hP⟩ := q
  exact kk σ1 hP
theorem zr_max {idx n : Nat} {x z : Int32} (hw : zc_S y.cls idx yJ9_max_7cf53 cJ9_max_7cf53 2 (some .int) n) (hd : decode cc pc = .ok (.invokestatic idx, 3)) (h1 : Nat.ble 1 d = true) (hcat : Nat.ble (st.map fun v => v.category).sum 8 = true) (kk : gz_R d y cc nL rt mc ms (pc + 3) ls (.int (if x < z then z else x) :: st) h Q) : gz_R d y cc nL rt mc ms pc ls (.int z :: .int x :: st) h Q := by
  intro l D N0 ta p e s m args below meth c H locs lsC cells slots MC MS C S Wd L hc hs
  obtain ⟨w1, w2, w4, w5, w6, w7⟩ := hw
  have hts := C.2.2.2.2.2.1
  have h1 := Nat.le_of_ble_eq_true h1
  have hcat := Nat.le_of_ble_eq_true hcat
  refine va_mmax C.1 C.2.1 (C.2.2.2.2.1.trans L.1.symm) C.2.2.2.2.2.2.1 (hts _ w1) (hts _ w2) (hts _ w4) (hts _ w5) h1 ?_ (by show cells ≤ MC; omega) (by show slots ≤ MS; omega) hd (kk l D N0 ta p e s m args below meth c H locs lsC cells slots MC MS C S Wd L hc hs)
  rw [gz_cats]
  show _ ≤ 45 * d
  omega
theorem gz_M.imp {mc ms : Nat} {av : List Value} {Q' : Option Value → gz_AH → Prop} (hM : gz_M d y cc nL rt mc ms av h Q) (hq : ∀ r h', Q r h' → Q' r h') : gz_M d y cc nL rt mc ms av h Q' := by
  intro l D N0 ta
  refine MetFree.mono (hM l D N0 ta) (fun _ _ q => q) (fun _ _ _ _ _ q => q) (fun a s o t _ q => ?_)
  obtain ⟨⟨⟨r, h', h1, h2, h3⟩, h4⟩, h5⟩ := q
  exact ⟨⟨⟨r, h', h1, hq r h' h2, h3⟩, h4⟩, h5⟩
theorem gz_Gi.imp {av : List Value} {P P' : Int32 → gz_Mm → Prop} (hM : gz_Gi d y cc nL rt L av σ P) (hq : ∀ v σ', P v σ' → P' v σ') : gz_Gi d y cc nL rt L av σ P' := gz_M.imp hM (fun r h' ⟨v, σ', h1, h2, h3⟩ => ⟨v, σ', h1, h2, hq v σ' h3⟩)
theorem gz_Gv.imp {av : List Value} {P P' : gz_Mm → Prop} (hM : gz_Gv d y cc nL rt L av σ P) (hq : ∀ σ', P σ' → P' σ') : gz_Gv d y cc nL rt L av σ P' := gz_M.imp hM (fun r h' ⟨σ', h1, h2, h3⟩ => ⟨σ', h1, h2, hq σ' h3⟩)
theorem gz_F.gi {av : List Value} {v : Int32} {P : Int32 → gz_Mm → Prop} (hM : gz_F d y cc nL rt L av σ (some (.int v)) σ') (hq : P v σ') : gz_Gi d y cc nL rt L av σ P := gz_M.imp hM (fun r h' ⟨h1, h2⟩ => ⟨v, σ', h1, h2, hq⟩)
theorem gz_F.gv {av : List Value} {P : gz_Mm → Prop} (hM : gz_F d y cc nL rt L av σ none σ') (hq : P σ') : gz_Gv d y cc nL rt L av σ P := gz_M.imp hM (fun r h' ⟨h1, h2⟩ => ⟨σ', h1, h2, hq⟩)
theorem gz_Gi.of {av : List Value} {P : Int32 → gz_Mm → Prop} (hy : plainName y.cls = true) (hn : Nat.ble (gz_ent av).length nL = true)
    (k : ∀ Q : Option Value → gz_AH → Prop, (∀ (v : Int32) (σ' : gz_Mm), P v σ' → Q (some (.int v)) (gz_mk L σ')) → gz_R d y cc nL rt 0 0 0 (gz_pad nL (gz_ent av)) [] (gz_mk L σ) Q) : gz_Gi d y cc nL rt L av σ P := gz_M.of hy (Nat.le_of_ble_eq_true hn) (k _ (fun v σ' h => ⟨v, σ', rfl, rfl, h⟩))
theorem gz_Gv.of {av : List Value} {P : gz_Mm → Prop} (hy : plainName y.cls = true) (hn : Nat.ble (gz_ent av).length nL = true)
    (k : ∀ Q : Option Value → gz_AH → Prop, (∀ (σ' : gz_Mm), P σ' → Q none (gz_mk L σ')) → gz_R d y cc nL rt 0 0 0 (gz_pad nL (gz_ent av)) [] (gz_mk L σ) Q) : gz_Gv d y cc nL rt L av σ P := gz_M.of hy (Nat.le_of_ble_eq_true hn) (k _ (fun σ' h => ⟨σ', rfl, rfl, h⟩))
/-- a counting loop -/
theorem zl_up {τ : Type} (n : Nat) (I : Nat → τ → Prop) (G : Nat → τ → Prop) (hx : ∀ t, I n t → G n t) (hs : ∀ i t, i < n → I i t → (∀ t', I (i + 1) t' → G (i + 1) t') → G i t) : ∀ i t, i ≤ n → I i t → G i t := by
  have key : ∀ k i t, n - i = k → i ≤ n → I i t → G i t := by
    intro k
    induction k with
    | zero =>
      intro i t h1 h2 h3
      have e : i = n := by omega
      subst e
      exact hx t h3
    | succ k ih =>
      intro i t h1 h2 h3
      exact hs i t (by omega) h3 (fun t' h => ih (i + 1) t' (by omega) (by omega) h)
  exact fun i t h1 h2 => key _ i t rfl h1 h2
/-- a loop down -/
theorem zl_dn {τ : Type} (m : Nat) (I : Nat → τ → Prop) (G : Nat → τ → Prop) (hx : ∀ t, I m t → G m t) (hs : ∀ i t, m ≤ i → I (i + 1) t → (∀ t', I i t' → G i t') → G (i + 1) t) : ∀ i t, m ≤ i → I i t → G i t := by
  intro i
  induction i with
  | zero =>
    intro t h1 h2
    have e : m = 0 := by omega
    subst e
    exact hx t h2
  | succ i ih =>
    intro t h1 h2
    by_cases e : m = i + 1
    · subst e
      exact hx t h2
    · exact hs i t (by omega) h2 (fun t' h => ih t' (by omega) h)
end ZV
