/-! ===== the picture of the whole bench, and its calls as functions ===== -/
/-- (circuit, chains, machine, tag, ticks, (outputs seen, outs seen, what they are)) -/
abbrev ap_S : Type := sp_T × sp_K × sp_T × Nat × Int32 × Nat × Nat × (Nat → Int32) × (Nat → Int32)
def ap_v (x : Int32) (n : Nat) : Bool := decide (0 ≤ x.toInt ∧ x.toInt < n)
def ap_i (x : Int32) : Nat := x.toNatClampNeg
theorem ap_v_t {x : Int32} {n : Nat} (h : ap_v x n = true) (hn : n < 2 ^ 31) : ∃ j, j < n ∧ x = nI j ∧ ap_i x = j := by
  have h' := of_decide_eq_true h
  obtain ⟨j, hj, e⟩ := vp_in_of (vp_in_iff.mpr h') hn
  exact ⟨j, hj, e, by rw [ap_i, e]; exact nI_clamp (by omega)⟩
theorem ap_v_n {j n : Nat} (hj : j < 2 ^ 31) : ap_v (nI j) n = decide (j < n) := by
  unfold ap_v
  rw [nI_toInt hj]
  apply decide_eq_decide.mpr
  omega
theorem ap_v_f {x : Int32} {n : Nat} (h : ap_v x n = false) (hn : n < 2 ^ 31) : x < 0 ∨ (¬ x < 0 ∧ nI n ≤ x) := by
  have h' := of_decide_eq_false h
  rw [Int32.lt_iff_toInt_lt, Int32.le_iff_toInt_le, nI_toInt hn]
  have e0 : (0 : Int32).toInt = 0 := rfl
  rw [e0]
  omega
/-- how the class's tests of an index end -/
theorem ap_two {x : Int32} {n : Nat} (hn : n < 2 ^ 31) : (if x < 0 then (0 : Int32) else if nI n ≤ x then 0 else 1) = sp_b (ap_v x n) := by
  cases h : ap_v x n with
  | true =>
    obtain ⟨j, hj, rfl, -⟩ := ap_v_t h hn
    rw [if_neg (nI_pos (by omega)), if_neg (nI_ge hj hn)]
    rfl
  | false =>
    rcases ap_v_f h hn with q | ⟨q, q2⟩
    · rw [if_pos q]; rfl
    · rw [if_neg q, if_pos q2]; rfl
def sp_io (C : sp_T) (l : Nat) : Nat → Bool
  | 0 => false
  | n + 1 => sp_io C l n || decide (C 8 n = l)
def ap_X (σ : gz_Mm) : ap_S → Prop := fun (C, K, m, tg, tk, no, nu, fO, fU) =>
  (rx_C σ C ∧ rx_K σ C K ∧ rx_m σ 31 m) ∧ (σ 31 5 = nI tg ∧ σ 31 7 = tk) ∧ rx_T σ C ∧ rx_R σ ∧ (∀ l, l < 80 → σ 18 l = sp_b (sp_io C l (C 9 3))) ∧ σ 53 2 = nI no ∧ σ 53 3 = nI nu ∧ (∀ i, i < no → σ 54 i = fO i) ∧ ∀ i, i < nu → σ 55 i = fU i
def ap_wf : ap_S → Prop := fun (C, K, m, tg, _, no, nu, _, _) =>
  sp_wf C ∧ sp_wk C K ∧ sp_wm m ∧ tg < 65536 ∧ no ≤ 8 ∧ nu ≤ 20 ∧ (∀ i, C 9 1 ≤ i → m 0 i = 0) ∧ (∀ c, C 9 2 ≤ c → m 1 c = 2)
theorem ca_hasLineB (L : Nat) (σ : gz_Mm) (x : Int32) (n : Nat) (hn : n < 2 ^ 31) (h : σ 12 0 = nI n) : gz_F 0 yX2_hasLine cX2_hasLine 2 (some .boolean) L [.ref 12, .int x] σ (some (.int (sp_b (ap_v x n)))) σ := by
  have := ca_hasLine L σ x
  rw [h, ap_two hn] at this
  exact this
theorem ca_hasCellB (L : Nat) (σ : gz_Mm) (x : Int32) (n : Nat) (hn : n < 2 ^ 31) (h : σ 12 2 = nI n) : gz_F 0 yX2_hasCell cX2_hasCell 2 (some .boolean) L [.ref 12, .int x] σ (some (.int (sp_b (ap_v x n)))) σ := by
  have := ca_hasCell L σ x
  rw [h, ap_two hn] at this
  exact this
theorem ca_hasTest (L : Nat) (σ : gz_Mm) (x : Int32) (n : Nat) (hn : n < 2 ^ 31) (h : σ 36 2 = nI n) : gz_F 0 yX6_has cX6_has 2 (some .boolean) L [.ref 36, .int x] σ (some (.int (sp_b (ap_v x n)))) σ := by
  rw [← ap_two hn]
  refine gz_F.of rfl rfl ?_
  refine zr_iload_n dX6_has_0 rfl ?_
  refine zr_if_lt 16 dX6_has_1 (by decide) (fun h1 => ?_) (fun h1 => ?_)
  · refine zr_iconst (v := 0) dX6_has_16 kc_iconst_0 ?_
    exact zr_zret dX6_has_17 rfl rfl (⟨by simp [*], rfl⟩)
  · refine zr_iload_n dX6_has_4 rfl ?_
    refine zr_aload_n dX6_has_5 rfl ?_
    refine zt_geti zg_X6_18 dX6_has_6 rfl rfl rfl ?_
    refine zr_top (h) ?_
    refine zr_icmp_ge 16 dX6_has_9 (by decide) (fun h9 => ?_) (fun h9 => ?_)
    · refine zr_iconst (v := 0) dX6_has_16 kc_iconst_0 ?_
      exact zr_zret dX6_has_17 rfl rfl (⟨by simp [*], rfl⟩)
    · refine zr_iconst (v := 1) dX6_has_12 kc_iconst_1 ?_
      refine zr_goto 17 dX6_has_13 (by decide) ?_
      exact zr_zret dX6_has_17 rfl rfl (⟨by simp [*], rfl⟩)
theorem ca_hasChain (L : Nat) (σ : gz_Mm) (x : Int32) : gz_F 0 yX1_hasChain cX1_hasChain 1 (some .boolean) L [.int x] σ (some (.int (sp_b (ap_v x 3)))) σ := by
  rw [← ap_two (by decide), show nI 3 = 3 from rfl]
  refine gz_F.of rfl rfl ?_
  refine zr_iload_n dX1_hasChain_0 rfl ?_
  refine zr_if_lt 13 dX1_hasChain_1 (by decide) (fun h1 => ?_) (fun h1 => ?_)
  · refine zr_iconst (v := 0) dX1_hasChain_13 kc_iconst_0 ?_
    exact zr_zret dX1_hasChain_14 rfl rfl (⟨by simp [*], rfl⟩)
  · refine zr_iload_n dX1_hasChain_4 rfl ?_
    refine zr_iconst (v := 3) dX1_hasChain_5 kc_iconst_3 ?_
    refine zr_icmp_ge 13 dX1_hasChain_6 (by decide) (fun h6 => ?_) (fun h6 => ?_)
    · refine zr_iconst (v := 0) dX1_hasChain_13 kc_iconst_0 ?_
      exact zr_zret dX1_hasChain_14 rfl rfl (⟨by simp [*], rfl⟩)
    · refine zr_iconst (v := 1) dX1_hasChain_9 kc_iconst_1 ?_
      refine zr_goto 14 dX1_hasChain_10 (by decide) ?_
      exact zr_zret dX1_hasChain_14 rfl rfl (⟨by simp [*], rfl⟩)
theorem i32_le2 (x : Int32) : ¬ 2 < x ↔ ¬ 3 ≤ x := by
  rw [Int32.lt_iff_toInt_lt, Int32.le_iff_toInt_le]
  have e2 : (2 : Int32).toInt = 2 := rfl
  have e3 : (3 : Int32).toInt = 3 := rfl
  rw [e2, e3]
  omega
theorem ca_isValue (L : Nat) (σ : gz_Mm) (x : Int32) : gz_F 0 yX8_isValue cX8_isValue 1 (some .boolean) L [.int x] σ (some (.int (sp_b (ap_v x 3)))) σ := by
  rw [← ap_two (by decide), show nI 3 = 3 from rfl]
  have e : (if x < 0 then (0 : Int32) else if 3 ≤ x then 0 else 1) = if x < 0 then 0 else if 2 < x then 0 else 1 := by
    have := i32_le2 x
    by_cases h1 : x < 0
    · simp [h1]
    · by_cases h2 : 2 < x
      · have h3 : 3 ≤ x := Decidable.byContradiction (fun q => (this.mpr q) h2)
        simp [h1, h2, h3]
      · have h3 := this.mp h2
        simp [h1, h2, h3]
  rw [e]
  refine gz_F.of rfl rfl ?_
  refine zr_iload_n dX8_isValue_0 rfl ?_
  refine zr_if_lt 13 dX8_isValue_1 (by decide) (fun h1 => ?_) (fun h1 => ?_)
  · refine zr_iconst (v := 0) dX8_isValue_13 kc_iconst_0 ?_
    exact zr_zret dX8_isValue_14 rfl rfl (⟨by simp [*], rfl⟩)
  · refine zr_iload_n dX8_isValue_4 rfl ?_
    refine zr_iconst (v := 2) dX8_isValue_5 kc_iconst_2 ?_
    refine zr_icmp_gt 13 dX8_isValue_6 (by decide) (fun h6 => ?_) (fun h6 => ?_)
    · refine zr_iconst (v := 0) dX8_isValue_13 kc_iconst_0 ?_
      exact zr_zret dX8_isValue_14 rfl rfl (⟨by simp [*], rfl⟩)
    · refine zr_iconst (v := 1) dX8_isValue_9 kc_iconst_1 ?_
      refine zr_goto 14 dX8_isValue_10 (by decide) ?_
      exact zr_zret dX8_isValue_14 rfl rfl (⟨by simp [*], rfl⟩)
theorem ap_bit {x : Int32} : (if x = 0 then (1 : Int32) else if x = 1 then 1 else 0) = sp_b (ap_v x 2) := by
  cases h : ap_v x 2 with
  | true =>
    obtain ⟨j, hj, rfl, -⟩ := ap_v_t h (by decide)
    rcases (show j = 0 ∨ j = 1 by omega) with rfl | rfl <;> rfl
  | false =>
    have h0 : ¬ x = 0 := fun q => by rw [q] at h; cases h
    have h1 : ¬ x = 1 := fun q => by rw [q] at h; cases h
    rw [if_neg h0, if_neg h1]
    rfl
theorem ca_isBit (L : Nat) (σ : gz_Mm) (x : Int32) : gz_F 0 yX8_isBit cX8_isBit 1 (some .boolean) L [.int x] σ (some (.int (sp_b (ap_v x 2)))) σ := by
  rw [← ap_bit]
  refine gz_F.of rfl rfl ?_
  refine zr_iload_n dX8_isBit_0 rfl ?_
  refine zr_if_eq 9 dX8_isBit_1 (by decide) (fun h1 => ?_) (fun h1 => ?_)
  · refine zr_iconst (v := 1) dX8_isBit_9 kc_iconst_1 ?_
    refine zr_goto 14 dX8_isBit_10 (by decide) ?_
    exact zr_zret dX8_isBit_14 rfl rfl (⟨by simp [*], rfl⟩)
  · refine zr_iload_n dX8_isBit_4 rfl ?_
    refine zr_iconst (v := 1) dX8_isBit_5 kc_iconst_1 ?_
    refine zr_icmp_ne 13 dX8_isBit_6 (by decide) (fun h6 => ?_) (fun h6 => ?_)
    · refine zr_iconst (v := 0) dX8_isBit_13 kc_iconst_0 ?_
      exact zr_zret dX8_isBit_14 rfl rfl (⟨by simp [*], rfl⟩)
    · refine zr_iconst (v := 1) dX8_isBit_9 kc_iconst_1 ?_
      refine zr_goto 14 dX8_isBit_10 (by decide) ?_
      exact zr_zret dX8_isBit_14 rfl rfl (⟨by simp [*], rfl⟩)
/-! the calls -/
def fa_input : ap_S → Int32 × ap_S := fun (C, K, m, r) =>
  if C 9 0 = 80 ∨ C 9 1 = 8 then (-1004, (C, K, m, r)) else (nI (C 9 0), (sp_w (sp_w (sp_w (sp_w C 0 (C 9 0) 0) 1 (C 9 0) (C 9 1)) 9 0 (C 9 0 + 1)) 9 1 (C 9 1 + 1), K, m, r))
def fa_gate (op a b c : Int32) : ap_S → Int32 × ap_S := fun (C, K, m, r) =>
  if ap_v op 7 = false then (-1002, (C, K, m, r)) else if ap_v a (C 9 0) = false ∨ (op ≠ 3 ∧ ap_v b (C 9 0) = false) ∨ (op = 4 ∧ ap_v c (C 9 0) = false) then (-1001, (C, K, m, r))
  else if C 9 0 = 80 then (-1004, (C, K, m, r))
  else (nI (C 9 0), (sp_w (sp_w (sp_w (sp_w (sp_w (sp_w C 0 (C 9 0) 1) 1 (C 9 0) (ap_i op)) 2 (C 9 0) (ap_i a)) 3 (C 9 0) (if op = 3 then ap_i a else ap_i b)) 4 (C 9 0) (if op = 4 then ap_i c else ap_i a)) 9 0 (C 9 0 + 1), K, m, r))
def fa_cell (d : Int32) : ap_S → Int32 × ap_S := fun (C, K, m, r) =>
  if ap_v d 3 = false then (-1002, (C, K, m, r)) else if C 9 0 = 80 ∨ C 9 2 = 20 then (-1004, (C, K, m, r))
  else (nI (C 9 0), (sp_w (sp_w (sp_w (sp_w (sp_w (sp_w (sp_w (sp_w C 0 (C 9 0) 2) 1 (C 9 0) (C 9 2)) 5 (C 9 2) (C 9 0)) 6 (C 9 2) (ap_i d)) 7 (C 9 2) (C 9 0)) 12 (C 9 2) 0) 9 0 (C 9 0 + 1)) 9 2 (C 9 2 + 1), K, m, r))
def fa_source (c l : Int32) : ap_S → Int32 × ap_S := fun (C, K, m, r) =>
  if ap_v c (C 9 2) = false ∨ ap_v l (C 9 0) = false then (-1001, (C, K, m, r)) else (nI (C 7 (ap_i c)), (sp_w C 7 (ap_i c) (ap_i l), K, m, r))
def fa_output (l : Int32) : ap_S → Int32 × ap_S := fun (C, K, m, r) =>
  if ap_v l (C 9 0) = false then (-1001, (C, K, m, r)) else if sp_io C (ap_i l) (C 9 3) = true then (-1003, (C, K, m, r)) else if C 9 3 = 8 then (-1004, (C, K, m, r))
  else (nI (C 9 3 + 1), (sp_w (sp_w C 8 (C 9 3) (ap_i l)) 9 3 (C 9 3 + 1), K, m, r))
def fa_count (w : Int32) : ap_S → Int32 × ap_S := fun (C, K, m, tg, tk, r) =>
  (if w = 0 then nI (C 9 0) else if w = 1 then nI (C 9 1) else if w = 2 then nI (C 9 2) else if w = 3 then nI (C 9 3) else if w = 4 then nI (C 9 4) else if w = 5 then nI (sp_all K).length else if w = 6 then tk else -1002, (C, K, m, tg, tk, r))
def fa_line (l w : Int32) : ap_S → Int32 × ap_S := fun (C, K, m, r) =>
  (if ap_v l (C 9 0) = false then -1001 else if w = 0 then nI (C 0 (ap_i l)) else if w = 1 then nI (C 1 (ap_i l)) else if w = 2 then nI (sp_val C m (ap_i l)) else -1002, (C, K, m, r))
def fa_set (i v : Int32) : ap_S → Int32 × ap_S := fun (C, K, m, r) =>
  if ap_v i (C 9 1) = false then (-1001, (C, K, m, r)) else if ap_v v 3 = false then (-1002, (C, K, m, r)) else (nI (m 0 (ap_i i)), (C, K, sp_w m 0 (ap_i i) (ap_i v), r))
def fa_hold (c v : Int32) : ap_S → Int32 × ap_S := fun (C, K, m, r) =>
  if ap_v c (C 9 2) = false then (-1001, (C, K, m, r)) else if ap_v v 3 = false then (-1002, (C, K, m, r)) else (nI (m 1 (ap_i c)), (C, K, sp_w m 1 (ap_i c) (ap_i v), r))
def fa_clock (d : Int32) : ap_S → Int32 × ap_S := fun (C, K, m, r) =>
  if ap_v d 8 = false then (-1002, (C, K, m, r)) else (nI (sp_cnt C (ap_i d) (C 9 2)), (C, K, sp_clk C m (ap_i d), r))
def fa_stick (l v : Int32) : ap_S → Int32 × ap_S := fun (C, K, m, r) =>
  if l = -1 then (1, (C, K, sp_w m 2 0 0, r)) else if ap_v l (C 9 0) = false then (-1001, (C, K, m, r)) else if ap_v v 2 = false then (-1002, (C, K, m, r)) else (1, (C, K, sp_w (sp_w m 2 0 (ap_i l + 1)) 2 1 (ap_i v), r))
def sp_ck (K : sp_K) (k : Nat) (l : List Nat) : sp_K := fun j => if j = k then l else K j
def fa_chain (k c i : Int32) (t : Nat) : ap_S → Int32 × ap_S := fun (C, K, m, r) =>
  if ap_v k 3 = false ∨ ap_v c (C 9 2) = false then (-1001, (C, K, m, r)) else if ap_v i ((K (ap_i k)).length + 1) = false then (-1002, (C, K, m, r)) else if ap_i c ∈ sp_all K then (-1003, (C, K, m, r))
  else (nI ((K (ap_i k)).length + 1), (sp_w C 12 (ap_i c) t, sp_ck K (ap_i k) ((K (ap_i k)).insertIdx (ap_i i) (ap_i c)), m, r))
def fa_unchain (c : Int32) : ap_S → Int32 × ap_S := fun (C, K, m, r) =>
  if ap_v c (C 9 2) = false then (-1001, (C, K, m, r)) else if ap_i c ∉ sp_all K then (0, (C, K, m, r)) else (1, (C, fun k => (K k).filter (fun j => decide (j ≠ ap_i c)), m, r))
def fa_link (k i : Int32) : ap_S → Int32 × ap_S := fun (C, K, m, r) =>
  (if ap_v k 3 = false then -1001 else if ap_v i (K (ap_i k)).length = false then -1 else nI ((K (ap_i k)).getD (ap_i i) 0), (C, K, m, r))
/-- stitching the first n cells: how many, tables, chains -/
def sp_st (C : sp_T) (K : sp_K) : Nat → Nat × sp_T × sp_K
  | 0 => (0, C, K)
  | n + 1 => match sp_st C K n with
    | (a, C1, K1) => if n ∈ sp_all K1 then (a, C1, K1) else (a + 1, sp_w C1 12 n 0, sp_ck K1 (C 6 n) (K1 (C 6 n) ++ [n]))
def fa_stitch : ap_S → Int32 × ap_S := fun (C, K, m, r) => (nI (sp_st C K (C 9 2)).1, ((sp_st C K (C 9 2)).2.1, (sp_st C K (C 9 2)).2.2, m, r))
def fa_shift (k v : Int32) : ap_S → Int32 × ap_S := fun (C, K, m, r) =>
  if ap_v k 3 = false then (-1001, (C, K, m, r)) else if ap_v v 3 = false then (-1002, (C, K, m, r)) else (nI (sp_out (sp_cv C m) (K (ap_i k)) (ap_i v)), (C, K, sp_row m 1 (sp_sh C (sp_cv C m) (K (ap_i k)) (ap_i v) (m 1)), r))
def fa_tag (v : Int32) : ap_S → Int32 × ap_S := fun (C, K, m, tg, r) => (nI tg, (C, K, m, v.toBitVec.toNat % 65536, r))
def fa_tick (lead x : Int32) : ap_S → Int32 × ap_S := fun (C, K, m, tg, tk, r) =>
  if ap_v lead 2 = false ∨ ap_v x 2 = false then (-1002, (C, K, m, tg, tk, r)) else ((sp_tk C K tg m (ap_i lead) (ap_i x)).1, (C, K, (sp_tk C K tg m (ap_i lead) (ap_i x)).2, tg, tk + 1, r))
def fa_state (w : Int32) : ap_S → Int32 × ap_S := fun (C, K, m, r) =>
  (if w = 0 then nI (m 2 2) else if w = 1 then nI (m 2 3) else if w = 2 then nI (m 2 4) else if w = 3 then nI (m 2 5) else if w = 4 then nI (m 2 6) else -1002, (C, K, m, r))
def fa_test (a b : Int32) : ap_S → Int32 × ap_S := fun (C, K, m, r) =>
  if ap_v a (2 ^ (C 9 1)) = false ∨ ap_v b (2 ^ (C 9 2)) = false then (-1002, (C, K, m, r)) else if C 9 4 = 20 then (-1004, (C, K, m, r)) else (nI (C 9 4), (sp_w (sp_w (sp_w C 10 (C 9 4) (ap_i a)) 11 (C 9 4) (ap_i b)) 9 4 (C 9 4 + 1), K, m, r))
def fa_drive (t : Int32) : ap_S → Int32 × ap_S := fun (C, K, m, tg, tk, no, nu, fO, fU) =>
  if ap_v t (C 9 4) = false then (-1001, (C, K, m, tg, tk, no, nu, fO, fU)) else
  (nI (23 + 2 * sp_len K), (C, K, sp_mF C K tg m (C 10 (ap_i t)) (C 11 (ap_i t)), tg, tk + nI (23 + 2 * sp_len K), C 9 3, sp_len K, (fun i => nI (sp_val C (sp_mC C K tg m (C 10 (ap_i t)) (C 11 (ap_i t))) (C 8 i))), sp_ou C K tg m (C 10 (ap_i t)) (C 11 (ap_i t))))
def fa_seen (w i : Int32) : ap_S → Int32 × ap_S := fun (C, K, m, tg, tk, no, nu, fO, fU) =>
  (if w = 0 then (if ap_v i no = false then -1 else fO (ap_i i)) else if w = 1 then (if ap_v i nu = false then -1 else fU (ap_i i)) else -1002, (C, K, m, tg, tk, no, nu, fO, fU))
def fa_shows (t l v : Int32) : ap_S → Int32 × ap_S := fun (C, K, m, r) =>
  (if ap_v t (C 9 4) = false ∨ ap_v l (C 9 0) = false then -1001 else if ap_v v 2 = false then -1002 else sp_b (sp_shows C K (ap_i t) (ap_i l) (ap_i v)), (C, K, m, r))
/-- the first test from t on, of n, that shows it -/
def sp_fb (C : sp_T) (K : sp_K) (l v : Nat) (t : Nat) : Nat → Int32
  | 0 => -1
  | n + 1 => if sp_shows C K t l v = true then nI t else sp_fb C K l v (t + 1) n
def fa_shownBy (l v : Int32) : ap_S → Int32 × ap_S := fun (C, K, m, r) =>
  (if ap_v l (C 9 0) = false then -1001 else if ap_v v 2 = false then -1002 else sp_fb C K (ap_i l) (ap_i v) 0 (C 9 4), (C, K, m, r))
/-- does one of the first n tests show line f / 2 stuck at f % 2 -/
def sp_any (C : sp_T) (K : sp_K) (f : Nat) : Nat → Bool
  | 0 => false
  | n + 1 => sp_any C K f n || sp_shows C K n (f / 2) (f % 2)
def sp_cov (C : sp_T) (K : sp_K) (n : Nat) : Nat → Nat
  | 0 => 0
  | f + 1 => sp_cov C K n f + (if sp_any C K f n = true then 1 else 0)
def fa_covers : ap_S → Int32 × ap_S := fun (C, K, m, r) => (nI (sp_cov C K (C 9 4) (2 * C 9 0)), (C, K, m, r))
def fa_same (l n : Int32) : ap_S → Int32 × ap_S := fun (C, K, m, r) =>
  (if ap_v l (C 9 0) = false ∨ ap_v n (C 9 0) = false then -1001 else if 10 < C 9 1 + C 9 2 then -1003 else nI (sp_sm C (ap_i l) (ap_i n) (2 ^ (C 9 1 + C 9 2))), (C, K, m, r))
def ap_P (σ : gz_Mm) (p : Int32 × ap_S) : Int32 → gz_Mm → Prop := fun v σ' => v = p.1 ∧ ap_X σ' p.2 ∧ ∀ k, 57 ≤ k → σ' k = σ k
