/-! ===== the reference: its cells, small methods, work, clocked ===== -/
def rm_C (σ : gz_Mm) (C : sp_T) : Prop :=
  (σ 57 3 = nI (C 9 0) ∧ σ 57 5 = nI (C 9 1) ∧ σ 57 11 = nI (C 9 2) ∧ σ 57 13 = nI (C 9 3) ∧ σ 57 18 = nI (C 9 4)) ∧
  (∀ l, l < C 9 0 → σ 58 l = nI (C 0 l) ∧ σ 59 l = nI (C 1 l) ∧ (C 0 l = 1 → σ 60 (3 * l) = nI (C 2 l) ∧ σ 60 (3 * l + 1) = nI (C 3 l) ∧ σ 60 (3 * l + 2) = nI (C 4 l))) ∧
  (∀ c, c < C 9 2 → σ 62 c = nI (C 5 c) ∧ σ 63 c = nI (C 6 c) ∧ σ 64 c = nI (C 7 c)) ∧ (∀ i, i < C 9 3 → σ 67 i = nI (C 8 i)) ∧ (∀ t, t < C 9 4 → σ 70 t = nI (C 10 t) ∧ σ 71 t = nI (C 11 t))
def rm_K (σ : gz_Mm) (C : sp_T) (K : sp_K) : Prop :=
  (∀ k, k < 3 → σ 69 k = nI (K k).length ∧ ∀ i, i < (K k).length → σ 68 (20 * k + i) = nI ((K k).getD i 0)) ∧ (∀ c, c ∈ sp_all K → σ 66 c = nI (C 12 c)) ∧
  (∀ c, c < C 9 2 → (c ∉ sp_all K → σ 65 c = -1) ∧ ∀ k, k < 3 → c ∈ K k → σ 65 c = nI k)
def rm_m (σ : gz_Mm) (C m : sp_T) : Prop :=
  (∀ i, i < 8 → σ 72 i = nI (m 0 i)) ∧ (∀ c, c < C 9 2 → σ 73 c = nI (m 1 c)) ∧ σ 57 21 = nI (m 2 0) + (-1) ∧ (m 2 0 ≠ 0 → σ 57 22 = nI (m 2 1)) ∧
  σ 57 23 = nI (m 2 2) ∧ σ 57 24 = nI (m 2 3) ∧ σ 57 25 = nI (m 2 4) ∧ σ 57 26 = nI (m 2 5) ∧ σ 57 28 = nI (m 2 6)
theorem rm_C.kept {σ σ' : gz_Mm} {C : sp_T} (h : rm_C σ C) (h57 : ∀ j, j = 3 ∨ j = 5 ∨ j = 11 ∨ j = 13 ∨ j = 18 → σ' 57 j = σ 57 j) (hk : ∀ k, 58 ≤ k → k ≤ 71 → k ≠ 65 → k ≠ 66 → k ≠ 68 → k ≠ 69 → σ' k = σ k) : rm_C σ' C := by
  unfold rm_C at h ⊢
  rw [h57 3 (by omega), h57 5 (by omega), h57 11 (by omega), h57 13 (by omega), h57 18 (by omega), hk 58 (by omega) (by omega) (by omega) (by omega) (by omega) (by omega), hk 59 (by omega) (by omega) (by omega) (by omega) (by omega) (by omega), hk 60 (by omega) (by omega) (by omega) (by omega) (by omega) (by omega), hk 62 (by omega) (by omega) (by omega) (by omega) (by omega) (by omega), hk 63 (by omega) (by omega) (by omega) (by omega) (by omega) (by omega), hk 64 (by omega) (by omega) (by omega) (by omega) (by omega) (by omega), hk 67 (by omega) (by omega) (by omega) (by omega) (by omega) (by omega), hk 70 (by omega) (by omega) (by omega) (by omega) (by omega) (by omega), hk 71 (by omega) (by omega) (by omega) (by omega) (by omega) (by omega)]
  exact h
theorem rm_K.kept {σ σ' : gz_Mm} {C : sp_T} {K : sp_K} (h : rm_K σ C K) (hk : ∀ k, k = 65 ∨ k = 66 ∨ k = 68 ∨ k = 69 → σ' k = σ k) : rm_K σ' C K := by
  unfold rm_K at h ⊢
  rw [hk 65 (by omega), hk 66 (by omega), hk 68 (by omega), hk 69 (by omega)]
  exact h
theorem rm_m.kept {σ σ' : gz_Mm} {C m : sp_T} (h : rm_m σ C m) (h57 : ∀ j, 21 ≤ j ∧ j ≤ 28 ∧ j ≠ 27 → σ' 57 j = σ 57 j) (h72 : σ' 72 = σ 72) (h73 : σ' 73 = σ 73) : rm_m σ' C m := by
  unfold rm_m at h ⊢
  rw [h72, h73, h57 21 (by omega), h57 22 (by omega), h57 23 (by omega), h57 24 (by omega), h57 25 (by omega), h57 26 (by omega), h57 28 (by omega)]
  exact h
theorem cm_in (L : Nat) (σ : gz_Mm) (x y z : Int64) : gz_F 0 yX9_in cX9_in 6 (some .boolean) L [.long x, .long y, .long z] σ (some (.int (sp_b (decide (y ≤ x ∧ x ≤ z))))) σ := by
  refine gz_F.of rfl rfl ?_
  by_cases h1 : y ≤ x
  · have h1' : ¬ lg_cmp x y < 0 := fun q => Int64.not_le.mpr ((lg_cmp_lt x y).mp q) h1
    by_cases h2 : x ≤ z
    · have h2' : ¬ 0 < lg_cmp x z := fun q => Int64.not_le.mpr ((lg_cmp_gt x z).mp q) h2
      rw [show decide (y ≤ x ∧ x ≤ z) = true by simp [h1, h2]]
      refine zr_lload_n dX9_in_0 rfl ?_
      refine zr_lload_n dX9_in_1 rfl ?_
      refine zr_lcmp dX9_in_2 ?_
      refine zr_if_lt 17 dX9_in_3 (by decide) (fun h => absurd h h1') (fun hp3 => ?_)
      refine zr_lload_n dX9_in_6 rfl ?_
      refine zr_lload dX9_in_7 rfl ?_
      refine zr_lcmp dX9_in_9 ?_
      refine zr_if_gt 17 dX9_in_10 (by decide) (fun h => absurd h h2') (fun hp10 => ?_)
      refine zr_iconst (v := 1) dX9_in_13 kc_iconst_1 ?_
      refine zr_goto 18 dX9_in_14 (by decide) ?_
      exact zr_zret dX9_in_18 rfl rfl (⟨rfl, rfl⟩)
    · have h2' : 0 < lg_cmp x z := (lg_cmp_gt x z).mpr (Int64.not_le.mp h2)
      rw [show decide (y ≤ x ∧ x ≤ z) = false by simp [h2]]
      refine zr_lload_n dX9_in_0 rfl ?_
      refine zr_lload_n dX9_in_1 rfl ?_
      refine zr_lcmp dX9_in_2 ?_
      refine zr_if_lt 17 dX9_in_3 (by decide) (fun h => absurd h h1') (fun hp3 => ?_)
      refine zr_lload_n dX9_in_6 rfl ?_
      refine zr_lload dX9_in_7 rfl ?_
      refine zr_lcmp dX9_in_9 ?_
      refine zr_if_gt 17 dX9_in_10 (by decide) (fun hp10 => ?_) (fun h => absurd h2' h)
      refine zr_iconst (v := 0) dX9_in_17 kc_iconst_0 ?_
      exact zr_zret dX9_in_18 rfl rfl (⟨rfl, rfl⟩)
  · have h1' : lg_cmp x y < 0 := (lg_cmp_lt x y).mpr (Int64.not_le.mp h1)
    rw [show decide (y ≤ x ∧ x ≤ z) = false by simp [h1]]
    refine zr_lload_n dX9_in_0 rfl ?_
    refine zr_lload_n dX9_in_1 rfl ?_
    refine zr_lcmp dX9_in_2 ?_
    refine zr_if_lt 17 dX9_in_3 (by decide) (fun hp3 => ?_) (fun h => absurd h1' h)
    refine zr_iconst (v := 0) dX9_in_17 kc_iconst_0 ?_
    exact zr_zret dX9_in_18 rfl rfl (⟨rfl, rfl⟩)
theorem ap_in {x : Int32} {z : Int64} {n : Nat} (hz : z.toInt = (n : Int) - 1) : decide ((0 : Int64) ≤ x.toInt64 ∧ x.toInt64 ≤ z) = ap_v x n := by
  unfold ap_v
  apply decide_eq_decide.mpr
  rw [Int64.le_iff_toInt_le, Int64.le_iff_toInt_le, Int32.toInt_toInt64, hz]
  have e0 : (0 : Int64).toInt = 0 := rfl
  rw [e0]
  omega
theorem nI_less {n : Nat} (hn : n < 2 ^ 30) : (nI n - 1).toInt64.toInt = (n : Int) - 1 := by
  rw [Int32.toInt_toInt64]
  have := pk_sub_toInt (a := n) (b := 1) hn (by omega)
  exact this
theorem cm_isLine (L : Nat) (σ : gz_Mm) (x : Int32) (n : Nat) (hn : n < 2 ^ 30) (h : σ 57 3 = nI n) : gz_F 1 yX9_isLine cX9_isLine 2 (some .boolean) L [.ref 57, .int x] σ (some (.int (sp_b (ap_v x n)))) σ := by
  refine gz_F.of rfl rfl ?_
  refine zr_iload_n dX9_isLine_0 rfl ?_
  refine zr_i2l dX9_isLine_1 ?_
  refine zr_lconst (v := 0) dX9_isLine_2 (by decide) ?_
  refine zr_aload_n dX9_isLine_3 rfl ?_
  refine zt_geti zg_X9_99 dX9_isLine_4 rfl rfl rfl ?_
  refine zr_top (h) ?_
  refine zr_iconst (v := 1) dX9_isLine_7 kc_iconst_1 ?_
  refine zr_isub dX9_isLine_8 ?_
  refine zr_i2l dX9_isLine_9 ?_
  refine zt_callSi (As := [_, _, _]) (cm_in L σ _ _ _) zc_X9_102 rfl dX9_isLine_10 rfl rfl rfl ?_
  refine zr_top (congrArg sp_b (ap_in (nI_less hn))) ?_
  exact zr_zret dX9_isLine_13 rfl (sp_b_nar _) ⟨rfl, rfl⟩
theorem cm_isCell (L : Nat) (σ : gz_Mm) (x : Int32) (n : Nat) (hn : n < 2 ^ 30) (h : σ 57 11 = nI n) : gz_F 1 yX9_isCell cX9_isCell 2 (some .boolean) L [.ref 57, .int x] σ (some (.int (sp_b (ap_v x n)))) σ := by
  refine gz_F.of rfl rfl ?_
  refine zr_iload_n dX9_isCell_0 rfl ?_
  refine zr_i2l dX9_isCell_1 ?_
  refine zr_lconst (v := 0) dX9_isCell_2 (by decide) ?_
  refine zr_aload_n dX9_isCell_3 rfl ?_
  refine zt_geti zg_X9_106 dX9_isCell_4 rfl rfl rfl ?_
  refine zr_top (h) ?_
  refine zr_iconst (v := 1) dX9_isCell_7 kc_iconst_1 ?_
  refine zr_isub dX9_isCell_8 ?_
  refine zr_i2l dX9_isCell_9 ?_
  refine zt_callSi (As := [_, _, _]) (cm_in L σ _ _ _) zc_X9_102 rfl dX9_isCell_10 rfl rfl rfl ?_
  refine zr_top (congrArg sp_b (ap_in (nI_less hn))) ?_
  exact zr_zret dX9_isCell_13 rfl (sp_b_nar _) ⟨rfl, rfl⟩
theorem cm_isChain (L : Nat) (σ : gz_Mm) (x : Int32) : gz_F 1 yX9_isChain cX9_isChain 1 (some .boolean) L [.int x] σ (some (.int (sp_b (ap_v x 3)))) σ := by
  refine gz_F.of rfl rfl ?_
  refine zr_iload_n dX9_isChain_0 rfl ?_
  refine zr_i2l dX9_isChain_1 ?_
  refine zr_lconst (v := 0) dX9_isChain_2 (by decide) ?_
  refine zr_ldc2 zd_X9_126 dX9_isChain_3 ?_
  refine zt_callSi (As := [_, _, _]) (cm_in L σ _ _ _) zc_X9_102 rfl dX9_isChain_6 rfl rfl rfl ?_
  refine zr_top (congrArg sp_b (ap_in (n := 3) rfl)) ?_
  exact zr_zret dX9_isChain_9 rfl (sp_b_nar _) ⟨rfl, rfl⟩
theorem tn_not : ∀ a, a < 3 → (if nI a = 2 then (2 : Int32) else 1 - nI a) = nI (sp_not a) := by decide
theorem cm_not (L : Nat) (σ : gz_Mm) (a : Nat) (ha : a < 3) : gz_F 0 yX9_not cX9_not 1 (some .int) L [.int (nI a)] σ (some (.int (nI (sp_not a)))) σ := by
  rw [← tn_not a ha]
  refine gz_F.of rfl rfl ?_
  refine zr_iload_n dX9_not_0 rfl ?_
  refine zr_iconst (v := 2) dX9_not_1 kc_iconst_2 ?_
  refine zr_icmp_ne 9 dX9_not_2 (by decide) (fun h2 => ?_) (fun h2 => ?_)
  · refine zr_iconst (v := 1) dX9_not_9 kc_iconst_1 ?_
    refine zr_iload_n dX9_not_10 rfl ?_
    refine zr_isub dX9_not_11 ?_
    exact zr_iret dX9_not_12 rfl (⟨by simp [*], rfl⟩)
  · refine zr_iconst (v := 2) dX9_not_5 kc_iconst_2 ?_
    refine zr_goto 12 dX9_not_6 (by decide) ?_
    exact zr_iret dX9_not_12 rfl (⟨by simp [*], rfl⟩)
theorem tn_and : ∀ a, a < 3 → ∀ b, b < 3 → (if nI a = 0 then (0 : Int32) else if nI b = 0 then 0 else if nI a = 1 then (if nI b = 1 then 1 else 2) else 2) = nI (sp_and a b) := by decide
theorem cm_and (L : Nat) (σ : gz_Mm) (a b : Nat) (ha : a < 3) (hb : b < 3) : gz_F 0 yX9_and cX9_and 2 (some .int) L [.int (nI a), .int (nI b)] σ (some (.int (nI (sp_and a b)))) σ := by
  rw [← tn_and a ha b hb]
  refine gz_F.of rfl rfl ?_
  refine zr_iload_n dX9_and_0 rfl ?_
  refine zr_if_eq 8 dX9_and_1 (by decide) (fun h1 => ?_) (fun h1 => ?_)
  · refine zr_iconst (v := 0) dX9_and_8 kc_iconst_0 ?_
    refine zr_goto 27 dX9_and_9 (by decide) ?_
    exact zr_iret dX9_and_27 rfl (⟨by simp [*], rfl⟩)
  · refine zr_iload_n dX9_and_4 rfl ?_
    refine zr_if_ne 12 dX9_and_5 (by decide) (fun h5 => ?_) (fun h5 => ?_)
    · refine zr_iload_n dX9_and_12 rfl ?_
      refine zr_iconst (v := 1) dX9_and_13 kc_iconst_1 ?_
      refine zr_icmp_ne 26 dX9_and_14 (by decide) (fun h14 => ?_) (fun h14 => ?_)
      · refine zr_iconst (v := 2) dX9_and_26 kc_iconst_2 ?_
        exact zr_iret dX9_and_27 rfl (⟨by simp [*], rfl⟩)
      · refine zr_iload_n dX9_and_17 rfl ?_
        refine zr_iconst (v := 1) dX9_and_18 kc_iconst_1 ?_
        refine zr_icmp_ne 26 dX9_and_19 (by decide) (fun h19 => ?_) (fun h19 => ?_)
        · refine zr_iconst (v := 2) dX9_and_26 kc_iconst_2 ?_
          exact zr_iret dX9_and_27 rfl (⟨by simp [*], rfl⟩)
        · refine zr_iconst (v := 1) dX9_and_22 kc_iconst_1 ?_
          refine zr_goto 27 dX9_and_23 (by decide) ?_
          exact zr_iret dX9_and_27 rfl (⟨by simp [*], rfl⟩)
    · refine zr_iconst (v := 0) dX9_and_8 kc_iconst_0 ?_
      refine zr_goto 27 dX9_and_9 (by decide) ?_
      exact zr_iret dX9_and_27 rfl (⟨by simp [*], rfl⟩)
theorem tn_pick : ∀ a, a < 3 → ∀ b, b < 3 → ∀ c, c < 3 → (if nI a = 0 then nI b else if nI a = 1 then nI c else if nI b = nI c then nI b else 2) = nI (sp_gate 4 a b c) := by decide
theorem cm_pick (L : Nat) (σ : gz_Mm) (a b c : Nat) (ha : a < 3) (hb : b < 3) (hc : c < 3) : gz_F 0 yX9_pick cX9_pick 3 (some .int) L [.int (nI a), .int (nI b), .int (nI c)] σ (some (.int (nI (sp_gate 4 a b c)))) σ := by
  rw [← tn_pick a ha b hb c hc]
  refine gz_F.of rfl rfl ?_
  refine zr_iload_n dX9_pick_0 rfl ?_
  refine zr_if_ne 8 dX9_pick_1 (by decide) (fun h1 => ?_) (fun h1 => ?_)
  · refine zr_iload_n dX9_pick_8 rfl ?_
    refine zr_iconst (v := 1) dX9_pick_9 kc_iconst_1 ?_
    refine zr_icmp_ne 17 dX9_pick_10 (by decide) (fun h10 => ?_) (fun h10 => ?_)
    · refine zr_iload_n dX9_pick_17 rfl ?_
      refine zr_iload_n dX9_pick_18 rfl ?_
      refine zr_icmp_ne 26 dX9_pick_19 (by decide) (fun h19 => ?_) (fun h19 => ?_)
      · refine zr_iconst (v := 2) dX9_pick_26 kc_iconst_2 ?_
        exact zr_iret dX9_pick_27 rfl (⟨by simp [*], rfl⟩)
      · refine zr_iload_n dX9_pick_22 rfl ?_
        refine zr_goto 27 dX9_pick_23 (by decide) ?_
        exact zr_iret dX9_pick_27 rfl (⟨by simp [*], rfl⟩)
    · refine zr_iload_n dX9_pick_13 rfl ?_
      refine zr_goto 27 dX9_pick_14 (by decide) ?_
      exact zr_iret dX9_pick_27 rfl (⟨by simp [*], rfl⟩)
  · refine zr_iload_n dX9_pick_4 rfl ?_
    refine zr_goto 27 dX9_pick_5 (by decide) ?_
    exact zr_iret dX9_pick_27 rfl (⟨by simp [*], rfl⟩)
theorem cm_gateValue (L : Nat) (σ : gz_Mm) (l op s1 s2 s3 a b c : Nat) (hl : l < 80) (hop : op ≤ 6) (h1 : s1 < 80) (h2 : s2 < 80) (h3 : s3 < 80) (e0 : σ 59 l = nI op) (e1 : σ 60 (3 * l) = nI s1) (e2 : σ 60 (3 * l + 1) = nI s2) (e3 : σ 60 (3 * l + 2) = nI s3) (v1 : σ 74 s1 = nI a) (v2 : σ 74 s2 = nI b) (v3 : σ 74 s3 = nI c) (ha : a < 3) (hb : b < 3) (hc : c < 3) :
    gz_F 1 yX9_gateValue cX9_gateValue 5 (some .int) L [.ref 57, .int (nI l)] σ (some (.int (nI (sp_gate op a b c)))) σ := by
  have na := Nat.lt_succ_of_le (sp_not_le (a := a) (by omega))
  have nb := Nat.lt_succ_of_le (sp_not_le (a := b) (by omega))
  have q1 := Nat.lt_succ_of_le (sp_and_le a b)
  have q2 := Nat.lt_succ_of_le (sp_and_le (sp_not a) (sp_not b))
  refine gz_F.of rfl rfl ?_
  refine zr_aload_n dX9_gateValue_0 rfl ?_
  refine zt_getr zg_X9_66 dX9_gateValue_1 rfl rfl rfl ?_
  refine zr_aload_n dX9_gateValue_4 rfl ?_
  refine zt_getr zg_X9_16 dX9_gateValue_5 rfl rfl rfl ?_
  refine zr_iconst (v := 3) dX9_gateValue_8 kc_iconst_3 ?_
  refine zr_iload_n dX9_gateValue_9 rfl ?_
  refine zr_imul dX9_gateValue_10 ?_
  refine zr_top (tb_3 l) ?_
  refine zt_ildN dX9_gateValue_11 rfl rfl (by omega) (e1) ?_
  refine zt_ildN dX9_gateValue_12 rfl rfl (h1) (v1) ?_
  refine zr_istore_n dX9_gateValue_13 (by decide) rfl ?_
  refine zr_aload_n dX9_gateValue_14 rfl ?_
  refine zt_getr zg_X9_66 dX9_gateValue_15 rfl rfl rfl ?_
  refine zr_aload_n dX9_gateValue_18 rfl ?_
  refine zt_getr zg_X9_16 dX9_gateValue_19 rfl rfl rfl ?_
  refine zr_iconst (v := 3) dX9_gateValue_22 kc_iconst_3 ?_
  refine zr_iload_n dX9_gateValue_23 rfl ?_
  refine zr_imul dX9_gateValue_24 ?_
  refine zr_top (tb_3 l) ?_
  refine zr_iconst (v := 1) dX9_gateValue_25 kc_iconst_1 ?_
  refine zr_iadd dX9_gateValue_26 ?_
  refine zr_top (nI_1 _) ?_
  refine zt_ildN dX9_gateValue_27 rfl rfl (by omega) (e2) ?_
  refine zt_ildN dX9_gateValue_28 rfl rfl (h2) (v2) ?_
  refine zr_istore_n dX9_gateValue_29 (by decide) rfl ?_
  refine zr_aload_n dX9_gateValue_30 rfl ?_
  refine zt_getr zg_X9_66 dX9_gateValue_31 rfl rfl rfl ?_
  refine zr_aload_n dX9_gateValue_34 rfl ?_
  refine zt_getr zg_X9_16 dX9_gateValue_35 rfl rfl rfl ?_
  refine zr_iconst (v := 3) dX9_gateValue_38 kc_iconst_3 ?_
  refine zr_iload_n dX9_gateValue_39 rfl ?_
  refine zr_imul dX9_gateValue_40 ?_
  refine zr_top (tb_3 l) ?_
  refine zr_iconst (v := 2) dX9_gateValue_41 kc_iconst_2 ?_
  refine zr_iadd dX9_gateValue_42 ?_
  refine zr_top (nI_add _ 2) ?_
  refine zt_ildN dX9_gateValue_43 rfl rfl (by omega) (e3) ?_
  refine zt_ildN dX9_gateValue_44 rfl rfl (h3) (v3) ?_
  refine zr_istore dX9_gateValue_45 (by decide) rfl ?_
  refine zr_aload_n dX9_gateValue_47 rfl ?_
  refine zt_getr zg_X9_13 dX9_gateValue_48 rfl rfl rfl ?_
  refine zr_iload_n dX9_gateValue_51 rfl ?_
  refine zt_ildN dX9_gateValue_52 rfl rfl (hl) (e0) ?_
  rcases (show op = 0 ∨ op = 1 ∨ op = 2 ∨ op = 3 ∨ op = 4 ∨ op = 5 ∨ op = 6 by omega) with rfl | rfl | rfl | rfl | rfl | rfl | rfl
  · refine zr_tin (off := 39) 92 dX9_gateValue_53 (by decide) (by decide) (by decide) (by decide) ?_
    refine zr_iload_n dX9_gateValue_92 rfl ?_
    refine zr_iload_n dX9_gateValue_93 rfl ?_
    refine zt_callSi (As := [_, _]) (cm_and L σ a b ha hb) zc_X9_144 rfl dX9_gateValue_94 rfl rfl rfl ?_
    exact zr_iret dX9_gateValue_97 rfl (⟨rfl, rfl⟩)
  · refine zr_tin (off := 45) 98 dX9_gateValue_53 (by decide) (by decide) (by decide) (by decide) ?_
    refine zr_iload_n dX9_gateValue_98 rfl ?_
    refine zt_callSi (As := [_]) (cm_not L σ a ha) zc_X9_147 rfl dX9_gateValue_99 rfl rfl rfl ?_
    refine zr_iload_n dX9_gateValue_102 rfl ?_
    refine zt_callSi (As := [_]) (cm_not L σ b hb) zc_X9_147 rfl dX9_gateValue_103 rfl rfl rfl ?_
    refine zt_callSi (As := [_, _]) (cm_and L σ _ _ na nb) zc_X9_144 rfl dX9_gateValue_106 rfl rfl rfl ?_
    refine zt_callSi (As := [_]) (cm_not L σ _ q2) zc_X9_147 rfl dX9_gateValue_109 rfl rfl rfl ?_
    exact zr_iret dX9_gateValue_112 rfl (⟨rfl, rfl⟩)
  · by_cases x1 : a = 2
    · rw [show sp_gate 2 a b c = 2 by simp [sp_gate, x1]]
      refine zr_tin (off := 60) 113 dX9_gateValue_53 (by decide) (by decide) (by decide) (by decide) ?_
      refine zr_iload_n dX9_gateValue_113 rfl ?_
      refine zr_iconst (v := 2) dX9_gateValue_114 kc_iconst_2 ?_
      refine zr_icmp_eq 123 dX9_gateValue_115 (by decide) (fun hp115 => ?_) (fun h => absurd (by rw [x1]; rfl) h)
      refine zr_iconst (v := 2) dX9_gateValue_123 kc_iconst_2 ?_
      refine zr_goto 137 dX9_gateValue_124 (by decide) ?_
      exact zr_iret dX9_gateValue_137 rfl (⟨rfl, rfl⟩)
    · by_cases x2 : b = 2
      · rw [show sp_gate 2 a b c = 2 by simp [sp_gate, x2]]
        refine zr_tin (off := 60) 113 dX9_gateValue_53 (by decide) (by decide) (by decide) (by decide) ?_
        refine zr_iload_n dX9_gateValue_113 rfl ?_
        refine zr_iconst (v := 2) dX9_gateValue_114 kc_iconst_2 ?_
        refine zr_icmp_eq 123 dX9_gateValue_115 (by decide) (fun h => absurd ((nI_eq (b := 2) (by omega) (by omega)).mp h) x1) (fun hp115 => ?_)
        refine zr_iload_n dX9_gateValue_118 rfl ?_
        refine zr_iconst (v := 2) dX9_gateValue_119 kc_iconst_2 ?_
        refine zr_icmp_ne 127 dX9_gateValue_120 (by decide) (fun h => absurd (by rw [x2]; rfl) h) (fun hp120 => ?_)
        refine zr_iconst (v := 2) dX9_gateValue_123 kc_iconst_2 ?_
        refine zr_goto 137 dX9_gateValue_124 (by decide) ?_
        exact zr_iret dX9_gateValue_137 rfl (⟨rfl, rfl⟩)
      · by_cases x3 : a = b
        · rw [show sp_gate 2 a b c = 0 by simp [sp_gate, x2, x3]]
          refine zr_tin (off := 60) 113 dX9_gateValue_53 (by decide) (by decide) (by decide) (by decide) ?_
          refine zr_iload_n dX9_gateValue_113 rfl ?_
          refine zr_iconst (v := 2) dX9_gateValue_114 kc_iconst_2 ?_
          refine zr_icmp_eq 123 dX9_gateValue_115 (by decide) (fun h => absurd ((nI_eq (b := 2) (by omega) (by omega)).mp h) x1) (fun hp115 => ?_)
          refine zr_iload_n dX9_gateValue_118 rfl ?_
          refine zr_iconst (v := 2) dX9_gateValue_119 kc_iconst_2 ?_
          refine zr_icmp_ne 127 dX9_gateValue_120 (by decide) (fun hp120 => ?_) (fun h => absurd ((nI_eq (b := 2) (by omega) (by omega)).mp h) x2)
          refine zr_iload_n dX9_gateValue_127 rfl ?_
          refine zr_iload_n dX9_gateValue_128 rfl ?_
          refine zr_icmp_ne 136 dX9_gateValue_129 (by decide) (fun h => absurd (by rw [x3]) h) (fun hp129 => ?_)
          refine zr_iconst (v := 0) dX9_gateValue_132 kc_iconst_0 ?_
          refine zr_goto 137 dX9_gateValue_133 (by decide) ?_
          exact zr_iret dX9_gateValue_137 rfl (⟨rfl, rfl⟩)
        · rw [show sp_gate 2 a b c = 1 by simp [sp_gate, x1, x2, x3]]
          refine zr_tin (off := 60) 113 dX9_gateValue_53 (by decide) (by decide) (by decide) (by decide) ?_
          refine zr_iload_n dX9_gateValue_113 rfl ?_
          refine zr_iconst (v := 2) dX9_gateValue_114 kc_iconst_2 ?_
          refine zr_icmp_eq 123 dX9_gateValue_115 (by decide) (fun h => absurd ((nI_eq (b := 2) (by omega) (by omega)).mp h) x1) (fun hp115 => ?_)
          refine zr_iload_n dX9_gateValue_118 rfl ?_
          refine zr_iconst (v := 2) dX9_gateValue_119 kc_iconst_2 ?_
          refine zr_icmp_ne 127 dX9_gateValue_120 (by decide) (fun hp120 => ?_) (fun h => absurd ((nI_eq (b := 2) (by omega) (by omega)).mp h) x2)
          refine zr_iload_n dX9_gateValue_127 rfl ?_
          refine zr_iload_n dX9_gateValue_128 rfl ?_
          refine zr_icmp_ne 136 dX9_gateValue_129 (by decide) (fun hp129 => ?_) (fun h => absurd ((nI_eq (by omega) (by omega)).mp h) x3)
          refine zr_iconst (v := 1) dX9_gateValue_136 kc_iconst_1 ?_
          exact zr_iret dX9_gateValue_137 rfl (⟨rfl, rfl⟩)
  · refine zr_tin (off := 85) 138 dX9_gateValue_53 (by decide) (by decide) (by decide) (by decide) ?_
    refine zr_iload_n dX9_gateValue_138 rfl ?_
    refine zt_callSi (As := [_]) (cm_not L σ a ha) zc_X9_147 rfl dX9_gateValue_139 rfl rfl rfl ?_
    exact zr_iret dX9_gateValue_142 rfl (⟨rfl, rfl⟩)
  · refine zr_tin (off := 90) 143 dX9_gateValue_53 (by decide) (by decide) (by decide) (by decide) ?_
    refine zr_iload_n dX9_gateValue_143 rfl ?_
    refine zr_iload_n dX9_gateValue_144 rfl ?_
    refine zr_iload dX9_gateValue_145 rfl ?_
    refine zt_callSi (As := [_, _, _]) (cm_pick L σ a b c ha hb hc) zc_X9_150 rfl dX9_gateValue_147 rfl rfl rfl ?_
    exact zr_iret dX9_gateValue_150 rfl (⟨rfl, rfl⟩)
  · refine zr_tin (off := 98) 151 dX9_gateValue_53 (by decide) (by decide) (by decide) (by decide) ?_
    refine zr_iload_n dX9_gateValue_151 rfl ?_
    refine zr_iload_n dX9_gateValue_152 rfl ?_
    refine zt_callSi (As := [_, _]) (cm_and L σ a b ha hb) zc_X9_144 rfl dX9_gateValue_153 rfl rfl rfl ?_
    refine zt_callSi (As := [_]) (cm_not L σ _ q1) zc_X9_147 rfl dX9_gateValue_156 rfl rfl rfl ?_
    exact zr_iret dX9_gateValue_159 rfl (⟨rfl, rfl⟩)
  · refine zr_tout 160 dX9_gateValue_53 (by decide) (by decide) ?_
    refine zr_iload_n dX9_gateValue_160 rfl ?_
    refine zt_callSi (As := [_]) (cm_not L σ a ha) zc_X9_147 rfl dX9_gateValue_161 rfl rfl rfl ?_
    refine zr_iload_n dX9_gateValue_164 rfl ?_
    refine zt_callSi (As := [_]) (cm_not L σ b hb) zc_X9_147 rfl dX9_gateValue_165 rfl rfl rfl ?_
    refine zt_callSi (As := [_, _]) (cm_and L σ _ _ na nb) zc_X9_144 rfl dX9_gateValue_168 rfl rfl rfl ?_
    exact zr_iret dX9_gateValue_171 rfl (⟨rfl, rfl⟩)
theorem cm_work (L : Nat) (σ : gz_Mm) (C m : sp_T) (hC : sp_wf C) (hm : sp_wm m) (rC : rm_C σ C) (rM : rm_m σ C m) :
    gz_Gv 2 yX9_work cX9_work 2 none L [.ref 57] σ (fun σ' => (∀ k, k ≠ 74 → σ' k = σ k) ∧ ∀ j, j < C 9 0 → σ' 74 j = nI (sp_val C m j)) := by
  have h80 := hC.1.1
  refine gz_Gv.of rfl rfl (fun Q hQ => ?_)
  refine zr_iconst (v := 0) dX9_work_0 kc_iconst_0 ?_
  refine zr_istore_n dX9_work_1 (by decide) rfl ?_
  refine zl_up (τ := gz_Mm) (C 9 0) (fun i t => (∀ k, k ≠ 74 → t k = σ k) ∧ ∀ j, j < i → t 74 j = nI (sp_val C m j)) (fun i t => gz_R 2 yX9_work cX9_work 2 none 0 0 2 [some (.ref 57), some (.int (nI i))] [] (gz_mk L t) Q) ?_ ?_ 0 σ (Nat.zero_le _) ⟨fun _ _ => rfl, fun j h => absurd h (Nat.not_lt_zero j)⟩
  · rintro σ1 hI
    refine zr_iload_n dX9_work_2 rfl ?_
    refine zr_aload_n dX9_work_3 rfl ?_
    refine zt_geti zg_X9_99 dX9_work_4 rfl rfl rfl ?_
    refine zr_top ((congrFun (hI.1 57 (by decide)) 3).trans rC.1.1) ?_
    refine zr_icmp_ge 101 dX9_work_7 (by decide) (fun hp7 => ?_) (fun h => absurd (Int32.le_refl _) h)
    exact zr_vret dX9_work_101 rfl (hQ _ hI)
  · rintro i σ1 hi ⟨hf, hv⟩ ih
    have i80 : i < 80 := by omega
    obtain ⟨k1, k2, k3⟩ := rC.2.1 i hi
    have hval := sp_val_eq (m := m) hC hi
    unfold sp_one at hval
    have fin : ∀ x : Int32, x = nI (sp_val C m i) → ∀ y : Int32, gz_R 2 yX9_work cX9_work 2 none 0 0 94 [some (.ref 57), some (.int (nI i))] [.int x, .int (nI i), .ref 74] (gz_mk L (gz_wr σ1 74 i y)) Q := by
      intro x hx y
      refine zt_istN dX9_work_94 rfl rfl rfl (i80) ?_
      refine zr_iinc dX9_work_95 rfl (kc_inc (i)) rfl ?_
      refine zr_goto 2 dX9_work_98 (by decide) ?_
      refine ih _ ⟨fun k hk => (gz_wr_ne hk).trans ((gz_wr_ne hk).trans (hf k hk)), fun j hj => ?_⟩
      rw [gz_wr_eq]
      by_cases e : j = i
      · simp [upd, e, hx]
      · rw [pk_un e, gz_wr_eq, pk_un e]
        exact hv j (by omega)
    have tail : ∀ y : Int32, (¬ i + 1 = m 2 0 → y = nI (sp_val C m i)) → gz_R 2 yX9_work cX9_work 2 none 0 0 67 [some (.ref 57), some (.int (nI i))] [.int y, .int (nI i), .ref 74] (gz_mk L σ1) Q := by
      intro y hy
      by_cases hs : i + 1 = m 2 0
      · rw [if_pos hs] at hval
        refine zt_istN dX9_work_67 rfl rfl rfl (i80) ?_
        refine zr_aload_n dX9_work_68 rfl ?_
        refine zt_getr zg_X9_66 dX9_work_69 rfl rfl rfl ?_
        refine zr_iload_n dX9_work_72 rfl ?_
        refine zr_iload_n dX9_work_73 rfl ?_
        refine zr_aload_n dX9_work_74 rfl ?_
        refine zt_geti zg_X9_59 dX9_work_75 rfl rfl rfl ?_
        refine zr_top ((congrFun ((gz_wr_ne (by decide)).trans (hf 57 (by decide))) 21).trans rM.2.2.1) ?_
        refine zr_icmp_ne 88 dX9_work_78 (by decide) (fun h => absurd ((nI_m1 i _ (by omega) (by have := hm.2.2.1; omega)).mpr hs) h) (fun hp78 => ?_)
        refine zr_aload_n dX9_work_81 rfl ?_
        refine zt_geti zg_X9_157 dX9_work_82 rfl rfl rfl ?_
        refine zr_top ((congrFun ((gz_wr_ne (by decide)).trans (hf 57 (by decide))) 22).trans (rM.2.2.2.1 (by omega))) ?_
        refine zr_goto 94 dX9_work_85 (by decide) ?_
        exact fin _ (by rw [hval]) y
      · refine zt_istN dX9_work_67 rfl rfl rfl (i80) ?_
        refine zr_aload_n dX9_work_68 rfl ?_
        refine zt_getr zg_X9_66 dX9_work_69 rfl rfl rfl ?_
        refine zr_iload_n dX9_work_72 rfl ?_
        refine zr_iload_n dX9_work_73 rfl ?_
        refine zr_aload_n dX9_work_74 rfl ?_
        refine zt_geti zg_X9_59 dX9_work_75 rfl rfl rfl ?_
        refine zr_top ((congrFun ((gz_wr_ne (by decide)).trans (hf 57 (by decide))) 21).trans rM.2.2.1) ?_
        refine zr_icmp_ne 88 dX9_work_78 (by decide) (fun hp78 => ?_) (fun h => absurd ((nI_m1 i _ (by omega) (by have := hm.2.2.1; omega)).mp h) hs)
        refine zr_aload_n dX9_work_88 rfl ?_
        refine zt_getr zg_X9_66 dX9_work_89 rfl rfl rfl ?_
        refine zr_iload_n dX9_work_92 rfl ?_
        refine zt_ildN dX9_work_93 rfl rfl (i80) ((by rw [gz_wr_eq]; simp [upd]; exact hy hs : _ = nI (sp_val C m i))) ?_
        exact fin _ rfl y
    rcases hC.2.1 i hi with ⟨g1, g2⟩ | ⟨g1, g2⟩ | ⟨g1, g2, g3, g4, g5⟩
    · have h8 : C 1 i < 8 := by have := hC.1.2.1; omega
      refine zr_iload_n dX9_work_2 rfl ?_
      refine zr_aload_n dX9_work_3 rfl ?_
      refine zt_geti zg_X9_99 dX9_work_4 rfl rfl rfl ?_
      refine zr_top ((congrFun (hf 57 (by decide)) 3).trans rC.1.1) ?_
      refine zr_icmp_ge 101 dX9_work_7 (by decide) (fun h => absurd h (nI_ge hi (by omega))) (fun hp7 => ?_)
      refine zr_aload_n dX9_work_10 rfl ?_
      refine zt_getr zg_X9_66 dX9_work_11 rfl rfl rfl ?_
      refine zr_iload_n dX9_work_14 rfl ?_
      refine zr_aload_n dX9_work_15 rfl ?_
      refine zt_getr zg_X9_7 dX9_work_16 rfl rfl rfl ?_
      refine zr_iload_n dX9_work_19 rfl ?_
      refine zt_ildN dX9_work_20 rfl rfl (i80) ((congrFun (hf 58 (by decide)) i).trans k1) ?_
      refine zr_if_ne 38 dX9_work_21 (by decide) (fun h => absurd (by rw [g1]; rfl) h) (fun hp21 => ?_)
      refine zr_aload_n dX9_work_24 rfl ?_
      refine zt_getr zg_X9_53 dX9_work_25 rfl rfl rfl ?_
      refine zr_aload_n dX9_work_28 rfl ?_
      refine zt_getr zg_X9_13 dX9_work_29 rfl rfl rfl ?_
      refine zr_iload_n dX9_work_32 rfl ?_
      refine zt_ildN dX9_work_33 rfl rfl (i80) ((congrFun (hf 59 (by decide)) i).trans k2) ?_
      refine zt_ildN dX9_work_34 rfl rfl (h8) ((congrFun (hf 72 (by decide)) _).trans (rM.1 _ h8)) ?_
      refine zr_goto 67 dX9_work_35 (by decide) ?_
      exact tail _ (fun hs => by rw [hval, if_neg hs, if_pos g1])
    · have h20 : C 1 i < 20 := by have := hC.1.2.2.1; omega
      refine zr_iload_n dX9_work_2 rfl ?_
      refine zr_aload_n dX9_work_3 rfl ?_
      refine zt_geti zg_X9_99 dX9_work_4 rfl rfl rfl ?_
      refine zr_top ((congrFun (hf 57 (by decide)) 3).trans rC.1.1) ?_
      refine zr_icmp_ge 101 dX9_work_7 (by decide) (fun h => absurd h (nI_ge hi (by omega))) (fun hp7 => ?_)
      refine zr_aload_n dX9_work_10 rfl ?_
      refine zt_getr zg_X9_66 dX9_work_11 rfl rfl rfl ?_
      refine zr_iload_n dX9_work_14 rfl ?_
      refine zr_aload_n dX9_work_15 rfl ?_
      refine zt_getr zg_X9_7 dX9_work_16 rfl rfl rfl ?_
      refine zr_iload_n dX9_work_19 rfl ?_
      refine zt_ildN dX9_work_20 rfl rfl (i80) ((congrFun (hf 58 (by decide)) i).trans k1) ?_
      refine zr_if_ne 38 dX9_work_21 (by decide) (fun hp21 => ?_) (fun h => absurd ((nI_eq (b := 0) (by omega) (by omega)).mp h) (by omega))
      refine zr_aload_n dX9_work_38 rfl ?_
      refine zt_getr zg_X9_7 dX9_work_39 rfl rfl rfl ?_
      refine zr_iload_n dX9_work_42 rfl ?_
      refine zt_ildN dX9_work_43 rfl rfl (i80) ((congrFun (hf 58 (by decide)) i).trans k1) ?_
      refine zr_iconst (v := 2) dX9_work_44 kc_iconst_2 ?_
      refine zr_icmp_ne 62 dX9_work_45 (by decide) (fun h => absurd (by rw [g1]; rfl) h) (fun hp45 => ?_)
      refine zr_aload_n dX9_work_48 rfl ?_
      refine zt_getr zg_X9_56 dX9_work_49 rfl rfl rfl ?_
      refine zr_aload_n dX9_work_52 rfl ?_
      refine zt_getr zg_X9_13 dX9_work_53 rfl rfl rfl ?_
      refine zr_iload_n dX9_work_56 rfl ?_
      refine zt_ildN dX9_work_57 rfl rfl (i80) ((congrFun (hf 59 (by decide)) i).trans k2) ?_
      refine zt_ildN dX9_work_58 rfl rfl (h20) ((congrFun (hf 73 (by decide)) _).trans (rM.2.1 _ g2)) ?_
      refine zr_goto 67 dX9_work_59 (by decide) ?_
      exact tail _ (fun hs => by rw [hval, if_neg hs, if_neg (by omega), if_pos g1])
    · obtain ⟨q1, q2, q3⟩ := k3 g1
      have hle := sp_val_le (C := C) hm
      refine zr_iload_n dX9_work_2 rfl ?_
      refine zr_aload_n dX9_work_3 rfl ?_
      refine zt_geti zg_X9_99 dX9_work_4 rfl rfl rfl ?_
      refine zr_top ((congrFun (hf 57 (by decide)) 3).trans rC.1.1) ?_
      refine zr_icmp_ge 101 dX9_work_7 (by decide) (fun h => absurd h (nI_ge hi (by omega))) (fun hp7 => ?_)
      refine zr_aload_n dX9_work_10 rfl ?_
      refine zt_getr zg_X9_66 dX9_work_11 rfl rfl rfl ?_
      refine zr_iload_n dX9_work_14 rfl ?_
      refine zr_aload_n dX9_work_15 rfl ?_
      refine zt_getr zg_X9_7 dX9_work_16 rfl rfl rfl ?_
      refine zr_iload_n dX9_work_19 rfl ?_
      refine zt_ildN dX9_work_20 rfl rfl (i80) ((congrFun (hf 58 (by decide)) i).trans k1) ?_
      refine zr_if_ne 38 dX9_work_21 (by decide) (fun hp21 => ?_) (fun h => absurd ((nI_eq (b := 0) (by omega) (by omega)).mp h) (by omega))
      refine zr_aload_n dX9_work_38 rfl ?_
      refine zt_getr zg_X9_7 dX9_work_39 rfl rfl rfl ?_
      refine zr_iload_n dX9_work_42 rfl ?_
      refine zt_ildN dX9_work_43 rfl rfl (i80) ((congrFun (hf 58 (by decide)) i).trans k1) ?_
      refine zr_iconst (v := 2) dX9_work_44 kc_iconst_2 ?_
      refine zr_icmp_ne 62 dX9_work_45 (by decide) (fun hp45 => ?_) (fun h => absurd ((nI_eq (b := 2) (by omega) (by omega)).mp h) (by omega))
      refine zr_aload_n dX9_work_62 rfl ?_
      refine zr_iload_n dX9_work_63 rfl ?_
      refine zt_callVi (As := [_]) (cm_gateValue L σ1 i (C 1 i) (C 2 i) (C 3 i) (C 4 i) (sp_val C m (C 2 i)) (sp_val C m (C 3 i)) (sp_val C m (C 4 i)) i80 g2 (by omega) (by omega) (by omega) ((congrFun (hf 59 (by decide)) i).trans k2) ((congrFun (hf 60 (by decide)) _).trans q1) ((congrFun (hf 60 (by decide)) _).trans q2) ((congrFun (hf 60 (by decide)) _).trans q3) (hv _ g3) (hv _ g4) (hv _ g5) (Nat.lt_succ_of_le (hle _)) (Nat.lt_succ_of_le (hle _)) (Nat.lt_succ_of_le (hle _))) zc_X9_154 rfl dX9_work_64 rfl rfl rfl rfl rfl rfl ?_
      exact tail _ (fun hs => by rw [hval, if_neg hs, if_neg (by omega), if_neg (by omega)])
theorem cm_clocked (L : Nat) (σ : gz_Mm) (C m : sp_T) (hC : sp_wf C) (hm : sp_wm m) (rC : rm_C σ C) (rM : rm_m σ C m) (b : Nat) (hb : b < 8) :
    gz_Gi 3 yX9_clocked cX9_clocked 4 (some .int) L [.ref 57, .int (nI b)] σ (fun v σ' => v = nI (sp_cnt C b (C 9 2)) ∧ (∀ k, k ≠ 73 → k ≠ 74 → σ' k = σ k) ∧ rm_m σ' C (sp_clk C m b)) := by
  have h80 := hC.1.1
  have h20 := hC.1.2.2.1
  refine gz_Gi.of rfl rfl (fun Q hQ => ?_)
  refine zr_iconst (v := 0) dX9_clocked_0 kc_iconst_0 ?_
  refine zr_istore_n dX9_clocked_1 (by decide) rfl ?_
  refine zr_aload_n dX9_clocked_2 rfl ?_
  refine zt_cVv (As := []) (cm_work L σ C m hC hm rC rM) zc_X9_160 rfl dX9_clocked_3 rfl rfl rfl rfl rfl rfl (fun σs hs => ?_)
  refine zr_iconst (v := 0) dX9_clocked_6 kc_iconst_0 ?_
  refine zr_istore_n dX9_clocked_7 (by decide) rfl ?_
  obtain ⟨hsf, hsv⟩ := hs
  refine zl_up (τ := gz_Mm) (C 9 2) (fun i t => (∀ k, k ≠ 73 → t k = σs k) ∧ ∀ j, j < C 9 2 → t 73 j = nI (if j < i ∧ b / 2 ^ (C 6 j) % 2 = 1 then sp_val C m (C 7 j) else m 1 j)) (fun i t => gz_R 3 yX9_clocked cX9_clocked 4 (some .int) 0 0 8 [some (.ref 57), some (.int (nI b)), some (.int (nI (sp_cnt C b i))), some (.int (nI i))] [] (gz_mk L t) Q) ?_ ?_ 0 σs (Nat.zero_le _) ⟨fun _ _ => rfl, fun j h => ?_⟩
  · rintro σ1 ⟨hf, hv⟩
    have f57 : σ1 57 = σ 57 := (hf 57 (by decide)).trans (hsf 57 (by decide))
    refine zr_iload_n dX9_clocked_8 rfl ?_
    refine zr_aload_n dX9_clocked_9 rfl ?_
    refine zt_geti zg_X9_106 dX9_clocked_10 rfl rfl rfl ?_
    refine zr_top ((congrFun f57 11).trans rC.1.2.2.1) ?_
    refine zr_icmp_ge 56 dX9_clocked_13 (by decide) (fun hp13 => ?_) (fun h => absurd (Int32.le_refl _) h)
    refine zr_iload_n dX9_clocked_56 rfl ?_
    refine zr_iret dX9_clocked_57 rfl (hQ _ _ ⟨rfl, fun k h1 h2 => (hf k h1).trans (hsf k h2), ?_⟩)
    obtain ⟨a1, a2, a3, a4, a5⟩ := rM
    unfold rm_m
    rw [f57, hf 72 (by decide), hsf 72 (by decide)]
    refine ⟨fun i hi => by simpa [sp_clk] using a1 i hi, fun c hc => ?_, by simpa [sp_clk] using a3, by simpa [sp_clk] using a4, by simpa [sp_clk] using a5⟩
    rw [hv c hc]
    simp [sp_clk]
  · rintro i σ1 hi ⟨hf, hv⟩ ih
    have hc := hC.2.2.1 i hi
    have rc := rC.2.2.1 i hi
    have i20 : i < 20 := by omega
    have hcl := sp_cnt_le C b i
    have f57 : σ1 57 = σ 57 := (hf 57 (by decide)).trans (hsf 57 (by decide))
    have hmod : b / 2 ^ (C 6 i) % 2 < 2 := Nat.mod_lt _ (by decide)
    refine zr_iload_n dX9_clocked_8 rfl ?_
    refine zr_aload_n dX9_clocked_9 rfl ?_
    refine zt_geti zg_X9_106 dX9_clocked_10 rfl rfl rfl ?_
    refine zr_top ((congrFun f57 11).trans rC.1.2.2.1) ?_
    refine zr_icmp_ge 56 dX9_clocked_13 (by decide) (fun h => absurd h (nI_ge hi (by omega))) (fun hp13 => ?_)
    refine zr_iload_n dX9_clocked_16 rfl ?_
    refine zr_aload_n dX9_clocked_17 rfl ?_
    refine zt_getr zg_X9_25 dX9_clocked_18 rfl rfl rfl ?_
    refine zr_iload_n dX9_clocked_21 rfl ?_
    refine zt_ildN dX9_clocked_22 rfl rfl (i20) ((congrFun (hf 63 (by decide)) i).trans ((congrFun (hsf 63 (by decide)) i).trans rc.2.1)) ?_
    refine zr_ishr dX9_clocked_23 ?_
    refine zr_iconst (v := 1) dX9_clocked_24 kc_iconst_1 ?_
    refine zr_iand dX9_clocked_25 ?_
    refine zr_top (bt_clk b hb (C 6 i) (by omega)) ?_
    refine zr_iconst (v := 1) dX9_clocked_26 kc_iconst_1 ?_
    by_cases hbit : b / 2 ^ (C 6 i) % 2 = 1
    · have ec : sp_cnt C b (i + 1) = sp_cnt C b i + 1 := by simp [sp_cnt, hbit]
      refine zr_icmp_ne 50 dX9_clocked_27 (by decide) (fun h => absurd (by rw [hbit]; rfl) h) (fun hp27 => ?_)
      refine zr_aload_n dX9_clocked_30 rfl ?_
      refine zt_getr zg_X9_56 dX9_clocked_31 rfl rfl rfl ?_
      refine zr_iload_n dX9_clocked_34 rfl ?_
      refine zr_aload_n dX9_clocked_35 rfl ?_
      refine zt_getr zg_X9_66 dX9_clocked_36 rfl rfl rfl ?_
      refine zr_aload_n dX9_clocked_39 rfl ?_
      refine zt_getr zg_X9_28 dX9_clocked_40 rfl rfl rfl ?_
      refine zr_iload_n dX9_clocked_43 rfl ?_
      refine zt_ildN dX9_clocked_44 rfl rfl (i20) ((congrFun (hf 64 (by decide)) i).trans ((congrFun (hsf 64 (by decide)) i).trans rc.2.2)) ?_
      refine zt_ildN dX9_clocked_45 rfl rfl (by omega) ((congrFun (hf 74 (by decide)) _).trans (hsv _ hc.2.2.1)) ?_
      refine zt_istN dX9_clocked_46 rfl rfl rfl (i20) ?_
      refine zr_iinc dX9_clocked_47 rfl (kc_inc (sp_cnt C b i)) rfl ?_
      refine zr_iinc dX9_clocked_50 rfl (kc_inc (i)) rfl ?_
      refine zr_goto 8 dX9_clocked_53 (by decide) ?_
      rw [← ec]
      refine ih _ ⟨fun k hk => (gz_wr_ne hk).trans (hf k hk), fun j hj => ?_⟩
      rw [gz_wr_eq]
      by_cases e : j = i
      · subst e
        simp [upd, hbit]
      · rw [pk_un e, hv j hj]
        simp [show j < i + 1 ↔ j < i by omega]
    · have ec : sp_cnt C b (i + 1) = sp_cnt C b i := by simp [sp_cnt, hbit]
      refine zr_icmp_ne 50 dX9_clocked_27 (by decide) (fun hp27 => ?_) (fun h => absurd ((nI_eq (b := 1) (by omega) (by omega)).mp h) hbit)
      refine zr_iinc dX9_clocked_50 rfl (kc_inc (i)) rfl ?_
      refine zr_goto 8 dX9_clocked_53 (by decide) ?_
      rw [← ec]
      refine ih σ1 ⟨hf, fun j hj => ?_⟩
      rw [hv j hj]
      by_cases e : j = i
      · subst e
        simp [hbit]
      · simp [show j < i + 1 ↔ j < i by omega]
  · rw [hsf 73 (by decide)]
    simp only [Nat.not_lt_zero, false_and, if_false]
    exact rM.2.1 j h
