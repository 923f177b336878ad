/-! ===== Controller ===== -/
theorem tb_clk : ∀ o, o < 8 → ([7, 7, 7, 7, 0, 1, 0, 0] : List Int32).getD o 0 = nI (if o < 4 then 7 else if o = 5 then 1 else 0) := by decide
theorem tb_n0 : ∀ s, s < 16 → ([1, 1, 3, 4, 4, 6, 6, 4, 1, 10, 11, 11, 13, 13, 11, 1] : List Int32).getD s 0 = nI (sp_nx s 0) := by decide
theorem tb_n1 : ∀ s, s < 16 → ([0, 2, 9, 5, 5, 8, 7, 8, 2, 0, 12, 12, 15, 14, 15, 2] : List Int32).getD s 0 = nI (sp_nx s 1) := by decide
theorem bt_row : ∀ r, r < 8 → ∀ x, x < 2 → ((nI r >>> ((1 : Int32) &&& 31)) ||| (nI x <<< ((2 : Int32) &&& 31))) = nI (r / 2 + 4 * x) := by decide
theorem bt_and1 {n : Nat} (h : n < 2 ^ 32) : nI n &&& 1 = nI (n % 2) := pk_andN (m := 1) h 1 rfl
theorem bt_or (a x : Nat) (ha : a < 32768) (hx : x < 2) : nI a ||| nI (32768 * x) = nI (a + 32768 * x) := by
  apply Int32.toBitVec_inj.mp
  apply BitVec.eq_of_toNat_eq
  show ((nI a).toBitVec ||| (nI (32768 * x)).toBitVec).toNat = _
  rw [BitVec.toNat_or, pk_tn (by omega), pk_tn (by omega), pk_tn (by omega)]
  rw [Nat.or_comm, show 32768 * x = 2 ^ 15 * x from rfl, ← Nat.two_pow_add_eq_or_of_lt (i := 15) (b := a) (by omega) x]
  omega
theorem bt_tag (r x : Nat) (hr : r < 65536) (hx : x < 2) : ((nI r >>> ((1 : Int32) &&& 31)) ||| (nI x <<< ((15 : Int32) &&& 31))) = nI (r / 2 + 32768 * x) := by
  rw [pk_shrN (by omega) _ 1 rfl, pk_shlN _ 15 rfl (by omega)]
  rw [show x * 2 ^ 15 = 32768 * x by omega, show r / 2 ^ 1 = r / 2 by omega]
  exact bt_or _ _ (by omega) hx
theorem ca_shiftRow_31 (L : Nat) (σ : gz_Mm) (r x : Nat) (hr : r < 8) (hx : x < 2) (h : σ 31 3 = nI r) : gz_F 0 yX3_shiftRow cX3_shiftRow 3 (some .int) L [.ref 31, .int (nI x)] σ (some (.int (nI (r % 2)))) (gz_wr σ 31 3 (nI (r / 2 + 4 * x))) := by
  refine gz_F.of rfl rfl ?_
  refine zr_aload_n dX3_shiftRow_0 rfl ?_
  refine zt_geti zg_X3_41 dX3_shiftRow_1 rfl rfl rfl ?_
  refine zr_top (h) ?_
  refine zr_iconst (v := 1) dX3_shiftRow_4 kc_iconst_1 ?_
  refine zr_iand dX3_shiftRow_5 ?_
  refine zr_top (bt_and1 (by omega)) ?_
  refine zr_istore_n dX3_shiftRow_6 (by decide) rfl ?_
  refine zr_aload_n dX3_shiftRow_7 rfl ?_
  refine zr_aload_n dX3_shiftRow_8 rfl ?_
  refine zt_geti zg_X3_41 dX3_shiftRow_9 rfl rfl rfl ?_
  refine zr_top (h) ?_
  refine zr_iconst (v := 1) dX3_shiftRow_12 kc_iconst_1 ?_
  refine zr_ishr dX3_shiftRow_13 ?_
  refine zr_iload_n dX3_shiftRow_14 rfl ?_
  refine zr_iconst (v := 2) dX3_shiftRow_15 kc_iconst_2 ?_
  refine zr_ishl dX3_shiftRow_16 ?_
  refine zr_ior dX3_shiftRow_17 ?_
  refine zr_top (bt_row r hr x hx) ?_
  refine zt_put zp_X3_41 dX3_shiftRow_18 rfl rfl rfl rfl ?_
  refine zr_iload_n dX3_shiftRow_21 rfl ?_
  exact zr_iret dX3_shiftRow_22 rfl (⟨rfl, rfl⟩)
theorem ca_shiftTag_31 (L : Nat) (σ : gz_Mm) (r x : Nat) (hr : r < 65536) (hx : x < 2) (h : σ 31 6 = nI r) : gz_F 0 yX3_shiftTagRow cX3_shiftTagRow 3 (some .int) L [.ref 31, .int (nI x)] σ (some (.int (nI (r % 2)))) (gz_wr σ 31 6 (nI (r / 2 + 32768 * x))) := by
  refine gz_F.of rfl rfl ?_
  refine zr_aload_n dX3_shiftTagRow_0 rfl ?_
  refine zt_geti zg_X3_59 dX3_shiftTagRow_1 rfl rfl rfl ?_
  refine zr_top (h) ?_
  refine zr_iconst (v := 1) dX3_shiftTagRow_4 kc_iconst_1 ?_
  refine zr_iand dX3_shiftTagRow_5 ?_
  refine zr_top (bt_and1 (by omega)) ?_
  refine zr_istore_n dX3_shiftTagRow_6 (by decide) rfl ?_
  refine zr_aload_n dX3_shiftTagRow_7 rfl ?_
  refine zr_aload_n dX3_shiftTagRow_8 rfl ?_
  refine zt_geti zg_X3_59 dX3_shiftTagRow_9 rfl rfl rfl ?_
  refine zr_top (h) ?_
  refine zr_iconst (v := 1) dX3_shiftTagRow_12 kc_iconst_1 ?_
  refine zr_ishr dX3_shiftTagRow_13 ?_
  refine zr_iload_n dX3_shiftTagRow_14 rfl ?_
  refine zr_bipush (v := 15) dX3_shiftTagRow_15 kc_bipush_15 ?_
  refine zr_ishl dX3_shiftTagRow_17 ?_
  refine zr_ior dX3_shiftTagRow_18 ?_
  refine zr_top (bt_tag r x hr hx) ?_
  refine zt_put zp_X3_59 dX3_shiftTagRow_19 rfl rfl rfl rfl ?_
  refine zr_iload_n dX3_shiftTagRow_22 rfl ?_
  exact zr_iret dX3_shiftTagRow_23 rfl (⟨rfl, rfl⟩)
theorem ca_swap_31 (L : Nat) (σ : gz_Mm) (x : Int32) : gz_F 0 yX3_swapAside cX3_swapAside 3 (some .int) L [.ref 31, .int x] σ (some (.int (σ 31 4))) (gz_wr σ 31 4 x) := by
  refine gz_F.of rfl rfl ?_
  refine zr_aload_n dX3_swapAside_0 rfl ?_
  refine zt_geti zg_X3_62 dX3_swapAside_1 rfl rfl rfl ?_
  refine zr_istore_n dX3_swapAside_4 (by decide) rfl ?_
  refine zr_aload_n dX3_swapAside_5 rfl ?_
  refine zr_iload_n dX3_swapAside_6 rfl ?_
  refine zt_put zp_X3_62 dX3_swapAside_7 rfl rfl rfl rfl ?_
  refine zr_iload_n dX3_swapAside_10 rfl ?_
  exact zr_iret dX3_swapAside_11 rfl (⟨rfl, rfl⟩)
theorem ca_refill_31 (L : Nat) (σ : gz_Mm) (o : Nat) (ho : o < 8) (h : σ 31 2 = nI o) : gz_F 0 yX3_refillRows cX3_refillRows 1 none L [.ref 31] σ none (if o = 4 then gz_wr σ 31 6 (σ 31 5) else if 5 < o then gz_wr σ 31 4 0 else σ) := by
  refine gz_F.of rfl rfl ?_
  refine zr_aload_n dX3_refillRows_0 rfl ?_
  refine zt_geti zg_X3_15 dX3_refillRows_1 rfl rfl rfl ?_
  refine zr_top (h) ?_
  refine zr_iconst (v := 4) dX3_refillRows_4 kc_iconst_4 ?_
  refine zr_icmp_ne 19 dX3_refillRows_5 (by decide) (fun h1 => ?_) (fun h1 => ?_)
  · have h1' : ¬ o = 4 := fun q => h1 (by rw [q]; rfl)
    refine zr_aload_n dX3_refillRows_19 rfl ?_
    refine zt_geti zg_X3_15 dX3_refillRows_20 rfl rfl rfl ?_
    refine zr_top (h) ?_
    refine zr_iconst (v := 5) dX3_refillRows_23 kc_iconst_5 ?_
    refine zr_icmp_le 32 dX3_refillRows_24 (by decide) (fun h2 => ?_) (fun h2 => ?_)
    · have h2' : ¬ 5 < o := fun q => by
        have := (nI_leI (b := 5) (by omega) (by omega)).mp h2
        omega
      rw [if_neg h1', if_neg h2']
      exact zr_vret dX3_refillRows_32 rfl (⟨rfl, rfl⟩)
    · have h2' : 5 < o := by
        rcases Nat.lt_or_ge 5 o with q | q
        · exact q
        · exact absurd (nI_le q (by omega)) h2
      rw [if_neg h1', if_pos h2']
      refine zr_aload_n dX3_refillRows_27 rfl ?_
      refine zr_iconst (v := 0) dX3_refillRows_28 kc_iconst_0 ?_
      refine zt_put zp_X3_62 dX3_refillRows_29 rfl rfl rfl rfl ?_
      exact zr_vret dX3_refillRows_32 rfl (⟨rfl, rfl⟩)
  · have h1' : o = 4 := (nI_eq (b := 4) (by omega) (by omega)).mp h1
    rw [if_pos h1']
    refine zr_aload_n dX3_refillRows_8 rfl ?_
    refine zr_aload_n dX3_refillRows_9 rfl ?_
    refine zt_geti zg_X3_56 dX3_refillRows_10 rfl rfl rfl ?_
    refine zt_put zp_X3_59 dX3_refillRows_13 rfl rfl rfl rfl ?_
    refine zr_goto 32 dX3_refillRows_16 (by decide) ?_
    exact zr_vret dX3_refillRows_32 rfl (⟨rfl, rfl⟩)
theorem ca_shiftRow_42 (L : Nat) (σ : gz_Mm) (r x : Nat) (hr : r < 8) (hx : x < 2) (h : σ 42 3 = nI r) : gz_F 0 yX3_shiftRow cX3_shiftRow 3 (some .int) L [.ref 42, .int (nI x)] σ (some (.int (nI (r % 2)))) (gz_wr σ 42 3 (nI (r / 2 + 4 * x))) := by
  refine gz_F.of rfl rfl ?_
  refine zr_aload_n dX3_shiftRow_0 rfl ?_
  refine zt_geti zg_X3_41 dX3_shiftRow_1 rfl rfl rfl ?_
  refine zr_top (h) ?_
  refine zr_iconst (v := 1) dX3_shiftRow_4 kc_iconst_1 ?_
  refine zr_iand dX3_shiftRow_5 ?_
  refine zr_top (bt_and1 (by omega)) ?_
  refine zr_istore_n dX3_shiftRow_6 (by decide) rfl ?_
  refine zr_aload_n dX3_shiftRow_7 rfl ?_
  refine zr_aload_n dX3_shiftRow_8 rfl ?_
  refine zt_geti zg_X3_41 dX3_shiftRow_9 rfl rfl rfl ?_
  refine zr_top (h) ?_
  refine zr_iconst (v := 1) dX3_shiftRow_12 kc_iconst_1 ?_
  refine zr_ishr dX3_shiftRow_13 ?_
  refine zr_iload_n dX3_shiftRow_14 rfl ?_
  refine zr_iconst (v := 2) dX3_shiftRow_15 kc_iconst_2 ?_
  refine zr_ishl dX3_shiftRow_16 ?_
  refine zr_ior dX3_shiftRow_17 ?_
  refine zr_top (bt_row r hr x hx) ?_
  refine zt_put zp_X3_41 dX3_shiftRow_18 rfl rfl rfl rfl ?_
  refine zr_iload_n dX3_shiftRow_21 rfl ?_
  exact zr_iret dX3_shiftRow_22 rfl (⟨rfl, rfl⟩)
theorem ca_shiftTag_42 (L : Nat) (σ : gz_Mm) (r x : Nat) (hr : r < 65536) (hx : x < 2) (h : σ 42 6 = nI r) : gz_F 0 yX3_shiftTagRow cX3_shiftTagRow 3 (some .int) L [.ref 42, .int (nI x)] σ (some (.int (nI (r % 2)))) (gz_wr σ 42 6 (nI (r / 2 + 32768 * x))) := by
  refine gz_F.of rfl rfl ?_
  refine zr_aload_n dX3_shiftTagRow_0 rfl ?_
  refine zt_geti zg_X3_59 dX3_shiftTagRow_1 rfl rfl rfl ?_
  refine zr_top (h) ?_
  refine zr_iconst (v := 1) dX3_shiftTagRow_4 kc_iconst_1 ?_
  refine zr_iand dX3_shiftTagRow_5 ?_
  refine zr_top (bt_and1 (by omega)) ?_
  refine zr_istore_n dX3_shiftTagRow_6 (by decide) rfl ?_
  refine zr_aload_n dX3_shiftTagRow_7 rfl ?_
  refine zr_aload_n dX3_shiftTagRow_8 rfl ?_
  refine zt_geti zg_X3_59 dX3_shiftTagRow_9 rfl rfl rfl ?_
  refine zr_top (h) ?_
  refine zr_iconst (v := 1) dX3_shiftTagRow_12 kc_iconst_1 ?_
  refine zr_ishr dX3_shiftTagRow_13 ?_
  refine zr_iload_n dX3_shiftTagRow_14 rfl ?_
  refine zr_bipush (v := 15) dX3_shiftTagRow_15 kc_bipush_15 ?_
  refine zr_ishl dX3_shiftTagRow_17 ?_
  refine zr_ior dX3_shiftTagRow_18 ?_
  refine zr_top (bt_tag r x hr hx) ?_
  refine zt_put zp_X3_59 dX3_shiftTagRow_19 rfl rfl rfl rfl ?_
  refine zr_iload_n dX3_shiftTagRow_22 rfl ?_
  exact zr_iret dX3_shiftTagRow_23 rfl (⟨rfl, rfl⟩)
theorem ca_swap_42 (L : Nat) (σ : gz_Mm) (x : Int32) : gz_F 0 yX3_swapAside cX3_swapAside 3 (some .int) L [.ref 42, .int x] σ (some (.int (σ 42 4))) (gz_wr σ 42 4 x) := by
  refine gz_F.of rfl rfl ?_
  refine zr_aload_n dX3_swapAside_0 rfl ?_
  refine zt_geti zg_X3_62 dX3_swapAside_1 rfl rfl rfl ?_
  refine zr_istore_n dX3_swapAside_4 (by decide) rfl ?_
  refine zr_aload_n dX3_swapAside_5 rfl ?_
  refine zr_iload_n dX3_swapAside_6 rfl ?_
  refine zt_put zp_X3_62 dX3_swapAside_7 rfl rfl rfl rfl ?_
  refine zr_iload_n dX3_swapAside_10 rfl ?_
  exact zr_iret dX3_swapAside_11 rfl (⟨rfl, rfl⟩)
theorem ca_refill_42 (L : Nat) (σ : gz_Mm) (o : Nat) (ho : o < 8) (h : σ 42 2 = nI o) : gz_F 0 yX3_refillRows cX3_refillRows 1 none L [.ref 42] σ none (if o = 4 then gz_wr σ 42 6 (σ 42 5) else if 5 < o then gz_wr σ 42 4 0 else σ) := by
  refine gz_F.of rfl rfl ?_
  refine zr_aload_n dX3_refillRows_0 rfl ?_
  refine zt_geti zg_X3_15 dX3_refillRows_1 rfl rfl rfl ?_
  refine zr_top (h) ?_
  refine zr_iconst (v := 4) dX3_refillRows_4 kc_iconst_4 ?_
  refine zr_icmp_ne 19 dX3_refillRows_5 (by decide) (fun h1 => ?_) (fun h1 => ?_)
  · have h1' : ¬ o = 4 := fun q => h1 (by rw [q]; rfl)
    refine zr_aload_n dX3_refillRows_19 rfl ?_
    refine zt_geti zg_X3_15 dX3_refillRows_20 rfl rfl rfl ?_
    refine zr_top (h) ?_
    refine zr_iconst (v := 5) dX3_refillRows_23 kc_iconst_5 ?_
    refine zr_icmp_le 32 dX3_refillRows_24 (by decide) (fun h2 => ?_) (fun h2 => ?_)
    · have h2' : ¬ 5 < o := fun q => by
        have := (nI_leI (b := 5) (by omega) (by omega)).mp h2
        omega
      rw [if_neg h1', if_neg h2']
      exact zr_vret dX3_refillRows_32 rfl (⟨rfl, rfl⟩)
    · have h2' : 5 < o := by
        rcases Nat.lt_or_ge 5 o with q | q
        · exact q
        · exact absurd (nI_le q (by omega)) h2
      rw [if_neg h1', if_pos h2']
      refine zr_aload_n dX3_refillRows_27 rfl ?_
      refine zr_iconst (v := 0) dX3_refillRows_28 kc_iconst_0 ?_
      refine zt_put zp_X3_62 dX3_refillRows_29 rfl rfl rfl rfl ?_
      exact zr_vret dX3_refillRows_32 rfl (⟨rfl, rfl⟩)
  · have h1' : o = 4 := (nI_eq (b := 4) (by omega) (by omega)).mp h1
    rw [if_pos h1']
    refine zr_aload_n dX3_refillRows_8 rfl ?_
    refine zr_aload_n dX3_refillRows_9 rfl ?_
    refine zt_geti zg_X3_56 dX3_refillRows_10 rfl rfl rfl ?_
    refine zt_put zp_X3_59 dX3_refillRows_13 rfl rfl rfl rfl ?_
    refine zr_goto 32 dX3_refillRows_16 (by decide) ?_
    exact zr_vret dX3_refillRows_32 rfl (⟨rfl, rfl⟩)
