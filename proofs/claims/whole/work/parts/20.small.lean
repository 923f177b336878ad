/-! ===== small methods of the class ===== -/
theorem ca_hasLine (L : Nat) (σ : gz_Mm) (x : Int32) : gz_F 0 yX2_hasLine cX2_hasLine 2 (some .boolean) L [.ref 12, .int x] σ (some (.int (if x < 0 then 0 else if σ 12 0 ≤ x then 0 else 1))) σ := by
  refine gz_F.of rfl rfl ?_
  refine zr_iload_n dX2_hasLine_0 rfl ?_
  refine zr_if_lt 16 dX2_hasLine_1 (by decide) (fun h1 => ?_) (fun h1 => ?_)
  · refine zr_iconst (v := 0) dX2_hasLine_16 kc_iconst_0 ?_
    exact zr_zret dX2_hasLine_17 rfl rfl (⟨by simp [*], rfl⟩)
  · refine zr_iload_n dX2_hasLine_4 rfl ?_
    refine zr_aload_n dX2_hasLine_5 rfl ?_
    refine zt_geti zg_X2_43 dX2_hasLine_6 rfl rfl rfl ?_
    refine zr_icmp_ge 16 dX2_hasLine_9 (by decide) (fun h9 => ?_) (fun h9 => ?_)
    · refine zr_iconst (v := 0) dX2_hasLine_16 kc_iconst_0 ?_
      exact zr_zret dX2_hasLine_17 rfl rfl (⟨by simp [*], rfl⟩)
    · refine zr_iconst (v := 1) dX2_hasLine_12 kc_iconst_1 ?_
      refine zr_goto 17 dX2_hasLine_13 (by decide) ?_
      exact zr_zret dX2_hasLine_17 rfl rfl (⟨by simp [*], rfl⟩)
theorem ca_hasCell (L : Nat) (σ : gz_Mm) (x : Int32) : gz_F 0 yX2_hasCell cX2_hasCell 2 (some .boolean) L [.ref 12, .int x] σ (some (.int (if x < 0 then 0 else if σ 12 2 ≤ x then 0 else 1))) σ := by
  refine gz_F.of rfl rfl ?_
  refine zr_iload_n dX2_hasCell_0 rfl ?_
  refine zr_if_lt 16 dX2_hasCell_1 (by decide) (fun h1 => ?_) (fun h1 => ?_)
  · refine zr_iconst (v := 0) dX2_hasCell_16 kc_iconst_0 ?_
    exact zr_zret dX2_hasCell_17 rfl rfl (⟨by simp [*], rfl⟩)
  · refine zr_iload_n dX2_hasCell_4 rfl ?_
    refine zr_aload_n dX2_hasCell_5 rfl ?_
    refine zt_geti zg_X2_47 dX2_hasCell_6 rfl rfl rfl ?_
    refine zr_icmp_ge 16 dX2_hasCell_9 (by decide) (fun h9 => ?_) (fun h9 => ?_)
    · refine zr_iconst (v := 0) dX2_hasCell_16 kc_iconst_0 ?_
      exact zr_zret dX2_hasCell_17 rfl rfl (⟨by simp [*], rfl⟩)
    · refine zr_iconst (v := 1) dX2_hasCell_12 kc_iconst_1 ?_
      refine zr_goto 17 dX2_hasCell_13 (by decide) ?_
      exact zr_zret dX2_hasCell_17 rfl rfl (⟨by simp [*], rfl⟩)
theorem ca_sourcesOf (L : Nat) (σ : gz_Mm) (x : Int32) : gz_F 0 yX2_sourcesOf cX2_sourcesOf 1 (some .int) L [.int x] σ (some (.int (if x < 0 then 0 else if 6 < x then 0 else if x = 3 then 1 else if x = 4 then 3 else 2))) σ := by
  refine gz_F.of rfl rfl ?_
  refine zr_iload_n dX2_sourcesOf_0 rfl ?_
  refine zr_if_lt 10 dX2_sourcesOf_1 (by decide) (fun h1 => ?_) (fun h1 => ?_)
  · refine zr_iconst (v := 0) dX2_sourcesOf_10 kc_iconst_0 ?_
    exact zr_iret dX2_sourcesOf_11 rfl (⟨by simp [*], rfl⟩)
  · refine zr_iload_n dX2_sourcesOf_4 rfl ?_
    refine zr_bipush (v := 6) dX2_sourcesOf_5 kc_bipush_6 ?_
    refine zr_icmp_le 12 dX2_sourcesOf_7 (by decide) (fun h7 => ?_) (fun h7 => ?_)
    · refine zr_iload_n dX2_sourcesOf_12 rfl ?_
      refine zr_iconst (v := 3) dX2_sourcesOf_13 kc_iconst_3 ?_
      refine zr_icmp_ne 19 dX2_sourcesOf_14 (by decide) (fun h14 => ?_) (fun h14 => ?_)
      · refine zr_iload_n dX2_sourcesOf_19 rfl ?_
        refine zr_iconst (v := 4) dX2_sourcesOf_20 kc_iconst_4 ?_
        refine zr_icmp_ne 28 dX2_sourcesOf_21 (by decide) (fun h21 => ?_) (fun h21 => ?_)
        · refine zr_iconst (v := 2) dX2_sourcesOf_28 kc_iconst_2 ?_
          exact zr_iret dX2_sourcesOf_29 rfl (⟨by simp [*], rfl⟩)
        · refine zr_iconst (v := 3) dX2_sourcesOf_24 kc_iconst_3 ?_
          refine zr_goto 29 dX2_sourcesOf_25 (by decide) ?_
          exact zr_iret dX2_sourcesOf_29 rfl (⟨by simp [*], rfl⟩)
      · refine zr_iconst (v := 1) dX2_sourcesOf_17 kc_iconst_1 ?_
        exact zr_iret dX2_sourcesOf_18 rfl (⟨by simp [*], rfl⟩)
    · refine zr_iconst (v := 0) dX2_sourcesOf_10 kc_iconst_0 ?_
      exact zr_iret dX2_sourcesOf_11 rfl (⟨by simp [*], rfl⟩)
