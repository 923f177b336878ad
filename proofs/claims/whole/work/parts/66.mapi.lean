/-! ===== the reference: keep, back, adding lines ===== -/
theorem cm_keepAll (L : Nat) (σ : gz_Mm) : gz_Gv 0 yX9_keep cX9_keep 2 none L [.ref 57] σ (fun σ' => (∀ k, k ≠ 80 → k ≠ 81 → k ≠ 82 → σ' k = σ k) ∧ (∀ i, i < 8 → σ' 80 i = σ 72 i) ∧ (∀ i, i < 20 → σ' 81 i = σ 73 i) ∧ (σ' 82 0 = σ 57 21 ∧ σ' 82 1 = σ 57 22 ∧ σ' 82 2 = σ 57 23 ∧ σ' 82 3 = σ 57 24 ∧ σ' 82 4 = σ 57 25 ∧ σ' 82 5 = σ 57 26 ∧ σ' 82 6 = σ 57 28)) := by
  refine gz_Gv.of rfl rfl (fun Q hQ => ?_)
  refine zr_iconst (v := 0) dX9_keep_0 kc_iconst_0 ?_
  refine zr_istore_n dX9_keep_1 (by decide) rfl ?_
  refine zl_up (τ := gz_Mm) 8 (fun i s => (∀ k, k ≠ 80 → s k = σ k) ∧ ∀ j, j < i → s 80 j = σ 72 j) (fun i s => gz_R 0 yX9_keep cX9_keep 2 none 0 0 2 [some (.ref 57), some (.int (nI i))] [] (gz_mk L s) Q) ?_ ?_ 0 σ (Nat.zero_le _) ⟨fun _ _ => rfl, fun j hj => absurd hj (Nat.not_lt_zero j)⟩
  rotate_left
  · rintro i σ1 hi ⟨hf, hv⟩ ih
    refine zr_iload_n dX9_keep_2 rfl ?_
    refine zr_bipush (v := 8) dX9_keep_3 kc_bipush_8 ?_
    refine zr_icmp_ge 26 dX9_keep_5 (by decide) (fun h => absurd h (nI_ge (b := 8) hi (by omega))) (fun hp5 => ?_)
    refine zr_aload_n dX9_keep_8 rfl ?_
    refine zt_getr zg_X9_84 dX9_keep_9 rfl rfl rfl ?_
    refine zr_iload_n dX9_keep_12 rfl ?_
    refine zr_aload_n dX9_keep_13 rfl ?_
    refine zt_getr zg_X9_53 dX9_keep_14 rfl rfl rfl ?_
    refine zr_iload_n dX9_keep_17 rfl ?_
    refine zt_ildN dX9_keep_18 rfl rfl (by omega) (congrFun (hf 72 (by decide)) i) ?_
    refine zt_istN dX9_keep_19 rfl rfl rfl (by omega) ?_
    refine zr_iinc dX9_keep_20 rfl (kc_inc (i)) rfl ?_
    refine zr_goto 2 dX9_keep_23 (by decide) ?_
    refine ih _ ⟨fun k hk => (gz_wr_ne hk).trans (hf k hk), fun j hj => ?_⟩
    rw [gz_wr_eq]
    by_cases e : j = i
    · rw [e]
      simp [upd]
    · rw [pk_un e]
      exact hv j (by omega)
  rintro σ1 ⟨hf, hv⟩
  refine zr_iload_n dX9_keep_2 rfl ?_
  refine zr_bipush (v := 8) dX9_keep_3 kc_bipush_8 ?_
  refine zr_icmp_ge 26 dX9_keep_5 (by decide) (fun hp5 => ?_) (fun h => absurd (Int32.le_refl _) h)
  refine zr_iconst (v := 0) dX9_keep_26 kc_iconst_0 ?_
  refine zr_istore_n dX9_keep_27 (by decide) rfl ?_
  refine zl_up (τ := gz_Mm) 20 (fun i s => (∀ k, k ≠ 81 → s k = σ1 k) ∧ ∀ j, j < i → s 81 j = σ 73 j) (fun i s => gz_R 0 yX9_keep cX9_keep 2 none 0 0 28 [some (.ref 57), some (.int (nI i))] [] (gz_mk L s) Q) ?_ ?_ 0 σ1 (Nat.zero_le _) ⟨fun _ _ => rfl, fun j hj => absurd hj (Nat.not_lt_zero j)⟩
  rotate_left
  · rintro i σ2 hi ⟨gf, gv⟩ ih
    refine zr_iload_n dX9_keep_28 rfl ?_
    refine zr_bipush (v := 20) dX9_keep_29 kc_bipush_20 ?_
    refine zr_icmp_ge 52 dX9_keep_31 (by decide) (fun h => absurd h (nI_ge (b := 20) hi (by omega))) (fun hp31 => ?_)
    refine zr_aload_n dX9_keep_34 rfl ?_
    refine zt_getr zg_X9_87 dX9_keep_35 rfl rfl rfl ?_
    refine zr_iload_n dX9_keep_38 rfl ?_
    refine zr_aload_n dX9_keep_39 rfl ?_
    refine zt_getr zg_X9_56 dX9_keep_40 rfl rfl rfl ?_
    refine zr_iload_n dX9_keep_43 rfl ?_
    refine zt_ildN dX9_keep_44 rfl rfl (by omega) ((congrFun (gf 73 (by decide)) i).trans (congrFun (hf 73 (by decide)) i)) ?_
    refine zt_istN dX9_keep_45 rfl rfl rfl (by omega) ?_
    refine zr_iinc dX9_keep_46 rfl (kc_inc (i)) rfl ?_
    refine zr_goto 28 dX9_keep_49 (by decide) ?_
    refine ih _ ⟨fun k hk => (gz_wr_ne hk).trans (gf k hk), fun j hj => ?_⟩
    rw [gz_wr_eq]
    by_cases e : j = i
    · rw [e]
      simp [upd]
    · rw [pk_un e]
      exact gv j (by omega)
  rintro σ2 ⟨gf, gv⟩
  have f57 : σ2 57 = σ 57 := (gf 57 (by decide)).trans (hf 57 (by decide))
  refine zr_iload_n dX9_keep_28 rfl ?_
  refine zr_bipush (v := 20) dX9_keep_29 kc_bipush_20 ?_
  refine zr_icmp_ge 52 dX9_keep_31 (by decide) (fun hp31 => ?_) (fun h => absurd (Int32.le_refl _) h)
  refine zr_aload_n dX9_keep_52 rfl ?_
  refine zt_getr zg_X9_90 dX9_keep_53 rfl rfl rfl ?_
  refine zr_iconst (v := 0) dX9_keep_56 kc_iconst_0 ?_
  refine zr_aload_n dX9_keep_57 rfl ?_
  refine zt_geti zg_X9_59 dX9_keep_58 rfl rfl rfl ?_
  refine zt_istN dX9_keep_61 rfl rfl rfl (by decide) ?_
  refine zr_aload_n dX9_keep_62 rfl ?_
  refine zt_getr zg_X9_90 dX9_keep_63 rfl rfl rfl ?_
  refine zr_iconst (v := 1) dX9_keep_66 kc_iconst_1 ?_
  refine zr_aload_n dX9_keep_67 rfl ?_
  refine zt_geti zg_X9_157 dX9_keep_68 rfl rfl rfl ?_
  refine zt_istN dX9_keep_71 rfl rfl rfl (by decide) ?_
  refine zr_aload_n dX9_keep_72 rfl ?_
  refine zt_getr zg_X9_90 dX9_keep_73 rfl rfl rfl ?_
  refine zr_iconst (v := 2) dX9_keep_76 kc_iconst_2 ?_
  refine zr_aload_n dX9_keep_77 rfl ?_
  refine zt_geti zg_X9_201 dX9_keep_78 rfl rfl rfl ?_
  refine zt_istN dX9_keep_81 rfl rfl rfl (by decide) ?_
  refine zr_aload_n dX9_keep_82 rfl ?_
  refine zt_getr zg_X9_90 dX9_keep_83 rfl rfl rfl ?_
  refine zr_iconst (v := 3) dX9_keep_86 kc_iconst_3 ?_
  refine zr_aload_n dX9_keep_87 rfl ?_
  refine zt_geti zg_X9_63 dX9_keep_88 rfl rfl rfl ?_
  refine zt_istN dX9_keep_91 rfl rfl rfl (by decide) ?_
  refine zr_aload_n dX9_keep_92 rfl ?_
  refine zt_getr zg_X9_90 dX9_keep_93 rfl rfl rfl ?_
  refine zr_iconst (v := 4) dX9_keep_96 kc_iconst_4 ?_
  refine zr_aload_n dX9_keep_97 rfl ?_
  refine zt_geti zg_X9_210 dX9_keep_98 rfl rfl rfl ?_
  refine zt_istN dX9_keep_101 rfl rfl rfl (by decide) ?_
  refine zr_aload_n dX9_keep_102 rfl ?_
  refine zt_getr zg_X9_90 dX9_keep_103 rfl rfl rfl ?_
  refine zr_iconst (v := 5) dX9_keep_106 kc_iconst_5 ?_
  refine zr_aload_n dX9_keep_107 rfl ?_
  refine zt_geti zg_X9_198 dX9_keep_108 rfl rfl rfl ?_
  refine zt_istN dX9_keep_111 rfl rfl rfl (by decide) ?_
  refine zr_aload_n dX9_keep_112 rfl ?_
  refine zt_getr zg_X9_90 dX9_keep_113 rfl rfl rfl ?_
  refine zr_bipush (v := 6) dX9_keep_116 kc_bipush_6 ?_
  refine zr_aload_n dX9_keep_118 rfl ?_
  refine zt_geti zg_X9_195 dX9_keep_119 rfl rfl rfl ?_
  refine zt_istN dX9_keep_122 rfl rfl rfl (by decide) ?_
  refine zr_vret dX9_keep_123 rfl (hQ _ ⟨fun k a b c => ?_, fun i hi => ?_, fun i hi => ?_, ?_⟩)
  · rw [gz_wr_ne c, gz_wr_ne c, gz_wr_ne c, gz_wr_ne c, gz_wr_ne c, gz_wr_ne c, gz_wr_ne c, gf k b, hf k a]
  · rw [gz_wr_ne (by decide), gz_wr_ne (by decide), gz_wr_ne (by decide), gz_wr_ne (by decide), gz_wr_ne (by decide), gz_wr_ne (by decide), gz_wr_ne (by decide), gf 80 (by decide)]
    exact hv i hi
  · rw [gz_wr_ne (by decide), gz_wr_ne (by decide), gz_wr_ne (by decide), gz_wr_ne (by decide), gz_wr_ne (by decide), gz_wr_ne (by decide), gz_wr_ne (by decide)]
    exact gv i hi
  · simp [gz_wr, upd, f57]
theorem cm_back (L : Nat) (σ : gz_Mm) : gz_Gv 0 yX9_back cX9_back 2 none L [.ref 57] σ (fun σ' => ((∀ k, k ≠ 57 → k ≠ 72 → k ≠ 73 → σ' k = σ k) ∧ ∀ j, (j < 21 ∨ j = 27 ∨ 28 < j) → σ' 57 j = σ 57 j) ∧ (∀ i, i < 8 → σ' 72 i = σ 80 i) ∧ (∀ i, i < 20 → σ' 73 i = σ 81 i) ∧ (σ' 57 21 = σ 82 0 ∧ σ' 57 22 = σ 82 1 ∧ σ' 57 23 = σ 82 2 ∧ σ' 57 24 = σ 82 3 ∧ σ' 57 25 = σ 82 4 ∧ σ' 57 26 = σ 82 5 ∧ σ' 57 28 = σ 82 6)) := by
  refine gz_Gv.of rfl rfl (fun Q hQ => ?_)
  refine zr_iconst (v := 0) dX9_back_0 kc_iconst_0 ?_
  refine zr_istore_n dX9_back_1 (by decide) rfl ?_
  refine zl_up (τ := gz_Mm) 8 (fun i s => (∀ k, k ≠ 72 → s k = σ k) ∧ ∀ j, j < i → s 72 j = σ 80 j) (fun i s => gz_R 0 yX9_back cX9_back 2 none 0 0 2 [some (.ref 57), some (.int (nI i))] [] (gz_mk L s) Q) ?_ ?_ 0 σ (Nat.zero_le _) ⟨fun _ _ => rfl, fun j hj => absurd hj (Nat.not_lt_zero j)⟩
  rotate_left
  · rintro i σ1 hi ⟨hf, hv⟩ ih
    refine zr_iload_n dX9_back_2 rfl ?_
    refine zr_bipush (v := 8) dX9_back_3 kc_bipush_8 ?_
    refine zr_icmp_ge 26 dX9_back_5 (by decide) (fun h => absurd h (nI_ge (b := 8) hi (by omega))) (fun hp5 => ?_)
    refine zr_aload_n dX9_back_8 rfl ?_
    refine zt_getr zg_X9_53 dX9_back_9 rfl rfl rfl ?_
    refine zr_iload_n dX9_back_12 rfl ?_
    refine zr_aload_n dX9_back_13 rfl ?_
    refine zt_getr zg_X9_84 dX9_back_14 rfl rfl rfl ?_
    refine zr_iload_n dX9_back_17 rfl ?_
    refine zt_ildN dX9_back_18 rfl rfl (by omega) (congrFun (hf 80 (by decide)) i) ?_
    refine zt_istN dX9_back_19 rfl rfl rfl (by omega) ?_
    refine zr_iinc dX9_back_20 rfl (kc_inc (i)) rfl ?_
    refine zr_goto 2 dX9_back_23 (by decide) ?_
    refine ih _ ⟨fun k hk => (gz_wr_ne hk).trans (hf k hk), fun j hj => ?_⟩
    rw [gz_wr_eq]
    by_cases e : j = i
    · rw [e]
      simp [upd]
    · rw [pk_un e]
      exact hv j (by omega)
  rintro σ1 ⟨hf, hv⟩
  refine zr_iload_n dX9_back_2 rfl ?_
  refine zr_bipush (v := 8) dX9_back_3 kc_bipush_8 ?_
  refine zr_icmp_ge 26 dX9_back_5 (by decide) (fun hp5 => ?_) (fun h => absurd (Int32.le_refl _) h)
  refine zr_iconst (v := 0) dX9_back_26 kc_iconst_0 ?_
  refine zr_istore_n dX9_back_27 (by decide) rfl ?_
  refine zl_up (τ := gz_Mm) 20 (fun i s => (∀ k, k ≠ 73 → s k = σ1 k) ∧ ∀ j, j < i → s 73 j = σ 81 j) (fun i s => gz_R 0 yX9_back cX9_back 2 none 0 0 28 [some (.ref 57), some (.int (nI i))] [] (gz_mk L s) Q) ?_ ?_ 0 σ1 (Nat.zero_le _) ⟨fun _ _ => rfl, fun j hj => absurd hj (Nat.not_lt_zero j)⟩
  rotate_left
  · rintro i σ2 hi ⟨gf, gv⟩ ih
    refine zr_iload_n dX9_back_28 rfl ?_
    refine zr_bipush (v := 20) dX9_back_29 kc_bipush_20 ?_
    refine zr_icmp_ge 52 dX9_back_31 (by decide) (fun h => absurd h (nI_ge (b := 20) hi (by omega))) (fun hp31 => ?_)
    refine zr_aload_n dX9_back_34 rfl ?_
    refine zt_getr zg_X9_56 dX9_back_35 rfl rfl rfl ?_
    refine zr_iload_n dX9_back_38 rfl ?_
    refine zr_aload_n dX9_back_39 rfl ?_
    refine zt_getr zg_X9_87 dX9_back_40 rfl rfl rfl ?_
    refine zr_iload_n dX9_back_43 rfl ?_
    refine zt_ildN dX9_back_44 rfl rfl (by omega) ((congrFun (gf 81 (by decide)) i).trans (congrFun (hf 81 (by decide)) i)) ?_
    refine zt_istN dX9_back_45 rfl rfl rfl (by omega) ?_
    refine zr_iinc dX9_back_46 rfl (kc_inc (i)) rfl ?_
    refine zr_goto 28 dX9_back_49 (by decide) ?_
    refine ih _ ⟨fun k hk => (gz_wr_ne hk).trans (gf k hk), fun j hj => ?_⟩
    rw [gz_wr_eq]
    by_cases e : j = i
    · rw [e]
      simp [upd]
    · rw [pk_un e]
      exact gv j (by omega)
  rintro σ2 ⟨gf, gv⟩
  have f82 : σ2 82 = σ 82 := (gf 82 (by decide)).trans (hf 82 (by decide))
  have f57 : σ2 57 = σ 57 := (gf 57 (by decide)).trans (hf 57 (by decide))
  refine zr_iload_n dX9_back_28 rfl ?_
  refine zr_bipush (v := 20) dX9_back_29 kc_bipush_20 ?_
  refine zr_icmp_ge 52 dX9_back_31 (by decide) (fun hp31 => ?_) (fun h => absurd (Int32.le_refl _) h)
  refine zr_aload_n dX9_back_52 rfl ?_
  refine zr_aload_n dX9_back_53 rfl ?_
  refine zt_getr zg_X9_90 dX9_back_54 rfl rfl rfl ?_
  refine zr_iconst (v := 0) dX9_back_57 kc_iconst_0 ?_
  refine zt_ildN dX9_back_58 rfl rfl (by decide) (congrFun f82 0) ?_
  refine zt_put zp_X9_59 dX9_back_59 rfl rfl rfl rfl ?_
  refine zr_aload_n dX9_back_62 rfl ?_
  refine zr_aload_n dX9_back_63 rfl ?_
  refine zt_getr zg_X9_90 dX9_back_64 rfl rfl rfl ?_
  refine zr_iconst (v := 1) dX9_back_67 kc_iconst_1 ?_
  refine zt_ildN dX9_back_68 rfl rfl (by decide) (congrFun f82 1) ?_
  refine zt_put zp_X9_157 dX9_back_69 rfl rfl rfl rfl ?_
  refine zr_aload_n dX9_back_72 rfl ?_
  refine zr_aload_n dX9_back_73 rfl ?_
  refine zt_getr zg_X9_90 dX9_back_74 rfl rfl rfl ?_
  refine zr_iconst (v := 2) dX9_back_77 kc_iconst_2 ?_
  refine zt_ildN dX9_back_78 rfl rfl (by decide) (congrFun f82 2) ?_
  refine zt_put zp_X9_201 dX9_back_79 rfl rfl rfl rfl ?_
  refine zr_aload_n dX9_back_82 rfl ?_
  refine zr_aload_n dX9_back_83 rfl ?_
  refine zt_getr zg_X9_90 dX9_back_84 rfl rfl rfl ?_
  refine zr_iconst (v := 3) dX9_back_87 kc_iconst_3 ?_
  refine zt_ildN dX9_back_88 rfl rfl (by decide) (congrFun f82 3) ?_
  refine zt_put zp_X9_63 dX9_back_89 rfl rfl rfl rfl ?_
  refine zr_aload_n dX9_back_92 rfl ?_
  refine zr_aload_n dX9_back_93 rfl ?_
  refine zt_getr zg_X9_90 dX9_back_94 rfl rfl rfl ?_
  refine zr_iconst (v := 4) dX9_back_97 kc_iconst_4 ?_
  refine zt_ildN dX9_back_98 rfl rfl (by decide) (congrFun f82 4) ?_
  refine zt_put zp_X9_210 dX9_back_99 rfl rfl rfl rfl ?_
  refine zr_aload_n dX9_back_102 rfl ?_
  refine zr_aload_n dX9_back_103 rfl ?_
  refine zt_getr zg_X9_90 dX9_back_104 rfl rfl rfl ?_
  refine zr_iconst (v := 5) dX9_back_107 kc_iconst_5 ?_
  refine zt_ildN dX9_back_108 rfl rfl (by decide) (congrFun f82 5) ?_
  refine zt_put zp_X9_198 dX9_back_109 rfl rfl rfl rfl ?_
  refine zr_aload_n dX9_back_112 rfl ?_
  refine zr_aload_n dX9_back_113 rfl ?_
  refine zt_getr zg_X9_90 dX9_back_114 rfl rfl rfl ?_
  refine zr_bipush (v := 6) dX9_back_117 kc_bipush_6 ?_
  refine zt_ildN dX9_back_119 rfl rfl (by decide) (congrFun f82 6) ?_
  refine zt_put zp_X9_195 dX9_back_120 rfl rfl rfl rfl ?_
  refine zr_vret dX9_back_123 rfl (hQ _ ⟨⟨fun k a b c => ?_, fun j hj => ?_⟩, fun i hi => ?_, fun i hi => ?_, ?_⟩)
  · rw [gz_wr_ne a, gz_wr_ne a, gz_wr_ne a, gz_wr_ne a, gz_wr_ne a, gz_wr_ne a, gz_wr_ne a, gf k c, hf k b]
  · rw [gz_wr_eq, pk_un (by omega), gz_wr_eq, pk_un (by omega), gz_wr_eq, pk_un (by omega), gz_wr_eq, pk_un (by omega), gz_wr_eq, pk_un (by omega), gz_wr_eq, pk_un (by omega), gz_wr_eq, pk_un (by omega), f57]
  · rw [gz_wr_ne (by decide), gz_wr_ne (by decide), gz_wr_ne (by decide), gz_wr_ne (by decide), gz_wr_ne (by decide), gz_wr_ne (by decide), gz_wr_ne (by decide), gf 72 (by decide)]
    exact hv i hi
  · rw [gz_wr_ne (by decide), gz_wr_ne (by decide), gz_wr_ne (by decide), gz_wr_ne (by decide), gz_wr_ne (by decide), gz_wr_ne (by decide), gz_wr_ne (by decide)]
    exact gv i hi
  · simp [gz_wr, upd]
/-! the reference's cells of the whole picture -/
def am_X (σ : gz_Mm) : ap_S → Prop := fun (C, K, m, tg, tk, no, nu, fO, fU) =>
  (rm_C σ C ∧ rm_K σ C K ∧ rm_m σ C m) ∧ (σ 57 27 = nI tg ∧ σ 57 29 = tk) ∧ σ 57 38 = nI no ∧ σ 57 40 = nI nu ∧ (∀ i, i < no → σ 78 i = fO i) ∧ ∀ i, i < nu → σ 79 i = fU i
def am_P (σ : gz_Mm) (p : Int32 × ap_S) : Int32 → gz_Mm → Prop := fun v σ' => v = p.1 ∧ am_X σ' p.2 ∧ ∀ k, k < 57 → σ' k = σ k
theorem am_X.circ {σ σ' : gz_Mm} {C C' : sp_T} {K K' : sp_K} {m m' : sp_T} {r : Nat × Int32 × Nat × Nat × (Nat → Int32) × (Nat → Int32)} (hX : am_X σ (C, K, m, r)) (hC : rm_C σ' C') (hK : rm_K σ' C' K') (hM : rm_m σ' C' m') (h57 : ∀ j, j = 27 ∨ j = 29 ∨ j = 38 ∨ j = 40 → σ' 57 j = σ 57 j) (h78 : σ' 78 = σ 78) (h79 : σ' 79 = σ 79) : am_X σ' (C', K', m', r) := by
  obtain ⟨tg, tk, no, nu, fO, fU⟩ := r
  obtain ⟨-, ⟨r1, r2⟩, r3, r4, r5, r6⟩ := hX
  exact ⟨⟨hC, hK, hM⟩, ⟨(h57 27 (by omega)).trans r1, (h57 29 (by omega)).trans r2⟩, (h57 38 (by omega)).trans r3, (h57 40 (by omega)).trans r4, by rw [h78]; exact r5, by rw [h79]; exact r6⟩
theorem rm_K.tab {σ σ' : gz_Mm} {C C' : sp_T} {K : sp_K} (h : rm_K σ C K) (hk : ∀ k, k = 65 ∨ k = 66 ∨ k = 68 ∨ k = 69 → σ' k = σ k) (e12 : ∀ c, C' 12 c = C 12 c) (e92 : C' 9 2 = C 9 2) : rm_K σ' C' K := by
  have h2 := h.kept hk
  unfold rm_K at h2 ⊢
  simp only [e12, e92]
  exact h2
theorem rm_m.tab {σ : gz_Mm} {C C' m : sp_T} (h : rm_m σ C m) (e92 : C' 9 2 = C 9 2) : rm_m σ C' m := by
  unfold rm_m at h ⊢
  rw [e92]
  exact h
theorem cm_fresh (L : Nat) (σ : gz_Mm) (n : Nat) (hn : n < 80) (h : σ 57 3 = nI n) (k d : Int32) : gz_F 0 yX9_fresh cX9_fresh 3 (some .int) L [.ref 57, .int k, .int d] σ (some (.int (nI n))) (gz_wr (gz_wr (gz_wr σ 58 n k) 59 n d) 57 3 (nI (n + 1))) := by
  refine gz_F.of rfl rfl ?_
  refine zr_aload_n dX9_fresh_0 rfl ?_
  refine zt_getr zg_X9_7 dX9_fresh_1 rfl rfl rfl ?_
  refine zr_aload_n dX9_fresh_4 rfl ?_
  refine zt_geti zg_X9_99 dX9_fresh_5 rfl rfl rfl ?_
  refine zr_top (h) ?_
  refine zr_iload_n dX9_fresh_8 rfl ?_
  refine zt_istN dX9_fresh_9 rfl rfl rfl (hn) ?_
  refine zr_aload_n dX9_fresh_10 rfl ?_
  refine zt_getr zg_X9_13 dX9_fresh_11 rfl rfl rfl ?_
  refine zr_aload_n dX9_fresh_14 rfl ?_
  refine zt_geti zg_X9_99 dX9_fresh_15 rfl rfl rfl ?_
  refine zr_top (h) ?_
  refine zr_iload_n dX9_fresh_18 rfl ?_
  refine zt_istN dX9_fresh_19 rfl rfl rfl (hn) ?_
  refine zr_aload_n dX9_fresh_20 rfl ?_
  refine zr_dup dX9_fresh_21 rfl ?_
  refine zt_geti zg_X9_99 dX9_fresh_22 rfl rfl rfl ?_
  refine zr_top (h) ?_
  refine zr_iconst (v := 1) dX9_fresh_25 kc_iconst_1 ?_
  refine zr_iadd dX9_fresh_26 ?_
  refine zr_top (nI_1 n) ?_
  refine zt_put zp_X9_99 dX9_fresh_27 rfl rfl rfl rfl ?_
  refine zr_aload_n dX9_fresh_30 rfl ?_
  refine zt_geti zg_X9_99 dX9_fresh_31 rfl rfl rfl ?_
  refine zr_top ((by simp [gz_wr, upd] : _ = nI (n + 1))) ?_
  refine zr_iconst (v := 1) dX9_fresh_34 kc_iconst_1 ?_
  refine zr_isub dX9_fresh_35 ?_
  refine zr_top (nI_pred n) ?_
  exact zr_iret dX9_fresh_36 rfl (⟨rfl, rfl⟩)
theorem ax_input (L : Nat) (σ : gz_Mm) (S : ap_S) (hw : ap_wf S) (hX : am_X σ S) : gz_Gi 1 yX9_input cX9_input 1 (some .int) L [.ref 57] σ (am_P σ (fa_input S)) := by
  obtain ⟨C, K, m, tg, tk, no, nu, fO, fU⟩ := S
  obtain ⟨hC, hK, hm, htg, hno, hnu, hz0, hz2⟩ := hw
  have hX0 := hX
  obtain ⟨⟨rC, rK, rM⟩, -⟩ := hX
  have h80 := hC.1.1
  have h8 := hC.1.2.1
  have c0 := rC.1.1
  have c1 := rC.1.2.1
  refine gz_Gi.of rfl rfl (fun Q hQ => ?_)
  by_cases f1 : C 9 1 = 8
  · have e : fa_input (C, K, m, tg, tk, no, nu, fO, fU) = (-1004, (C, K, m, tg, tk, no, nu, fO, fU)) := by simp [fa_input, f1]
    rw [e] at hQ
    refine zr_aload_n dX9_input_0 rfl ?_
    refine zt_geti zg_X9_109 dX9_input_1 rfl rfl rfl ?_
    refine zr_top (c1) ?_
    refine zr_bipush (v := 8) dX9_input_4 kc_bipush_8 ?_
    refine zr_icmp_eq 18 dX9_input_6 (by decide) (fun hp6 => ?_) (fun h => absurd (by rw [f1]; rfl) h)
    refine zr_sipush (v := (-1004)) dX9_input_18 kc_sipush_m1004 ?_
    exact zr_iret dX9_input_21 rfl (hQ _ _ ⟨rfl, hX0, fun _ _ => rfl⟩)
  · by_cases f0 : C 9 0 = 80
    · have e : fa_input (C, K, m, tg, tk, no, nu, fO, fU) = (-1004, (C, K, m, tg, tk, no, nu, fO, fU)) := by simp [fa_input, f0]
      rw [e] at hQ
      refine zr_aload_n dX9_input_0 rfl ?_
      refine zt_geti zg_X9_109 dX9_input_1 rfl rfl rfl ?_
      refine zr_top (c1) ?_
      refine zr_bipush (v := 8) dX9_input_4 kc_bipush_8 ?_
      refine zr_icmp_eq 18 dX9_input_6 (by decide) (fun h => absurd ((nI_eq (b := 8) (by omega) (by omega)).mp h) f1) (fun hp6 => ?_)
      refine zr_aload_n dX9_input_9 rfl ?_
      refine zt_geti zg_X9_99 dX9_input_10 rfl rfl rfl ?_
      refine zr_top (c0) ?_
      refine zr_bipush (v := 80) dX9_input_13 kc_bipush_80 ?_
      refine zr_icmp_ne 22 dX9_input_15 (by decide) (fun h => absurd (by rw [f0]; rfl) h) (fun hp15 => ?_)
      refine zr_sipush (v := (-1004)) dX9_input_18 kc_sipush_m1004 ?_
      exact zr_iret dX9_input_21 rfl (hQ _ _ ⟨rfl, hX0, fun _ _ => rfl⟩)
    · have e : fa_input (C, K, m, tg, tk, no, nu, fO, fU) = (nI (C 9 0), (sp_w (sp_w (sp_w (sp_w C 0 (C 9 0) 0) 1 (C 9 0) (C 9 1)) 9 0 (C 9 0 + 1)) 9 1 (C 9 1 + 1), K, m, tg, tk, no, nu, fO, fU)) := by simp [fa_input, f0, f1]
      rw [e] at hQ
      generalize hn : C 9 0 = n at *
      generalize hni : C 9 1 = ni at *
      refine zr_aload_n dX9_input_0 rfl ?_
      refine zt_geti zg_X9_109 dX9_input_1 rfl rfl rfl ?_
      refine zr_top (c1) ?_
      refine zr_bipush (v := 8) dX9_input_4 kc_bipush_8 ?_
      refine zr_icmp_eq 18 dX9_input_6 (by decide) (fun h => absurd ((nI_eq (b := 8) (by omega) (by omega)).mp h) f1) (fun hp6 => ?_)
      refine zr_aload_n dX9_input_9 rfl ?_
      refine zt_geti zg_X9_99 dX9_input_10 rfl rfl rfl ?_
      refine zr_top (c0) ?_
      refine zr_bipush (v := 80) dX9_input_13 kc_bipush_80 ?_
      refine zr_icmp_ne 22 dX9_input_15 (by decide) (fun hp15 => ?_) (fun h => absurd ((nI_eq (b := 80) (by omega) (by omega)).mp h) f0)
      refine zr_aload_n dX9_input_22 rfl ?_
      refine zt_getr zg_X9_19 dX9_input_23 rfl rfl rfl ?_
      refine zr_aload_n dX9_input_26 rfl ?_
      refine zt_geti zg_X9_109 dX9_input_27 rfl rfl rfl ?_
      refine zr_top (c1) ?_
      refine zr_aload_n dX9_input_30 rfl ?_
      refine zt_geti zg_X9_99 dX9_input_31 rfl rfl rfl ?_
      refine zr_top (c0) ?_
      refine zt_istN dX9_input_34 rfl rfl rfl (by omega) ?_
      refine zr_aload_n dX9_input_35 rfl ?_
      refine zt_getr zg_X9_53 dX9_input_36 rfl rfl rfl ?_
      refine zr_aload_n dX9_input_39 rfl ?_
      refine zt_geti zg_X9_109 dX9_input_40 rfl rfl rfl ?_
      refine zr_top (c1) ?_
      refine zr_iconst (v := 0) dX9_input_43 kc_iconst_0 ?_
      refine zt_istN dX9_input_44 rfl rfl rfl (by omega) ?_
      refine zr_aload_n dX9_input_45 rfl ?_
      refine zr_dup dX9_input_46 rfl ?_
      refine zt_geti zg_X9_109 dX9_input_47 rfl rfl rfl ?_
      refine zr_top (c1) ?_
      refine zr_iconst (v := 1) dX9_input_50 kc_iconst_1 ?_
      refine zr_iadd dX9_input_51 ?_
      refine zr_top (nI_1 ni) ?_
      refine zt_put zp_X9_109 dX9_input_52 rfl rfl rfl rfl ?_
      refine zr_aload_n dX9_input_55 rfl ?_
      refine zr_iconst (v := 0) dX9_input_56 kc_iconst_0 ?_
      refine zr_aload_n dX9_input_57 rfl ?_
      refine zt_geti zg_X9_109 dX9_input_58 rfl rfl rfl ?_
      refine zr_top ((by simp [gz_wr, upd] : _ = nI (ni + 1))) ?_
      refine zr_iconst (v := 1) dX9_input_61 kc_iconst_1 ?_
      refine zr_isub dX9_input_62 ?_
      refine zr_top (nI_pred ni) ?_
      refine zt_callVi (As := [_, _]) (cm_fresh L _ n (by omega) (by simp [gz_wr, upd]; exact c0) 0 (nI ni)) zc_X9_112 rfl dX9_input_63 rfl rfl rfl rfl rfl rfl ?_
      refine zr_iret dX9_input_66 rfl (hQ _ _ ⟨rfl, ?_, fun k hk => ?_⟩)
      · refine hX0.circ (C' := sp_w (sp_w (sp_w (sp_w C 0 n 0) 1 n ni) 9 0 (n + 1)) 9 1 (ni + 1)) ?_ (rK.tab (fun k hk => ?_) (fun c => by simp [sp_w]) (by simp [sp_w])) (rm_m.tab (C := C) ?_ (by simp [sp_w])) (fun j hj => ?_) ?_ ?_
        · obtain ⟨⟨p1, p2, p3, p4, p5⟩, q1, q2, q3, q4⟩ := rC
          refine ⟨⟨by simp [gz_wr, upd, sp_w], by simp [gz_wr, upd, sp_w], by simp [gz_wr, upd, sp_w]; exact p3, by simp [gz_wr, upd, sp_w]; exact p4, by simp [gz_wr, upd, sp_w]; exact p5⟩, fun l hl => ?_, fun c hc => ?_, fun i hi => ?_, fun t ht => ?_⟩
          · by_cases e : l = n
            · simp [gz_wr, upd, sp_w, e]
              rfl
            · have hl' : l < n + 1 := by simpa [sp_w] using hl
              have := q1 l (by omega)
              simp [gz_wr, upd, sp_w, e]
              exact this
          · have := q2 c (by simpa [sp_w] using hc)
            simp [gz_wr, upd, sp_w]
            exact this
          · have := q3 i (by simpa [sp_w] using hi)
            simp [gz_wr, upd, sp_w]
            exact this
          · have := q4 t (by simpa [sp_w] using ht)
            simp [gz_wr, upd, sp_w]
            exact this
        · rcases hk with rfl | rfl | rfl | rfl <;> rfl
        · obtain ⟨a1, a2, a3⟩ := rM
          refine ⟨fun i hi => ?_, a2, a3⟩
          by_cases e : i = ni
          · simp [gz_wr, upd, e, hz0 ni (Nat.le_refl _)]
            rfl
          · simp [gz_wr, upd, e]
            exact a1 i hi
        · rcases hj with rfl | rfl | rfl | rfl <;> rfl
        · rfl
        · rfl
      · simp only [gz_wr]
        rw [if_neg (by omega), if_neg (by omega), if_neg (by omega), if_neg (by omega), if_neg (by omega), if_neg (by omega)]
