/-! ===== Board.gateValue ===== -/
theorem tb_and : ∀ a, a < 3 → ∀ b, b < 3 → ([0, 0, 0, 0, 1, 2, 0, 2, 2] : List Int32).getD (3 * a + b) 0 = nI (sp_and a b) := by decide
theorem tb_or : ∀ a, a < 3 → ∀ b, b < 3 → ([0, 1, 2, 1, 1, 1, 2, 1, 2] : List Int32).getD (3 * a + b) 0 = nI (sp_not (sp_and (sp_not a) (sp_not b))) := by decide
theorem tb_xor : ∀ a, a < 3 → ∀ b, b < 3 → ([0, 1, 2, 1, 0, 2, 2, 2, 2] : List Int32).getD (3 * a + b) 0 = nI (if a = 2 ∨ b = 2 then 2 else if a = b then 0 else 1) := by decide
theorem tb_inv : ∀ a, a < 3 → ([1, 0, 2] : List Int32).getD a 0 = nI (sp_not a) := by decide
theorem tb_nor : ∀ a, a < 3 → ∀ b, b < 3 → sp_not (sp_not (sp_and (sp_not a) (sp_not b))) = sp_and (sp_not a) (sp_not b) := by decide
theorem tb_ix (a b : Nat) : nI (3 * a) + nI b = nI (3 * a + b) := nI_add _ _
theorem tb_3 (a : Nat) : (3 : Int32) * nI a = nI (3 * a) := pk_mul 3 a
theorem ca_gateValue (L B : Nat) (hB : B = 31 ∨ B = 42) (σ : gz_Mm) (l op s1 s2 s3 a b c : Nat) (hl : l < 80) (hop : op ≤ 6) (h1 : s1 < 80) (e1 : σ 15 l = nI s1) (v1 : σ (B + 4) s1 = nI a) (ha : a < 3) (hb : b < 3) (hc : c < 3)
    (H2 : op ≠ 3 → s2 < 80 ∧ σ 16 l = nI s2 ∧ σ (B + 4) s2 = nI b) (H3 : op = 4 → s3 < 80 ∧ σ 17 l = nI s3 ∧ σ (B + 4) s3 = nI c) :
    gz_F 0 yX0_gateValue cX0_gateValue 6 (some .int) L [.ref (B + 1), .int (nI l), .int (nI op)] σ (some (.int (nI (sp_gate op a b c)))) σ := by
  rcases hB with rfl | rfl
  all_goals
    refine gz_F.of rfl rfl ?_
    refine zr_aload_n dX0_gateValue_0 rfl ?_
    refine zt_getr zg_X0_18 dX0_gateValue_1 rfl rfl rfl ?_
    refine zr_aload_n dX0_gateValue_4 rfl ?_
    refine zt_getr zg_X0_25 dX0_gateValue_5 rfl rfl rfl ?_
    refine zt_getr zg_X0_92 dX0_gateValue_8 rfl rfl rfl ?_
    refine zr_iload_n dX0_gateValue_11 rfl ?_
    refine zt_ildN dX0_gateValue_12 rfl rfl (hl) (e1) ?_
    refine zt_ildN dX0_gateValue_13 rfl rfl (h1) (v1) ?_
    refine zr_istore_n dX0_gateValue_14 (by decide) rfl ?_
    refine zr_iload_n dX0_gateValue_15 rfl ?_
    refine zr_iconst (v := 3) dX0_gateValue_16 kc_iconst_3 ?_
    by_cases h3 : op = 3
    · subst h3
      refine zr_icmp_ne 26 dX0_gateValue_17 (by decide) (fun hx => ?_) (fun hx => ?_)
      · exact absurd rfl hx
      · refine zr_gets (j := 3) rfl (by decide) zs_X0_89 dX0_gateValue_20 ?_
        refine zr_iload_n dX0_gateValue_23 rfl ?_
        refine zt_tabN dX0_gateValue_24 rfl rfl (ha) (tb_inv a ha) ?_
        exact zr_iret dX0_gateValue_25 rfl (⟨rfl, rfl⟩)
    · obtain ⟨h2, e2, v2⟩ := H2 h3
      refine zr_icmp_ne 26 dX0_gateValue_17 (by decide) (fun hx => ?_) (fun hx => ?_)
      · refine zr_aload_n dX0_gateValue_26 rfl ?_
        refine zt_getr zg_X0_18 dX0_gateValue_27 rfl rfl rfl ?_
        refine zr_aload_n dX0_gateValue_30 rfl ?_
        refine zt_getr zg_X0_25 dX0_gateValue_31 rfl rfl rfl ?_
        refine zt_getr zg_X0_95 dX0_gateValue_34 rfl rfl rfl ?_
        refine zr_iload_n dX0_gateValue_37 rfl ?_
        refine zt_ildN dX0_gateValue_38 rfl rfl (hl) (e2) ?_
        refine zt_ildN dX0_gateValue_39 rfl rfl (h2) (v2) ?_
        refine zr_istore dX0_gateValue_40 (by decide) rfl ?_
        refine zr_iload_n dX0_gateValue_42 rfl ?_
        rcases (show op = 0 ∨ op = 1 ∨ op = 2 ∨ op = 4 ∨ op = 5 ∨ op = 6 by omega) with rfl | rfl | rfl | rfl | rfl | rfl
        · refine zr_tin (off := 41) 84 dX0_gateValue_43 (by decide) (by decide) (by decide) (by decide) ?_
          refine zr_gets (j := 0) rfl (by decide) zs_X0_98 dX0_gateValue_84 ?_
          refine zr_iconst (v := 3) dX0_gateValue_87 kc_iconst_3 ?_
          refine zr_iload_n dX0_gateValue_88 rfl ?_
          refine zr_imul dX0_gateValue_89 ?_
          refine zr_top (tb_3 a) ?_
          refine zr_iload dX0_gateValue_90 rfl ?_
          refine zr_iadd dX0_gateValue_92 ?_
          refine zr_top (tb_ix a b) ?_
          refine zt_tabN dX0_gateValue_93 rfl rfl (by omega) (tb_and a ha b hb) ?_
          exact zr_iret dX0_gateValue_94 rfl (⟨rfl, rfl⟩)
        · refine zr_tin (off := 52) 95 dX0_gateValue_43 (by decide) (by decide) (by decide) (by decide) ?_
          refine zr_gets (j := 1) rfl (by decide) zs_X0_101 dX0_gateValue_95 ?_
          refine zr_iconst (v := 3) dX0_gateValue_98 kc_iconst_3 ?_
          refine zr_iload_n dX0_gateValue_99 rfl ?_
          refine zr_imul dX0_gateValue_100 ?_
          refine zr_top (tb_3 a) ?_
          refine zr_iload dX0_gateValue_101 rfl ?_
          refine zr_iadd dX0_gateValue_103 ?_
          refine zr_top (tb_ix a b) ?_
          refine zt_tabN dX0_gateValue_104 rfl rfl (by omega) (tb_or a ha b hb) ?_
          exact zr_iret dX0_gateValue_105 rfl (⟨rfl, rfl⟩)
        · refine zr_tin (off := 63) 106 dX0_gateValue_43 (by decide) (by decide) (by decide) (by decide) ?_
          refine zr_gets (j := 2) rfl (by decide) zs_X0_104 dX0_gateValue_106 ?_
          refine zr_iconst (v := 3) dX0_gateValue_109 kc_iconst_3 ?_
          refine zr_iload_n dX0_gateValue_110 rfl ?_
          refine zr_imul dX0_gateValue_111 ?_
          refine zr_top (tb_3 a) ?_
          refine zr_iload dX0_gateValue_112 rfl ?_
          refine zr_iadd dX0_gateValue_114 ?_
          refine zr_top (tb_ix a b) ?_
          refine zt_tabN dX0_gateValue_115 rfl rfl (by omega) (tb_xor a ha b hb) ?_
          exact zr_iret dX0_gateValue_116 rfl (⟨rfl, rfl⟩)
        · obtain ⟨g3, e3, v3⟩ := H3 rfl
          refine zr_tin (off := 104) 147 dX0_gateValue_43 (by decide) (by decide) (by decide) (by decide) ?_
          refine zr_aload_n dX0_gateValue_147 rfl ?_
          refine zt_getr zg_X0_18 dX0_gateValue_148 rfl rfl rfl ?_
          refine zr_aload_n dX0_gateValue_151 rfl ?_
          refine zt_getr zg_X0_25 dX0_gateValue_152 rfl rfl rfl ?_
          refine zt_getr zg_X0_107 dX0_gateValue_155 rfl rfl rfl ?_
          refine zr_iload_n dX0_gateValue_158 rfl ?_
          refine zt_ildN dX0_gateValue_159 rfl rfl (hl) (e3) ?_
          refine zt_ildN dX0_gateValue_160 rfl rfl (g3) (v3) ?_
          refine zr_istore dX0_gateValue_161 (by decide) rfl ?_
          refine zr_iload_n dX0_gateValue_163 rfl ?_
          refine zr_iconst (v := 2) dX0_gateValue_164 kc_iconst_2 ?_
          refine zr_icmp_ne 182 dX0_gateValue_165 (by decide) (fun h4 => ?_) (fun h4 => ?_)
          · refine zr_iload_n dX0_gateValue_182 rfl ?_
            refine zr_if_ne 191 dX0_gateValue_183 (by decide) (fun h5 => ?_) (fun h5 => ?_)
            · have e : sp_gate 4 a b c = c := by
                have n2 : a ≠ 2 := fun q => h4 (by rw [q]; rfl)
                have n0 : a ≠ 0 := fun q => h5 (by rw [q]; rfl)
                have n1 : a = 1 := by omega
                subst n1
                rfl
              rw [e]
              refine zr_iload dX0_gateValue_191 rfl ?_
              exact zr_iret dX0_gateValue_193 rfl (⟨rfl, rfl⟩)
            · have e : sp_gate 4 a b c = b := by
                have n0 : a = 0 := (nI_eq (b := 0) (by omega) (by omega)).mp h5
                subst n0
                rfl
              rw [e]
              refine zr_iload dX0_gateValue_186 rfl ?_
              refine zr_goto 193 dX0_gateValue_188 (by decide) ?_
              exact zr_iret dX0_gateValue_193 rfl (⟨rfl, rfl⟩)
          · have n2 : a = 2 := (nI_eq (b := 2) (by omega) (by omega)).mp h4
            subst n2
            refine zr_iload dX0_gateValue_168 rfl ?_
            refine zr_iload dX0_gateValue_170 rfl ?_
            refine zr_icmp_ne 180 dX0_gateValue_172 (by decide) (fun h6 => ?_) (fun h6 => ?_)
            · have e : sp_gate 4 2 b c = 2 := by
                have n0 : b ≠ c := fun q => h6 (by rw [q])
                simp [sp_gate, n0]
              rw [e]
              refine zr_iconst (v := 2) dX0_gateValue_180 kc_iconst_2 ?_
              exact zr_iret dX0_gateValue_181 rfl (⟨rfl, rfl⟩)
            · have e : sp_gate 4 2 b c = b := by
                have n0 : b = c := (nI_eq (by omega) (by omega)).mp h6
                simp [sp_gate, n0]
              rw [e]
              refine zr_iload dX0_gateValue_175 rfl ?_
              refine zr_goto 181 dX0_gateValue_177 (by decide) ?_
              exact zr_iret dX0_gateValue_181 rfl (⟨rfl, rfl⟩)
        · refine zr_tin (off := 74) 117 dX0_gateValue_43 (by decide) (by decide) (by decide) (by decide) ?_
          refine zr_gets (j := 3) rfl (by decide) zs_X0_89 dX0_gateValue_117 ?_
          refine zr_gets (j := 0) rfl (by decide) zs_X0_98 dX0_gateValue_120 ?_
          refine zr_iconst (v := 3) dX0_gateValue_123 kc_iconst_3 ?_
          refine zr_iload_n dX0_gateValue_124 rfl ?_
          refine zr_imul dX0_gateValue_125 ?_
          refine zr_top (tb_3 a) ?_
          refine zr_iload dX0_gateValue_126 rfl ?_
          refine zr_iadd dX0_gateValue_128 ?_
          refine zr_top (tb_ix a b) ?_
          refine zt_tabN dX0_gateValue_129 rfl rfl (by omega) (tb_and a ha b hb) ?_
          refine zt_tabN dX0_gateValue_130 rfl rfl (Nat.lt_succ_of_le (sp_and_le a b)) (tb_inv _ (Nat.lt_succ_of_le (sp_and_le a b))) ?_
          exact zr_iret dX0_gateValue_131 rfl (⟨rfl, rfl⟩)
        · refine zr_tin (off := 89) 132 dX0_gateValue_43 (by decide) (by decide) (by decide) (by decide) ?_
          have hle : sp_not (sp_and (sp_not a) (sp_not b)) < 3 := Nat.lt_succ_of_le (sp_not_le (sp_and_le _ _))
          have e : sp_gate 6 a b c = sp_not (sp_not (sp_and (sp_not a) (sp_not b))) := (tb_nor a ha b hb).symm
          rw [e]
          refine zr_gets (j := 3) rfl (by decide) zs_X0_89 dX0_gateValue_132 ?_
          refine zr_gets (j := 1) rfl (by decide) zs_X0_101 dX0_gateValue_135 ?_
          refine zr_iconst (v := 3) dX0_gateValue_138 kc_iconst_3 ?_
          refine zr_iload_n dX0_gateValue_139 rfl ?_
          refine zr_imul dX0_gateValue_140 ?_
          refine zr_top (tb_3 a) ?_
          refine zr_iload dX0_gateValue_141 rfl ?_
          refine zr_iadd dX0_gateValue_143 ?_
          refine zr_top (tb_ix a b) ?_
          refine zt_tabN dX0_gateValue_144 rfl rfl (by omega) (tb_or a ha b hb) ?_
          refine zt_tabN dX0_gateValue_145 rfl rfl (hle) (tb_inv _ hle) ?_
          exact zr_iret dX0_gateValue_146 rfl (⟨rfl, rfl⟩)
      · exact absurd ((nI_eq (b := 3) (by omega) (by omega)).mp hx) h3
