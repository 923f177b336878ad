/-! ===== Driver.run ===== -/
/-- class cells: the circuit, its chains, and a machine at base B whose ticks are t0 + t -/
def rx_M (B : Nat) (σ : gz_Mm) (C m : sp_T) (K : sp_K) (tg : Nat) (t0 : Int32) (t : Nat) : Prop := rx_C σ C ∧ rx_K σ C K ∧ rx_m σ B m ∧ sp_wm m ∧ σ B 5 = nI tg ∧ σ B 7 = t0 + nI t
theorem i32_s (x : Int32) (t : Nat) : x + nI t + 1 = x + nI (t + 1) := by rw [Int32.add_assoc, nI_1]
theorem i32_c (x y : Int32) : x + y - x = y := by
  rw [Int32.add_comm, Int32.sub_eq_add_neg, Int32.add_assoc, Int32.add_neg_eq_sub, Int32.sub_self, Int32.add_zero]
theorem tb_ol : ∀ i, i < 17 → ([1, 1, 1, 1, 1, 0, 1, 1, 0, 0, 0, 0, 1, 1, 1, 0, 0] : List Int32).getD i 0 = nI (sp_fo i).1 ∧ (sp_fo i).1 ≤ 1 := by decide
theorem tb_oi : ∀ i, i < 17 → ([0, 0, 0, 0, 0, 0, 0, 0, 0, 0, 1, 1, 0, 0, 0, 0, 0] : List Int32).getD i 0 = nI (sp_fo i).2 ∧ (sp_fo i).2 ≤ 1 := by decide
theorem tb_l3 : ∀ i, i < 3 → ([1, 1, 0] : List Int32).getD i 0 = nI (sp_f3 i).1 ∧ (sp_f3 i).1 ≤ 1 := by decide
theorem sp_la_le (n i : Nat) : sp_la n i ≤ 1 := by unfold sp_la; split <;> omega
theorem sp_max {n : Nat} (h : n ≤ 20) : (if (1 : Int32) < nI n then nI n else 1) = nI (if n = 0 then 1 else n) := by
  by_cases h0 : n = 0
  · subst h0
    rfl
  · rw [if_neg h0]
    by_cases h1 : n = 1
    · subst h1
      rfl
    · rw [if_pos]
      exact nI_lt (a := 1) (by omega) (by omega)
theorem ca_tick_31 (L : Nat) (σ : gz_Mm) (C m : sp_T) (K : sp_K) (hC : sp_wf C) (hK : sp_wk C K) (tg : Nat) (t0 : Int32) (t : Nat) (h : rx_M 31 σ C m K tg t0 t) (lead x : Nat) (htg : tg < 65536) (hl : lead ≤ 1) (hx : x ≤ 1) :
    gz_Gi 3 yX3_step cX3_step 4 (some .int) L [.ref 31, .int (nI lead), .int (nI x)] σ (fun v σ' => v = (sp_tk C K tg m lead x).1 ∧ rx_M 31 σ' C (sp_tk C K tg m lead x).2 K tg t0 (t + 1) ∧ ∀ k, (k < 31 ∨ 35 < k) → σ' k = σ k) := by
  obtain ⟨rC, rK, rM, hm, r5, r7⟩ := h
  refine (ca_step_31 L σ C m K hC hm hK rC rK rM tg lead x htg r5 hl hx).imp (fun v σ' q => ?_)
  obtain ⟨q1, q2, ⟨q3, q4⟩, q5⟩ := q
  exact ⟨q1, ⟨rC.kept (fun k h1 h2 => q5 k (by omega)), rK.kept (fun k h1 h2 => q5 k (by omega)), q2, sp_tk_wm hm htg hl hx, q3.trans r5, by rw [q4, r7, i32_s]⟩, q5⟩
theorem ca_tick_42 (L : Nat) (σ : gz_Mm) (C m : sp_T) (K : sp_K) (hC : sp_wf C) (hK : sp_wk C K) (tg : Nat) (t0 : Int32) (t : Nat) (h : rx_M 42 σ C m K tg t0 t) (lead x : Nat) (htg : tg < 65536) (hl : lead ≤ 1) (hx : x ≤ 1) :
    gz_Gi 3 yX3_step cX3_step 4 (some .int) L [.ref 42, .int (nI lead), .int (nI x)] σ (fun v σ' => v = (sp_tk C K tg m lead x).1 ∧ rx_M 42 σ' C (sp_tk C K tg m lead x).2 K tg t0 (t + 1) ∧ ∀ k, (k < 42 ∨ 46 < k) → σ' k = σ k) := by
  obtain ⟨rC, rK, rM, hm, r5, r7⟩ := h
  refine (ca_step_42 L σ C m K hC hm hK rC rK rM tg lead x htg r5 hl hx).imp (fun v σ' q => ?_)
  obtain ⟨q1, q2, ⟨q3, q4⟩, q5⟩ := q
  exact ⟨q1, ⟨rC.kept (fun k h1 h2 => q5 k (by omega)), rK.kept (fun k h1 h2 => q5 k (by omega)), q2, sp_tk_wm hm htg hl hx, q3.trans r5, by rw [q4, r7, i32_s]⟩, q5⟩
theorem ca_run_0 (L : Nat) (σ : gz_Mm) (C m : sp_T) (K : sp_K) (hC : sp_wf C) (hm : sp_wm m) (hK : sp_wk C K) (rC : rx_C σ C) (rK : rx_K σ C K) (rM : rx_m σ 31 m) (tg ib cb : Nat) (htg : tg < 65536) (r5 : σ 31 5 = nI tg) (hib : ib < 2 ^ 31) (hcb : cb < 2 ^ 31) :
    gz_Gi 4 yX4_run cX4_run 8 (some .int) L [.ref 39, .ref 31, .int (nI ib), .int (nI cb), .ref 53] σ (fun v σ' => v = nI (23 + 2 * sp_len K) ∧ rx_M 31 σ' C (sp_mF C K tg m ib cb) K tg (σ 31 7) (23 + 2 * sp_len K) ∧ (∀ k, (k < 31 ∨ 35 < k) → k ≠ 40 → k ≠ 53 → k ≠ 54 → k ≠ 55 → σ' k = σ k) ∧
      (σ' 53 2 = nI (C 9 3) ∧ σ' 53 3 = nI (sp_len K) ∧ (∀ i, i < C 9 3 → σ' 54 i = nI (sp_val C (sp_mC C K tg m ib cb) (C 8 i))) ∧ ∀ i, i < sp_len K → σ' 55 i = sp_ou C K tg m ib cb i)) := by
  have hl20 := hK.len20 hC
  have hln := sp_len_le hC hK
  have h8 := hC.1.2.2.2.1
  refine gz_Gi.of rfl rfl (fun Q hQ => ?_)
  refine zr_aload_n dX4_run_0 rfl ?_
  refine zt_geti zg_X4_19 dX4_run_1 rfl rfl rfl ?_
  refine zr_istore dX4_run_4 (by decide) rfl ?_
  refine zr_iconst (v := 1) dX4_run_6 kc_iconst_1 ?_
  refine zr_aload_n dX4_run_7 rfl ?_
  refine zt_getr zg_X4_15 dX4_run_8 rfl rfl rfl ?_
  refine zt_callVi (As := []) (ca_inAll L σ C K hC hK rK) zc_X4_25 rfl dX4_run_11 rfl rfl rfl rfl rfl rfl ?_
  refine zr_max zc_X4_31 dX4_run_14 rfl rfl ?_
  refine zr_top (sp_max hl20) ?_
  refine zr_istore dX4_run_17 (by decide) rfl ?_
  refine zr_aload_n dX4_run_19 rfl ?_
  refine zt_getr zg_X4_37 dX4_run_20 rfl rfl rfl ?_
  refine zr_iload_n dX4_run_23 rfl ?_
  refine zt_cVv (As := [_]) (ca_setInputs_31 L σ C m hC rC rM ib hib) zc_X4_41 rfl dX4_run_24 rfl rfl rfl rfl rfl rfl (fun σ0 h0 => ?_)
  obtain ⟨f0, r0⟩ := h0
  have M0 : rx_M 31 σ0 C (sp_it C K tg sp_fo 0 (sp_sin C m ib)) K tg (σ 31 7) 0 := ⟨rC.kept (fun k h1 h2 => f0 k (by omega)), rK.kept (fun k h1 h2 => f0 k (by omega)), r0, sp_sin_wm hm, (congrFun (f0 31 (by decide)) 5).trans r5, (congrFun (f0 31 (by decide)) 7).trans (Int32.add_zero _).symm⟩
  refine zr_iconst (v := 0) dX4_run_27 kc_iconst_0 ?_
  refine zr_istore dX4_run_28 (by decide) rfl ?_
  refine zl_up (τ := gz_Mm) 17 (fun i t => rx_M 31 t C (sp_it C K tg sp_fo i (sp_sin C m ib)) K tg (σ 31 7) i ∧ ∀ k, (k < 31 ∨ 35 < k) → t k = σ k) (fun i t => gz_R 4 yX4_run cX4_run 8 (some .int) 0 0 30 [some (.ref 39), some (.ref 31), some (.int (nI ib)), some (.int (nI cb)), some (.ref 53), some (.int (σ 31 7)), some (.int (nI (sp_len K))), some (.int (nI i))] [] (gz_mk L t) Q) ?_ ?_ 0 σ0 (Nat.zero_le _) ⟨M0, fun k hk => f0 k (by omega)⟩
  rotate_left
  · rintro i σ1 hi ⟨M1, f1⟩ ih
    obtain ⟨a1, a2⟩ := tb_ol i hi
    obtain ⟨b1, b2⟩ := tb_oi i hi
    refine zr_iload dX4_run_30 rfl ?_
    refine zr_gets (j := 7) rfl (by decide) zs_X4_47 dX4_run_32 ?_
    refine zt_alen dX4_run_35 rfl ?_
    refine zr_icmp_ge 62 dX4_run_36 (by decide) (fun h => ?_) (fun h => ?_)
    · exact absurd h (nI_ge hi (by omega))
    · refine zr_aload_n dX4_run_39 rfl ?_
      refine zr_gets (j := 7) rfl (by decide) zs_X4_47 dX4_run_40 ?_
      refine zr_iload dX4_run_43 rfl ?_
      refine zt_tabN dX4_run_45 rfl rfl (hi) (a1) ?_
      refine zr_gets (j := 8) rfl (by decide) zs_X4_50 dX4_run_46 ?_
      refine zr_iload dX4_run_49 rfl ?_
      refine zt_tabN dX4_run_51 rfl rfl (hi) (b1) ?_
      refine zt_cVi (As := [_, _]) (ca_tick_31 L σ1 C _ K hC hK tg _ i M1 _ _ htg a2 b2) zc_X4_53 rfl dX4_run_52 rfl rfl rfl rfl rfl rfl (fun r2 σ2 h2 => ?_)
      refine zr_pop dX4_run_55 rfl ?_
      refine zr_iinc dX4_run_56 rfl (kc_inc (i)) rfl ?_
      refine zr_goto 30 dX4_run_59 (by decide) ?_
      exact ih σ2 ⟨h2.2.1, fun k hk => (h2.2.2 k hk).trans (f1 k hk)⟩
  rintro σ1 ⟨M1, f1⟩
  refine zr_iload dX4_run_30 rfl ?_
  refine zr_gets (j := 7) rfl (by decide) zs_X4_47 dX4_run_32 ?_
  refine zt_alen dX4_run_35 rfl ?_
  refine zr_icmp_ge 62 dX4_run_36 (by decide) (fun h => ?_) (fun h => ?_)
  rotate_left
  · exact absurd (Int32.le_refl _) h
  refine zr_aload_n dX4_run_62 rfl ?_
  refine zr_iload_n dX4_run_63 rfl ?_
  refine zr_iload dX4_run_64 rfl ?_
  refine zt_cVv (As := [_, _]) (ca_plan L σ1 C K hC hK M1.2.1 cb hcb) zc_X4_56 rfl dX4_run_66 rfl rfl rfl rfl rfl rfl (fun σp hp => ?_)
  refine zr_iconst (v := 0) dX4_run_69 kc_iconst_0 ?_
  refine zr_istore dX4_run_70 (by decide) rfl ?_
  obtain ⟨fp, hld⟩ := hp
  have Mp : rx_M 31 σp C (sp_it C K tg (sp_fl C K cb) 0 (sp_mA C K tg m ib)) K tg (σ 31 7) (17 + 0) := ⟨M1.1.kept (fun k h1 h2 => fp k (by omega)), M1.2.1.kept (fun k h1 h2 => fp k (by omega)), M1.2.2.1.kept (fun k h1 h2 => fp k (by omega)), M1.2.2.2.1, (congrFun (fp 31 (by decide)) 5).trans M1.2.2.2.2.1, (congrFun (fp 31 (by decide)) 7).trans M1.2.2.2.2.2⟩
  refine zl_up (τ := gz_Mm) (sp_len K) (fun i t => rx_M 31 t C (sp_it C K tg (sp_fl C K cb) i (sp_mA C K tg m ib)) K tg (σ 31 7) (17 + i) ∧ ∀ k, (k < 31 ∨ 35 < k) → t k = σp k) (fun i t => gz_R 4 yX4_run cX4_run 8 (some .int) 0 0 72 [some (.ref 39), some (.ref 31), some (.int (nI ib)), some (.int (nI cb)), some (.ref 53), some (.int (σ 31 7)), some (.int (nI (sp_len K))), some (.int (nI i))] [] (gz_mk L t) Q) ?_ ?_ 0 σp (Nat.zero_le _) ⟨Mp, fun k hk => rfl⟩
  rotate_left
  · rintro i σ2 hi ⟨M2, f2⟩ ih
    refine zr_iload dX4_run_72 rfl ?_
    refine zr_iload dX4_run_74 rfl ?_
    refine zr_icmp_ge 104 dX4_run_76 (by decide) (fun h => ?_) (fun h => ?_)
    · exact absurd h (nI_ge hi (by omega))
    · refine zr_aload_n dX4_run_79 rfl ?_
      refine zr_iload dX4_run_80 rfl ?_
      refine zr_iload dX4_run_82 rfl ?_
      refine zt_callSi (As := [_, _]) (ca_leadAt L σ2 i (sp_len K) hi (by omega)) zc_X4_60 rfl dX4_run_84 rfl rfl rfl ?_
      refine zr_aload_n dX4_run_87 rfl ?_
      refine zt_getr zg_X4_9 dX4_run_88 rfl rfl rfl ?_
      refine zr_iload dX4_run_91 rfl ?_
      refine zt_ildN dX4_run_93 rfl rfl (by omega) ((congrFun (f2 40 (by decide)) i).trans (hld i hi)) ?_
      refine zt_cVi (As := [_, _]) (ca_tick_31 L σ2 C _ K hC hK tg _ _ M2 _ _ htg (sp_la_le _ _) (sp_lo_le C K cb i)) zc_X4_53 rfl dX4_run_94 rfl rfl rfl rfl rfl rfl (fun r3 σ3 h3 => ?_)
      refine zr_pop dX4_run_97 rfl ?_
      refine zr_iinc dX4_run_98 rfl (kc_inc (i)) rfl ?_
      refine zr_goto 72 dX4_run_101 (by decide) ?_
      exact ih σ3 ⟨h3.2.1, fun k hk => (h3.2.2 k hk).trans (f2 k hk)⟩
  rintro σ2 ⟨M2, f2⟩
  refine zr_iload dX4_run_72 rfl ?_
  refine zr_iload dX4_run_74 rfl ?_
  refine zr_icmp_ge 104 dX4_run_76 (by decide) (fun h => ?_) (fun h => ?_)
  rotate_left
  · exact absurd (Int32.le_refl _) h
  refine zr_iconst (v := 0) dX4_run_104 kc_iconst_0 ?_
  refine zr_istore dX4_run_105 (by decide) rfl ?_
  refine zl_up (τ := gz_Mm) 3 (fun i t => rx_M 31 t C (sp_it C K tg sp_f3 i (sp_mB C K tg m ib cb)) K tg (σ 31 7) (17 + sp_len K + i) ∧ ∀ k, (k < 31 ∨ 35 < k) → t k = σp k) (fun i t => gz_R 4 yX4_run cX4_run 8 (some .int) 0 0 107 [some (.ref 39), some (.ref 31), some (.int (nI ib)), some (.int (nI cb)), some (.ref 53), some (.int (σ 31 7)), some (.int (nI (sp_len K))), some (.int (nI i))] [] (gz_mk L t) Q) ?_ ?_ 0 σ2 (Nat.zero_le _) ⟨M2, f2⟩
  rotate_left
  · rintro i σ3 hi ⟨M3, f3⟩ ih
    obtain ⟨a1, a2⟩ := tb_l3 i hi
    refine zr_iload dX4_run_107 rfl ?_
    refine zr_gets (j := 9) rfl (by decide) zs_X4_63 dX4_run_109 ?_
    refine zt_alen dX4_run_112 rfl ?_
    refine zr_icmp_ge 134 dX4_run_113 (by decide) (fun h => ?_) (fun h => ?_)
    · exact absurd h (nI_ge hi (by omega))
    · refine zr_aload_n dX4_run_116 rfl ?_
      refine zr_gets (j := 9) rfl (by decide) zs_X4_63 dX4_run_117 ?_
      refine zr_iload dX4_run_120 rfl ?_
      refine zt_tabN dX4_run_122 rfl rfl (hi) (a1) ?_
      refine zr_iconst (v := 0) dX4_run_123 kc_iconst_0 ?_
      refine zt_cVi (As := [_, _]) (ca_tick_31 L σ3 C _ K hC hK tg _ _ M3 _ 0 htg a2 (by omega)) zc_X4_53 rfl dX4_run_124 rfl rfl rfl rfl rfl rfl (fun r4 σ4 h4 => ?_)
      refine zr_pop dX4_run_127 rfl ?_
      refine zr_iinc dX4_run_128 rfl (kc_inc (i)) rfl ?_
      refine zr_goto 107 dX4_run_131 (by decide) ?_
      exact ih σ4 ⟨h4.2.1, fun k hk => (h4.2.2 k hk).trans (f3 k hk)⟩
  rintro σ3 ⟨M3, f3⟩
  refine zr_iload dX4_run_107 rfl ?_
  refine zr_gets (j := 9) rfl (by decide) zs_X4_63 dX4_run_109 ?_
  refine zt_alen dX4_run_112 rfl ?_
  refine zr_icmp_ge 134 dX4_run_113 (by decide) (fun h => ?_) (fun h => ?_)
  rotate_left
  · exact absurd (Int32.le_refl _) h
  refine zr_aload dX4_run_134 rfl ?_
  refine zr_aload_n dX4_run_136 rfl ?_
  refine zt_getr zg_X4_37 dX4_run_137 rfl rfl rfl ?_
  refine zt_cVv (As := [_]) (ca_look_0 L σ3 C _ hC M3.2.2.2.1 M3.1 M3.2.2.1) zc_X4_66 rfl dX4_run_140 rfl rfl rfl rfl rfl rfl (fun σ4 h4 => ?_)
  obtain ⟨f4, e4, v4⟩ := h4
  have M4 : rx_M 31 σ4 C (sp_mC C K tg m ib cb) K tg (σ 31 7) (20 + sp_len K) := ⟨M3.1.kept (fun k h1 h2 => f4 k (by omega) (by omega) (by omega)), M3.2.1.kept (fun k h1 h2 => f4 k (by omega) (by omega) (by omega)), M3.2.2.1.kept (fun k h1 h2 => f4 k (by omega) (by omega) (by omega)), M3.2.2.2.1, (congrFun (f4 31 (by decide) (by decide) (by decide)) 5).trans M3.2.2.2.2.1, (congrFun (f4 31 (by decide) (by decide) (by decide)) 7).trans (by rw [M3.2.2.2.2.2, show 17 + sp_len K + 3 = 20 + sp_len K by omega])⟩
  refine zr_aload_n dX4_run_143 rfl ?_
  refine zr_iconst (v := 0) dX4_run_144 kc_iconst_0 ?_
  refine zr_iconst (v := 0) dX4_run_145 kc_iconst_0 ?_
  refine zt_cVi (As := [_, _]) (ca_tick_31 L σ4 C _ K hC hK tg _ _ M4 0 0 htg (by omega) (by omega)) zc_X4_53 rfl dX4_run_146 rfl rfl rfl rfl rfl rfl (fun r5' σ5 h5 => ?_)
  refine zr_pop dX4_run_149 rfl ?_
  refine zr_iconst (v := 0) dX4_run_150 kc_iconst_0 ?_
  refine zr_istore dX4_run_151 (by decide) rfl ?_
  obtain ⟨-, M5, f5⟩ := h5
  have g4 : ∀ k, (k < 31 ∨ 35 < k) → k ≠ 53 → k ≠ 54 → σ4 k = σp k := fun k h1 h2 h3 => (f4 k (by omega) h2 h3).trans (f3 k h1)
  refine zl_up (τ := gz_Mm) (sp_len K) (fun i t => rx_M 31 t C (sp_mE C K tg m ib cb i) K tg (σ 31 7) (21 + sp_len K + i) ∧ (∀ k, (k < 31 ∨ 35 < k) → k ≠ 55 → t k = σ4 k) ∧ ∀ j, j < i → t 55 j = sp_ou C K tg m ib cb j) (fun i t => gz_R 4 yX4_run cX4_run 8 (some .int) 0 0 153 [some (.ref 39), some (.ref 31), some (.int (nI ib)), some (.int (nI cb)), some (.ref 53), some (.int (σ 31 7)), some (.int (nI (sp_len K))), some (.int (nI i))] [] (gz_mk L t) Q) ?_ ?_ 0 σ5 (Nat.zero_le _) ⟨by rw [show 21 + sp_len K + 0 = 20 + sp_len K + 1 by omega]; exact M5, fun k h1 _ => f5 k h1, fun j hj => absurd hj (Nat.not_lt_zero j)⟩
  rotate_left
  · rintro i σ6 hi ⟨M6, f6, v6⟩ ih
    refine zr_iload dX4_run_153 rfl ?_
    refine zr_iload dX4_run_155 rfl ?_
    refine zr_icmp_ge 186 dX4_run_157 (by decide) (fun h => ?_) (fun h => ?_)
    · exact absurd h (nI_ge hi (by omega))
    · refine zr_aload dX4_run_160 rfl ?_
      refine zt_getr zg_X4_72 dX4_run_162 rfl rfl rfl ?_
      refine zr_iload dX4_run_165 rfl ?_
      refine zr_aload_n dX4_run_167 rfl ?_
      refine zr_iload dX4_run_168 rfl ?_
      refine zr_iload dX4_run_170 rfl ?_
      refine zt_callSi (As := [_, _]) (ca_leadAt L σ6 i (sp_len K) hi (by omega)) zc_X4_60 rfl dX4_run_172 rfl rfl rfl ?_
      refine zr_iconst (v := 0) dX4_run_175 kc_iconst_0 ?_
      refine zt_cVi (As := [_, _]) (ca_tick_31 L σ6 C _ K hC hK tg _ _ M6 _ 0 htg (sp_la_le _ _) (by omega)) zc_X4_53 rfl dX4_run_176 rfl rfl rfl rfl rfl rfl (fun r7 σ7 h7 => ?_)
      obtain ⟨e7, M7, f7⟩ := h7
      refine zt_istN dX4_run_179 rfl rfl rfl (by omega) ?_
      refine zr_iinc dX4_run_180 rfl (kc_inc (i)) rfl ?_
      refine zr_goto 153 dX4_run_183 (by decide) ?_
      refine ih _ ⟨⟨M7.1.kept (fun k h1 h2 => gz_wr_ne (by omega)), M7.2.1.kept (fun k h1 h2 => gz_wr_ne (by omega)), M7.2.2.1.kept (fun k h1 h2 => gz_wr_ne (by omega)), M7.2.2.2.1, (congrFun (gz_wr_ne (by decide)) 5).trans M7.2.2.2.2.1, (congrFun (gz_wr_ne (by decide)) 7).trans M7.2.2.2.2.2⟩, fun k h1 h2 => (gz_wr_ne h2).trans ((f7 k h1).trans (f6 k h1 h2)), fun j hj => ?_⟩
      rw [gz_wr_eq]
      by_cases e : j = i
      · subst e
        simp only [upd, if_true]
        exact e7
      · rw [pk_un e, f7 55 (by decide)]
        exact v6 j (by omega)
  rintro σ6 ⟨M6, f6, v6⟩
  refine zr_iload dX4_run_153 rfl ?_
  refine zr_iload dX4_run_155 rfl ?_
  refine zr_icmp_ge 186 dX4_run_157 (by decide) (fun h => ?_) (fun h => ?_)
  rotate_left
  · exact absurd (Int32.le_refl _) h
  refine zr_aload dX4_run_186 rfl ?_
  refine zr_iload dX4_run_188 rfl ?_
  refine zt_put zp_X4_75 dX4_run_190 rfl rfl rfl rfl ?_
  have M6' : rx_M 31 (gz_wr σ6 53 3 (nI (sp_len K))) C (sp_mE C K tg m ib cb (sp_len K)) K tg (σ 31 7) (21 + 2 * sp_len K) := ⟨M6.1.kept (fun k h1 h2 => gz_wr_ne (by omega)), M6.2.1.kept (fun k h1 h2 => gz_wr_ne (by omega)), M6.2.2.1.kept (fun k h1 h2 => gz_wr_ne (by omega)), M6.2.2.2.1, (congrFun (gz_wr_ne (by decide)) 5).trans M6.2.2.2.2.1, (congrFun (gz_wr_ne (by decide)) 7).trans (by rw [M6.2.2.2.2.2, show 21 + sp_len K + sp_len K = 21 + 2 * sp_len K by omega])⟩
  refine zr_aload_n dX4_run_193 rfl ?_
  refine zr_iconst (v := 1) dX4_run_194 kc_iconst_1 ?_
  refine zr_iconst (v := 0) dX4_run_195 kc_iconst_0 ?_
  refine zt_cVi (As := [_, _]) (ca_tick_31 L _ C _ K hC hK tg _ _ M6' 1 0 htg (by omega) (by omega)) zc_X4_53 rfl dX4_run_196 rfl rfl rfl rfl rfl rfl (fun r8 σ8 h8' => ?_)
  refine zr_pop dX4_run_199 rfl ?_
  obtain ⟨-, M8, f8⟩ := h8'
  refine zr_aload_n dX4_run_200 rfl ?_
  refine zr_iconst (v := 0) dX4_run_201 kc_iconst_0 ?_
  refine zr_iconst (v := 0) dX4_run_202 kc_iconst_0 ?_
  refine zt_cVi (As := [_, _]) (ca_tick_31 L _ C _ K hC hK tg _ _ M8 0 0 htg (by omega) (by omega)) zc_X4_53 rfl dX4_run_203 rfl rfl rfl rfl rfl rfl (fun r9 σ9 h9 => ?_)
  refine zr_pop dX4_run_206 rfl ?_
  refine zr_aload_n dX4_run_207 rfl ?_
  refine zt_geti zg_X4_19 dX4_run_208 rfl rfl rfl ?_
  refine zr_top (h9.2.1.2.2.2.2.2) ?_
  refine zr_iload dX4_run_211 rfl ?_
  refine zr_isub dX4_run_213 ?_
  refine zr_top (i32_c _ _) ?_
  obtain ⟨-, M9, f9⟩ := h9
  have g9 : ∀ k, (k < 31 ∨ 35 < k) → σ9 k = gz_wr σ6 53 3 (nI (sp_len K)) k := fun k hk => (f9 k hk).trans (f8 k hk)
  refine zr_iret dX4_run_214 rfl (hQ _ _ ⟨by rw [show 21 + 2 * sp_len K + 1 + 1 = 23 + 2 * sp_len K by omega], by rw [show 23 + 2 * sp_len K = 21 + 2 * sp_len K + 1 + 1 by omega]; exact M9, fun k h1 h2 h3 h4 h5 => ?_, ?_, ?_, fun i hi => ?_, fun i hi => ?_⟩)
  · rw [g9 k h1, gz_wr_ne h3, f6 k h1 h5, g4 k h1 h3 h4, fp k h2, f1 k h1]
  · rw [g9 53 (by decide)]
    simp only [gz_wr, upd, if_true, show ¬ (2 : Nat) = 3 by decide, if_false]
    rw [f6 53 (by decide) (by decide)]
    exact e4
  · rw [g9 53 (by decide)]
    simp [gz_wr, upd]
  · rw [g9 54 (by decide), gz_wr_ne (by decide), f6 54 (by decide) (by decide)]
    exact v4 i hi
  · rw [g9 55 (by decide), gz_wr_ne (by decide)]
    exact v6 i hi
theorem ca_run_1 (L : Nat) (σ : gz_Mm) (C m : sp_T) (K : sp_K) (hC : sp_wf C) (hm : sp_wm m) (hK : sp_wk C K) (rC : rx_C σ C) (rK : rx_K σ C K) (rM : rx_m σ 42 m) (tg ib cb : Nat) (htg : tg < 65536) (r5 : σ 42 5 = nI tg) (hib : ib < 2 ^ 31) (hcb : cb < 2 ^ 31) :
    gz_Gi 4 yX4_run cX4_run 8 (some .int) L [.ref 39, .ref 42, .int (nI ib), .int (nI cb), .ref 47] σ (fun v σ' => v = nI (23 + 2 * sp_len K) ∧ rx_M 42 σ' C (sp_mF C K tg m ib cb) K tg (σ 42 7) (23 + 2 * sp_len K) ∧ (∀ k, (k < 42 ∨ 46 < k) → k ≠ 40 → k ≠ 47 → k ≠ 48 → k ≠ 49 → σ' k = σ k) ∧
      (σ' 47 2 = nI (C 9 3) ∧ σ' 47 3 = nI (sp_len K) ∧ (∀ i, i < C 9 3 → σ' 48 i = nI (sp_val C (sp_mC C K tg m ib cb) (C 8 i))) ∧ ∀ i, i < sp_len K → σ' 49 i = sp_ou C K tg m ib cb i)) := by
  have hl20 := hK.len20 hC
  have hln := sp_len_le hC hK
  have h8 := hC.1.2.2.2.1
  refine gz_Gi.of rfl rfl (fun Q hQ => ?_)
  refine zr_aload_n dX4_run_0 rfl ?_
  refine zt_geti zg_X4_19 dX4_run_1 rfl rfl rfl ?_
  refine zr_istore dX4_run_4 (by decide) rfl ?_
  refine zr_iconst (v := 1) dX4_run_6 kc_iconst_1 ?_
  refine zr_aload_n dX4_run_7 rfl ?_
  refine zt_getr zg_X4_15 dX4_run_8 rfl rfl rfl ?_
  refine zt_callVi (As := []) (ca_inAll L σ C K hC hK rK) zc_X4_25 rfl dX4_run_11 rfl rfl rfl rfl rfl rfl ?_
  refine zr_max zc_X4_31 dX4_run_14 rfl rfl ?_
  refine zr_top (sp_max hl20) ?_
  refine zr_istore dX4_run_17 (by decide) rfl ?_
  refine zr_aload_n dX4_run_19 rfl ?_
  refine zt_getr zg_X4_37 dX4_run_20 rfl rfl rfl ?_
  refine zr_iload_n dX4_run_23 rfl ?_
  refine zt_cVv (As := [_]) (ca_setInputs_42 L σ C m hC rC rM ib hib) zc_X4_41 rfl dX4_run_24 rfl rfl rfl rfl rfl rfl (fun σ0 h0 => ?_)
  obtain ⟨f0, r0⟩ := h0
  have M0 : rx_M 42 σ0 C (sp_it C K tg sp_fo 0 (sp_sin C m ib)) K tg (σ 42 7) 0 := ⟨rC.kept (fun k h1 h2 => f0 k (by omega)), rK.kept (fun k h1 h2 => f0 k (by omega)), r0, sp_sin_wm hm, (congrFun (f0 42 (by decide)) 5).trans r5, (congrFun (f0 42 (by decide)) 7).trans (Int32.add_zero _).symm⟩
  refine zr_iconst (v := 0) dX4_run_27 kc_iconst_0 ?_
  refine zr_istore dX4_run_28 (by decide) rfl ?_
  refine zl_up (τ := gz_Mm) 17 (fun i t => rx_M 42 t C (sp_it C K tg sp_fo i (sp_sin C m ib)) K tg (σ 42 7) i ∧ ∀ k, (k < 42 ∨ 46 < k) → t k = σ k) (fun i t => gz_R 4 yX4_run cX4_run 8 (some .int) 0 0 30 [some (.ref 39), some (.ref 42), some (.int (nI ib)), some (.int (nI cb)), some (.ref 47), some (.int (σ 42 7)), some (.int (nI (sp_len K))), some (.int (nI i))] [] (gz_mk L t) Q) ?_ ?_ 0 σ0 (Nat.zero_le _) ⟨M0, fun k hk => f0 k (by omega)⟩
  rotate_left
  · rintro i σ1 hi ⟨M1, f1⟩ ih
    obtain ⟨a1, a2⟩ := tb_ol i hi
    obtain ⟨b1, b2⟩ := tb_oi i hi
    refine zr_iload dX4_run_30 rfl ?_
    refine zr_gets (j := 7) rfl (by decide) zs_X4_47 dX4_run_32 ?_
    refine zt_alen dX4_run_35 rfl ?_
    refine zr_icmp_ge 62 dX4_run_36 (by decide) (fun h => ?_) (fun h => ?_)
    · exact absurd h (nI_ge hi (by omega))
    · refine zr_aload_n dX4_run_39 rfl ?_
      refine zr_gets (j := 7) rfl (by decide) zs_X4_47 dX4_run_40 ?_
      refine zr_iload dX4_run_43 rfl ?_
      refine zt_tabN dX4_run_45 rfl rfl (hi) (a1) ?_
      refine zr_gets (j := 8) rfl (by decide) zs_X4_50 dX4_run_46 ?_
      refine zr_iload dX4_run_49 rfl ?_
      refine zt_tabN dX4_run_51 rfl rfl (hi) (b1) ?_
      refine zt_cVi (As := [_, _]) (ca_tick_42 L σ1 C _ K hC hK tg _ i M1 _ _ htg a2 b2) zc_X4_53 rfl dX4_run_52 rfl rfl rfl rfl rfl rfl (fun r2 σ2 h2 => ?_)
      refine zr_pop dX4_run_55 rfl ?_
      refine zr_iinc dX4_run_56 rfl (kc_inc (i)) rfl ?_
      refine zr_goto 30 dX4_run_59 (by decide) ?_
      exact ih σ2 ⟨h2.2.1, fun k hk => (h2.2.2 k hk).trans (f1 k hk)⟩
  rintro σ1 ⟨M1, f1⟩
  refine zr_iload dX4_run_30 rfl ?_
  refine zr_gets (j := 7) rfl (by decide) zs_X4_47 dX4_run_32 ?_
  refine zt_alen dX4_run_35 rfl ?_
  refine zr_icmp_ge 62 dX4_run_36 (by decide) (fun h => ?_) (fun h => ?_)
  rotate_left
  · exact absurd (Int32.le_refl _) h
  refine zr_aload_n dX4_run_62 rfl ?_
  refine zr_iload_n dX4_run_63 rfl ?_
  refine zr_iload dX4_run_64 rfl ?_
  refine zt_cVv (As := [_, _]) (ca_plan L σ1 C K hC hK M1.2.1 cb hcb) zc_X4_56 rfl dX4_run_66 rfl rfl rfl rfl rfl rfl (fun σp hp => ?_)
  refine zr_iconst (v := 0) dX4_run_69 kc_iconst_0 ?_
  refine zr_istore dX4_run_70 (by decide) rfl ?_
  obtain ⟨fp, hld⟩ := hp
  have Mp : rx_M 42 σp C (sp_it C K tg (sp_fl C K cb) 0 (sp_mA C K tg m ib)) K tg (σ 42 7) (17 + 0) := ⟨M1.1.kept (fun k h1 h2 => fp k (by omega)), M1.2.1.kept (fun k h1 h2 => fp k (by omega)), M1.2.2.1.kept (fun k h1 h2 => fp k (by omega)), M1.2.2.2.1, (congrFun (fp 42 (by decide)) 5).trans M1.2.2.2.2.1, (congrFun (fp 42 (by decide)) 7).trans M1.2.2.2.2.2⟩
  refine zl_up (τ := gz_Mm) (sp_len K) (fun i t => rx_M 42 t C (sp_it C K tg (sp_fl C K cb) i (sp_mA C K tg m ib)) K tg (σ 42 7) (17 + i) ∧ ∀ k, (k < 42 ∨ 46 < k) → t k = σp k) (fun i t => gz_R 4 yX4_run cX4_run 8 (some .int) 0 0 72 [some (.ref 39), some (.ref 42), some (.int (nI ib)), some (.int (nI cb)), some (.ref 47), some (.int (σ 42 7)), some (.int (nI (sp_len K))), some (.int (nI i))] [] (gz_mk L t) Q) ?_ ?_ 0 σp (Nat.zero_le _) ⟨Mp, fun k hk => rfl⟩
  rotate_left
  · rintro i σ2 hi ⟨M2, f2⟩ ih
    refine zr_iload dX4_run_72 rfl ?_
    refine zr_iload dX4_run_74 rfl ?_
    refine zr_icmp_ge 104 dX4_run_76 (by decide) (fun h => ?_) (fun h => ?_)
    · exact absurd h (nI_ge hi (by omega))
    · refine zr_aload_n dX4_run_79 rfl ?_
      refine zr_iload dX4_run_80 rfl ?_
      refine zr_iload dX4_run_82 rfl ?_
      refine zt_callSi (As := [_, _]) (ca_leadAt L σ2 i (sp_len K) hi (by omega)) zc_X4_60 rfl dX4_run_84 rfl rfl rfl ?_
      refine zr_aload_n dX4_run_87 rfl ?_
      refine zt_getr zg_X4_9 dX4_run_88 rfl rfl rfl ?_
      refine zr_iload dX4_run_91 rfl ?_
      refine zt_ildN dX4_run_93 rfl rfl (by omega) ((congrFun (f2 40 (by decide)) i).trans (hld i hi)) ?_
      refine zt_cVi (As := [_, _]) (ca_tick_42 L σ2 C _ K hC hK tg _ _ M2 _ _ htg (sp_la_le _ _) (sp_lo_le C K cb i)) zc_X4_53 rfl dX4_run_94 rfl rfl rfl rfl rfl rfl (fun r3 σ3 h3 => ?_)
      refine zr_pop dX4_run_97 rfl ?_
      refine zr_iinc dX4_run_98 rfl (kc_inc (i)) rfl ?_
      refine zr_goto 72 dX4_run_101 (by decide) ?_
      exact ih σ3 ⟨h3.2.1, fun k hk => (h3.2.2 k hk).trans (f2 k hk)⟩
  rintro σ2 ⟨M2, f2⟩
  refine zr_iload dX4_run_72 rfl ?_
  refine zr_iload dX4_run_74 rfl ?_
  refine zr_icmp_ge 104 dX4_run_76 (by decide) (fun h => ?_) (fun h => ?_)
  rotate_left
  · exact absurd (Int32.le_refl _) h
  refine zr_iconst (v := 0) dX4_run_104 kc_iconst_0 ?_
  refine zr_istore dX4_run_105 (by decide) rfl ?_
  refine zl_up (τ := gz_Mm) 3 (fun i t => rx_M 42 t C (sp_it C K tg sp_f3 i (sp_mB C K tg m ib cb)) K tg (σ 42 7) (17 + sp_len K + i) ∧ ∀ k, (k < 42 ∨ 46 < k) → t k = σp k) (fun i t => gz_R 4 yX4_run cX4_run 8 (some .int) 0 0 107 [some (.ref 39), some (.ref 42), some (.int (nI ib)), some (.int (nI cb)), some (.ref 47), some (.int (σ 42 7)), some (.int (nI (sp_len K))), some (.int (nI i))] [] (gz_mk L t) Q) ?_ ?_ 0 σ2 (Nat.zero_le _) ⟨M2, f2⟩
  rotate_left
  · rintro i σ3 hi ⟨M3, f3⟩ ih
    obtain ⟨a1, a2⟩ := tb_l3 i hi
    refine zr_iload dX4_run_107 rfl ?_
    refine zr_gets (j := 9) rfl (by decide) zs_X4_63 dX4_run_109 ?_
    refine zt_alen dX4_run_112 rfl ?_
    refine zr_icmp_ge 134 dX4_run_113 (by decide) (fun h => ?_) (fun h => ?_)
    · exact absurd h (nI_ge hi (by omega))
    · refine zr_aload_n dX4_run_116 rfl ?_
      refine zr_gets (j := 9) rfl (by decide) zs_X4_63 dX4_run_117 ?_
      refine zr_iload dX4_run_120 rfl ?_
      refine zt_tabN dX4_run_122 rfl rfl (hi) (a1) ?_
      refine zr_iconst (v := 0) dX4_run_123 kc_iconst_0 ?_
      refine zt_cVi (As := [_, _]) (ca_tick_42 L σ3 C _ K hC hK tg _ _ M3 _ 0 htg a2 (by omega)) zc_X4_53 rfl dX4_run_124 rfl rfl rfl rfl rfl rfl (fun r4 σ4 h4 => ?_)
      refine zr_pop dX4_run_127 rfl ?_
      refine zr_iinc dX4_run_128 rfl (kc_inc (i)) rfl ?_
      refine zr_goto 107 dX4_run_131 (by decide) ?_
      exact ih σ4 ⟨h4.2.1, fun k hk => (h4.2.2 k hk).trans (f3 k hk)⟩
  rintro σ3 ⟨M3, f3⟩
  refine zr_iload dX4_run_107 rfl ?_
  refine zr_gets (j := 9) rfl (by decide) zs_X4_63 dX4_run_109 ?_
  refine zt_alen dX4_run_112 rfl ?_
  refine zr_icmp_ge 134 dX4_run_113 (by decide) (fun h => ?_) (fun h => ?_)
  rotate_left
  · exact absurd (Int32.le_refl _) h
  refine zr_aload dX4_run_134 rfl ?_
  refine zr_aload_n dX4_run_136 rfl ?_
  refine zt_getr zg_X4_37 dX4_run_137 rfl rfl rfl ?_
  refine zt_cVv (As := [_]) (ca_look_1 L σ3 C _ hC M3.2.2.2.1 M3.1 M3.2.2.1) zc_X4_66 rfl dX4_run_140 rfl rfl rfl rfl rfl rfl (fun σ4 h4 => ?_)
  obtain ⟨f4, e4, v4⟩ := h4
  have M4 : rx_M 42 σ4 C (sp_mC C K tg m ib cb) K tg (σ 42 7) (20 + sp_len K) := ⟨M3.1.kept (fun k h1 h2 => f4 k (by omega) (by omega) (by omega)), M3.2.1.kept (fun k h1 h2 => f4 k (by omega) (by omega) (by omega)), M3.2.2.1.kept (fun k h1 h2 => f4 k (by omega) (by omega) (by omega)), M3.2.2.2.1, (congrFun (f4 42 (by decide) (by decide) (by decide)) 5).trans M3.2.2.2.2.1, (congrFun (f4 42 (by decide) (by decide) (by decide)) 7).trans (by rw [M3.2.2.2.2.2, show 17 + sp_len K + 3 = 20 + sp_len K by omega])⟩
  refine zr_aload_n dX4_run_143 rfl ?_
  refine zr_iconst (v := 0) dX4_run_144 kc_iconst_0 ?_
  refine zr_iconst (v := 0) dX4_run_145 kc_iconst_0 ?_
  refine zt_cVi (As := [_, _]) (ca_tick_42 L σ4 C _ K hC hK tg _ _ M4 0 0 htg (by omega) (by omega)) zc_X4_53 rfl dX4_run_146 rfl rfl rfl rfl rfl rfl (fun r5' σ5 h5 => ?_)
  refine zr_pop dX4_run_149 rfl ?_
  refine zr_iconst (v := 0) dX4_run_150 kc_iconst_0 ?_
  refine zr_istore dX4_run_151 (by decide) rfl ?_
  obtain ⟨-, M5, f5⟩ := h5
  have g4 : ∀ k, (k < 42 ∨ 46 < k) → k ≠ 47 → k ≠ 48 → σ4 k = σp k := fun k h1 h2 h3 => (f4 k (by omega) h2 h3).trans (f3 k h1)
  refine zl_up (τ := gz_Mm) (sp_len K) (fun i t => rx_M 42 t C (sp_mE C K tg m ib cb i) K tg (σ 42 7) (21 + sp_len K + i) ∧ (∀ k, (k < 42 ∨ 46 < k) → k ≠ 49 → t k = σ4 k) ∧ ∀ j, j < i → t 49 j = sp_ou C K tg m ib cb j) (fun i t => gz_R 4 yX4_run cX4_run 8 (some .int) 0 0 153 [some (.ref 39), some (.ref 42), some (.int (nI ib)), some (.int (nI cb)), some (.ref 47), some (.int (σ 42 7)), some (.int (nI (sp_len K))), some (.int (nI i))] [] (gz_mk L t) Q) ?_ ?_ 0 σ5 (Nat.zero_le _) ⟨by rw [show 21 + sp_len K + 0 = 20 + sp_len K + 1 by omega]; exact M5, fun k h1 _ => f5 k h1, fun j hj => absurd hj (Nat.not_lt_zero j)⟩
  rotate_left
  · rintro i σ6 hi ⟨M6, f6, v6⟩ ih
    refine zr_iload dX4_run_153 rfl ?_
    refine zr_iload dX4_run_155 rfl ?_
    refine zr_icmp_ge 186 dX4_run_157 (by decide) (fun h => ?_) (fun h => ?_)
    · exact absurd h (nI_ge hi (by omega))
    · refine zr_aload dX4_run_160 rfl ?_
      refine zt_getr zg_X4_72 dX4_run_162 rfl rfl rfl ?_
      refine zr_iload dX4_run_165 rfl ?_
      refine zr_aload_n dX4_run_167 rfl ?_
      refine zr_iload dX4_run_168 rfl ?_
      refine zr_iload dX4_run_170 rfl ?_
      refine zt_callSi (As := [_, _]) (ca_leadAt L σ6 i (sp_len K) hi (by omega)) zc_X4_60 rfl dX4_run_172 rfl rfl rfl ?_
      refine zr_iconst (v := 0) dX4_run_175 kc_iconst_0 ?_
      refine zt_cVi (As := [_, _]) (ca_tick_42 L σ6 C _ K hC hK tg _ _ M6 _ 0 htg (sp_la_le _ _) (by omega)) zc_X4_53 rfl dX4_run_176 rfl rfl rfl rfl rfl rfl (fun r7 σ7 h7 => ?_)
      obtain ⟨e7, M7, f7⟩ := h7
      refine zt_istN dX4_run_179 rfl rfl rfl (by omega) ?_
      refine zr_iinc dX4_run_180 rfl (kc_inc (i)) rfl ?_
      refine zr_goto 153 dX4_run_183 (by decide) ?_
      refine ih _ ⟨⟨M7.1.kept (fun k h1 h2 => gz_wr_ne (by omega)), M7.2.1.kept (fun k h1 h2 => gz_wr_ne (by omega)), M7.2.2.1.kept (fun k h1 h2 => gz_wr_ne (by omega)), M7.2.2.2.1, (congrFun (gz_wr_ne (by decide)) 5).trans M7.2.2.2.2.1, (congrFun (gz_wr_ne (by decide)) 7).trans M7.2.2.2.2.2⟩, fun k h1 h2 => (gz_wr_ne h2).trans ((f7 k h1).trans (f6 k h1 h2)), fun j hj => ?_⟩
      rw [gz_wr_eq]
      by_cases e : j = i
      · subst e
        simp only [upd, if_true]
        exact e7
      · rw [pk_un e, f7 49 (by decide)]
        exact v6 j (by omega)
  rintro σ6 ⟨M6, f6, v6⟩
  refine zr_iload dX4_run_153 rfl ?_
  refine zr_iload dX4_run_155 rfl ?_
  refine zr_icmp_ge 186 dX4_run_157 (by decide) (fun h => ?_) (fun h => ?_)
  rotate_left
  · exact absurd (Int32.le_refl _) h
  refine zr_aload dX4_run_186 rfl ?_
  refine zr_iload dX4_run_188 rfl ?_
  refine zt_put zp_X4_75 dX4_run_190 rfl rfl rfl rfl ?_
  have M6' : rx_M 42 (gz_wr σ6 47 3 (nI (sp_len K))) C (sp_mE C K tg m ib cb (sp_len K)) K tg (σ 42 7) (21 + 2 * sp_len K) := ⟨M6.1.kept (fun k h1 h2 => gz_wr_ne (by omega)), M6.2.1.kept (fun k h1 h2 => gz_wr_ne (by omega)), M6.2.2.1.kept (fun k h1 h2 => gz_wr_ne (by omega)), M6.2.2.2.1, (congrFun (gz_wr_ne (by decide)) 5).trans M6.2.2.2.2.1, (congrFun (gz_wr_ne (by decide)) 7).trans (by rw [M6.2.2.2.2.2, show 21 + sp_len K + sp_len K = 21 + 2 * sp_len K by omega])⟩
  refine zr_aload_n dX4_run_193 rfl ?_
  refine zr_iconst (v := 1) dX4_run_194 kc_iconst_1 ?_
  refine zr_iconst (v := 0) dX4_run_195 kc_iconst_0 ?_
  refine zt_cVi (As := [_, _]) (ca_tick_42 L _ C _ K hC hK tg _ _ M6' 1 0 htg (by omega) (by omega)) zc_X4_53 rfl dX4_run_196 rfl rfl rfl rfl rfl rfl (fun r8 σ8 h8' => ?_)
  refine zr_pop dX4_run_199 rfl ?_
  obtain ⟨-, M8, f8⟩ := h8'
  refine zr_aload_n dX4_run_200 rfl ?_
  refine zr_iconst (v := 0) dX4_run_201 kc_iconst_0 ?_
  refine zr_iconst (v := 0) dX4_run_202 kc_iconst_0 ?_
  refine zt_cVi (As := [_, _]) (ca_tick_42 L _ C _ K hC hK tg _ _ M8 0 0 htg (by omega) (by omega)) zc_X4_53 rfl dX4_run_203 rfl rfl rfl rfl rfl rfl (fun r9 σ9 h9 => ?_)
  refine zr_pop dX4_run_206 rfl ?_
  refine zr_aload_n dX4_run_207 rfl ?_
  refine zt_geti zg_X4_19 dX4_run_208 rfl rfl rfl ?_
  refine zr_top (h9.2.1.2.2.2.2.2) ?_
  refine zr_iload dX4_run_211 rfl ?_
  refine zr_isub dX4_run_213 ?_
  refine zr_top (i32_c _ _) ?_
  obtain ⟨-, M9, f9⟩ := h9
  have g9 : ∀ k, (k < 42 ∨ 46 < k) → σ9 k = gz_wr σ6 47 3 (nI (sp_len K)) k := fun k hk => (f9 k hk).trans (f8 k hk)
  refine zr_iret dX4_run_214 rfl (hQ _ _ ⟨by rw [show 21 + 2 * sp_len K + 1 + 1 = 23 + 2 * sp_len K by omega], by rw [show 23 + 2 * sp_len K = 21 + 2 * sp_len K + 1 + 1 by omega]; exact M9, fun k h1 h2 h3 h4 h5 => ?_, ?_, ?_, fun i hi => ?_, fun i hi => ?_⟩)
  · rw [g9 k h1, gz_wr_ne h3, f6 k h1 h5, g4 k h1 h3 h4, fp k h2, f1 k h1]
  · rw [g9 47 (by decide)]
    simp only [gz_wr, upd, if_true, show ¬ (2 : Nat) = 3 by decide, if_false]
    rw [f6 47 (by decide) (by decide)]
    exact e4
  · rw [g9 47 (by decide)]
    simp [gz_wr, upd]
  · rw [g9 48 (by decide), gz_wr_ne (by decide), f6 48 (by decide) (by decide)]
    exact v4 i hi
  · rw [g9 49 (by decide), gz_wr_ne (by decide)]
    exact v6 i hi
theorem ca_run_2 (L : Nat) (σ : gz_Mm) (C m : sp_T) (K : sp_K) (hC : sp_wf C) (hm : sp_wm m) (hK : sp_wk C K) (rC : rx_C σ C) (rK : rx_K σ C K) (rM : rx_m σ 42 m) (tg ib cb : Nat) (htg : tg < 65536) (r5 : σ 42 5 = nI tg) (hib : ib < 2 ^ 31) (hcb : cb < 2 ^ 31) :
    gz_Gi 4 yX4_run cX4_run 8 (some .int) L [.ref 39, .ref 42, .int (nI ib), .int (nI cb), .ref 50] σ (fun v σ' => v = nI (23 + 2 * sp_len K) ∧ rx_M 42 σ' C (sp_mF C K tg m ib cb) K tg (σ 42 7) (23 + 2 * sp_len K) ∧ (∀ k, (k < 42 ∨ 46 < k) → k ≠ 40 → k ≠ 50 → k ≠ 51 → k ≠ 52 → σ' k = σ k) ∧
      (σ' 50 2 = nI (C 9 3) ∧ σ' 50 3 = nI (sp_len K) ∧ (∀ i, i < C 9 3 → σ' 51 i = nI (sp_val C (sp_mC C K tg m ib cb) (C 8 i))) ∧ ∀ i, i < sp_len K → σ' 52 i = sp_ou C K tg m ib cb i)) := by
  have hl20 := hK.len20 hC
  have hln := sp_len_le hC hK
  have h8 := hC.1.2.2.2.1
  refine gz_Gi.of rfl rfl (fun Q hQ => ?_)
  refine zr_aload_n dX4_run_0 rfl ?_
  refine zt_geti zg_X4_19 dX4_run_1 rfl rfl rfl ?_
  refine zr_istore dX4_run_4 (by decide) rfl ?_
  refine zr_iconst (v := 1) dX4_run_6 kc_iconst_1 ?_
  refine zr_aload_n dX4_run_7 rfl ?_
  refine zt_getr zg_X4_15 dX4_run_8 rfl rfl rfl ?_
  refine zt_callVi (As := []) (ca_inAll L σ C K hC hK rK) zc_X4_25 rfl dX4_run_11 rfl rfl rfl rfl rfl rfl ?_
  refine zr_max zc_X4_31 dX4_run_14 rfl rfl ?_
  refine zr_top (sp_max hl20) ?_
  refine zr_istore dX4_run_17 (by decide) rfl ?_
  refine zr_aload_n dX4_run_19 rfl ?_
  refine zt_getr zg_X4_37 dX4_run_20 rfl rfl rfl ?_
  refine zr_iload_n dX4_run_23 rfl ?_
  refine zt_cVv (As := [_]) (ca_setInputs_42 L σ C m hC rC rM ib hib) zc_X4_41 rfl dX4_run_24 rfl rfl rfl rfl rfl rfl (fun σ0 h0 => ?_)
  obtain ⟨f0, r0⟩ := h0
  have M0 : rx_M 42 σ0 C (sp_it C K tg sp_fo 0 (sp_sin C m ib)) K tg (σ 42 7) 0 := ⟨rC.kept (fun k h1 h2 => f0 k (by omega)), rK.kept (fun k h1 h2 => f0 k (by omega)), r0, sp_sin_wm hm, (congrFun (f0 42 (by decide)) 5).trans r5, (congrFun (f0 42 (by decide)) 7).trans (Int32.add_zero _).symm⟩
  refine zr_iconst (v := 0) dX4_run_27 kc_iconst_0 ?_
  refine zr_istore dX4_run_28 (by decide) rfl ?_
  refine zl_up (τ := gz_Mm) 17 (fun i t => rx_M 42 t C (sp_it C K tg sp_fo i (sp_sin C m ib)) K tg (σ 42 7) i ∧ ∀ k, (k < 42 ∨ 46 < k) → t k = σ k) (fun i t => gz_R 4 yX4_run cX4_run 8 (some .int) 0 0 30 [some (.ref 39), some (.ref 42), some (.int (nI ib)), some (.int (nI cb)), some (.ref 50), some (.int (σ 42 7)), some (.int (nI (sp_len K))), some (.int (nI i))] [] (gz_mk L t) Q) ?_ ?_ 0 σ0 (Nat.zero_le _) ⟨M0, fun k hk => f0 k (by omega)⟩
  rotate_left
  · rintro i σ1 hi ⟨M1, f1⟩ ih
    obtain ⟨a1, a2⟩ := tb_ol i hi
    obtain ⟨b1, b2⟩ := tb_oi i hi
    refine zr_iload dX4_run_30 rfl ?_
    refine zr_gets (j := 7) rfl (by decide) zs_X4_47 dX4_run_32 ?_
    refine zt_alen dX4_run_35 rfl ?_
    refine zr_icmp_ge 62 dX4_run_36 (by decide) (fun h => ?_) (fun h => ?_)
    · exact absurd h (nI_ge hi (by omega))
    · refine zr_aload_n dX4_run_39 rfl ?_
      refine zr_gets (j := 7) rfl (by decide) zs_X4_47 dX4_run_40 ?_
      refine zr_iload dX4_run_43 rfl ?_
      refine zt_tabN dX4_run_45 rfl rfl (hi) (a1) ?_
      refine zr_gets (j := 8) rfl (by decide) zs_X4_50 dX4_run_46 ?_
      refine zr_iload dX4_run_49 rfl ?_
      refine zt_tabN dX4_run_51 rfl rfl (hi) (b1) ?_
      refine zt_cVi (As := [_, _]) (ca_tick_42 L σ1 C _ K hC hK tg _ i M1 _ _ htg a2 b2) zc_X4_53 rfl dX4_run_52 rfl rfl rfl rfl rfl rfl (fun r2 σ2 h2 => ?_)
      refine zr_pop dX4_run_55 rfl ?_
      refine zr_iinc dX4_run_56 rfl (kc_inc (i)) rfl ?_
      refine zr_goto 30 dX4_run_59 (by decide) ?_
      exact ih σ2 ⟨h2.2.1, fun k hk => (h2.2.2 k hk).trans (f1 k hk)⟩
  rintro σ1 ⟨M1, f1⟩
  refine zr_iload dX4_run_30 rfl ?_
  refine zr_gets (j := 7) rfl (by decide) zs_X4_47 dX4_run_32 ?_
  refine zt_alen dX4_run_35 rfl ?_
  refine zr_icmp_ge 62 dX4_run_36 (by decide) (fun h => ?_) (fun h => ?_)
  rotate_left
  · exact absurd (Int32.le_refl _) h
  refine zr_aload_n dX4_run_62 rfl ?_
  refine zr_iload_n dX4_run_63 rfl ?_
  refine zr_iload dX4_run_64 rfl ?_
  refine zt_cVv (As := [_, _]) (ca_plan L σ1 C K hC hK M1.2.1 cb hcb) zc_X4_56 rfl dX4_run_66 rfl rfl rfl rfl rfl rfl (fun σp hp => ?_)
  refine zr_iconst (v := 0) dX4_run_69 kc_iconst_0 ?_
  refine zr_istore dX4_run_70 (by decide) rfl ?_
  obtain ⟨fp, hld⟩ := hp
  have Mp : rx_M 42 σp C (sp_it C K tg (sp_fl C K cb) 0 (sp_mA C K tg m ib)) K tg (σ 42 7) (17 + 0) := ⟨M1.1.kept (fun k h1 h2 => fp k (by omega)), M1.2.1.kept (fun k h1 h2 => fp k (by omega)), M1.2.2.1.kept (fun k h1 h2 => fp k (by omega)), M1.2.2.2.1, (congrFun (fp 42 (by decide)) 5).trans M1.2.2.2.2.1, (congrFun (fp 42 (by decide)) 7).trans M1.2.2.2.2.2⟩
  refine zl_up (τ := gz_Mm) (sp_len K) (fun i t => rx_M 42 t C (sp_it C K tg (sp_fl C K cb) i (sp_mA C K tg m ib)) K tg (σ 42 7) (17 + i) ∧ ∀ k, (k < 42 ∨ 46 < k) → t k = σp k) (fun i t => gz_R 4 yX4_run cX4_run 8 (some .int) 0 0 72 [some (.ref 39), some (.ref 42), some (.int (nI ib)), some (.int (nI cb)), some (.ref 50), some (.int (σ 42 7)), some (.int (nI (sp_len K))), some (.int (nI i))] [] (gz_mk L t) Q) ?_ ?_ 0 σp (Nat.zero_le _) ⟨Mp, fun k hk => rfl⟩
  rotate_left
  · rintro i σ2 hi ⟨M2, f2⟩ ih
    refine zr_iload dX4_run_72 rfl ?_
    refine zr_iload dX4_run_74 rfl ?_
    refine zr_icmp_ge 104 dX4_run_76 (by decide) (fun h => ?_) (fun h => ?_)
    · exact absurd h (nI_ge hi (by omega))
    · refine zr_aload_n dX4_run_79 rfl ?_
      refine zr_iload dX4_run_80 rfl ?_
      refine zr_iload dX4_run_82 rfl ?_
      refine zt_callSi (As := [_, _]) (ca_leadAt L σ2 i (sp_len K) hi (by omega)) zc_X4_60 rfl dX4_run_84 rfl rfl rfl ?_
      refine zr_aload_n dX4_run_87 rfl ?_
      refine zt_getr zg_X4_9 dX4_run_88 rfl rfl rfl ?_
      refine zr_iload dX4_run_91 rfl ?_
      refine zt_ildN dX4_run_93 rfl rfl (by omega) ((congrFun (f2 40 (by decide)) i).trans (hld i hi)) ?_
      refine zt_cVi (As := [_, _]) (ca_tick_42 L σ2 C _ K hC hK tg _ _ M2 _ _ htg (sp_la_le _ _) (sp_lo_le C K cb i)) zc_X4_53 rfl dX4_run_94 rfl rfl rfl rfl rfl rfl (fun r3 σ3 h3 => ?_)
      refine zr_pop dX4_run_97 rfl ?_
      refine zr_iinc dX4_run_98 rfl (kc_inc (i)) rfl ?_
      refine zr_goto 72 dX4_run_101 (by decide) ?_
      exact ih σ3 ⟨h3.2.1, fun k hk => (h3.2.2 k hk).trans (f2 k hk)⟩
  rintro σ2 ⟨M2, f2⟩
  refine zr_iload dX4_run_72 rfl ?_
  refine zr_iload dX4_run_74 rfl ?_
  refine zr_icmp_ge 104 dX4_run_76 (by decide) (fun h => ?_) (fun h => ?_)
  rotate_left
  · exact absurd (Int32.le_refl _) h
  refine zr_iconst (v := 0) dX4_run_104 kc_iconst_0 ?_
  refine zr_istore dX4_run_105 (by decide) rfl ?_
  refine zl_up (τ := gz_Mm) 3 (fun i t => rx_M 42 t C (sp_it C K tg sp_f3 i (sp_mB C K tg m ib cb)) K tg (σ 42 7) (17 + sp_len K + i) ∧ ∀ k, (k < 42 ∨ 46 < k) → t k = σp k) (fun i t => gz_R 4 yX4_run cX4_run 8 (some .int) 0 0 107 [some (.ref 39), some (.ref 42), some (.int (nI ib)), some (.int (nI cb)), some (.ref 50), some (.int (σ 42 7)), some (.int (nI (sp_len K))), some (.int (nI i))] [] (gz_mk L t) Q) ?_ ?_ 0 σ2 (Nat.zero_le _) ⟨M2, f2⟩
  rotate_left
  · rintro i σ3 hi ⟨M3, f3⟩ ih
    obtain ⟨a1, a2⟩ := tb_l3 i hi
    refine zr_iload dX4_run_107 rfl ?_
    refine zr_gets (j := 9) rfl (by decide) zs_X4_63 dX4_run_109 ?_
    refine zt_alen dX4_run_112 rfl ?_
    refine zr_icmp_ge 134 dX4_run_113 (by decide) (fun h => ?_) (fun h => ?_)
    · exact absurd h (nI_ge hi (by omega))
    · refine zr_aload_n dX4_run_116 rfl ?_
      refine zr_gets (j := 9) rfl (by decide) zs_X4_63 dX4_run_117 ?_
      refine zr_iload dX4_run_120 rfl ?_
      refine zt_tabN dX4_run_122 rfl rfl (hi) (a1) ?_
      refine zr_iconst (v := 0) dX4_run_123 kc_iconst_0 ?_
      refine zt_cVi (As := [_, _]) (ca_tick_42 L σ3 C _ K hC hK tg _ _ M3 _ 0 htg a2 (by omega)) zc_X4_53 rfl dX4_run_124 rfl rfl rfl rfl rfl rfl (fun r4 σ4 h4 => ?_)
      refine zr_pop dX4_run_127 rfl ?_
      refine zr_iinc dX4_run_128 rfl (kc_inc (i)) rfl ?_
      refine zr_goto 107 dX4_run_131 (by decide) ?_
      exact ih σ4 ⟨h4.2.1, fun k hk => (h4.2.2 k hk).trans (f3 k hk)⟩
  rintro σ3 ⟨M3, f3⟩
  refine zr_iload dX4_run_107 rfl ?_
  refine zr_gets (j := 9) rfl (by decide) zs_X4_63 dX4_run_109 ?_
  refine zt_alen dX4_run_112 rfl ?_
  refine zr_icmp_ge 134 dX4_run_113 (by decide) (fun h => ?_) (fun h => ?_)
  rotate_left
  · exact absurd (Int32.le_refl _) h
  refine zr_aload dX4_run_134 rfl ?_
  refine zr_aload_n dX4_run_136 rfl ?_
  refine zt_getr zg_X4_37 dX4_run_137 rfl rfl rfl ?_
  refine zt_cVv (As := [_]) (ca_look_2 L σ3 C _ hC M3.2.2.2.1 M3.1 M3.2.2.1) zc_X4_66 rfl dX4_run_140 rfl rfl rfl rfl rfl rfl (fun σ4 h4 => ?_)
  obtain ⟨f4, e4, v4⟩ := h4
  have M4 : rx_M 42 σ4 C (sp_mC C K tg m ib cb) K tg (σ 42 7) (20 + sp_len K) := ⟨M3.1.kept (fun k h1 h2 => f4 k (by omega) (by omega) (by omega)), M3.2.1.kept (fun k h1 h2 => f4 k (by omega) (by omega) (by omega)), M3.2.2.1.kept (fun k h1 h2 => f4 k (by omega) (by omega) (by omega)), M3.2.2.2.1, (congrFun (f4 42 (by decide) (by decide) (by decide)) 5).trans M3.2.2.2.2.1, (congrFun (f4 42 (by decide) (by decide) (by decide)) 7).trans (by rw [M3.2.2.2.2.2, show 17 + sp_len K + 3 = 20 + sp_len K by omega])⟩
  refine zr_aload_n dX4_run_143 rfl ?_
  refine zr_iconst (v := 0) dX4_run_144 kc_iconst_0 ?_
  refine zr_iconst (v := 0) dX4_run_145 kc_iconst_0 ?_
  refine zt_cVi (As := [_, _]) (ca_tick_42 L σ4 C _ K hC hK tg _ _ M4 0 0 htg (by omega) (by omega)) zc_X4_53 rfl dX4_run_146 rfl rfl rfl rfl rfl rfl (fun r5' σ5 h5 => ?_)
  refine zr_pop dX4_run_149 rfl ?_
  refine zr_iconst (v := 0) dX4_run_150 kc_iconst_0 ?_
  refine zr_istore dX4_run_151 (by decide) rfl ?_
  obtain ⟨-, M5, f5⟩ := h5
  have g4 : ∀ k, (k < 42 ∨ 46 < k) → k ≠ 50 → k ≠ 51 → σ4 k = σp k := fun k h1 h2 h3 => (f4 k (by omega) h2 h3).trans (f3 k h1)
  refine zl_up (τ := gz_Mm) (sp_len K) (fun i t => rx_M 42 t C (sp_mE C K tg m ib cb i) K tg (σ 42 7) (21 + sp_len K + i) ∧ (∀ k, (k < 42 ∨ 46 < k) → k ≠ 52 → t k = σ4 k) ∧ ∀ j, j < i → t 52 j = sp_ou C K tg m ib cb j) (fun i t => gz_R 4 yX4_run cX4_run 8 (some .int) 0 0 153 [some (.ref 39), some (.ref 42), some (.int (nI ib)), some (.int (nI cb)), some (.ref 50), some (.int (σ 42 7)), some (.int (nI (sp_len K))), some (.int (nI i))] [] (gz_mk L t) Q) ?_ ?_ 0 σ5 (Nat.zero_le _) ⟨by rw [show 21 + sp_len K + 0 = 20 + sp_len K + 1 by omega]; exact M5, fun k h1 _ => f5 k h1, fun j hj => absurd hj (Nat.not_lt_zero j)⟩
  rotate_left
  · rintro i σ6 hi ⟨M6, f6, v6⟩ ih
    refine zr_iload dX4_run_153 rfl ?_
    refine zr_iload dX4_run_155 rfl ?_
    refine zr_icmp_ge 186 dX4_run_157 (by decide) (fun h => ?_) (fun h => ?_)
    · exact absurd h (nI_ge hi (by omega))
    · refine zr_aload dX4_run_160 rfl ?_
      refine zt_getr zg_X4_72 dX4_run_162 rfl rfl rfl ?_
      refine zr_iload dX4_run_165 rfl ?_
      refine zr_aload_n dX4_run_167 rfl ?_
      refine zr_iload dX4_run_168 rfl ?_
      refine zr_iload dX4_run_170 rfl ?_
      refine zt_callSi (As := [_, _]) (ca_leadAt L σ6 i (sp_len K) hi (by omega)) zc_X4_60 rfl dX4_run_172 rfl rfl rfl ?_
      refine zr_iconst (v := 0) dX4_run_175 kc_iconst_0 ?_
      refine zt_cVi (As := [_, _]) (ca_tick_42 L σ6 C _ K hC hK tg _ _ M6 _ 0 htg (sp_la_le _ _) (by omega)) zc_X4_53 rfl dX4_run_176 rfl rfl rfl rfl rfl rfl (fun r7 σ7 h7 => ?_)
      obtain ⟨e7, M7, f7⟩ := h7
      refine zt_istN dX4_run_179 rfl rfl rfl (by omega) ?_
      refine zr_iinc dX4_run_180 rfl (kc_inc (i)) rfl ?_
      refine zr_goto 153 dX4_run_183 (by decide) ?_
      refine ih _ ⟨⟨M7.1.kept (fun k h1 h2 => gz_wr_ne (by omega)), M7.2.1.kept (fun k h1 h2 => gz_wr_ne (by omega)), M7.2.2.1.kept (fun k h1 h2 => gz_wr_ne (by omega)), M7.2.2.2.1, (congrFun (gz_wr_ne (by decide)) 5).trans M7.2.2.2.2.1, (congrFun (gz_wr_ne (by decide)) 7).trans M7.2.2.2.2.2⟩, fun k h1 h2 => (gz_wr_ne h2).trans ((f7 k h1).trans (f6 k h1 h2)), fun j hj => ?_⟩
      rw [gz_wr_eq]
      by_cases e : j = i
      · subst e
        simp only [upd, if_true]
        exact e7
      · rw [pk_un e, f7 52 (by decide)]
        exact v6 j (by omega)
  rintro σ6 ⟨M6, f6, v6⟩
  refine zr_iload dX4_run_153 rfl ?_
  refine zr_iload dX4_run_155 rfl ?_
  refine zr_icmp_ge 186 dX4_run_157 (by decide) (fun h => ?_) (fun h => ?_)
  rotate_left
  · exact absurd (Int32.le_refl _) h
  refine zr_aload dX4_run_186 rfl ?_
  refine zr_iload dX4_run_188 rfl ?_
  refine zt_put zp_X4_75 dX4_run_190 rfl rfl rfl rfl ?_
  have M6' : rx_M 42 (gz_wr σ6 50 3 (nI (sp_len K))) C (sp_mE C K tg m ib cb (sp_len K)) K tg (σ 42 7) (21 + 2 * sp_len K) := ⟨M6.1.kept (fun k h1 h2 => gz_wr_ne (by omega)), M6.2.1.kept (fun k h1 h2 => gz_wr_ne (by omega)), M6.2.2.1.kept (fun k h1 h2 => gz_wr_ne (by omega)), M6.2.2.2.1, (congrFun (gz_wr_ne (by decide)) 5).trans M6.2.2.2.2.1, (congrFun (gz_wr_ne (by decide)) 7).trans (by rw [M6.2.2.2.2.2, show 21 + sp_len K + sp_len K = 21 + 2 * sp_len K by omega])⟩
  refine zr_aload_n dX4_run_193 rfl ?_
  refine zr_iconst (v := 1) dX4_run_194 kc_iconst_1 ?_
  refine zr_iconst (v := 0) dX4_run_195 kc_iconst_0 ?_
  refine zt_cVi (As := [_, _]) (ca_tick_42 L _ C _ K hC hK tg _ _ M6' 1 0 htg (by omega) (by omega)) zc_X4_53 rfl dX4_run_196 rfl rfl rfl rfl rfl rfl (fun r8 σ8 h8' => ?_)
  refine zr_pop dX4_run_199 rfl ?_
  obtain ⟨-, M8, f8⟩ := h8'
  refine zr_aload_n dX4_run_200 rfl ?_
  refine zr_iconst (v := 0) dX4_run_201 kc_iconst_0 ?_
  refine zr_iconst (v := 0) dX4_run_202 kc_iconst_0 ?_
  refine zt_cVi (As := [_, _]) (ca_tick_42 L _ C _ K hC hK tg _ _ M8 0 0 htg (by omega) (by omega)) zc_X4_53 rfl dX4_run_203 rfl rfl rfl rfl rfl rfl (fun r9 σ9 h9 => ?_)
  refine zr_pop dX4_run_206 rfl ?_
  refine zr_aload_n dX4_run_207 rfl ?_
  refine zt_geti zg_X4_19 dX4_run_208 rfl rfl rfl ?_
  refine zr_top (h9.2.1.2.2.2.2.2) ?_
  refine zr_iload dX4_run_211 rfl ?_
  refine zr_isub dX4_run_213 ?_
  refine zr_top (i32_c _ _) ?_
  obtain ⟨-, M9, f9⟩ := h9
  have g9 : ∀ k, (k < 42 ∨ 46 < k) → σ9 k = gz_wr σ6 50 3 (nI (sp_len K)) k := fun k hk => (f9 k hk).trans (f8 k hk)
  refine zr_iret dX4_run_214 rfl (hQ _ _ ⟨by rw [show 21 + 2 * sp_len K + 1 + 1 = 23 + 2 * sp_len K by omega], by rw [show 23 + 2 * sp_len K = 21 + 2 * sp_len K + 1 + 1 by omega]; exact M9, fun k h1 h2 h3 h4 h5 => ?_, ?_, ?_, fun i hi => ?_, fun i hi => ?_⟩)
  · rw [g9 k h1, gz_wr_ne h3, f6 k h1 h5, g4 k h1 h3 h4, fp k h2, f1 k h1]
  · rw [g9 50 (by decide)]
    simp only [gz_wr, upd, if_true, show ¬ (2 : Nat) = 3 by decide, if_false]
    rw [f6 50 (by decide) (by decide)]
    exact e4
  · rw [g9 50 (by decide)]
    simp [gz_wr, upd]
  · rw [g9 51 (by decide), gz_wr_ne (by decide), f6 51 (by decide) (by decide)]
    exact v4 i hi
  · rw [g9 52 (by decide), gz_wr_ne (by decide)]
    exact v6 i hi
