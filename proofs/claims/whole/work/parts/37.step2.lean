/-! ===== Controller.step, restart ===== -/
theorem ca_step_31 (L : Nat) (σ : gz_Mm) (C m : sp_T) (K : sp_K) (hC : sp_wf C) (hm : sp_wm m) (hK : sp_wk C K) (rC : rx_C σ C) (rK : rx_K σ C K) (rM : rx_m σ 31 m) (tg lead x : Nat) (htg : tg < 65536) (rt : σ 31 5 = nI tg) (hl : lead ≤ 1) (hx : x ≤ 1) :
    gz_Gi 3 yX3_step cX3_step 4 (some .int) L [.ref 31, .int (nI lead), .int (nI x)] σ (fun v σ' => v = (sp_tk C K tg m lead x).1 ∧ rx_m σ' 31 (sp_tk C K tg m lead x).2 ∧ (σ' 31 5 = σ 31 5 ∧ σ' 31 7 = σ 31 7 + 1) ∧ ∀ k, (k < 31 ∨ 35 < k) → σ' k = σ k) := by
  have hs := hm.2.2.2.2.1
  have rs := rM.2.2.2.2.1
  refine gz_Gi.of rfl rfl (fun Q hQ => ?_)
  have tail : ∀ (σ1 : gz_Mm) (out : Int32), out = (sp_do C K tg m x).1 → rx_m σ1 31 (sp_do C K tg m x).2 → σ1 31 5 = σ 31 5 → σ1 31 7 = σ 31 7 → (∀ k, (k < 31 ∨ 35 < k) → σ1 k = σ k) → gz_R 3 yX3_step cX3_step 4 (some .int) 0 0 152 [some (.ref 31), some (.int (nI lead)), some (.int (nI x)), some (.int out)] [] (gz_mk L σ1) Q := by
    intro σ1 out eo r1 g5 g7 gf
    have rs1 := r1.2.2.2.2.1
    rw [sp_do_st] at rs1
    have fin : ∀ n : Nat, n = sp_nx (m 2 2) lead → gz_R 3 yX3_step cX3_step 4 (some .int) 0 0 176 [some (.ref 31), some (.int (nI lead)), some (.int (nI x)), some (.int out)] [.int (nI n), .ref 31] (gz_mk L σ1) Q := by
      intro n en
      refine zt_put zp_X3_24 dX3_step_176 rfl rfl rfl rfl ?_
      refine zr_aload_n dX3_step_179 rfl ?_
      refine zr_dup dX3_step_180 rfl ?_
      refine zt_geti zg_X3_53 dX3_step_181 rfl rfl rfl ?_
      refine zr_iconst (v := 1) dX3_step_184 kc_iconst_1 ?_
      refine zr_iadd dX3_step_185 ?_
      refine zt_put zp_X3_53 dX3_step_186 rfl rfl rfl rfl ?_
      refine zr_iload_n dX3_step_189 rfl ?_
      refine zr_iret dX3_step_190 rfl (hQ _ _ ⟨eo, ?_, ⟨?_, ?_⟩, fun k hk => ?_⟩)
      · have h1 := (r1.ctl 1 n (by omega)).free 7 (gz_wr σ1 31 1 (nI n) 31 7 + 1) (by omega)
        rw [en] at h1 ⊢
        exact h1
      · simp [gz_wr, upd]
        exact g5
      · simp [gz_wr, upd, g7]
      · rw [gz_wr_ne (by omega), gz_wr_ne (by omega)]
        exact gf k hk
    refine zr_aload_n dX3_step_152 rfl ?_
    refine zr_iload_n dX3_step_153 rfl ?_
    rcases (show lead = 0 ∨ lead = 1 by omega) with e | e
    · subst e
      refine zr_if_ne 168 dX3_step_154 (by decide) (fun h => ?_) (fun h => ?_)
      · exact absurd rfl h
      · refine zr_gets (j := 5) rfl (by decide) zs_X3_47 dX3_step_157 ?_
        refine zr_aload_n dX3_step_160 rfl ?_
        refine zt_geti zg_X3_24 dX3_step_161 rfl rfl rfl ?_
        refine zr_top (rs1) ?_
        refine zt_tabN dX3_step_164 rfl rfl (Nat.lt_succ_of_le hs) (tb_n0 _ (Nat.lt_succ_of_le hs)) ?_
        refine zr_goto 176 dX3_step_165 (by decide) ?_
        exact fin _ rfl
    · subst e
      refine zr_if_ne 168 dX3_step_154 (by decide) (fun h => ?_) (fun h => ?_)
      · refine zr_gets (j := 6) rfl (by decide) zs_X3_50 dX3_step_168 ?_
        refine zr_aload_n dX3_step_171 rfl ?_
        refine zt_geti zg_X3_24 dX3_step_172 rfl rfl rfl ?_
        refine zr_top (rs1) ?_
        refine zt_tabN dX3_step_175 rfl rfl (Nat.lt_succ_of_le hs) (tb_n1 _ (Nat.lt_succ_of_le hs)) ?_
        exact fin _ rfl
      · exact absurd h (by decide)
  refine zr_iconst (v := (-1)) dX3_step_0 kc_iconst_m1 ?_
  refine zr_istore_n dX3_step_1 (by decide) rfl ?_
  refine zr_aload_n dX3_step_2 rfl ?_
  refine zt_geti zg_X3_24 dX3_step_3 rfl rfl rfl ?_
  refine zr_top (rs) ?_
  have plain : sp_do C K tg m x = (-1, m) → gz_R 3 yX3_step cX3_step 4 (some .int) 0 0 152 [some (.ref 31), some (.int (nI lead)), some (.int (nI x)), some (.int (-1))] [] (gz_mk L σ) Q := fun e => tail σ _ (by rw [e]) (by rw [e]; exact rM) rfl rfl (fun k _ => rfl)
  have ro := rM.2.2.2.2.2.1
  have ho := hm.2.2.2.2.2.1
  rcases (show m 2 2 = 0 ∨ m 2 2 = 1 ∨ m 2 2 = 2 ∨ m 2 2 = 3 ∨ m 2 2 = 4 ∨ m 2 2 = 5 ∨ m 2 2 = 6 ∨ m 2 2 = 7 ∨ m 2 2 = 8 ∨ m 2 2 = 9 ∨ m 2 2 = 10 ∨ m 2 2 = 11 ∨ m 2 2 = 12 ∨ m 2 2 = 13 ∨ m 2 2 = 14 ∨ m 2 2 = 15 by omega) with e | e | e | e | e | e | e | e | e | e | e | e | e | e | e | e
  · refine zr_top (by rw [e]) ?_
    refine zr_tin (off := 78) 84 dX3_step_6 (by decide) (by decide) (by decide) (by decide) ?_
    refine zr_aload_n dX3_step_84 rfl ?_
    refine zr_iconst (v := 4) dX3_step_85 kc_iconst_4 ?_
    refine zt_put zp_X3_15 dX3_step_86 rfl rfl rfl rfl ?_
    refine zr_goto 152 dX3_step_89 (by decide) ?_
    have ed : sp_do C K tg m x = (-1, sp_w m 2 3 4) := by simp [sp_do, e]
    exact tail _ _ (by rw [ed]) (by rw [ed]; exact rM.ctl 2 4 (by omega)) (by simp [gz_wr, upd]) (by simp [gz_wr, upd]) (fun k hk => gz_wr_ne (by omega))
  · refine zr_top (by rw [e]) ?_
    refine zr_tin (off := 146) 152 dX3_step_6 (by decide) (by decide) (by decide) (by decide) ?_
    exact plain (by simp [sp_do, e])
  · refine zr_top (by rw [e]) ?_
    refine zr_tin (off := 146) 152 dX3_step_6 (by decide) (by decide) (by decide) (by decide) ?_
    exact plain (by simp [sp_do, e])
  · refine zr_top (by rw [e]) ?_
    refine zr_tin (off := 86) 92 dX3_step_6 (by decide) (by decide) (by decide) (by decide) ?_
    have hb8 : (if m 2 3 < 4 then 7 else if m 2 3 = 5 then 1 else 0) < 8 := by split <;> (try split) <;> decide
    refine zr_aload_n dX3_step_92 rfl ?_
    refine zt_getr zg_X3_9 dX3_step_93 rfl rfl rfl ?_
    refine zr_gets (j := 4) rfl (by decide) zs_X3_27 dX3_step_96 ?_
    refine zr_aload_n dX3_step_99 rfl ?_
    refine zt_geti zg_X3_15 dX3_step_100 rfl rfl rfl ?_
    refine zr_top (ro) ?_
    refine zt_tabN dX3_step_103 rfl rfl (by omega) (tb_clk _ (by omega)) ?_
    refine zt_cVi (As := [_]) (ca_clock_31 L σ C m hC hm rC rM _ hb8) zc_X3_31 rfl dX3_step_104 rfl rfl rfl rfl rfl rfl (fun r1 σ1 h1 => ?_)
    refine zr_pop dX3_step_107 rfl ?_
    obtain ⟨-, hf, rM1⟩ := h1
    have ro1 : σ1 31 2 = nI (m 2 3) := (congrFun (hf 31 (by decide) (by decide)) 2).trans ro
    refine zr_aload_n dX3_step_108 rfl ?_
    refine zt_callVv (As := []) (ca_refill_31 L σ1 (m 2 3) (by omega) ro1) zc_X3_35 rfl dX3_step_109 rfl rfl rfl rfl rfl rfl ?_
    refine zr_goto 152 dX3_step_112 (by decide) ?_
    have ed : sp_do C K tg m x = (-1, sp_cat C tg m) := by simp [sp_do, e]
    have fr : ∀ k, (k < 31 ∨ 35 < k) → σ1 k = σ k := fun k hk => hf k (by omega) (by omega)
    have g5 : σ1 31 5 = σ 31 5 := congrFun (hf 31 (by decide) (by decide)) 5
    have g7 : σ1 31 7 = σ 31 7 := congrFun (hf 31 (by decide) (by decide)) 7
    by_cases o4 : m 2 3 = 4
    · rw [if_pos o4]
      rw [if_neg (by omega), if_neg (by omega), sp_clk0] at rM1
      refine tail _ _ (by rw [ed]) ?_ (by simp [gz_wr, upd]; exact g5) (by simp [gz_wr, upd]; exact g7) (fun k hk => (gz_wr_ne (by omega)).trans (fr k hk))
      rw [ed, g5, rt]
      have := rM1.ctl 6 tg (by omega)
      simpa [sp_cat, o4] using this
    · rw [if_neg o4]
      by_cases o5 : 5 < m 2 3
      · rw [if_pos o5]
        rw [if_neg (by omega), if_neg (by omega), sp_clk0] at rM1
        refine tail _ _ (by rw [ed]) ?_ (by simp [gz_wr, upd]; exact g5) (by simp [gz_wr, upd]; exact g7) (fun k hk => (gz_wr_ne (by omega)).trans (fr k hk))
        rw [ed]
        have := rM1.ctl 4 0 (by omega)
        simpa [sp_cat, show ¬ m 2 3 < 4 by omega, o4, show ¬ m 2 3 = 5 by omega, nI_0] using this
      · rw [if_neg o5]
        refine tail _ _ (by rw [ed]) ?_ g5 g7 fr
        rw [ed]
        by_cases o3 : m 2 3 < 4
        · rw [if_pos o3] at rM1
          simpa [sp_cat, o3] using rM1
        · rw [if_neg o3, if_pos (by omega)] at rM1
          simpa [sp_cat, o3, o4, show m 2 3 = 5 by omega] using rM1
  · refine zr_top (by rw [e]) ?_
    refine zr_tin (off := 109) 115 dX3_step_6 (by decide) (by decide) (by decide) (by decide) ?_
    refine zr_aload_n dX3_step_115 rfl ?_
    refine zr_iload_n dX3_step_116 rfl ?_
    refine zt_cVi (As := [_]) (ca_sbo_31 L σ C m K hC hm hK rC rK rM x hx) zc_X3_38 rfl dX3_step_117 rfl rfl rfl rfl rfl rfl (fun r1 σ1 h1 => ?_)
    refine zr_istore_n dX3_step_120 (by decide) rfl ?_
    refine zr_goto 152 dX3_step_121 (by decide) ?_
    obtain ⟨e1, rM1, ⟨g5, g7⟩, fr⟩ := h1
    have ed : sp_do C K tg m x = (nI (sp_so C K m x).1, (sp_so C K m x).2) := by simp [sp_do, e]
    exact tail _ _ (by rw [ed]; exact e1) (by rw [ed]; exact rM1) g5 g7 fr
  · refine zr_top (by rw [e]) ?_
    refine zr_tin (off := 146) 152 dX3_step_6 (by decide) (by decide) (by decide) (by decide) ?_
    exact plain (by simp [sp_do, e])
  · refine zr_top (by rw [e]) ?_
    refine zr_tin (off := 146) 152 dX3_step_6 (by decide) (by decide) (by decide) (by decide) ?_
    exact plain (by simp [sp_do, e])
  · refine zr_top (by rw [e]) ?_
    refine zr_tin (off := 146) 152 dX3_step_6 (by decide) (by decide) (by decide) (by decide) ?_
    exact plain (by simp [sp_do, e])
  · refine zr_top (by rw [e]) ?_
    refine zr_tin (off := 146) 152 dX3_step_6 (by decide) (by decide) (by decide) (by decide) ?_
    exact plain (by simp [sp_do, e])
  · refine zr_top (by rw [e]) ?_
    refine zr_tin (off := 146) 152 dX3_step_6 (by decide) (by decide) (by decide) (by decide) ?_
    exact plain (by simp [sp_do, e])
  · refine zr_top (by rw [e]) ?_
    refine zr_tin (off := 118) 124 dX3_step_6 (by decide) (by decide) (by decide) (by decide) ?_
    refine zr_aload_n dX3_step_124 rfl ?_
    refine zr_iconst (v := 1) dX3_step_125 kc_iconst_1 ?_
    refine zt_put zp_X3_41 dX3_step_126 rfl rfl rfl rfl ?_
    refine zr_goto 152 dX3_step_129 (by decide) ?_
    have ed : sp_do C K tg m x = (-1, sp_w m 2 4 1) := by simp [sp_do, e]
    exact tail _ _ (by rw [ed]) (by rw [ed]; exact rM.ctl 3 1 (by omega)) (by simp [gz_wr, upd]) (by simp [gz_wr, upd]) (fun k hk => gz_wr_ne (by omega))
  · refine zr_top (by rw [e]) ?_
    refine zr_tin (off := 126) 132 dX3_step_6 (by decide) (by decide) (by decide) (by decide) ?_
    refine zr_aload_n dX3_step_132 rfl ?_
    refine zr_iload_n dX3_step_133 rfl ?_
    refine zt_callVi (As := [_]) (ca_shiftRow_31 L σ (m 2 4) x (by have := hm.2.2.2.2.2.2.1; omega) (by omega) rM.2.2.2.2.2.2.1) zc_X3_44 rfl dX3_step_134 rfl rfl rfl rfl rfl rfl ?_
    refine zr_istore_n dX3_step_137 (by decide) rfl ?_
    refine zr_goto 152 dX3_step_138 (by decide) ?_
    have ed : sp_do C K tg m x = (nI (m 2 4 % 2), sp_w m 2 4 (m 2 4 / 2 + 4 * x)) := by simp [sp_do, e]
    exact tail _ _ (by rw [ed]) (by rw [ed]; exact rM.ctl 3 _ (by omega)) (by simp [gz_wr, upd]) (by simp [gz_wr, upd]) (fun k hk => gz_wr_ne (by omega))
  · refine zr_top (by rw [e]) ?_
    refine zr_tin (off := 146) 152 dX3_step_6 (by decide) (by decide) (by decide) (by decide) ?_
    exact plain (by simp [sp_do, e])
  · refine zr_top (by rw [e]) ?_
    refine zr_tin (off := 146) 152 dX3_step_6 (by decide) (by decide) (by decide) (by decide) ?_
    exact plain (by simp [sp_do, e])
  · refine zr_top (by rw [e]) ?_
    refine zr_tin (off := 146) 152 dX3_step_6 (by decide) (by decide) (by decide) (by decide) ?_
    exact plain (by simp [sp_do, e])
  · refine zr_top (by rw [e]) ?_
    refine zr_tin (off := 135) 141 dX3_step_6 (by decide) (by decide) (by decide) (by decide) ?_
    refine zr_aload_n dX3_step_141 rfl ?_
    refine zr_aload_n dX3_step_142 rfl ?_
    refine zt_geti zg_X3_41 dX3_step_143 rfl rfl rfl ?_
    refine zr_top (rM.2.2.2.2.2.2.1) ?_
    refine zt_put zp_X3_15 dX3_step_146 rfl rfl rfl rfl ?_
    refine zr_goto 152 dX3_step_149 (by decide) ?_
    have ed : sp_do C K tg m x = (-1, sp_w m 2 3 (m 2 4)) := by simp [sp_do, e]
    exact tail _ _ (by rw [ed]) (by rw [ed]; exact rM.ctl 2 _ (by omega)) (by simp [gz_wr, upd]) (by simp [gz_wr, upd]) (fun k hk => gz_wr_ne (by omega))
theorem ca_restart_31 (L : Nat) (σ : gz_Mm) (m : sp_T) (rM : rx_m σ 31 m) :
    gz_Gv 2 yX3_restart cX3_restart 1 none L [.ref 31] σ (fun σ' => rx_m σ' 31 (sp_w (sp_w (sp_row m 1 (fun _ => 2)) 2 2 0) 2 3 4) ∧ (σ' 31 5 = σ 31 5 ∧ σ' 31 7 = σ 31 7) ∧ ∀ k, (k < 31 ∨ 35 < k) → σ' k = σ k) := by
  refine gz_Gv.of rfl rfl (fun Q hQ => ?_)
  refine zr_aload_n dX3_restart_0 rfl ?_
  refine zt_getr zg_X3_9 dX3_restart_1 rfl rfl rfl ?_
  refine zt_cVv (As := []) (ca_forget_31 L σ m rM) zc_X3_19 rfl dX3_restart_4 rfl rfl rfl rfl rfl rfl (fun σ1 h1 => ?_)
  refine zr_aload_n dX3_restart_7 rfl ?_
  refine zr_iconst (v := 0) dX3_restart_8 kc_iconst_0 ?_
  refine zt_put zp_X3_24 dX3_restart_9 rfl rfl rfl rfl ?_
  refine zr_aload_n dX3_restart_12 rfl ?_
  refine zr_iconst (v := 4) dX3_restart_13 kc_iconst_4 ?_
  refine zt_put zp_X3_15 dX3_restart_14 rfl rfl rfl rfl ?_
  obtain ⟨hf, rM1⟩ := h1
  refine zr_vret dX3_restart_17 rfl (hQ _ ⟨(rM1.ctl 1 0 (by omega)).ctl 2 4 (by omega), ⟨?_, ?_⟩, fun k hk => ?_⟩)
  · simp [gz_wr, upd]
    exact congrFun (hf 31 (by decide)) 5
  · simp [gz_wr, upd]
    exact congrFun (hf 31 (by decide)) 7
  · rw [gz_wr_ne (by omega), gz_wr_ne (by omega)]
    exact hf k (by omega)
theorem ca_step_42 (L : Nat) (σ : gz_Mm) (C m : sp_T) (K : sp_K) (hC : sp_wf C) (hm : sp_wm m) (hK : sp_wk C K) (rC : rx_C σ C) (rK : rx_K σ C K) (rM : rx_m σ 42 m) (tg lead x : Nat) (htg : tg < 65536) (rt : σ 42 5 = nI tg) (hl : lead ≤ 1) (hx : x ≤ 1) :
    gz_Gi 3 yX3_step cX3_step 4 (some .int) L [.ref 42, .int (nI lead), .int (nI x)] σ (fun v σ' => v = (sp_tk C K tg m lead x).1 ∧ rx_m σ' 42 (sp_tk C K tg m lead x).2 ∧ (σ' 42 5 = σ 42 5 ∧ σ' 42 7 = σ 42 7 + 1) ∧ ∀ k, (k < 42 ∨ 46 < k) → σ' k = σ k) := by
  have hs := hm.2.2.2.2.1
  have rs := rM.2.2.2.2.1
  refine gz_Gi.of rfl rfl (fun Q hQ => ?_)
  have tail : ∀ (σ1 : gz_Mm) (out : Int32), out = (sp_do C K tg m x).1 → rx_m σ1 42 (sp_do C K tg m x).2 → σ1 42 5 = σ 42 5 → σ1 42 7 = σ 42 7 → (∀ k, (k < 42 ∨ 46 < k) → σ1 k = σ k) → gz_R 3 yX3_step cX3_step 4 (some .int) 0 0 152 [some (.ref 42), some (.int (nI lead)), some (.int (nI x)), some (.int out)] [] (gz_mk L σ1) Q := by
    intro σ1 out eo r1 g5 g7 gf
    have rs1 := r1.2.2.2.2.1
    rw [sp_do_st] at rs1
    have fin : ∀ n : Nat, n = sp_nx (m 2 2) lead → gz_R 3 yX3_step cX3_step 4 (some .int) 0 0 176 [some (.ref 42), some (.int (nI lead)), some (.int (nI x)), some (.int out)] [.int (nI n), .ref 42] (gz_mk L σ1) Q := by
      intro n en
      refine zt_put zp_X3_24 dX3_step_176 rfl rfl rfl rfl ?_
      refine zr_aload_n dX3_step_179 rfl ?_
      refine zr_dup dX3_step_180 rfl ?_
      refine zt_geti zg_X3_53 dX3_step_181 rfl rfl rfl ?_
      refine zr_iconst (v := 1) dX3_step_184 kc_iconst_1 ?_
      refine zr_iadd dX3_step_185 ?_
      refine zt_put zp_X3_53 dX3_step_186 rfl rfl rfl rfl ?_
      refine zr_iload_n dX3_step_189 rfl ?_
      refine zr_iret dX3_step_190 rfl (hQ _ _ ⟨eo, ?_, ⟨?_, ?_⟩, fun k hk => ?_⟩)
      · have h1 := (r1.ctl 1 n (by omega)).free 7 (gz_wr σ1 42 1 (nI n) 42 7 + 1) (by omega)
        rw [en] at h1 ⊢
        exact h1
      · simp [gz_wr, upd]
        exact g5
      · simp [gz_wr, upd, g7]
      · rw [gz_wr_ne (by omega), gz_wr_ne (by omega)]
        exact gf k hk
    refine zr_aload_n dX3_step_152 rfl ?_
    refine zr_iload_n dX3_step_153 rfl ?_
    rcases (show lead = 0 ∨ lead = 1 by omega) with e | e
    · subst e
      refine zr_if_ne 168 dX3_step_154 (by decide) (fun h => ?_) (fun h => ?_)
      · exact absurd rfl h
      · refine zr_gets (j := 5) rfl (by decide) zs_X3_47 dX3_step_157 ?_
        refine zr_aload_n dX3_step_160 rfl ?_
        refine zt_geti zg_X3_24 dX3_step_161 rfl rfl rfl ?_
        refine zr_top (rs1) ?_
        refine zt_tabN dX3_step_164 rfl rfl (Nat.lt_succ_of_le hs) (tb_n0 _ (Nat.lt_succ_of_le hs)) ?_
        refine zr_goto 176 dX3_step_165 (by decide) ?_
        exact fin _ rfl
    · subst e
      refine zr_if_ne 168 dX3_step_154 (by decide) (fun h => ?_) (fun h => ?_)
      · refine zr_gets (j := 6) rfl (by decide) zs_X3_50 dX3_step_168 ?_
        refine zr_aload_n dX3_step_171 rfl ?_
        refine zt_geti zg_X3_24 dX3_step_172 rfl rfl rfl ?_
        refine zr_top (rs1) ?_
        refine zt_tabN dX3_step_175 rfl rfl (Nat.lt_succ_of_le hs) (tb_n1 _ (Nat.lt_succ_of_le hs)) ?_
        exact fin _ rfl
      · exact absurd h (by decide)
  refine zr_iconst (v := (-1)) dX3_step_0 kc_iconst_m1 ?_
  refine zr_istore_n dX3_step_1 (by decide) rfl ?_
  refine zr_aload_n dX3_step_2 rfl ?_
  refine zt_geti zg_X3_24 dX3_step_3 rfl rfl rfl ?_
  refine zr_top (rs) ?_
  have plain : sp_do C K tg m x = (-1, m) → gz_R 3 yX3_step cX3_step 4 (some .int) 0 0 152 [some (.ref 42), some (.int (nI lead)), some (.int (nI x)), some (.int (-1))] [] (gz_mk L σ) Q := fun e => tail σ _ (by rw [e]) (by rw [e]; exact rM) rfl rfl (fun k _ => rfl)
  have ro := rM.2.2.2.2.2.1
  have ho := hm.2.2.2.2.2.1
  rcases (show m 2 2 = 0 ∨ m 2 2 = 1 ∨ m 2 2 = 2 ∨ m 2 2 = 3 ∨ m 2 2 = 4 ∨ m 2 2 = 5 ∨ m 2 2 = 6 ∨ m 2 2 = 7 ∨ m 2 2 = 8 ∨ m 2 2 = 9 ∨ m 2 2 = 10 ∨ m 2 2 = 11 ∨ m 2 2 = 12 ∨ m 2 2 = 13 ∨ m 2 2 = 14 ∨ m 2 2 = 15 by omega) with e | e | e | e | e | e | e | e | e | e | e | e | e | e | e | e
  · refine zr_top (by rw [e]) ?_
    refine zr_tin (off := 78) 84 dX3_step_6 (by decide) (by decide) (by decide) (by decide) ?_
    refine zr_aload_n dX3_step_84 rfl ?_
    refine zr_iconst (v := 4) dX3_step_85 kc_iconst_4 ?_
    refine zt_put zp_X3_15 dX3_step_86 rfl rfl rfl rfl ?_
    refine zr_goto 152 dX3_step_89 (by decide) ?_
    have ed : sp_do C K tg m x = (-1, sp_w m 2 3 4) := by simp [sp_do, e]
    exact tail _ _ (by rw [ed]) (by rw [ed]; exact rM.ctl 2 4 (by omega)) (by simp [gz_wr, upd]) (by simp [gz_wr, upd]) (fun k hk => gz_wr_ne (by omega))
  · refine zr_top (by rw [e]) ?_
    refine zr_tin (off := 146) 152 dX3_step_6 (by decide) (by decide) (by decide) (by decide) ?_
    exact plain (by simp [sp_do, e])
  · refine zr_top (by rw [e]) ?_
    refine zr_tin (off := 146) 152 dX3_step_6 (by decide) (by decide) (by decide) (by decide) ?_
    exact plain (by simp [sp_do, e])
  · refine zr_top (by rw [e]) ?_
    refine zr_tin (off := 86) 92 dX3_step_6 (by decide) (by decide) (by decide) (by decide) ?_
    have hb8 : (if m 2 3 < 4 then 7 else if m 2 3 = 5 then 1 else 0) < 8 := by split <;> (try split) <;> decide
    refine zr_aload_n dX3_step_92 rfl ?_
    refine zt_getr zg_X3_9 dX3_step_93 rfl rfl rfl ?_
    refine zr_gets (j := 4) rfl (by decide) zs_X3_27 dX3_step_96 ?_
    refine zr_aload_n dX3_step_99 rfl ?_
    refine zt_geti zg_X3_15 dX3_step_100 rfl rfl rfl ?_
    refine zr_top (ro) ?_
    refine zt_tabN dX3_step_103 rfl rfl (by omega) (tb_clk _ (by omega)) ?_
    refine zt_cVi (As := [_]) (ca_clock_42 L σ C m hC hm rC rM _ hb8) zc_X3_31 rfl dX3_step_104 rfl rfl rfl rfl rfl rfl (fun r1 σ1 h1 => ?_)
    refine zr_pop dX3_step_107 rfl ?_
    obtain ⟨-, hf, rM1⟩ := h1
    have ro1 : σ1 42 2 = nI (m 2 3) := (congrFun (hf 42 (by decide) (by decide)) 2).trans ro
    refine zr_aload_n dX3_step_108 rfl ?_
    refine zt_callVv (As := []) (ca_refill_42 L σ1 (m 2 3) (by omega) ro1) zc_X3_35 rfl dX3_step_109 rfl rfl rfl rfl rfl rfl ?_
    refine zr_goto 152 dX3_step_112 (by decide) ?_
    have ed : sp_do C K tg m x = (-1, sp_cat C tg m) := by simp [sp_do, e]
    have fr : ∀ k, (k < 42 ∨ 46 < k) → σ1 k = σ k := fun k hk => hf k (by omega) (by omega)
    have g5 : σ1 42 5 = σ 42 5 := congrFun (hf 42 (by decide) (by decide)) 5
    have g7 : σ1 42 7 = σ 42 7 := congrFun (hf 42 (by decide) (by decide)) 7
    by_cases o4 : m 2 3 = 4
    · rw [if_pos o4]
      rw [if_neg (by omega), if_neg (by omega), sp_clk0] at rM1
      refine tail _ _ (by rw [ed]) ?_ (by simp [gz_wr, upd]; exact g5) (by simp [gz_wr, upd]; exact g7) (fun k hk => (gz_wr_ne (by omega)).trans (fr k hk))
      rw [ed, g5, rt]
      have := rM1.ctl 6 tg (by omega)
      simpa [sp_cat, o4] using this
    · rw [if_neg o4]
      by_cases o5 : 5 < m 2 3
      · rw [if_pos o5]
        rw [if_neg (by omega), if_neg (by omega), sp_clk0] at rM1
        refine tail _ _ (by rw [ed]) ?_ (by simp [gz_wr, upd]; exact g5) (by simp [gz_wr, upd]; exact g7) (fun k hk => (gz_wr_ne (by omega)).trans (fr k hk))
        rw [ed]
        have := rM1.ctl 4 0 (by omega)
        simpa [sp_cat, show ¬ m 2 3 < 4 by omega, o4, show ¬ m 2 3 = 5 by omega, nI_0] using this
      · rw [if_neg o5]
        refine tail _ _ (by rw [ed]) ?_ g5 g7 fr
        rw [ed]
        by_cases o3 : m 2 3 < 4
        · rw [if_pos o3] at rM1
          simpa [sp_cat, o3] using rM1
        · rw [if_neg o3, if_pos (by omega)] at rM1
          simpa [sp_cat, o3, o4, show m 2 3 = 5 by omega] using rM1
  · refine zr_top (by rw [e]) ?_
    refine zr_tin (off := 109) 115 dX3_step_6 (by decide) (by decide) (by decide) (by decide) ?_
    refine zr_aload_n dX3_step_115 rfl ?_
    refine zr_iload_n dX3_step_116 rfl ?_
    refine zt_cVi (As := [_]) (ca_sbo_42 L σ C m K hC hm hK rC rK rM x hx) zc_X3_38 rfl dX3_step_117 rfl rfl rfl rfl rfl rfl (fun r1 σ1 h1 => ?_)
    refine zr_istore_n dX3_step_120 (by decide) rfl ?_
    refine zr_goto 152 dX3_step_121 (by decide) ?_
    obtain ⟨e1, rM1, ⟨g5, g7⟩, fr⟩ := h1
    have ed : sp_do C K tg m x = (nI (sp_so C K m x).1, (sp_so C K m x).2) := by simp [sp_do, e]
    exact tail _ _ (by rw [ed]; exact e1) (by rw [ed]; exact rM1) g5 g7 fr
  · refine zr_top (by rw [e]) ?_
    refine zr_tin (off := 146) 152 dX3_step_6 (by decide) (by decide) (by decide) (by decide) ?_
    exact plain (by simp [sp_do, e])
  · refine zr_top (by rw [e]) ?_
    refine zr_tin (off := 146) 152 dX3_step_6 (by decide) (by decide) (by decide) (by decide) ?_
    exact plain (by simp [sp_do, e])
  · refine zr_top (by rw [e]) ?_
    refine zr_tin (off := 146) 152 dX3_step_6 (by decide) (by decide) (by decide) (by decide) ?_
    exact plain (by simp [sp_do, e])
  · refine zr_top (by rw [e]) ?_
    refine zr_tin (off := 146) 152 dX3_step_6 (by decide) (by decide) (by decide) (by decide) ?_
    exact plain (by simp [sp_do, e])
  · refine zr_top (by rw [e]) ?_
    refine zr_tin (off := 146) 152 dX3_step_6 (by decide) (by decide) (by decide) (by decide) ?_
    exact plain (by simp [sp_do, e])
  · refine zr_top (by rw [e]) ?_
    refine zr_tin (off := 118) 124 dX3_step_6 (by decide) (by decide) (by decide) (by decide) ?_
    refine zr_aload_n dX3_step_124 rfl ?_
    refine zr_iconst (v := 1) dX3_step_125 kc_iconst_1 ?_
    refine zt_put zp_X3_41 dX3_step_126 rfl rfl rfl rfl ?_
    refine zr_goto 152 dX3_step_129 (by decide) ?_
    have ed : sp_do C K tg m x = (-1, sp_w m 2 4 1) := by simp [sp_do, e]
    exact tail _ _ (by rw [ed]) (by rw [ed]; exact rM.ctl 3 1 (by omega)) (by simp [gz_wr, upd]) (by simp [gz_wr, upd]) (fun k hk => gz_wr_ne (by omega))
  · refine zr_top (by rw [e]) ?_
    refine zr_tin (off := 126) 132 dX3_step_6 (by decide) (by decide) (by decide) (by decide) ?_
    refine zr_aload_n dX3_step_132 rfl ?_
    refine zr_iload_n dX3_step_133 rfl ?_
    refine zt_callVi (As := [_]) (ca_shiftRow_42 L σ (m 2 4) x (by have := hm.2.2.2.2.2.2.1; omega) (by omega) rM.2.2.2.2.2.2.1) zc_X3_44 rfl dX3_step_134 rfl rfl rfl rfl rfl rfl ?_
    refine zr_istore_n dX3_step_137 (by decide) rfl ?_
    refine zr_goto 152 dX3_step_138 (by decide) ?_
    have ed : sp_do C K tg m x = (nI (m 2 4 % 2), sp_w m 2 4 (m 2 4 / 2 + 4 * x)) := by simp [sp_do, e]
    exact tail _ _ (by rw [ed]) (by rw [ed]; exact rM.ctl 3 _ (by omega)) (by simp [gz_wr, upd]) (by simp [gz_wr, upd]) (fun k hk => gz_wr_ne (by omega))
  · refine zr_top (by rw [e]) ?_
    refine zr_tin (off := 146) 152 dX3_step_6 (by decide) (by decide) (by decide) (by decide) ?_
    exact plain (by simp [sp_do, e])
  · refine zr_top (by rw [e]) ?_
    refine zr_tin (off := 146) 152 dX3_step_6 (by decide) (by decide) (by decide) (by decide) ?_
    exact plain (by simp [sp_do, e])
  · refine zr_top (by rw [e]) ?_
    refine zr_tin (off := 146) 152 dX3_step_6 (by decide) (by decide) (by decide) (by decide) ?_
    exact plain (by simp [sp_do, e])
  · refine zr_top (by rw [e]) ?_
    refine zr_tin (off := 135) 141 dX3_step_6 (by decide) (by decide) (by decide) (by decide) ?_
    refine zr_aload_n dX3_step_141 rfl ?_
    refine zr_aload_n dX3_step_142 rfl ?_
    refine zt_geti zg_X3_41 dX3_step_143 rfl rfl rfl ?_
    refine zr_top (rM.2.2.2.2.2.2.1) ?_
    refine zt_put zp_X3_15 dX3_step_146 rfl rfl rfl rfl ?_
    refine zr_goto 152 dX3_step_149 (by decide) ?_
    have ed : sp_do C K tg m x = (-1, sp_w m 2 3 (m 2 4)) := by simp [sp_do, e]
    exact tail _ _ (by rw [ed]) (by rw [ed]; exact rM.ctl 2 _ (by omega)) (by simp [gz_wr, upd]) (by simp [gz_wr, upd]) (fun k hk => gz_wr_ne (by omega))
theorem ca_restart_42 (L : Nat) (σ : gz_Mm) (m : sp_T) (rM : rx_m σ 42 m) :
    gz_Gv 2 yX3_restart cX3_restart 1 none L [.ref 42] σ (fun σ' => rx_m σ' 42 (sp_w (sp_w (sp_row m 1 (fun _ => 2)) 2 2 0) 2 3 4) ∧ (σ' 42 5 = σ 42 5 ∧ σ' 42 7 = σ 42 7) ∧ ∀ k, (k < 42 ∨ 46 < k) → σ' k = σ k) := by
  refine gz_Gv.of rfl rfl (fun Q hQ => ?_)
  refine zr_aload_n dX3_restart_0 rfl ?_
  refine zt_getr zg_X3_9 dX3_restart_1 rfl rfl rfl ?_
  refine zt_cVv (As := []) (ca_forget_42 L σ m rM) zc_X3_19 rfl dX3_restart_4 rfl rfl rfl rfl rfl rfl (fun σ1 h1 => ?_)
  refine zr_aload_n dX3_restart_7 rfl ?_
  refine zr_iconst (v := 0) dX3_restart_8 kc_iconst_0 ?_
  refine zt_put zp_X3_24 dX3_restart_9 rfl rfl rfl rfl ?_
  refine zr_aload_n dX3_restart_12 rfl ?_
  refine zr_iconst (v := 4) dX3_restart_13 kc_iconst_4 ?_
  refine zt_put zp_X3_15 dX3_restart_14 rfl rfl rfl rfl ?_
  obtain ⟨hf, rM1⟩ := h1
  refine zr_vret dX3_restart_17 rfl (hQ _ ⟨(rM1.ctl 1 0 (by omega)).ctl 2 4 (by omega), ⟨?_, ?_⟩, fun k hk => ?_⟩)
  · simp [gz_wr, upd]
    exact congrFun (hf 42 (by decide)) 5
  · simp [gz_wr, upd]
    exact congrFun (hf 42 (by decide)) 7
  · rw [gz_wr_ne (by omega), gz_wr_ne (by omega)]
    exact hf k (by omega)
