/-! ===== the reference: the controller ===== -/
theorem rm_m.ctl {σ : gz_Mm} {C m : sp_T} (h : rm_m σ C m) (j n : Nat) (hj : j = 23 ∨ j = 24 ∨ j = 25 ∨ j = 26 ∨ j = 28) : rm_m (gz_wr σ 57 j (nI n)) C (sp_w m 2 (if j = 28 then 6 else j - 21) n) := by
  obtain ⟨a1, a2, a3, a4, a5, a6, a7, a8, a9⟩ := h
  unfold rm_m
  rw [gz_wr_ne (a := 72) (by omega), gz_wr_ne (a := 73) (by omega), gz_wr_eq]
  rcases hj with rfl | rfl | rfl | rfl | rfl <;> simp [sp_w, upd] <;> exact ⟨a1, a2, a3, a4, by first | assumption | exact ⟨by assumption, by assumption, by assumption, by assumption⟩⟩
/-- what a tick may change -/
def rm_F (σ σ' : gz_Mm) : Prop := (∀ k, k ≠ 57 → k ≠ 73 → k ≠ 74 → k ≠ 75 → σ' k = σ k) ∧ ∀ j, j ≠ 23 → j ≠ 24 → j ≠ 25 → j ≠ 26 → j ≠ 28 → σ' 57 j = σ 57 j
theorem rm_F.rf {σ : gz_Mm} : rm_F σ σ := ⟨fun _ _ _ _ _ => rfl, fun _ _ _ _ _ _ => rfl⟩
theorem rm_F.tr {σ σ' σ'' : gz_Mm} (h : rm_F σ σ') (h' : rm_F σ' σ'') : rm_F σ σ'' := ⟨fun k a b c d => (h'.1 k a b c d).trans (h.1 k a b c d), fun j a b c d e => (h'.2 j a b c d e).trans (h.2 j a b c d e)⟩
theorem rm_F.wr {σ : gz_Mm} (j : Nat) (x : Int32) (hj : j = 23 ∨ j = 24 ∨ j = 25 ∨ j = 26 ∨ j = 28) : rm_F σ (gz_wr σ 57 j x) := ⟨fun k a _ _ _ => gz_wr_ne a, fun i a b c d e => by rw [gz_wr_eq, pk_un (by omega)]⟩
theorem rm_F.of {σ σ' : gz_Mm} (h : ∀ k, k ≠ 73 → k ≠ 74 → k ≠ 75 → σ' k = σ k) : rm_F σ σ' := ⟨fun k _ b c d => h k b c d, fun j _ _ _ _ _ => congrFun (h 57 (by decide) (by decide) (by decide)) j⟩
theorem rm_F.C {σ σ' : gz_Mm} {C : sp_T} (h : rm_F σ σ') (rC : rm_C σ C) : rm_C σ' C := rC.kept (fun j hj => h.2 j (by omega) (by omega) (by omega) (by omega) (by omega)) (fun k h1 h2 _ _ _ _ => h.1 k (by omega) (by omega) (by omega) (by omega))
theorem rm_F.K {σ σ' : gz_Mm} {C : sp_T} {K : sp_K} (h : rm_F σ σ') (rK : rm_K σ C K) : rm_K σ' C K := rK.kept (fun k hk => h.1 k (by omega) (by omega) (by omega) (by omega))
theorem cm_shiftOrder (L : Nat) (σ : gz_Mm) (C m : sp_T) (K : sp_K) (hC : sp_wf C) (hm : sp_wm m) (hK : sp_wk C K) (rC : rm_C σ C) (rK : rm_K σ C K) (rM : rm_m σ C m) (x : Nat) (hx : x ≤ 1) :
    gz_Gi 3 yX9_shiftOrder cX9_shiftOrder 3 (some .int) L [.ref 57, .int (nI x)] σ (fun v σ' => v = nI (sp_so C K m x).1 ∧ rm_m σ' C (sp_so C K m x).2 ∧ rm_F σ σ') := by
  have ho := hm.2.2.2.2.2.1
  have ro := rM.2.2.2.2.2.1
  refine gz_Gi.of rfl rfl (fun Q hQ => ?_)
  by_cases h3 : m 2 3 < 3
  · have es : sp_so C K m x = (sp_out (sp_cv C m) (K (m 2 3)) x, sp_row m 1 (sp_sh C (sp_cv C m) (K (m 2 3)) x (m 1))) := by simp [sp_so, h3]
    rw [es] at hQ
    refine zr_iconst (v := (-1)) dX9_shiftOrder_0 kc_iconst_m1 ?_
    refine zr_istore_n dX9_shiftOrder_1 (by decide) rfl ?_
    refine zr_aload_n dX9_shiftOrder_2 rfl ?_
    refine zt_geti zg_X9_63 dX9_shiftOrder_3 rfl rfl rfl ?_
    refine zr_top (ro) ?_
    refine zr_iconst (v := 3) dX9_shiftOrder_6 kc_iconst_3 ?_
    refine zr_icmp_ge 23 dX9_shiftOrder_7 (by decide) (fun h => absurd h (nI_ge (b := 3) h3 (by omega))) (fun hp7 => ?_)
    refine zr_aload_n dX9_shiftOrder_10 rfl ?_
    refine zr_aload_n dX9_shiftOrder_11 rfl ?_
    refine zt_geti zg_X9_63 dX9_shiftOrder_12 rfl rfl rfl ?_
    refine zr_top (ro) ?_
    refine zr_iload_n dX9_shiftOrder_15 rfl ?_
    refine zt_cVi (As := [_, _]) (cm_shifted L σ C m K hC hm hK rC rK rM (m 2 3) x h3 (by omega)) zc_X9_185 rfl dX9_shiftOrder_16 rfl rfl rfl rfl rfl rfl (fun r1 σ1 h1 => ?_)
    refine zr_istore_n dX9_shiftOrder_19 (by decide) rfl ?_
    refine zr_goto 83 dX9_shiftOrder_20 (by decide) ?_
    refine zr_iload_n dX9_shiftOrder_83 rfl ?_
    obtain ⟨a1, a2, a3⟩ := h1
    exact zr_iret dX9_shiftOrder_84 rfl (hQ _ _ ⟨a1, a3, rm_F.of (fun k b c d => a2 k b d)⟩)
  · by_cases e3 : m 2 3 = 3
    · have es : sp_so C K m x = (sp_out (sp_cv C m) (sp_all K) x, sp_row m 1 (sp_sh C (sp_cv C m) (sp_all K) x (m 1))) := by simp [sp_so, e3]
      rw [es] at hQ
      refine zr_iconst (v := (-1)) dX9_shiftOrder_0 kc_iconst_m1 ?_
      refine zr_istore_n dX9_shiftOrder_1 (by decide) rfl ?_
      refine zr_aload_n dX9_shiftOrder_2 rfl ?_
      refine zt_geti zg_X9_63 dX9_shiftOrder_3 rfl rfl rfl ?_
      refine zr_top (ro) ?_
      refine zr_iconst (v := 3) dX9_shiftOrder_6 kc_iconst_3 ?_
      refine zr_icmp_ge 23 dX9_shiftOrder_7 (by decide) (fun hp7 => ?_) (fun h => absurd (nI_le (a := 3) (by omega) (by omega)) h)
      refine zr_aload_n dX9_shiftOrder_23 rfl ?_
      refine zt_geti zg_X9_63 dX9_shiftOrder_24 rfl rfl rfl ?_
      refine zr_top (ro) ?_
      refine zr_iconst (v := 3) dX9_shiftOrder_27 kc_iconst_3 ?_
      refine zr_icmp_ne 40 dX9_shiftOrder_28 (by decide) (fun h => absurd (by rw [e3]; rfl) h) (fun hp28 => ?_)
      refine zr_aload_n dX9_shiftOrder_31 rfl ?_
      refine zr_iload_n dX9_shiftOrder_32 rfl ?_
      refine zt_cVi (As := [_]) (cm_shiftAll L σ C m K hC hm hK rC rK rM x (by omega)) zc_X9_192 rfl dX9_shiftOrder_33 rfl rfl rfl rfl rfl rfl (fun r1 σ1 h1 => ?_)
      refine zr_istore_n dX9_shiftOrder_36 (by decide) rfl ?_
      refine zr_goto 83 dX9_shiftOrder_37 (by decide) ?_
      refine zr_iload_n dX9_shiftOrder_83 rfl ?_
      obtain ⟨a1, a2, a3⟩ := h1
      exact zr_iret dX9_shiftOrder_84 rfl (hQ _ _ ⟨a1, a3, rm_F.of (fun k b c d => a2 k b d)⟩)
    · by_cases e4 : m 2 3 = 4
      · have es : sp_so C K m x = (m 2 6 % 2, sp_w m 2 6 (m 2 6 / 2 + 32768 * x)) := by simp [sp_so, e4]
        rw [es] at hQ
        have h6 := hm.2.2.2.2.2.2.2.2
        refine zr_iconst (v := (-1)) dX9_shiftOrder_0 kc_iconst_m1 ?_
        refine zr_istore_n dX9_shiftOrder_1 (by decide) rfl ?_
        refine zr_aload_n dX9_shiftOrder_2 rfl ?_
        refine zt_geti zg_X9_63 dX9_shiftOrder_3 rfl rfl rfl ?_
        refine zr_top (ro) ?_
        refine zr_iconst (v := 3) dX9_shiftOrder_6 kc_iconst_3 ?_
        refine zr_icmp_ge 23 dX9_shiftOrder_7 (by decide) (fun hp7 => ?_) (fun h => absurd (nI_le (a := 3) (by omega) (by omega)) h)
        refine zr_aload_n dX9_shiftOrder_23 rfl ?_
        refine zt_geti zg_X9_63 dX9_shiftOrder_24 rfl rfl rfl ?_
        refine zr_top (ro) ?_
        refine zr_iconst (v := 3) dX9_shiftOrder_27 kc_iconst_3 ?_
        refine zr_icmp_ne 40 dX9_shiftOrder_28 (by decide) (fun hp28 => ?_) (fun h => absurd ((nI_eq (b := 3) (by omega) (by omega)).mp h) e3)
        refine zr_aload_n dX9_shiftOrder_40 rfl ?_
        refine zt_geti zg_X9_63 dX9_shiftOrder_41 rfl rfl rfl ?_
        refine zr_top (ro) ?_
        refine zr_iconst (v := 4) dX9_shiftOrder_44 kc_iconst_4 ?_
        refine zr_icmp_ne 73 dX9_shiftOrder_45 (by decide) (fun h => absurd (by rw [e4]; rfl) h) (fun hp45 => ?_)
        refine zr_aload_n dX9_shiftOrder_48 rfl ?_
        refine zt_geti zg_X9_195 dX9_shiftOrder_49 rfl rfl rfl ?_
        refine zr_top (rM.2.2.2.2.2.2.2.2) ?_
        refine zr_iconst (v := 1) dX9_shiftOrder_52 kc_iconst_1 ?_
        refine zr_iand dX9_shiftOrder_53 ?_
        refine zr_top (bt_and1 (by omega)) ?_
        refine zr_istore_n dX9_shiftOrder_54 (by decide) rfl ?_
        refine zr_aload_n dX9_shiftOrder_55 rfl ?_
        refine zr_aload_n dX9_shiftOrder_56 rfl ?_
        refine zt_geti zg_X9_195 dX9_shiftOrder_57 rfl rfl rfl ?_
        refine zr_top (rM.2.2.2.2.2.2.2.2) ?_
        refine zr_iconst (v := 1) dX9_shiftOrder_60 kc_iconst_1 ?_
        refine zr_ishr dX9_shiftOrder_61 ?_
        refine zr_iload_n dX9_shiftOrder_62 rfl ?_
        refine zr_bipush (v := 15) dX9_shiftOrder_63 kc_bipush_15 ?_
        refine zr_ishl dX9_shiftOrder_65 ?_
        refine zr_ior dX9_shiftOrder_66 ?_
        refine zr_top (bt_tag _ x h6 (by omega)) ?_
        refine zt_put zp_X9_195 dX9_shiftOrder_67 rfl rfl rfl rfl ?_
        refine zr_goto 83 dX9_shiftOrder_70 (by decide) ?_
        refine zr_iload_n dX9_shiftOrder_83 rfl ?_
        exact zr_iret dX9_shiftOrder_84 rfl (hQ _ _ ⟨rfl, rM.ctl 28 _ (by omega), rm_F.wr 28 _ (by omega)⟩)
      · have es : sp_so C K m x = (m 2 5, sp_w m 2 5 x) := by simp [sp_so, h3, e3, e4]
        rw [es] at hQ
        refine zr_iconst (v := (-1)) dX9_shiftOrder_0 kc_iconst_m1 ?_
        refine zr_istore_n dX9_shiftOrder_1 (by decide) rfl ?_
        refine zr_aload_n dX9_shiftOrder_2 rfl ?_
        refine zt_geti zg_X9_63 dX9_shiftOrder_3 rfl rfl rfl ?_
        refine zr_top (ro) ?_
        refine zr_iconst (v := 3) dX9_shiftOrder_6 kc_iconst_3 ?_
        refine zr_icmp_ge 23 dX9_shiftOrder_7 (by decide) (fun hp7 => ?_) (fun h => absurd (nI_le (a := 3) (by omega) (by omega)) h)
        refine zr_aload_n dX9_shiftOrder_23 rfl ?_
        refine zt_geti zg_X9_63 dX9_shiftOrder_24 rfl rfl rfl ?_
        refine zr_top (ro) ?_
        refine zr_iconst (v := 3) dX9_shiftOrder_27 kc_iconst_3 ?_
        refine zr_icmp_ne 40 dX9_shiftOrder_28 (by decide) (fun hp28 => ?_) (fun h => absurd ((nI_eq (b := 3) (by omega) (by omega)).mp h) e3)
        refine zr_aload_n dX9_shiftOrder_40 rfl ?_
        refine zt_geti zg_X9_63 dX9_shiftOrder_41 rfl rfl rfl ?_
        refine zr_top (ro) ?_
        refine zr_iconst (v := 4) dX9_shiftOrder_44 kc_iconst_4 ?_
        refine zr_icmp_ne 73 dX9_shiftOrder_45 (by decide) (fun hp45 => ?_) (fun h => absurd ((nI_eq (b := 4) (by omega) (by omega)).mp h) e4)
        refine zr_aload_n dX9_shiftOrder_73 rfl ?_
        refine zt_geti zg_X9_198 dX9_shiftOrder_74 rfl rfl rfl ?_
        refine zr_top (rM.2.2.2.2.2.2.2.1) ?_
        refine zr_istore_n dX9_shiftOrder_77 (by decide) rfl ?_
        refine zr_aload_n dX9_shiftOrder_78 rfl ?_
        refine zr_iload_n dX9_shiftOrder_79 rfl ?_
        refine zt_put zp_X9_198 dX9_shiftOrder_80 rfl rfl rfl rfl ?_
        refine zr_iload_n dX9_shiftOrder_83 rfl ?_
        exact zr_iret dX9_shiftOrder_84 rfl (hQ _ _ ⟨rfl, rM.ctl 26 _ (by omega), rm_F.wr 26 _ (by omega)⟩)
theorem cm_catch (L : Nat) (σ : gz_Mm) (C m : sp_T) (hC : sp_wf C) (hm : sp_wm m) (rC : rm_C σ C) (rM : rm_m σ C m) (tg : Nat) (rt : σ 57 27 = nI tg) :
    gz_Gv 4 yX9_catchOrder cX9_catchOrder 2 none L [.ref 57] σ (fun σ' => rm_m σ' C (sp_cat C tg m) ∧ rm_F σ σ') := by
  have ho := hm.2.2.2.2.2.1
  have ro := rM.2.2.2.2.2.1
  refine gz_Gv.of rfl rfl (fun Q hQ => ?_)
  by_cases h4 : m 2 3 < 4
  · rw [show sp_cat C tg m = sp_clk C m 7 by simp [sp_cat, h4]] at hQ
    refine zr_aload_n dX9_catchOrder_0 rfl ?_
    refine zt_geti zg_X9_63 dX9_catchOrder_1 rfl rfl rfl ?_
    refine zr_top (ro) ?_
    refine zr_iconst (v := 4) dX9_catchOrder_4 kc_iconst_4 ?_
    refine zr_icmp_ge 18 dX9_catchOrder_5 (by decide) (fun h => absurd h (nI_ge (b := 4) h4 (by omega))) (fun hp5 => ?_)
    refine zr_aload_n dX9_catchOrder_8 rfl ?_
    refine zr_bipush (v := 7) dX9_catchOrder_9 kc_bipush_7 ?_
    refine zt_cVi (As := [_]) (cm_clocked L σ C m hC hm rC rM 7 (by decide)) zc_X9_165 rfl dX9_catchOrder_11 rfl rfl rfl rfl rfl rfl (fun r1 σ1 h1 => ?_)
    refine zr_istore_n dX9_catchOrder_14 (by decide) rfl ?_
    refine zr_goto 59 dX9_catchOrder_15 (by decide) ?_
    obtain ⟨a1, a2, a3⟩ := h1
    exact zr_vret dX9_catchOrder_59 rfl (hQ _ ⟨a3, rm_F.of (fun k b c _ => a2 k b c)⟩)
  · by_cases e4 : m 2 3 = 4
    · rw [show sp_cat C tg m = sp_w m 2 6 tg by simp [sp_cat, e4]] at hQ
      refine zr_aload_n dX9_catchOrder_0 rfl ?_
      refine zt_geti zg_X9_63 dX9_catchOrder_1 rfl rfl rfl ?_
      refine zr_top (ro) ?_
      refine zr_iconst (v := 4) dX9_catchOrder_4 kc_iconst_4 ?_
      refine zr_icmp_ge 18 dX9_catchOrder_5 (by decide) (fun hp5 => ?_) (fun h => absurd (nI_le (a := 4) (by omega) (by omega)) h)
      refine zr_aload_n dX9_catchOrder_18 rfl ?_
      refine zt_geti zg_X9_63 dX9_catchOrder_19 rfl rfl rfl ?_
      refine zr_top (ro) ?_
      refine zr_iconst (v := 4) dX9_catchOrder_22 kc_iconst_4 ?_
      refine zr_icmp_ne 37 dX9_catchOrder_23 (by decide) (fun h => absurd (by rw [e4]; rfl) h) (fun hp23 => ?_)
      refine zr_aload_n dX9_catchOrder_26 rfl ?_
      refine zr_aload_n dX9_catchOrder_27 rfl ?_
      refine zt_geti zg_X9_188 dX9_catchOrder_28 rfl rfl rfl ?_
      refine zr_top (rt) ?_
      refine zt_put zp_X9_195 dX9_catchOrder_31 rfl rfl rfl rfl ?_
      refine zr_goto 59 dX9_catchOrder_34 (by decide) ?_
      exact zr_vret dX9_catchOrder_59 rfl (hQ _ ⟨rM.ctl 28 _ (by omega), rm_F.wr 28 _ (by omega)⟩)
    · by_cases e5 : m 2 3 = 5
      · rw [show sp_cat C tg m = sp_clk C m 1 by simp [sp_cat, e5]] at hQ
        refine zr_aload_n dX9_catchOrder_0 rfl ?_
        refine zt_geti zg_X9_63 dX9_catchOrder_1 rfl rfl rfl ?_
        refine zr_top (ro) ?_
        refine zr_iconst (v := 4) dX9_catchOrder_4 kc_iconst_4 ?_
        refine zr_icmp_ge 18 dX9_catchOrder_5 (by decide) (fun hp5 => ?_) (fun h => absurd (nI_le (a := 4) (by omega) (by omega)) h)
        refine zr_aload_n dX9_catchOrder_18 rfl ?_
        refine zt_geti zg_X9_63 dX9_catchOrder_19 rfl rfl rfl ?_
        refine zr_top (ro) ?_
        refine zr_iconst (v := 4) dX9_catchOrder_22 kc_iconst_4 ?_
        refine zr_icmp_ne 37 dX9_catchOrder_23 (by decide) (fun hp23 => ?_) (fun h => absurd ((nI_eq (b := 4) (by omega) (by omega)).mp h) e4)
        refine zr_aload_n dX9_catchOrder_37 rfl ?_
        refine zt_geti zg_X9_63 dX9_catchOrder_38 rfl rfl rfl ?_
        refine zr_top (ro) ?_
        refine zr_iconst (v := 5) dX9_catchOrder_41 kc_iconst_5 ?_
        refine zr_icmp_ne 54 dX9_catchOrder_42 (by decide) (fun h => absurd (by rw [e5]; rfl) h) (fun hp42 => ?_)
        refine zr_aload_n dX9_catchOrder_45 rfl ?_
        refine zr_iconst (v := 1) dX9_catchOrder_46 kc_iconst_1 ?_
        refine zt_cVi (As := [_]) (cm_clocked L σ C m hC hm rC rM 1 (by decide)) zc_X9_165 rfl dX9_catchOrder_47 rfl rfl rfl rfl rfl rfl (fun r1 σ1 h1 => ?_)
        refine zr_istore_n dX9_catchOrder_50 (by decide) rfl ?_
        refine zr_goto 59 dX9_catchOrder_51 (by decide) ?_
        obtain ⟨a1, a2, a3⟩ := h1
        exact zr_vret dX9_catchOrder_59 rfl (hQ _ ⟨a3, rm_F.of (fun k b c _ => a2 k b c)⟩)
      · rw [show sp_cat C tg m = sp_w m 2 5 0 by simp [sp_cat, h4, e4, e5]] at hQ
        refine zr_aload_n dX9_catchOrder_0 rfl ?_
        refine zt_geti zg_X9_63 dX9_catchOrder_1 rfl rfl rfl ?_
        refine zr_top (ro) ?_
        refine zr_iconst (v := 4) dX9_catchOrder_4 kc_iconst_4 ?_
        refine zr_icmp_ge 18 dX9_catchOrder_5 (by decide) (fun hp5 => ?_) (fun h => absurd (nI_le (a := 4) (by omega) (by omega)) h)
        refine zr_aload_n dX9_catchOrder_18 rfl ?_
        refine zt_geti zg_X9_63 dX9_catchOrder_19 rfl rfl rfl ?_
        refine zr_top (ro) ?_
        refine zr_iconst (v := 4) dX9_catchOrder_22 kc_iconst_4 ?_
        refine zr_icmp_ne 37 dX9_catchOrder_23 (by decide) (fun hp23 => ?_) (fun h => absurd ((nI_eq (b := 4) (by omega) (by omega)).mp h) e4)
        refine zr_aload_n dX9_catchOrder_37 rfl ?_
        refine zt_geti zg_X9_63 dX9_catchOrder_38 rfl rfl rfl ?_
        refine zr_top (ro) ?_
        refine zr_iconst (v := 5) dX9_catchOrder_41 kc_iconst_5 ?_
        refine zr_icmp_ne 54 dX9_catchOrder_42 (by decide) (fun hp42 => ?_) (fun h => absurd ((nI_eq (b := 5) (by omega) (by omega)).mp h) e5)
        refine zr_aload_n dX9_catchOrder_54 rfl ?_
        refine zr_iconst (v := 0) dX9_catchOrder_55 kc_iconst_0 ?_
        refine zt_put zp_X9_198 dX9_catchOrder_56 rfl rfl rfl rfl ?_
        exact zr_vret dX9_catchOrder_59 rfl (hQ _ ⟨rM.ctl 26 0 (by omega), rm_F.wr 26 _ (by omega)⟩)
theorem cm_onward (L : Nat) (σ : gz_Mm) (s lead : Nat) (hs : s < 16) (hl : lead < 2) : gz_F 0 yX9_onward cX9_onward 2 (some .int) L [.int (nI s), .int (nI lead)] σ (some (.int (nI (sp_nx s lead)))) σ := by
  refine gz_F.of rfl rfl ?_
  refine zr_iload_n dX9_onward_0 rfl ?_
  rcases (show s = 0 ∨ s = 1 ∨ s = 2 ∨ s = 3 ∨ s = 4 ∨ s = 5 ∨ s = 6 ∨ s = 7 ∨ s = 8 ∨ s = 9 ∨ s = 10 ∨ s = 11 ∨ s = 12 ∨ s = 13 ∨ s = 14 ∨ s = 15 by omega) with rfl | rfl | rfl | rfl | rfl | rfl | rfl | rfl | rfl | rfl | rfl | rfl | rfl | rfl | rfl | rfl
  · rcases (show lead = 0 ∨ lead = 1 by omega) with rfl | rfl
    · refine zr_tin (off := 75) 76 dX9_onward_1 (by decide) (by decide) (by decide) (by decide) ?_
      refine zr_iload_n dX9_onward_76 rfl ?_
      refine zr_if_ne 84 dX9_onward_77 (by decide) (fun h => absurd h (by decide)) (fun hp77 => ?_)
      refine zr_iconst (v := 1) dX9_onward_80 kc_iconst_1 ?_
      refine zr_goto 85 dX9_onward_81 (by decide) ?_
      exact zr_iret dX9_onward_85 rfl (⟨rfl, rfl⟩)
    · refine zr_tin (off := 75) 76 dX9_onward_1 (by decide) (by decide) (by decide) (by decide) ?_
      refine zr_iload_n dX9_onward_76 rfl ?_
      refine zr_if_ne 84 dX9_onward_77 (by decide) (fun hp77 => ?_) (fun h => absurd h (by decide))
      refine zr_iconst (v := 0) dX9_onward_84 kc_iconst_0 ?_
      exact zr_iret dX9_onward_85 rfl (⟨rfl, rfl⟩)
  · rcases (show lead = 0 ∨ lead = 1 by omega) with rfl | rfl
    · refine zr_tin (off := 85) 86 dX9_onward_1 (by decide) (by decide) (by decide) (by decide) ?_
      refine zr_iload_n dX9_onward_86 rfl ?_
      refine zr_if_ne 94 dX9_onward_87 (by decide) (fun h => absurd h (by decide)) (fun hp87 => ?_)
      refine zr_iconst (v := 1) dX9_onward_90 kc_iconst_1 ?_
      refine zr_goto 95 dX9_onward_91 (by decide) ?_
      exact zr_iret dX9_onward_95 rfl (⟨rfl, rfl⟩)
    · refine zr_tin (off := 85) 86 dX9_onward_1 (by decide) (by decide) (by decide) (by decide) ?_
      refine zr_iload_n dX9_onward_86 rfl ?_
      refine zr_if_ne 94 dX9_onward_87 (by decide) (fun hp87 => ?_) (fun h => absurd h (by decide))
      refine zr_iconst (v := 2) dX9_onward_94 kc_iconst_2 ?_
      exact zr_iret dX9_onward_95 rfl (⟨rfl, rfl⟩)
  · rcases (show lead = 0 ∨ lead = 1 by omega) with rfl | rfl
    · refine zr_tin (off := 95) 96 dX9_onward_1 (by decide) (by decide) (by decide) (by decide) ?_
      refine zr_iload_n dX9_onward_96 rfl ?_
      refine zr_if_ne 104 dX9_onward_97 (by decide) (fun h => absurd h (by decide)) (fun hp97 => ?_)
      refine zr_iconst (v := 3) dX9_onward_100 kc_iconst_3 ?_
      refine zr_goto 106 dX9_onward_101 (by decide) ?_
      exact zr_iret dX9_onward_106 rfl (⟨rfl, rfl⟩)
    · refine zr_tin (off := 95) 96 dX9_onward_1 (by decide) (by decide) (by decide) (by decide) ?_
      refine zr_iload_n dX9_onward_96 rfl ?_
      refine zr_if_ne 104 dX9_onward_97 (by decide) (fun hp97 => ?_) (fun h => absurd h (by decide))
      refine zr_bipush (v := 9) dX9_onward_104 kc_bipush_9 ?_
      exact zr_iret dX9_onward_106 rfl (⟨rfl, rfl⟩)
  · rcases (show lead = 0 ∨ lead = 1 by omega) with rfl | rfl
    · refine zr_tin (off := 106) 107 dX9_onward_1 (by decide) (by decide) (by decide) (by decide) ?_
      refine zr_iload_n dX9_onward_107 rfl ?_
      refine zr_if_ne 115 dX9_onward_108 (by decide) (fun h => absurd h (by decide)) (fun hp108 => ?_)
      refine zr_iconst (v := 4) dX9_onward_111 kc_iconst_4 ?_
      refine zr_goto 116 dX9_onward_112 (by decide) ?_
      exact zr_iret dX9_onward_116 rfl (⟨rfl, rfl⟩)
    · refine zr_tin (off := 106) 107 dX9_onward_1 (by decide) (by decide) (by decide) (by decide) ?_
      refine zr_iload_n dX9_onward_107 rfl ?_
      refine zr_if_ne 115 dX9_onward_108 (by decide) (fun hp108 => ?_) (fun h => absurd h (by decide))
      refine zr_iconst (v := 5) dX9_onward_115 kc_iconst_5 ?_
      exact zr_iret dX9_onward_116 rfl (⟨rfl, rfl⟩)
  · rcases (show lead = 0 ∨ lead = 1 by omega) with rfl | rfl
    · refine zr_tin (off := 116) 117 dX9_onward_1 (by decide) (by decide) (by decide) (by decide) ?_
      refine zr_iload_n dX9_onward_117 rfl ?_
      refine zr_if_ne 125 dX9_onward_118 (by decide) (fun h => absurd h (by decide)) (fun hp118 => ?_)
      refine zr_iconst (v := 4) dX9_onward_121 kc_iconst_4 ?_
      refine zr_goto 126 dX9_onward_122 (by decide) ?_
      exact zr_iret dX9_onward_126 rfl (⟨rfl, rfl⟩)
    · refine zr_tin (off := 116) 117 dX9_onward_1 (by decide) (by decide) (by decide) (by decide) ?_
      refine zr_iload_n dX9_onward_117 rfl ?_
      refine zr_if_ne 125 dX9_onward_118 (by decide) (fun hp118 => ?_) (fun h => absurd h (by decide))
      refine zr_iconst (v := 5) dX9_onward_125 kc_iconst_5 ?_
      exact zr_iret dX9_onward_126 rfl (⟨rfl, rfl⟩)
  · rcases (show lead = 0 ∨ lead = 1 by omega) with rfl | rfl
    · refine zr_tin (off := 126) 127 dX9_onward_1 (by decide) (by decide) (by decide) (by decide) ?_
      refine zr_iload_n dX9_onward_127 rfl ?_
      refine zr_if_ne 136 dX9_onward_128 (by decide) (fun h => absurd h (by decide)) (fun hp128 => ?_)
      refine zr_bipush (v := 6) dX9_onward_131 kc_bipush_6 ?_
      refine zr_goto 138 dX9_onward_133 (by decide) ?_
      exact zr_iret dX9_onward_138 rfl (⟨rfl, rfl⟩)
    · refine zr_tin (off := 126) 127 dX9_onward_1 (by decide) (by decide) (by decide) (by decide) ?_
      refine zr_iload_n dX9_onward_127 rfl ?_
      refine zr_if_ne 136 dX9_onward_128 (by decide) (fun hp128 => ?_) (fun h => absurd h (by decide))
      refine zr_bipush (v := 8) dX9_onward_136 kc_bipush_8 ?_
      exact zr_iret dX9_onward_138 rfl (⟨rfl, rfl⟩)
  · rcases (show lead = 0 ∨ lead = 1 by omega) with rfl | rfl
    · refine zr_tin (off := 138) 139 dX9_onward_1 (by decide) (by decide) (by decide) (by decide) ?_
      refine zr_iload_n dX9_onward_139 rfl ?_
      refine zr_if_ne 148 dX9_onward_140 (by decide) (fun h => absurd h (by decide)) (fun hp140 => ?_)
      refine zr_bipush (v := 6) dX9_onward_143 kc_bipush_6 ?_
      refine zr_goto 150 dX9_onward_145 (by decide) ?_
      exact zr_iret dX9_onward_150 rfl (⟨rfl, rfl⟩)
    · refine zr_tin (off := 138) 139 dX9_onward_1 (by decide) (by decide) (by decide) (by decide) ?_
      refine zr_iload_n dX9_onward_139 rfl ?_
      refine zr_if_ne 148 dX9_onward_140 (by decide) (fun hp140 => ?_) (fun h => absurd h (by decide))
      refine zr_bipush (v := 7) dX9_onward_148 kc_bipush_7 ?_
      exact zr_iret dX9_onward_150 rfl (⟨rfl, rfl⟩)
  · rcases (show lead = 0 ∨ lead = 1 by omega) with rfl | rfl
    · refine zr_tin (off := 150) 151 dX9_onward_1 (by decide) (by decide) (by decide) (by decide) ?_
      refine zr_iload_n dX9_onward_151 rfl ?_
      refine zr_if_ne 159 dX9_onward_152 (by decide) (fun h => absurd h (by decide)) (fun hp152 => ?_)
      refine zr_iconst (v := 4) dX9_onward_155 kc_iconst_4 ?_
      refine zr_goto 161 dX9_onward_156 (by decide) ?_
      exact zr_iret dX9_onward_161 rfl (⟨rfl, rfl⟩)
    · refine zr_tin (off := 150) 151 dX9_onward_1 (by decide) (by decide) (by decide) (by decide) ?_
      refine zr_iload_n dX9_onward_151 rfl ?_
      refine zr_if_ne 159 dX9_onward_152 (by decide) (fun hp152 => ?_) (fun h => absurd h (by decide))
      refine zr_bipush (v := 8) dX9_onward_159 kc_bipush_8 ?_
      exact zr_iret dX9_onward_161 rfl (⟨rfl, rfl⟩)
  · rcases (show lead = 0 ∨ lead = 1 by omega) with rfl | rfl
    · refine zr_tin (off := 161) 162 dX9_onward_1 (by decide) (by decide) (by decide) (by decide) ?_
      refine zr_iload_n dX9_onward_162 rfl ?_
      refine zr_if_ne 170 dX9_onward_163 (by decide) (fun h => absurd h (by decide)) (fun hp163 => ?_)
      refine zr_iconst (v := 1) dX9_onward_166 kc_iconst_1 ?_
      refine zr_goto 171 dX9_onward_167 (by decide) ?_
      exact zr_iret dX9_onward_171 rfl (⟨rfl, rfl⟩)
    · refine zr_tin (off := 161) 162 dX9_onward_1 (by decide) (by decide) (by decide) (by decide) ?_
      refine zr_iload_n dX9_onward_162 rfl ?_
      refine zr_if_ne 170 dX9_onward_163 (by decide) (fun hp163 => ?_) (fun h => absurd h (by decide))
      refine zr_iconst (v := 2) dX9_onward_170 kc_iconst_2 ?_
      exact zr_iret dX9_onward_171 rfl (⟨rfl, rfl⟩)
  · rcases (show lead = 0 ∨ lead = 1 by omega) with rfl | rfl
    · refine zr_tin (off := 171) 172 dX9_onward_1 (by decide) (by decide) (by decide) (by decide) ?_
      refine zr_iload_n dX9_onward_172 rfl ?_
      refine zr_if_ne 181 dX9_onward_173 (by decide) (fun h => absurd h (by decide)) (fun hp173 => ?_)
      refine zr_bipush (v := 10) dX9_onward_176 kc_bipush_10 ?_
      refine zr_goto 182 dX9_onward_178 (by decide) ?_
      exact zr_iret dX9_onward_182 rfl (⟨rfl, rfl⟩)
    · refine zr_tin (off := 171) 172 dX9_onward_1 (by decide) (by decide) (by decide) (by decide) ?_
      refine zr_iload_n dX9_onward_172 rfl ?_
      refine zr_if_ne 181 dX9_onward_173 (by decide) (fun hp173 => ?_) (fun h => absurd h (by decide))
      refine zr_iconst (v := 0) dX9_onward_181 kc_iconst_0 ?_
      exact zr_iret dX9_onward_182 rfl (⟨rfl, rfl⟩)
  · rcases (show lead = 0 ∨ lead = 1 by omega) with rfl | rfl
    · refine zr_tin (off := 182) 183 dX9_onward_1 (by decide) (by decide) (by decide) (by decide) ?_
      refine zr_iload_n dX9_onward_183 rfl ?_
      refine zr_if_ne 192 dX9_onward_184 (by decide) (fun h => absurd h (by decide)) (fun hp184 => ?_)
      refine zr_bipush (v := 11) dX9_onward_187 kc_bipush_11 ?_
      refine zr_goto 194 dX9_onward_189 (by decide) ?_
      exact zr_iret dX9_onward_194 rfl (⟨rfl, rfl⟩)
    · refine zr_tin (off := 182) 183 dX9_onward_1 (by decide) (by decide) (by decide) (by decide) ?_
      refine zr_iload_n dX9_onward_183 rfl ?_
      refine zr_if_ne 192 dX9_onward_184 (by decide) (fun hp184 => ?_) (fun h => absurd h (by decide))
      refine zr_bipush (v := 12) dX9_onward_192 kc_bipush_12 ?_
      exact zr_iret dX9_onward_194 rfl (⟨rfl, rfl⟩)
  · rcases (show lead = 0 ∨ lead = 1 by omega) with rfl | rfl
    · refine zr_tin (off := 194) 195 dX9_onward_1 (by decide) (by decide) (by decide) (by decide) ?_
      refine zr_iload_n dX9_onward_195 rfl ?_
      refine zr_if_ne 204 dX9_onward_196 (by decide) (fun h => absurd h (by decide)) (fun hp196 => ?_)
      refine zr_bipush (v := 11) dX9_onward_199 kc_bipush_11 ?_
      refine zr_goto 206 dX9_onward_201 (by decide) ?_
      exact zr_iret dX9_onward_206 rfl (⟨rfl, rfl⟩)
    · refine zr_tin (off := 194) 195 dX9_onward_1 (by decide) (by decide) (by decide) (by decide) ?_
      refine zr_iload_n dX9_onward_195 rfl ?_
      refine zr_if_ne 204 dX9_onward_196 (by decide) (fun hp196 => ?_) (fun h => absurd h (by decide))
      refine zr_bipush (v := 12) dX9_onward_204 kc_bipush_12 ?_
      exact zr_iret dX9_onward_206 rfl (⟨rfl, rfl⟩)
  · rcases (show lead = 0 ∨ lead = 1 by omega) with rfl | rfl
    · refine zr_tin (off := 206) 207 dX9_onward_1 (by decide) (by decide) (by decide) (by decide) ?_
      refine zr_iload_n dX9_onward_207 rfl ?_
      refine zr_if_ne 216 dX9_onward_208 (by decide) (fun h => absurd h (by decide)) (fun hp208 => ?_)
      refine zr_bipush (v := 13) dX9_onward_211 kc_bipush_13 ?_
      refine zr_goto 218 dX9_onward_213 (by decide) ?_
      exact zr_iret dX9_onward_218 rfl (⟨rfl, rfl⟩)
    · refine zr_tin (off := 206) 207 dX9_onward_1 (by decide) (by decide) (by decide) (by decide) ?_
      refine zr_iload_n dX9_onward_207 rfl ?_
      refine zr_if_ne 216 dX9_onward_208 (by decide) (fun hp208 => ?_) (fun h => absurd h (by decide))
      refine zr_bipush (v := 15) dX9_onward_216 kc_bipush_15 ?_
      exact zr_iret dX9_onward_218 rfl (⟨rfl, rfl⟩)
  · rcases (show lead = 0 ∨ lead = 1 by omega) with rfl | rfl
    · refine zr_tin (off := 218) 219 dX9_onward_1 (by decide) (by decide) (by decide) (by decide) ?_
      refine zr_iload_n dX9_onward_219 rfl ?_
      refine zr_if_ne 228 dX9_onward_220 (by decide) (fun h => absurd h (by decide)) (fun hp220 => ?_)
      refine zr_bipush (v := 13) dX9_onward_223 kc_bipush_13 ?_
      refine zr_goto 230 dX9_onward_225 (by decide) ?_
      exact zr_iret dX9_onward_230 rfl (⟨rfl, rfl⟩)
    · refine zr_tin (off := 218) 219 dX9_onward_1 (by decide) (by decide) (by decide) (by decide) ?_
      refine zr_iload_n dX9_onward_219 rfl ?_
      refine zr_if_ne 228 dX9_onward_220 (by decide) (fun hp220 => ?_) (fun h => absurd h (by decide))
      refine zr_bipush (v := 14) dX9_onward_228 kc_bipush_14 ?_
      exact zr_iret dX9_onward_230 rfl (⟨rfl, rfl⟩)
  · rcases (show lead = 0 ∨ lead = 1 by omega) with rfl | rfl
    · refine zr_tin (off := 230) 231 dX9_onward_1 (by decide) (by decide) (by decide) (by decide) ?_
      refine zr_iload_n dX9_onward_231 rfl ?_
      refine zr_if_ne 240 dX9_onward_232 (by decide) (fun h => absurd h (by decide)) (fun hp232 => ?_)
      refine zr_bipush (v := 11) dX9_onward_235 kc_bipush_11 ?_
      refine zr_goto 242 dX9_onward_237 (by decide) ?_
      exact zr_iret dX9_onward_242 rfl (⟨rfl, rfl⟩)
    · refine zr_tin (off := 230) 231 dX9_onward_1 (by decide) (by decide) (by decide) (by decide) ?_
      refine zr_iload_n dX9_onward_231 rfl ?_
      refine zr_if_ne 240 dX9_onward_232 (by decide) (fun hp232 => ?_) (fun h => absurd h (by decide))
      refine zr_bipush (v := 15) dX9_onward_240 kc_bipush_15 ?_
      exact zr_iret dX9_onward_242 rfl (⟨rfl, rfl⟩)
  · rcases (show lead = 0 ∨ lead = 1 by omega) with rfl | rfl
    · refine zr_tout 243 dX9_onward_1 (by decide) (by decide) ?_
      refine zr_iload_n dX9_onward_243 rfl ?_
      refine zr_if_ne 251 dX9_onward_244 (by decide) (fun h => absurd h (by decide)) (fun hp244 => ?_)
      refine zr_iconst (v := 1) dX9_onward_247 kc_iconst_1 ?_
      refine zr_goto 252 dX9_onward_248 (by decide) ?_
      exact zr_iret dX9_onward_252 rfl (⟨rfl, rfl⟩)
    · refine zr_tout 243 dX9_onward_1 (by decide) (by decide) ?_
      refine zr_iload_n dX9_onward_243 rfl ?_
      refine zr_if_ne 251 dX9_onward_244 (by decide) (fun hp244 => ?_) (fun h => absurd h (by decide))
      refine zr_iconst (v := 2) dX9_onward_251 kc_iconst_2 ?_
      exact zr_iret dX9_onward_252 rfl (⟨rfl, rfl⟩)
theorem cm_ticked (L : Nat) (σ : gz_Mm) (C m : sp_T) (K : sp_K) (hC : sp_wf C) (hm : sp_wm m) (hK : sp_wk C K) (rC : rm_C σ C) (rK : rm_K σ C K) (rM : rm_m σ C m) (tg lead x : Nat) (rt : σ 57 27 = nI tg) (hl : lead ≤ 1) (hx : x ≤ 1) :
    gz_Gi 5 yX9_ticked cX9_ticked 4 (some .int) L [.ref 57, .int (nI lead), .int (nI x)] σ (fun v σ' => v = (sp_tk C K tg m lead x).1 ∧ rm_m σ' C (sp_tk C K tg m lead x).2 ∧ rm_F σ σ') := by
  have hs := hm.2.2.2.2.1
  have rs := rM.2.2.2.2.1
  refine gz_Gi.of rfl rfl (fun Q hQ => ?_)
  have tail : ∀ (σ1 : gz_Mm) (out : Int32), out = (sp_do C K tg m x).1 → rm_m σ1 C (sp_do C K tg m x).2 → rm_F σ σ1 → gz_R 5 yX9_ticked cX9_ticked 4 (some .int) 0 0 151 [some (.ref 57), some (.int (nI lead)), some (.int (nI x)), some (.int out)] [] (gz_mk L σ1) Q := by
    intro σ1 out eo r1 f1
    have rs1 := r1.2.2.2.2.1
    rw [sp_do_st] at rs1
    refine zr_aload_n dX9_ticked_151 rfl ?_
    refine zr_aload_n dX9_ticked_152 rfl ?_
    refine zt_geti zg_X9_201 dX9_ticked_153 rfl rfl rfl ?_
    refine zr_top (rs1) ?_
    refine zr_iload_n dX9_ticked_156 rfl ?_
    refine zt_callSi (As := [_, _]) (cm_onward L σ1 (m 2 2) lead (by omega) (by omega)) zc_X9_213 rfl dX9_ticked_157 rfl rfl rfl ?_
    refine zt_put zp_X9_201 dX9_ticked_160 rfl rfl rfl rfl ?_
    refine zr_iload_n dX9_ticked_163 rfl ?_
    exact zr_iret dX9_ticked_164 rfl (hQ _ _ ⟨eo, r1.ctl 23 _ (by omega), f1.tr (rm_F.wr 23 _ (by omega))⟩)
  refine zr_iconst (v := (-1)) dX9_ticked_0 kc_iconst_m1 ?_
  refine zr_istore_n dX9_ticked_1 (by decide) rfl ?_
  refine zr_aload_n dX9_ticked_2 rfl ?_
  refine zt_geti zg_X9_201 dX9_ticked_3 rfl rfl rfl ?_
  refine zr_top (rs) ?_
  have plain : sp_do C K tg m x = (-1, m) → gz_R 5 yX9_ticked cX9_ticked 4 (some .int) 0 0 151 [some (.ref 57), some (.int (nI lead)), some (.int (nI x)), some (.int (-1))] [] (gz_mk L σ) Q := fun e => tail σ _ (by rw [e]) (by rw [e]; exact rM) rm_F.rf
  rcases (show m 2 2 = 0 ∨ m 2 2 = 1 ∨ m 2 2 = 2 ∨ m 2 2 = 3 ∨ m 2 2 = 4 ∨ m 2 2 = 5 ∨ m 2 2 = 6 ∨ m 2 2 = 7 ∨ m 2 2 = 8 ∨ m 2 2 = 9 ∨ m 2 2 = 10 ∨ m 2 2 = 11 ∨ m 2 2 = 12 ∨ m 2 2 = 13 ∨ m 2 2 = 14 ∨ m 2 2 = 15 by omega) with e | e | e | e | e | e | e | e | e | e | e | e | e | e | e | e
  · refine zr_top (by rw [e]) ?_
    refine zr_tin (off := 78) 84 dX9_ticked_6 (by decide) (by decide) (by decide) (by decide) ?_
    refine zr_aload_n dX9_ticked_84 rfl ?_
    refine zr_iconst (v := 4) dX9_ticked_85 kc_iconst_4 ?_
    refine zt_put zp_X9_63 dX9_ticked_86 rfl rfl rfl rfl ?_
    refine zr_goto 151 dX9_ticked_89 (by decide) ?_
    have ed : sp_do C K tg m x = (-1, sp_w m 2 3 4) := by simp [sp_do, e]
    exact tail _ _ (by rw [ed]) (by rw [ed]; exact rM.ctl 24 4 (by omega)) (rm_F.wr 24 _ (by omega))
  · refine zr_top (by rw [e]) ?_
    refine zr_tin (off := 145) 151 dX9_ticked_6 (by decide) (by decide) (by decide) (by decide) ?_
    exact plain (by simp [sp_do, e])
  · refine zr_top (by rw [e]) ?_
    refine zr_tin (off := 145) 151 dX9_ticked_6 (by decide) (by decide) (by decide) (by decide) ?_
    exact plain (by simp [sp_do, e])
  · refine zr_top (by rw [e]) ?_
    refine zr_tin (off := 86) 92 dX9_ticked_6 (by decide) (by decide) (by decide) (by decide) ?_
    refine zr_aload_n dX9_ticked_92 rfl ?_
    refine zt_cVv (As := []) (cm_catch L σ C m hC hm rC rM tg rt) zc_X9_204 rfl dX9_ticked_93 rfl rfl rfl rfl rfl rfl (fun σ1 h1 => ?_)
    refine zr_goto 151 dX9_ticked_96 (by decide) ?_
    have ed : sp_do C K tg m x = (-1, sp_cat C tg m) := by simp [sp_do, e]
    exact tail _ _ (by rw [ed]) (by rw [ed]; exact h1.1) h1.2
  · refine zr_top (by rw [e]) ?_
    refine zr_tin (off := 93) 99 dX9_ticked_6 (by decide) (by decide) (by decide) (by decide) ?_
    refine zr_aload_n dX9_ticked_99 rfl ?_
    refine zr_iload_n dX9_ticked_100 rfl ?_
    refine zt_cVi (As := [_]) (cm_shiftOrder L σ C m K hC hm hK rC rK rM x hx) zc_X9_207 rfl dX9_ticked_101 rfl rfl rfl rfl rfl rfl (fun r1 σ1 h1 => ?_)
    refine zr_istore_n dX9_ticked_104 (by decide) rfl ?_
    refine zr_goto 151 dX9_ticked_105 (by decide) ?_
    have ed : sp_do C K tg m x = (nI (sp_so C K m x).1, (sp_so C K m x).2) := by simp [sp_do, e]
    exact tail _ _ (by rw [ed]; exact h1.1) (by rw [ed]; exact h1.2.1) h1.2.2
  · refine zr_top (by rw [e]) ?_
    refine zr_tin (off := 145) 151 dX9_ticked_6 (by decide) (by decide) (by decide) (by decide) ?_
    exact plain (by simp [sp_do, e])
  · refine zr_top (by rw [e]) ?_
    refine zr_tin (off := 145) 151 dX9_ticked_6 (by decide) (by decide) (by decide) (by decide) ?_
    exact plain (by simp [sp_do, e])
  · refine zr_top (by rw [e]) ?_
    refine zr_tin (off := 145) 151 dX9_ticked_6 (by decide) (by decide) (by decide) (by decide) ?_
    exact plain (by simp [sp_do, e])
  · refine zr_top (by rw [e]) ?_
    refine zr_tin (off := 145) 151 dX9_ticked_6 (by decide) (by decide) (by decide) (by decide) ?_
    exact plain (by simp [sp_do, e])
  · refine zr_top (by rw [e]) ?_
    refine zr_tin (off := 145) 151 dX9_ticked_6 (by decide) (by decide) (by decide) (by decide) ?_
    exact plain (by simp [sp_do, e])
  · refine zr_top (by rw [e]) ?_
    refine zr_tin (off := 102) 108 dX9_ticked_6 (by decide) (by decide) (by decide) (by decide) ?_
    refine zr_aload_n dX9_ticked_108 rfl ?_
    refine zr_iconst (v := 1) dX9_ticked_109 kc_iconst_1 ?_
    refine zt_put zp_X9_210 dX9_ticked_110 rfl rfl rfl rfl ?_
    refine zr_goto 151 dX9_ticked_113 (by decide) ?_
    have ed : sp_do C K tg m x = (-1, sp_w m 2 4 1) := by simp [sp_do, e]
    exact tail _ _ (by rw [ed]) (by rw [ed]; exact rM.ctl 25 1 (by omega)) (rm_F.wr 25 _ (by omega))
  · refine zr_top (by rw [e]) ?_
    have h7 := hm.2.2.2.2.2.2.1
    refine zr_tin (off := 110) 116 dX9_ticked_6 (by decide) (by decide) (by decide) (by decide) ?_
    refine zr_aload_n dX9_ticked_116 rfl ?_
    refine zt_geti zg_X9_210 dX9_ticked_117 rfl rfl rfl ?_
    refine zr_top (rM.2.2.2.2.2.2.1) ?_
    refine zr_iconst (v := 1) dX9_ticked_120 kc_iconst_1 ?_
    refine zr_iand dX9_ticked_121 ?_
    refine zr_top (bt_and1 (by omega)) ?_
    refine zr_istore_n dX9_ticked_122 (by decide) rfl ?_
    refine zr_aload_n dX9_ticked_123 rfl ?_
    refine zr_aload_n dX9_ticked_124 rfl ?_
    refine zt_geti zg_X9_210 dX9_ticked_125 rfl rfl rfl ?_
    refine zr_top (rM.2.2.2.2.2.2.1) ?_
    refine zr_iconst (v := 1) dX9_ticked_128 kc_iconst_1 ?_
    refine zr_ishr dX9_ticked_129 ?_
    refine zr_iload_n dX9_ticked_130 rfl ?_
    refine zr_iconst (v := 2) dX9_ticked_131 kc_iconst_2 ?_
    refine zr_ishl dX9_ticked_132 ?_
    refine zr_ior dX9_ticked_133 ?_
    refine zr_top (bt_row _ (by omega) x (by omega)) ?_
    refine zt_put zp_X9_210 dX9_ticked_134 rfl rfl rfl rfl ?_
    refine zr_goto 151 dX9_ticked_137 (by decide) ?_
    have ed : sp_do C K tg m x = (nI (m 2 4 % 2), sp_w m 2 4 (m 2 4 / 2 + 4 * x)) := by simp [sp_do, e]
    exact tail _ _ (by rw [ed]) (by rw [ed]; exact rM.ctl 25 _ (by omega)) (rm_F.wr 25 _ (by omega))
  · refine zr_top (by rw [e]) ?_
    refine zr_tin (off := 145) 151 dX9_ticked_6 (by decide) (by decide) (by decide) (by decide) ?_
    exact plain (by simp [sp_do, e])
  · refine zr_top (by rw [e]) ?_
    refine zr_tin (off := 145) 151 dX9_ticked_6 (by decide) (by decide) (by decide) (by decide) ?_
    exact plain (by simp [sp_do, e])
  · refine zr_top (by rw [e]) ?_
    refine zr_tin (off := 145) 151 dX9_ticked_6 (by decide) (by decide) (by decide) (by decide) ?_
    exact plain (by simp [sp_do, e])
  · refine zr_top (by rw [e]) ?_
    refine zr_tin (off := 134) 140 dX9_ticked_6 (by decide) (by decide) (by decide) (by decide) ?_
    refine zr_aload_n dX9_ticked_140 rfl ?_
    refine zr_aload_n dX9_ticked_141 rfl ?_
    refine zt_geti zg_X9_210 dX9_ticked_142 rfl rfl rfl ?_
    refine zr_top (rM.2.2.2.2.2.2.1) ?_
    refine zt_put zp_X9_63 dX9_ticked_145 rfl rfl rfl rfl ?_
    refine zr_goto 151 dX9_ticked_148 (by decide) ?_
    have ed : sp_do C K tg m x = (-1, sp_w m 2 3 (m 2 4)) := by simp [sp_do, e]
    exact tail _ _ (by rw [ed]) (by rw [ed]; exact rM.ctl 24 _ (by omega)) (rm_F.wr 24 _ (by omega))
