/-! ===== Controller.shiftByOrder, step, restart ===== -/
theorem ca_sbo_31 (L : Nat) (σ : gz_Mm) (C m : sp_T) (K : sp_K) (hC : sp_wf C) (hm : sp_wm m) (hK : sp_wk C K) (rC : rx_C σ C) (rK : rx_K σ C K) (rM : rx_m σ 31 m) (x : Nat) (hx : x ≤ 1) :
    gz_Gi 1 yX3_shiftByOrder cX3_shiftByOrder 2 (some .int) L [.ref 31, .int (nI x)] σ (fun v σ' => v = nI (sp_so C K m x).1 ∧ rx_m σ' 31 (sp_so C K m x).2 ∧ (σ' 31 5 = σ 31 5 ∧ σ' 31 7 = σ 31 7) ∧ ∀ k, (k < 31 ∨ 35 < k) → σ' k = σ k) := by
  have ho := hm.2.2.2.2.2.1
  have ro := rM.2.2.2.2.2.1
  have rowm : ∀ (σ1 : gz_Mm) (f : Nat → Nat), (∀ k, k ≠ 34 → σ1 k = σ k) → (∀ j, j < 20 → σ1 34 j = nI (f j)) → rx_m σ1 31 (sp_row m 1 f) := fun σ1 f h1 h2 => rM.rows (h1 31 (by decide)) (h1 32 (by decide)) (fun i hi => by rw [show (31 + 2) = 33 from rfl, h1 33 (by decide)]; exact rM.1 i hi) (fun j hj => h2 j hj) (fun i => rfl)
  refine gz_Gi.of rfl rfl (fun Q hQ => ?_)
  refine zr_aload_n dX3_shiftByOrder_0 rfl ?_
  refine zt_geti zg_X3_15 dX3_shiftByOrder_1 rfl rfl rfl ?_
  refine zr_top (ro) ?_
  refine zr_iconst (v := 3) dX3_shiftByOrder_4 kc_iconst_3 ?_
  by_cases h3 : m 2 3 < 3
  · refine zr_icmp_ge 21 dX3_shiftByOrder_5 (by decide) (fun h => ?_) (fun h => ?_)
    · exact absurd h (nI_ge (b := 3) h3 (by omega))
    · rcases (show m 2 3 = 0 ∨ m 2 3 = 1 ∨ m 2 3 = 2 by omega) with e | e | e
      · have es : sp_so C K m x = (sp_out (sp_cv C m) (K 0) x, sp_row m 1 (sp_sh C (sp_cv C m) (K 0) x (m 1))) := by simp [sp_so, e]
        rw [e] at ro
        rw [es] at hQ
        refine zr_aload_n dX3_shiftByOrder_8 rfl ?_
        refine zt_getr zg_X3_9 dX3_shiftByOrder_9 rfl rfl rfl ?_
        refine zr_aload_n dX3_shiftByOrder_12 rfl ?_
        refine zt_geti zg_X3_15 dX3_shiftByOrder_13 rfl rfl rfl ?_
        refine zr_top (ro) ?_
        refine zr_iload_n dX3_shiftByOrder_16 rfl ?_
        refine zt_cVi (As := [_, _]) (ca_shift_31_0 L σ C m K hC hm hK rC rK rM x (by omega)) zc_X3_65 rfl dX3_shiftByOrder_17 rfl rfl rfl rfl rfl rfl (fun r1 σ1 h1 => ?_)
        obtain ⟨e1, hf, hh⟩ := h1
        exact zr_iret dX3_shiftByOrder_20 rfl (hQ _ _ ⟨e1, rowm σ1 _ hf hh, ⟨congrFun (hf 31 (by decide)) 5, congrFun (hf 31 (by decide)) 7⟩, fun k hk => hf k (by omega)⟩)
      · have es : sp_so C K m x = (sp_out (sp_cv C m) (K 1) x, sp_row m 1 (sp_sh C (sp_cv C m) (K 1) x (m 1))) := by simp [sp_so, e]
        rw [e] at ro
        rw [es] at hQ
        refine zr_aload_n dX3_shiftByOrder_8 rfl ?_
        refine zt_getr zg_X3_9 dX3_shiftByOrder_9 rfl rfl rfl ?_
        refine zr_aload_n dX3_shiftByOrder_12 rfl ?_
        refine zt_geti zg_X3_15 dX3_shiftByOrder_13 rfl rfl rfl ?_
        refine zr_top (ro) ?_
        refine zr_iload_n dX3_shiftByOrder_16 rfl ?_
        refine zt_cVi (As := [_, _]) (ca_shift_31_1 L σ C m K hC hm hK rC rK rM x (by omega)) zc_X3_65 rfl dX3_shiftByOrder_17 rfl rfl rfl rfl rfl rfl (fun r1 σ1 h1 => ?_)
        obtain ⟨e1, hf, hh⟩ := h1
        exact zr_iret dX3_shiftByOrder_20 rfl (hQ _ _ ⟨e1, rowm σ1 _ hf hh, ⟨congrFun (hf 31 (by decide)) 5, congrFun (hf 31 (by decide)) 7⟩, fun k hk => hf k (by omega)⟩)
      · have es : sp_so C K m x = (sp_out (sp_cv C m) (K 2) x, sp_row m 1 (sp_sh C (sp_cv C m) (K 2) x (m 1))) := by simp [sp_so, e]
        rw [e] at ro
        rw [es] at hQ
        refine zr_aload_n dX3_shiftByOrder_8 rfl ?_
        refine zt_getr zg_X3_9 dX3_shiftByOrder_9 rfl rfl rfl ?_
        refine zr_aload_n dX3_shiftByOrder_12 rfl ?_
        refine zt_geti zg_X3_15 dX3_shiftByOrder_13 rfl rfl rfl ?_
        refine zr_top (ro) ?_
        refine zr_iload_n dX3_shiftByOrder_16 rfl ?_
        refine zt_cVi (As := [_, _]) (ca_shift_31_2 L σ C m K hC hm hK rC rK rM x (by omega)) zc_X3_65 rfl dX3_shiftByOrder_17 rfl rfl rfl rfl rfl rfl (fun r1 σ1 h1 => ?_)
        obtain ⟨e1, hf, hh⟩ := h1
        exact zr_iret dX3_shiftByOrder_20 rfl (hQ _ _ ⟨e1, rowm σ1 _ hf hh, ⟨congrFun (hf 31 (by decide)) 5, congrFun (hf 31 (by decide)) 7⟩, fun k hk => hf k (by omega)⟩)
  · refine zr_icmp_ge 21 dX3_shiftByOrder_5 (by decide) (fun h => ?_) (fun h => ?_)
    · refine zr_aload_n dX3_shiftByOrder_21 rfl ?_
      refine zt_geti zg_X3_15 dX3_shiftByOrder_22 rfl rfl rfl ?_
      refine zr_top (ro) ?_
      refine zr_iconst (v := 3) dX3_shiftByOrder_25 kc_iconst_3 ?_
      by_cases e3 : m 2 3 = 3
      · refine zr_icmp_ne 55 dX3_shiftByOrder_26 (by decide) (fun h2 => ?_) (fun h2 => ?_)
        · exact absurd (by rw [e3]; rfl) h2
        · have es : sp_so C K m x = (sp_out (sp_cv C m) (sp_all K) x, sp_row m 1 (sp_sh C (sp_cv C m) (sp_all K) x (m 1))) := by simp [sp_so, e3]
          rw [es] at hQ
          have hcv := sp_cv_le (C := C) hm
          refine zr_aload_n dX3_shiftByOrder_29 rfl ?_
          refine zt_getr zg_X3_9 dX3_shiftByOrder_30 rfl rfl rfl ?_
          refine zr_iconst (v := 2) dX3_shiftByOrder_33 kc_iconst_2 ?_
          refine zr_aload_n dX3_shiftByOrder_34 rfl ?_
          refine zt_getr zg_X3_9 dX3_shiftByOrder_35 rfl rfl rfl ?_
          refine zr_iconst (v := 1) dX3_shiftByOrder_38 kc_iconst_1 ?_
          refine zr_aload_n dX3_shiftByOrder_39 rfl ?_
          refine zt_getr zg_X3_9 dX3_shiftByOrder_40 rfl rfl rfl ?_
          refine zr_iconst (v := 0) dX3_shiftByOrder_43 kc_iconst_0 ?_
          refine zr_iload_n dX3_shiftByOrder_44 rfl ?_
          refine zt_cVi (As := [_, _]) (ca_shift_31_0 L σ C m K hC hm hK rC rK rM x (by omega)) zc_X3_65 rfl dX3_shiftByOrder_45 rfl rfl rfl rfl rfl rfl (fun r1 σ1 h1 => ?_)
          obtain ⟨e1, hf1, hh1⟩ := h1
          have rM1 := rowm σ1 _ hf1 hh1
          have wm1 : sp_wm (sp_row m 1 (sp_sh C (sp_cv C m) (K 0) x (m 1))) := sp_row_wm1 hm (sp_sh_le hcv _ _ _ (by omega) hm.2.1)
          have rC1 : rx_C σ1 C := rC.kept (fun k h1 h2 => hf1 k (by omega))
          have rK1 : rx_K σ1 C K := rK.kept (fun k h1 h2 => hf1 k (by omega))
          subst e1
          have ho1 : sp_out (sp_cv C m) (K 0) x ≤ 2 := sp_out_le hcv _ _ (by omega)
          refine zt_cVi (As := [_, _]) (ca_shift_31_1 L σ1 C _ K hC wm1 hK rC1 rK1 rM1 _ ho1) zc_X3_65 rfl dX3_shiftByOrder_48 rfl rfl rfl rfl rfl rfl (fun r2 σ2 h2 => ?_)
          obtain ⟨e2, hf2, hh2⟩ := h2
          obtain ⟨s1, s2⟩ := sp_seq (C := C) (m := m) (l1 := K 0) (l2 := K 1) (v := x) hK.d01
          have hh2' : ∀ j, j < 20 → σ2 34 j = nI (sp_sh C (sp_cv C m) (K 0 ++ K 1) x (m 1) j) := fun j hj => by
            rw [hh2 j hj, ← s2]
            rfl
          have hf12 : ∀ k, k ≠ 34 → σ2 k = σ k := fun k hk => (hf2 k hk).trans (hf1 k hk)
          rw [s1] at e2
          have rM2 := rowm σ2 _ hf12 hh2'
          have wm2 : sp_wm (sp_row m 1 (sp_sh C (sp_cv C m) (K 0 ++ K 1) x (m 1))) := sp_row_wm1 hm (sp_sh_le hcv _ _ _ (by omega) hm.2.1)
          have rC2 : rx_C σ2 C := rC.kept (fun k h1 h2 => hf12 k (by omega))
          have rK2 : rx_K σ2 C K := rK.kept (fun k h1 h2 => hf12 k (by omega))
          subst e2
          have ho2 : sp_out (sp_cv C m) (K 0 ++ K 1) x ≤ 2 := sp_out_le hcv _ _ (by omega)
          refine zt_cVi (As := [_, _]) (ca_shift_31_2 L σ2 C _ K hC wm2 hK rC2 rK2 rM2 _ ho2) zc_X3_65 rfl dX3_shiftByOrder_51 rfl rfl rfl rfl rfl rfl (fun r3 σ3 h3 => ?_)
          obtain ⟨e3, hf3, hh3⟩ := h3
          obtain ⟨t1, t2⟩ := sp_seq (C := C) (m := m) (l1 := K 0 ++ K 1) (l2 := K 2) (v := x) hK.d012
          have hf13 : ∀ k, k ≠ 34 → σ3 k = σ k := fun k hk => (hf3 k hk).trans (hf12 k hk)
          have ea : sp_all K = (K 0 ++ K 1) ++ K 2 := (List.append_assoc _ _ _).symm
          rw [ea] at hQ
          refine zr_iret dX3_shiftByOrder_54 rfl (hQ _ _ ⟨by rw [e3, t1], rowm σ3 _ hf13 (fun j hj => ?_), ⟨congrFun (hf13 31 (by decide)) 5, congrFun (hf13 31 (by decide)) 7⟩, fun k hk => hf13 k (by omega)⟩)
          rw [hh3 j hj, ← t2]
          rfl
      · refine zr_icmp_ne 55 dX3_shiftByOrder_26 (by decide) (fun h2 => ?_) (fun h2 => ?_)
        · refine zr_aload_n dX3_shiftByOrder_55 rfl ?_
          refine zt_geti zg_X3_15 dX3_shiftByOrder_56 rfl rfl rfl ?_
          refine zr_top (ro) ?_
          refine zr_iconst (v := 4) dX3_shiftByOrder_59 kc_iconst_4 ?_
          by_cases e4 : m 2 3 = 4
          · refine zr_icmp_ne 71 dX3_shiftByOrder_60 (by decide) (fun h4 => ?_) (fun h4 => ?_)
            · exact absurd (by rw [e4]; rfl) h4
            · have es : sp_so C K m x = (m 2 6 % 2, sp_w m 2 6 (m 2 6 / 2 + 32768 * x)) := by simp [sp_so, e4]
              rw [es] at hQ
              refine zr_aload_n dX3_shiftByOrder_63 rfl ?_
              refine zr_iload_n dX3_shiftByOrder_64 rfl ?_
              refine zt_callVi (As := [_]) (ca_shiftTag_31 L σ (m 2 6) x hm.2.2.2.2.2.2.2.2 (by omega) rM.2.2.2.2.2.2.2.2) zc_X3_69 rfl dX3_shiftByOrder_65 rfl rfl rfl rfl rfl rfl ?_
              refine zr_goto 76 dX3_shiftByOrder_68 (by decide) ?_
              exact zr_iret dX3_shiftByOrder_76 rfl (hQ _ _ ⟨rfl, rM.ctl 6 _ (by omega), ⟨by simp [gz_wr, upd], by simp [gz_wr, upd]⟩, fun k hk => gz_wr_ne (by omega)⟩)
          · refine zr_icmp_ne 71 dX3_shiftByOrder_60 (by decide) (fun h4 => ?_) (fun h4 => ?_)
            · have es : sp_so C K m x = (m 2 5, sp_w m 2 5 x) := by simp [sp_so, h3, e3, e4]
              rw [es] at hQ
              refine zr_aload_n dX3_shiftByOrder_71 rfl ?_
              refine zr_iload_n dX3_shiftByOrder_72 rfl ?_
              refine zt_callVi (As := [_]) (ca_swap_31 L σ (nI x)) zc_X3_72 rfl dX3_shiftByOrder_73 rfl rfl rfl rfl rfl rfl ?_
              exact zr_iret dX3_shiftByOrder_76 rfl (hQ _ _ ⟨rM.2.2.2.2.2.2.2.1, rM.ctl 4 _ (by omega), ⟨by simp [gz_wr, upd], by simp [gz_wr, upd]⟩, fun k hk => gz_wr_ne (by omega)⟩)
            · exact absurd ((nI_eq (b := 4) (by omega) (by omega)).mp h4) e4
        · exact absurd ((nI_eq (b := 3) (by omega) (by omega)).mp h2) e3
    · exact absurd (nI_le (a := 3) (by omega) (by omega)) h
theorem ca_sbo_42 (L : Nat) (σ : gz_Mm) (C m : sp_T) (K : sp_K) (hC : sp_wf C) (hm : sp_wm m) (hK : sp_wk C K) (rC : rx_C σ C) (rK : rx_K σ C K) (rM : rx_m σ 42 m) (x : Nat) (hx : x ≤ 1) :
    gz_Gi 1 yX3_shiftByOrder cX3_shiftByOrder 2 (some .int) L [.ref 42, .int (nI x)] σ (fun v σ' => v = nI (sp_so C K m x).1 ∧ rx_m σ' 42 (sp_so C K m x).2 ∧ (σ' 42 5 = σ 42 5 ∧ σ' 42 7 = σ 42 7) ∧ ∀ k, (k < 42 ∨ 46 < k) → σ' k = σ k) := by
  have ho := hm.2.2.2.2.2.1
  have ro := rM.2.2.2.2.2.1
  have rowm : ∀ (σ1 : gz_Mm) (f : Nat → Nat), (∀ k, k ≠ 45 → σ1 k = σ k) → (∀ j, j < 20 → σ1 45 j = nI (f j)) → rx_m σ1 42 (sp_row m 1 f) := fun σ1 f h1 h2 => rM.rows (h1 42 (by decide)) (h1 43 (by decide)) (fun i hi => by rw [show (42 + 2) = 44 from rfl, h1 44 (by decide)]; exact rM.1 i hi) (fun j hj => h2 j hj) (fun i => rfl)
  refine gz_Gi.of rfl rfl (fun Q hQ => ?_)
  refine zr_aload_n dX3_shiftByOrder_0 rfl ?_
  refine zt_geti zg_X3_15 dX3_shiftByOrder_1 rfl rfl rfl ?_
  refine zr_top (ro) ?_
  refine zr_iconst (v := 3) dX3_shiftByOrder_4 kc_iconst_3 ?_
  by_cases h3 : m 2 3 < 3
  · refine zr_icmp_ge 21 dX3_shiftByOrder_5 (by decide) (fun h => ?_) (fun h => ?_)
    · exact absurd h (nI_ge (b := 3) h3 (by omega))
    · rcases (show m 2 3 = 0 ∨ m 2 3 = 1 ∨ m 2 3 = 2 by omega) with e | e | e
      · have es : sp_so C K m x = (sp_out (sp_cv C m) (K 0) x, sp_row m 1 (sp_sh C (sp_cv C m) (K 0) x (m 1))) := by simp [sp_so, e]
        rw [e] at ro
        rw [es] at hQ
        refine zr_aload_n dX3_shiftByOrder_8 rfl ?_
        refine zt_getr zg_X3_9 dX3_shiftByOrder_9 rfl rfl rfl ?_
        refine zr_aload_n dX3_shiftByOrder_12 rfl ?_
        refine zt_geti zg_X3_15 dX3_shiftByOrder_13 rfl rfl rfl ?_
        refine zr_top (ro) ?_
        refine zr_iload_n dX3_shiftByOrder_16 rfl ?_
        refine zt_cVi (As := [_, _]) (ca_shift_42_0 L σ C m K hC hm hK rC rK rM x (by omega)) zc_X3_65 rfl dX3_shiftByOrder_17 rfl rfl rfl rfl rfl rfl (fun r1 σ1 h1 => ?_)
        obtain ⟨e1, hf, hh⟩ := h1
        exact zr_iret dX3_shiftByOrder_20 rfl (hQ _ _ ⟨e1, rowm σ1 _ hf hh, ⟨congrFun (hf 42 (by decide)) 5, congrFun (hf 42 (by decide)) 7⟩, fun k hk => hf k (by omega)⟩)
      · have es : sp_so C K m x = (sp_out (sp_cv C m) (K 1) x, sp_row m 1 (sp_sh C (sp_cv C m) (K 1) x (m 1))) := by simp [sp_so, e]
        rw [e] at ro
        rw [es] at hQ
        refine zr_aload_n dX3_shiftByOrder_8 rfl ?_
        refine zt_getr zg_X3_9 dX3_shiftByOrder_9 rfl rfl rfl ?_
        refine zr_aload_n dX3_shiftByOrder_12 rfl ?_
        refine zt_geti zg_X3_15 dX3_shiftByOrder_13 rfl rfl rfl ?_
        refine zr_top (ro) ?_
        refine zr_iload_n dX3_shiftByOrder_16 rfl ?_
        refine zt_cVi (As := [_, _]) (ca_shift_42_1 L σ C m K hC hm hK rC rK rM x (by omega)) zc_X3_65 rfl dX3_shiftByOrder_17 rfl rfl rfl rfl rfl rfl (fun r1 σ1 h1 => ?_)
        obtain ⟨e1, hf, hh⟩ := h1
        exact zr_iret dX3_shiftByOrder_20 rfl (hQ _ _ ⟨e1, rowm σ1 _ hf hh, ⟨congrFun (hf 42 (by decide)) 5, congrFun (hf 42 (by decide)) 7⟩, fun k hk => hf k (by omega)⟩)
      · have es : sp_so C K m x = (sp_out (sp_cv C m) (K 2) x, sp_row m 1 (sp_sh C (sp_cv C m) (K 2) x (m 1))) := by simp [sp_so, e]
        rw [e] at ro
        rw [es] at hQ
        refine zr_aload_n dX3_shiftByOrder_8 rfl ?_
        refine zt_getr zg_X3_9 dX3_shiftByOrder_9 rfl rfl rfl ?_
        refine zr_aload_n dX3_shiftByOrder_12 rfl ?_
        refine zt_geti zg_X3_15 dX3_shiftByOrder_13 rfl rfl rfl ?_
        refine zr_top (ro) ?_
        refine zr_iload_n dX3_shiftByOrder_16 rfl ?_
        refine zt_cVi (As := [_, _]) (ca_shift_42_2 L σ C m K hC hm hK rC rK rM x (by omega)) zc_X3_65 rfl dX3_shiftByOrder_17 rfl rfl rfl rfl rfl rfl (fun r1 σ1 h1 => ?_)
        obtain ⟨e1, hf, hh⟩ := h1
        exact zr_iret dX3_shiftByOrder_20 rfl (hQ _ _ ⟨e1, rowm σ1 _ hf hh, ⟨congrFun (hf 42 (by decide)) 5, congrFun (hf 42 (by decide)) 7⟩, fun k hk => hf k (by omega)⟩)
  · refine zr_icmp_ge 21 dX3_shiftByOrder_5 (by decide) (fun h => ?_) (fun h => ?_)
    · refine zr_aload_n dX3_shiftByOrder_21 rfl ?_
      refine zt_geti zg_X3_15 dX3_shiftByOrder_22 rfl rfl rfl ?_
      refine zr_top (ro) ?_
      refine zr_iconst (v := 3) dX3_shiftByOrder_25 kc_iconst_3 ?_
      by_cases e3 : m 2 3 = 3
      · refine zr_icmp_ne 55 dX3_shiftByOrder_26 (by decide) (fun h2 => ?_) (fun h2 => ?_)
        · exact absurd (by rw [e3]; rfl) h2
        · have es : sp_so C K m x = (sp_out (sp_cv C m) (sp_all K) x, sp_row m 1 (sp_sh C (sp_cv C m) (sp_all K) x (m 1))) := by simp [sp_so, e3]
          rw [es] at hQ
          have hcv := sp_cv_le (C := C) hm
          refine zr_aload_n dX3_shiftByOrder_29 rfl ?_
          refine zt_getr zg_X3_9 dX3_shiftByOrder_30 rfl rfl rfl ?_
          refine zr_iconst (v := 2) dX3_shiftByOrder_33 kc_iconst_2 ?_
          refine zr_aload_n dX3_shiftByOrder_34 rfl ?_
          refine zt_getr zg_X3_9 dX3_shiftByOrder_35 rfl rfl rfl ?_
          refine zr_iconst (v := 1) dX3_shiftByOrder_38 kc_iconst_1 ?_
          refine zr_aload_n dX3_shiftByOrder_39 rfl ?_
          refine zt_getr zg_X3_9 dX3_shiftByOrder_40 rfl rfl rfl ?_
          refine zr_iconst (v := 0) dX3_shiftByOrder_43 kc_iconst_0 ?_
          refine zr_iload_n dX3_shiftByOrder_44 rfl ?_
          refine zt_cVi (As := [_, _]) (ca_shift_42_0 L σ C m K hC hm hK rC rK rM x (by omega)) zc_X3_65 rfl dX3_shiftByOrder_45 rfl rfl rfl rfl rfl rfl (fun r1 σ1 h1 => ?_)
          obtain ⟨e1, hf1, hh1⟩ := h1
          have rM1 := rowm σ1 _ hf1 hh1
          have wm1 : sp_wm (sp_row m 1 (sp_sh C (sp_cv C m) (K 0) x (m 1))) := sp_row_wm1 hm (sp_sh_le hcv _ _ _ (by omega) hm.2.1)
          have rC1 : rx_C σ1 C := rC.kept (fun k h1 h2 => hf1 k (by omega))
          have rK1 : rx_K σ1 C K := rK.kept (fun k h1 h2 => hf1 k (by omega))
          subst e1
          have ho1 : sp_out (sp_cv C m) (K 0) x ≤ 2 := sp_out_le hcv _ _ (by omega)
          refine zt_cVi (As := [_, _]) (ca_shift_42_1 L σ1 C _ K hC wm1 hK rC1 rK1 rM1 _ ho1) zc_X3_65 rfl dX3_shiftByOrder_48 rfl rfl rfl rfl rfl rfl (fun r2 σ2 h2 => ?_)
          obtain ⟨e2, hf2, hh2⟩ := h2
          obtain ⟨s1, s2⟩ := sp_seq (C := C) (m := m) (l1 := K 0) (l2 := K 1) (v := x) hK.d01
          have hh2' : ∀ j, j < 20 → σ2 45 j = nI (sp_sh C (sp_cv C m) (K 0 ++ K 1) x (m 1) j) := fun j hj => by
            rw [hh2 j hj, ← s2]
            rfl
          have hf12 : ∀ k, k ≠ 45 → σ2 k = σ k := fun k hk => (hf2 k hk).trans (hf1 k hk)
          rw [s1] at e2
          have rM2 := rowm σ2 _ hf12 hh2'
          have wm2 : sp_wm (sp_row m 1 (sp_sh C (sp_cv C m) (K 0 ++ K 1) x (m 1))) := sp_row_wm1 hm (sp_sh_le hcv _ _ _ (by omega) hm.2.1)
          have rC2 : rx_C σ2 C := rC.kept (fun k h1 h2 => hf12 k (by omega))
          have rK2 : rx_K σ2 C K := rK.kept (fun k h1 h2 => hf12 k (by omega))
          subst e2
          have ho2 : sp_out (sp_cv C m) (K 0 ++ K 1) x ≤ 2 := sp_out_le hcv _ _ (by omega)
          refine zt_cVi (As := [_, _]) (ca_shift_42_2 L σ2 C _ K hC wm2 hK rC2 rK2 rM2 _ ho2) zc_X3_65 rfl dX3_shiftByOrder_51 rfl rfl rfl rfl rfl rfl (fun r3 σ3 h3 => ?_)
          obtain ⟨e3, hf3, hh3⟩ := h3
          obtain ⟨t1, t2⟩ := sp_seq (C := C) (m := m) (l1 := K 0 ++ K 1) (l2 := K 2) (v := x) hK.d012
          have hf13 : ∀ k, k ≠ 45 → σ3 k = σ k := fun k hk => (hf3 k hk).trans (hf12 k hk)
          have ea : sp_all K = (K 0 ++ K 1) ++ K 2 := (List.append_assoc _ _ _).symm
          rw [ea] at hQ
          refine zr_iret dX3_shiftByOrder_54 rfl (hQ _ _ ⟨by rw [e3, t1], rowm σ3 _ hf13 (fun j hj => ?_), ⟨congrFun (hf13 42 (by decide)) 5, congrFun (hf13 42 (by decide)) 7⟩, fun k hk => hf13 k (by omega)⟩)
          rw [hh3 j hj, ← t2]
          rfl
      · refine zr_icmp_ne 55 dX3_shiftByOrder_26 (by decide) (fun h2 => ?_) (fun h2 => ?_)
        · refine zr_aload_n dX3_shiftByOrder_55 rfl ?_
          refine zt_geti zg_X3_15 dX3_shiftByOrder_56 rfl rfl rfl ?_
          refine zr_top (ro) ?_
          refine zr_iconst (v := 4) dX3_shiftByOrder_59 kc_iconst_4 ?_
          by_cases e4 : m 2 3 = 4
          · refine zr_icmp_ne 71 dX3_shiftByOrder_60 (by decide) (fun h4 => ?_) (fun h4 => ?_)
            · exact absurd (by rw [e4]; rfl) h4
            · have es : sp_so C K m x = (m 2 6 % 2, sp_w m 2 6 (m 2 6 / 2 + 32768 * x)) := by simp [sp_so, e4]
              rw [es] at hQ
              refine zr_aload_n dX3_shiftByOrder_63 rfl ?_
              refine zr_iload_n dX3_shiftByOrder_64 rfl ?_
              refine zt_callVi (As := [_]) (ca_shiftTag_42 L σ (m 2 6) x hm.2.2.2.2.2.2.2.2 (by omega) rM.2.2.2.2.2.2.2.2) zc_X3_69 rfl dX3_shiftByOrder_65 rfl rfl rfl rfl rfl rfl ?_
              refine zr_goto 76 dX3_shiftByOrder_68 (by decide) ?_
              exact zr_iret dX3_shiftByOrder_76 rfl (hQ _ _ ⟨rfl, rM.ctl 6 _ (by omega), ⟨by simp [gz_wr, upd], by simp [gz_wr, upd]⟩, fun k hk => gz_wr_ne (by omega)⟩)
          · refine zr_icmp_ne 71 dX3_shiftByOrder_60 (by decide) (fun h4 => ?_) (fun h4 => ?_)
            · have es : sp_so C K m x = (m 2 5, sp_w m 2 5 x) := by simp [sp_so, h3, e3, e4]
              rw [es] at hQ
              refine zr_aload_n dX3_shiftByOrder_71 rfl ?_
              refine zr_iload_n dX3_shiftByOrder_72 rfl ?_
              refine zt_callVi (As := [_]) (ca_swap_42 L σ (nI x)) zc_X3_72 rfl dX3_shiftByOrder_73 rfl rfl rfl rfl rfl rfl ?_
              exact zr_iret dX3_shiftByOrder_76 rfl (hQ _ _ ⟨rM.2.2.2.2.2.2.2.1, rM.ctl 4 _ (by omega), ⟨by simp [gz_wr, upd], by simp [gz_wr, upd]⟩, fun k hk => gz_wr_ne (by omega)⟩)
            · exact absurd ((nI_eq (b := 4) (by omega) (by omega)).mp h4) e4
        · exact absurd ((nI_eq (b := 3) (by omega) (by omega)).mp h2) e3
    · exact absurd (nI_le (a := 3) (by omega) (by omega)) h
