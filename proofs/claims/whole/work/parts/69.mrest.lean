/-! ===== the reference: link, tag, tick, state, test, seen ===== -/
theorem ax_link (L : Nat) (σ : gz_Mm) (S : ap_S) (hw : ap_wf S) (hX : am_X σ S) (k i : Int32) : gz_Gi 2 yX9_link cX9_link 3 (some .int) L [.ref 57, .int k, .int i] σ (am_P σ (fa_link k i S)) := by
  obtain ⟨C, K, m, tg, tk, no, nu, fO, fU⟩ := S
  obtain ⟨hC, hK, hm, htg, hno, hnu, hz0, hz2⟩ := hw
  have hX0 := hX
  obtain ⟨⟨rC, rK, rM⟩, ⟨r5, r7⟩, s1, s2, s3, s4⟩ := hX
  obtain ⟨h80, h8, h20, ho8, ht20⟩ := hC.1
  have c0 := rC.1.1
  have c1 := rC.1.2.1
  have c2 := rC.1.2.2.1
  have c3 := rC.1.2.2.2.1
  have c4 := rC.1.2.2.2.2
  refine gz_Gi.of rfl rfl (fun Q hQ => ?_)
  cases h1 : ap_v k 3 with
  | false =>
    rw [show fa_link k i (C, K, m, tg, tk, no, nu, fO, fU) = (-1001, (C, K, m, tg, tk, no, nu, fO, fU)) by simp [fa_link, h1]] at hQ
    refine zr_iload_n dX9_link_0 rfl ?_
    refine zt_callSi (As := [_]) (cm_isChain L σ k) zc_X9_168 rfl dX9_link_1 rfl rfl rfl ?_
    refine zr_top (congrArg sp_b h1) ?_
    refine zr_if_ne 13 dX9_link_4 (by decide) (fun h => absurd rfl h) (fun hp4 => ?_)
    refine zr_sipush (v := (-1001)) dX9_link_7 kc_sipush_m1001 ?_
    refine zr_goto 46 dX9_link_10 (by decide) ?_
    exact zr_iret dX9_link_46 rfl (hQ _ _ ⟨rfl, hX0, fun _ _ => rfl⟩)
  | true =>
    obtain ⟨x, hx, rfl, ex⟩ := ap_v_t h1 (by omega)
    obtain ⟨rs, rr⟩ := rK.1 x hx
    have hlen := hK.lenk hx
    cases h2 : ap_v i (K x).length with
    | false =>
      rw [show fa_link (nI x) i (C, K, m, tg, tk, no, nu, fO, fU) = (-1, (C, K, m, tg, tk, no, nu, fO, fU)) by simp [fa_link, h1, ex, h2]] at hQ
      refine zr_iload_n dX9_link_0 rfl ?_
      refine zt_callSi (As := [_]) (cm_isChain L σ (nI x)) zc_X9_168 rfl dX9_link_1 rfl rfl rfl ?_
      refine zr_top (congrArg sp_b h1) ?_
      refine zr_if_ne 13 dX9_link_4 (by decide) (fun hp4 => ?_) (fun h => absurd h (by decide))
      refine zr_iload_n dX9_link_13 rfl ?_
      refine zr_i2l dX9_link_14 ?_
      refine zr_lconst (v := 0) dX9_link_15 (by decide) ?_
      refine zr_aload_n dX9_link_16 rfl ?_
      refine zt_getr zg_X9_44 dX9_link_17 rfl rfl rfl ?_
      refine zr_iload_n dX9_link_20 rfl ?_
      refine zt_ildN dX9_link_21 rfl rfl (hx) (rs) ?_
      refine zr_iconst (v := 1) dX9_link_22 kc_iconst_1 ?_
      refine zr_isub dX9_link_23 ?_
      refine zr_i2l dX9_link_24 ?_
      refine zt_callSi (As := [_, _, _]) (cm_in L σ _ _ _) zc_X9_102 rfl dX9_link_25 rfl rfl rfl ?_
      refine zr_top ((congrArg sp_b (ap_in (nI_less (by omega)))).trans (congrArg sp_b h2)) ?_
      refine zr_if_eq 45 dX9_link_28 (by decide) (fun hp28 => ?_) (fun h => absurd rfl h)
      refine zr_iconst (v := (-1)) dX9_link_45 kc_iconst_m1 ?_
      exact zr_iret dX9_link_46 rfl (hQ _ _ ⟨rfl, hX0, fun _ _ => rfl⟩)
    | true =>
      obtain ⟨z, hz, rfl, ez⟩ := ap_v_t h2 (by omega)
      rw [show fa_link (nI x) (nI z) (C, K, m, tg, tk, no, nu, fO, fU) = (nI ((K x).getD z 0), (C, K, m, tg, tk, no, nu, fO, fU)) by simp [fa_link, h1, ex, h2, ez]] at hQ
      refine zr_iload_n dX9_link_0 rfl ?_
      refine zt_callSi (As := [_]) (cm_isChain L σ (nI x)) zc_X9_168 rfl dX9_link_1 rfl rfl rfl ?_
      refine zr_top (congrArg sp_b h1) ?_
      refine zr_if_ne 13 dX9_link_4 (by decide) (fun hp4 => ?_) (fun h => absurd h (by decide))
      refine zr_iload_n dX9_link_13 rfl ?_
      refine zr_i2l dX9_link_14 ?_
      refine zr_lconst (v := 0) dX9_link_15 (by decide) ?_
      refine zr_aload_n dX9_link_16 rfl ?_
      refine zt_getr zg_X9_44 dX9_link_17 rfl rfl rfl ?_
      refine zr_iload_n dX9_link_20 rfl ?_
      refine zt_ildN dX9_link_21 rfl rfl (hx) (rs) ?_
      refine zr_iconst (v := 1) dX9_link_22 kc_iconst_1 ?_
      refine zr_isub dX9_link_23 ?_
      refine zr_i2l dX9_link_24 ?_
      refine zt_callSi (As := [_, _, _]) (cm_in L σ _ _ _) zc_X9_102 rfl dX9_link_25 rfl rfl rfl ?_
      refine zr_top ((congrArg sp_b (ap_in (nI_less (by omega)))).trans (congrArg sp_b h2)) ?_
      refine zr_if_eq 45 dX9_link_28 (by decide) (fun h => absurd h (by decide)) (fun hp28 => ?_)
      refine zr_aload_n dX9_link_31 rfl ?_
      refine zt_getr zg_X9_41 dX9_link_32 rfl rfl rfl ?_
      refine zr_bipush (v := 20) dX9_link_35 kc_bipush_20 ?_
      refine zr_iload_n dX9_link_37 rfl ?_
      refine zr_imul dX9_link_38 ?_
      refine zr_top (lk_20 x) ?_
      refine zr_iload_n dX9_link_39 rfl ?_
      refine zr_iadd dX9_link_40 ?_
      refine zr_top (nI_add _ _) ?_
      refine zt_ildN dX9_link_41 rfl rfl (by omega) (rr z hz) ?_
      refine zr_goto 46 dX9_link_42 (by decide) ?_
      exact zr_iret dX9_link_46 rfl (hQ _ _ ⟨rfl, hX0, fun _ _ => rfl⟩)
theorem ax_tag (L : Nat) (σ : gz_Mm) (S : ap_S) (hw : ap_wf S) (hX : am_X σ S) (v : Int32) : gz_Gi 0 yX9_tag cX9_tag 3 (some .int) L [.ref 57, .int v] σ (am_P σ (fa_tag v S)) := by
  obtain ⟨C, K, m, tg, tk, no, nu, fO, fU⟩ := S
  obtain ⟨hC, hK, hm, htg, hno, hnu, hz0, hz2⟩ := hw
  have hX0 := hX
  obtain ⟨⟨rC, rK, rM⟩, ⟨r5, r7⟩, s1, s2, s3, s4⟩ := hX
  obtain ⟨h80, h8, h20, ho8, ht20⟩ := hC.1
  have c0 := rC.1.1
  have c1 := rC.1.2.1
  have c2 := rC.1.2.2.1
  have c3 := rC.1.2.2.2.1
  have c4 := rC.1.2.2.2.2
  refine gz_Gi.of rfl rfl (fun Q hQ => ?_)
  refine zr_aload_n dX9_tag_0 rfl ?_
  refine zt_geti zg_X9_188 dX9_tag_1 rfl rfl rfl ?_
  refine zr_top (r5) ?_
  refine zr_istore_n dX9_tag_4 (by decide) rfl ?_
  refine zr_aload_n dX9_tag_5 rfl ?_
  refine zr_iload_n dX9_tag_6 rfl ?_
  refine zr_ldc zd_X9_191 dX9_tag_7 ?_
  refine zr_iand dX9_tag_9 ?_
  refine zr_top (pk_and v 16 rfl) ?_
  refine zt_put zp_X9_188 dX9_tag_10 rfl rfl rfl rfl ?_
  refine zr_iload_n dX9_tag_13 rfl ?_
  refine zr_iret dX9_tag_14 rfl (hQ _ _ ⟨rfl, ?_, fun k hk => gz_wr_ne (by omega)⟩)
  have g : ∀ j, j ≠ 27 → gz_wr σ 57 27 (nI (v.toBitVec.toNat % 2 ^ 16)) 57 j = σ 57 j := fun j hj => by rw [gz_wr_eq, pk_un hj]
  exact ⟨⟨rC.kept (fun j hj => g j (by omega)) (fun k h1 h2 _ _ _ _ => gz_wr_ne (by omega)), rK.kept (fun k hk => gz_wr_ne (by omega)), rM.kept (fun j hj => g j (by omega)) rfl rfl⟩, ⟨by rw [gz_wr_eq]; exact if_pos rfl, (g 29 (by decide)).trans r7⟩, (g 38 (by decide)).trans s1, (g 40 (by decide)).trans s2, s3, s4⟩
theorem ax_tick (L : Nat) (σ : gz_Mm) (S : ap_S) (hw : ap_wf S) (hX : am_X σ S) (lead x : Int32) : gz_Gi 6 yX9_tick cX9_tick 3 (some .int) L [.ref 57, .int lead, .int x] σ (am_P σ (fa_tick lead x S)) := by
  obtain ⟨C, K, m, tg, tk, no, nu, fO, fU⟩ := S
  obtain ⟨hC, hK, hm, htg, hno, hnu, hz0, hz2⟩ := hw
  have hX0 := hX
  obtain ⟨⟨rC, rK, rM⟩, ⟨r5, r7⟩, s1, s2, s3, s4⟩ := hX
  obtain ⟨h80, h8, h20, ho8, ht20⟩ := hC.1
  have c0 := rC.1.1
  have c1 := rC.1.2.1
  have c2 := rC.1.2.2.1
  have c3 := rC.1.2.2.2.1
  have c4 := rC.1.2.2.2.2
  refine gz_Gi.of rfl rfl (fun Q hQ => ?_)
  cases h1 : ap_v lead 2 with
  | false =>
    rw [show fa_tick lead x (C, K, m, tg, tk, no, nu, fO, fU) = (-1002, (C, K, m, tg, tk, no, nu, fO, fU)) by simp [fa_tick, h1]] at hQ
    refine zr_iload_n dX9_tick_0 rfl ?_
    refine zr_i2l dX9_tick_1 ?_
    refine zr_lconst (v := 0) dX9_tick_2 (by decide) ?_
    refine zr_lconst (v := 1) dX9_tick_3 (by decide) ?_
    refine zt_callSi (As := [_, _, _]) (cm_in L σ _ _ _) zc_X9_102 rfl dX9_tick_4 rfl rfl rfl ?_
    refine zr_top ((congrArg sp_b (ap_in (n := 2) rfl)).trans (congrArg sp_b h1)) ?_
    refine zr_if_eq 20 dX9_tick_7 (by decide) (fun hp7 => ?_) (fun h => absurd rfl h)
    refine zr_sipush (v := (-1002)) dX9_tick_20 kc_sipush_m1002 ?_
    exact zr_iret dX9_tick_23 rfl (hQ _ _ ⟨rfl, hX0, fun _ _ => rfl⟩)
  | true =>
    cases h2 : ap_v x 2 with
    | false =>
      rw [show fa_tick lead x (C, K, m, tg, tk, no, nu, fO, fU) = (-1002, (C, K, m, tg, tk, no, nu, fO, fU)) by simp [fa_tick, h2]] at hQ
      refine zr_iload_n dX9_tick_0 rfl ?_
      refine zr_i2l dX9_tick_1 ?_
      refine zr_lconst (v := 0) dX9_tick_2 (by decide) ?_
      refine zr_lconst (v := 1) dX9_tick_3 (by decide) ?_
      refine zt_callSi (As := [_, _, _]) (cm_in L σ _ _ _) zc_X9_102 rfl dX9_tick_4 rfl rfl rfl ?_
      refine zr_top ((congrArg sp_b (ap_in (n := 2) rfl)).trans (congrArg sp_b h1)) ?_
      refine zr_if_eq 20 dX9_tick_7 (by decide) (fun h => absurd h (by decide)) (fun hp7 => ?_)
      refine zr_iload_n dX9_tick_10 rfl ?_
      refine zr_i2l dX9_tick_11 ?_
      refine zr_lconst (v := 0) dX9_tick_12 (by decide) ?_
      refine zr_lconst (v := 1) dX9_tick_13 (by decide) ?_
      refine zt_callSi (As := [_, _, _]) (cm_in L σ _ _ _) zc_X9_102 rfl dX9_tick_14 rfl rfl rfl ?_
      refine zr_top ((congrArg sp_b (ap_in (n := 2) rfl)).trans (congrArg sp_b h2)) ?_
      refine zr_if_ne 24 dX9_tick_17 (by decide) (fun h => absurd rfl h) (fun hp17 => ?_)
      refine zr_sipush (v := (-1002)) dX9_tick_20 kc_sipush_m1002 ?_
      exact zr_iret dX9_tick_23 rfl (hQ _ _ ⟨rfl, hX0, fun _ _ => rfl⟩)
    | true =>
      obtain ⟨l, hl, rfl, el⟩ := ap_v_t h1 (by omega)
      obtain ⟨z, hz, rfl, ez⟩ := ap_v_t h2 (by omega)
      rw [show fa_tick (nI l) (nI z) (C, K, m, tg, tk, no, nu, fO, fU) = ((sp_tk C K tg m l z).1, (C, K, (sp_tk C K tg m l z).2, tg, tk + 1, no, nu, fO, fU)) by simp [fa_tick, h1, h2, el, ez]] at hQ
      have g : ∀ j, j ≠ 29 → gz_wr σ 57 29 (tk + 1) 57 j = σ 57 j := fun j hj => by rw [gz_wr_eq, pk_un hj]
      refine zr_iload_n dX9_tick_0 rfl ?_
      refine zr_i2l dX9_tick_1 ?_
      refine zr_lconst (v := 0) dX9_tick_2 (by decide) ?_
      refine zr_lconst (v := 1) dX9_tick_3 (by decide) ?_
      refine zt_callSi (As := [_, _, _]) (cm_in L σ _ _ _) zc_X9_102 rfl dX9_tick_4 rfl rfl rfl ?_
      refine zr_top ((congrArg sp_b (ap_in (n := 2) rfl)).trans (congrArg sp_b h1)) ?_
      refine zr_if_eq 20 dX9_tick_7 (by decide) (fun h => absurd h (by decide)) (fun hp7 => ?_)
      refine zr_iload_n dX9_tick_10 rfl ?_
      refine zr_i2l dX9_tick_11 ?_
      refine zr_lconst (v := 0) dX9_tick_12 (by decide) ?_
      refine zr_lconst (v := 1) dX9_tick_13 (by decide) ?_
      refine zt_callSi (As := [_, _, _]) (cm_in L σ _ _ _) zc_X9_102 rfl dX9_tick_14 rfl rfl rfl ?_
      refine zr_top ((congrArg sp_b (ap_in (n := 2) rfl)).trans (congrArg sp_b h2)) ?_
      refine zr_if_ne 24 dX9_tick_17 (by decide) (fun hp17 => ?_) (fun h => absurd h (by decide))
      refine zr_aload_n dX9_tick_24 rfl ?_
      refine zr_dup dX9_tick_25 rfl ?_
      refine zt_geti zg_X9_141 dX9_tick_26 rfl rfl rfl ?_
      refine zr_top (r7) ?_
      refine zr_iconst (v := 1) dX9_tick_29 kc_iconst_1 ?_
      refine zr_iadd dX9_tick_30 ?_
      refine zt_put zp_X9_141 dX9_tick_31 rfl rfl rfl rfl ?_
      refine zr_aload_n dX9_tick_34 rfl ?_
      refine zr_iload_n dX9_tick_35 rfl ?_
      refine zr_iload_n dX9_tick_36 rfl ?_
      refine zt_cVi (As := [_, _]) (cm_ticked L _ C m K hC hm hK (rC.kept (fun j hj => g j (by omega)) (fun k h1 h2 _ _ _ _ => gz_wr_ne (by omega))) (rK.kept (fun k hk => gz_wr_ne (by omega))) (rM.kept (fun j hj => g j (by omega)) rfl rfl) tg l z ((g 27 (by decide)).trans r5) (by omega) (by omega)) zc_X9_216 rfl dX9_tick_37 rfl rfl rfl rfl rfl rfl (fun r1 σ1 h1 => ?_)
      obtain ⟨a1, a2, a3⟩ := h1
      have rC1 := a3.C (rC.kept (fun j hj => g j (by omega)) (fun k h1 h2 _ _ _ _ => gz_wr_ne (by omega)))
      have rK1 := a3.K (rK.kept (σ' := gz_wr σ 57 29 (tk + 1)) (fun k hk => gz_wr_ne (by omega)))
      have g1 : ∀ j, (j = 27 ∨ j = 29 ∨ j = 38 ∨ j = 40) → σ1 57 j = gz_wr σ 57 29 (tk + 1) 57 j := fun j hj => a3.2 j (by omega) (by omega) (by omega) (by omega) (by omega)
      refine zr_iret dX9_tick_40 rfl (hQ _ _ ⟨a1, ⟨⟨rC1, rK1, a2⟩, ⟨(g1 27 (by omega)).trans ((g 27 (by decide)).trans r5), (g1 29 (by omega)).trans (by rw [gz_wr_eq]; simp [upd])⟩, (g1 38 (by omega)).trans ((g 38 (by decide)).trans s1), (g1 40 (by omega)).trans ((g 40 (by decide)).trans s2), ?_, ?_⟩, fun k hk => (a3.1 k (by omega) (by omega) (by omega) (by omega)).trans (gz_wr_ne (by omega))⟩)
      · rw [a3.1 78 (by decide) (by decide) (by decide) (by decide)]
        exact s3
      · rw [a3.1 79 (by decide) (by decide) (by decide) (by decide)]
        exact s4
theorem ax_state (L : Nat) (σ : gz_Mm) (S : ap_S) (hw : ap_wf S) (hX : am_X σ S) (w : Int32) : gz_Gi 0 yX9_state cX9_state 2 (some .int) L [.ref 57, .int w] σ (am_P σ (fa_state w S)) := by
  obtain ⟨C, K, m, tg, tk, no, nu, fO, fU⟩ := S
  obtain ⟨hC, hK, hm, htg, hno, hnu, hz0, hz2⟩ := hw
  have hX0 := hX
  obtain ⟨⟨rC, rK, rM⟩, ⟨r5, r7⟩, s1, s2, s3, s4⟩ := hX
  obtain ⟨h80, h8, h20, ho8, ht20⟩ := hC.1
  have c0 := rC.1.1
  have c1 := rC.1.2.1
  have c2 := rC.1.2.2.1
  have c3 := rC.1.2.2.2.1
  have c4 := rC.1.2.2.2.2
  refine gz_Gi.of rfl rfl (fun Q hQ => ?_)
  obtain ⟨a1, a2, a3, a4, a5, a6, a7, a8, a9⟩ := rM
  refine zr_iload_n dX9_state_0 rfl ?_
  by_cases w0 : w = 0
  · subst w0
    refine zr_tin (off := 35) 36 dX9_state_1 (by decide) (by decide) (by decide) (by decide) ?_
    refine zr_aload_n dX9_state_36 rfl ?_
    refine zt_geti zg_X9_201 dX9_state_37 rfl rfl rfl ?_
    refine zr_top (a5) ?_
    exact zr_iret dX9_state_40 rfl (hQ _ _ ⟨rfl, hX0, fun _ _ => rfl⟩)
  by_cases w1 : w = 1
  · subst w1
    refine zr_tin (off := 40) 41 dX9_state_1 (by decide) (by decide) (by decide) (by decide) ?_
    refine zr_aload_n dX9_state_41 rfl ?_
    refine zt_geti zg_X9_63 dX9_state_42 rfl rfl rfl ?_
    refine zr_top (a6) ?_
    exact zr_iret dX9_state_45 rfl (hQ _ _ ⟨rfl, hX0, fun _ _ => rfl⟩)
  by_cases w2 : w = 2
  · subst w2
    refine zr_tin (off := 45) 46 dX9_state_1 (by decide) (by decide) (by decide) (by decide) ?_
    refine zr_aload_n dX9_state_46 rfl ?_
    refine zt_geti zg_X9_210 dX9_state_47 rfl rfl rfl ?_
    refine zr_top (a7) ?_
    exact zr_iret dX9_state_50 rfl (hQ _ _ ⟨rfl, hX0, fun _ _ => rfl⟩)
  by_cases w3 : w = 3
  · subst w3
    refine zr_tin (off := 50) 51 dX9_state_1 (by decide) (by decide) (by decide) (by decide) ?_
    refine zr_aload_n dX9_state_51 rfl ?_
    refine zt_geti zg_X9_198 dX9_state_52 rfl rfl rfl ?_
    refine zr_top (a8) ?_
    exact zr_iret dX9_state_55 rfl (hQ _ _ ⟨rfl, hX0, fun _ _ => rfl⟩)
  by_cases w4 : w = 4
  · subst w4
    refine zr_tin (off := 55) 56 dX9_state_1 (by decide) (by decide) (by decide) (by decide) ?_
    refine zr_aload_n dX9_state_56 rfl ?_
    refine zt_geti zg_X9_195 dX9_state_57 rfl rfl rfl ?_
    refine zr_top (a9) ?_
    exact zr_iret dX9_state_60 rfl (hQ _ _ ⟨rfl, hX0, fun _ _ => rfl⟩)
  have e : fa_state w (C, K, m, tg, tk, no, nu, fO, fU) = (-1002, (C, K, m, tg, tk, no, nu, fO, fU)) := by simp [fa_state, w0, w1, w2, w3, w4]
  rw [e] at hQ
  refine zr_tout 61 dX9_state_1 (i32_out (n := 4) (by decide) (fun j hj q => by rcases (show j = 0 ∨ j = 1 ∨ j = 2 ∨ j = 3 ∨ j = 4 by omega) with rfl | rfl | rfl | rfl | rfl <;> first | exact w0 q | exact w1 q | exact w2 q | exact w3 q | exact w4 q)) (by decide) ?_
  refine zr_sipush (v := (-1002)) dX9_state_61 kc_sipush_m1002 ?_
  exact zr_iret dX9_state_64 rfl (hQ _ _ ⟨rfl, hX0, fun _ _ => rfl⟩)
theorem nI_shl20 {k : Nat} (hk : k ≤ 20) : (1 : Int32) <<< (nI k &&& 31) = nI (2 ^ k) := by
  have h2 : 2 ^ k ≤ 2 ^ 20 := Nat.pow_le_pow_right (by decide) hk
  have := pk_shlN (n := 1) (nI k &&& 31) k (bt_s k (by omega)) (by omega)
  rw [Nat.one_mul] at this
  exact this
theorem ax_test (L : Nat) (σ : gz_Mm) (S : ap_S) (hw : ap_wf S) (hX : am_X σ S) (a b : Int32) : gz_Gi 1 yX9_test cX9_test 3 (some .int) L [.ref 57, .int a, .int b] σ (am_P σ (fa_test a b S)) := by
  obtain ⟨C, K, m, tg, tk, no, nu, fO, fU⟩ := S
  obtain ⟨hC, hK, hm, htg, hno, hnu, hz0, hz2⟩ := hw
  have hX0 := hX
  obtain ⟨⟨rC, rK, rM⟩, ⟨r5, r7⟩, s1, s2, s3, s4⟩ := hX
  obtain ⟨h80, h8, h20, ho8, ht20⟩ := hC.1
  have c0 := rC.1.1
  have c1 := rC.1.2.1
  have c2 := rC.1.2.2.1
  have c3 := rC.1.2.2.2.1
  have c4 := rC.1.2.2.2.2
  have hp1 : 2 ^ (C 9 1) ≤ 2 ^ 8 := Nat.pow_le_pow_right (by decide) h8
  have hp2 : 2 ^ (C 9 2) ≤ 2 ^ 20 := Nat.pow_le_pow_right (by decide) h20
  refine gz_Gi.of rfl rfl (fun Q hQ => ?_)
  cases h1 : ap_v a (2 ^ (C 9 1)) with
  | false =>
    rw [show fa_test a b (C, K, m, tg, tk, no, nu, fO, fU) = (-1002, (C, K, m, tg, tk, no, nu, fO, fU)) by simp [fa_test, h1]] at hQ
    refine zr_iload_n dX9_test_0 rfl ?_
    refine zr_i2l dX9_test_1 ?_
    refine zr_lconst (v := 0) dX9_test_2 (by decide) ?_
    refine zr_iconst (v := 1) dX9_test_3 kc_iconst_1 ?_
    refine zr_aload_n dX9_test_4 rfl ?_
    refine zt_geti zg_X9_109 dX9_test_5 rfl rfl rfl ?_
    refine zr_top (c1) ?_
    refine zr_ishl dX9_test_8 ?_
    refine zr_top (nI_shl20 (by omega)) ?_
    refine zr_iconst (v := 1) dX9_test_9 kc_iconst_1 ?_
    refine zr_isub dX9_test_10 ?_
    refine zr_i2l dX9_test_11 ?_
    refine zt_callSi (As := [_, _, _]) (cm_in L σ _ _ _) zc_X9_102 rfl dX9_test_12 rfl rfl rfl ?_
    refine zr_top ((congrArg sp_b (ap_in (nI_less (by omega)))).trans (congrArg sp_b h1)) ?_
    refine zr_if_eq 36 dX9_test_15 (by decide) (fun hp15 => ?_) (fun h => absurd rfl h)
    refine zr_sipush (v := (-1002)) dX9_test_36 kc_sipush_m1002 ?_
    exact zr_iret dX9_test_39 rfl (hQ _ _ ⟨rfl, hX0, fun _ _ => rfl⟩)
  | true =>
    cases h2 : ap_v b (2 ^ (C 9 2)) with
    | false =>
      rw [show fa_test a b (C, K, m, tg, tk, no, nu, fO, fU) = (-1002, (C, K, m, tg, tk, no, nu, fO, fU)) by simp [fa_test, h2]] at hQ
      refine zr_iload_n dX9_test_0 rfl ?_
      refine zr_i2l dX9_test_1 ?_
      refine zr_lconst (v := 0) dX9_test_2 (by decide) ?_
      refine zr_iconst (v := 1) dX9_test_3 kc_iconst_1 ?_
      refine zr_aload_n dX9_test_4 rfl ?_
      refine zt_geti zg_X9_109 dX9_test_5 rfl rfl rfl ?_
      refine zr_top (c1) ?_
      refine zr_ishl dX9_test_8 ?_
      refine zr_top (nI_shl20 (by omega)) ?_
      refine zr_iconst (v := 1) dX9_test_9 kc_iconst_1 ?_
      refine zr_isub dX9_test_10 ?_
      refine zr_i2l dX9_test_11 ?_
      refine zt_callSi (As := [_, _, _]) (cm_in L σ _ _ _) zc_X9_102 rfl dX9_test_12 rfl rfl rfl ?_
      refine zr_top ((congrArg sp_b (ap_in (nI_less (by omega)))).trans (congrArg sp_b h1)) ?_
      refine zr_if_eq 36 dX9_test_15 (by decide) (fun h => absurd h (by decide)) (fun hp15 => ?_)
      refine zr_iload_n dX9_test_18 rfl ?_
      refine zr_i2l dX9_test_19 ?_
      refine zr_lconst (v := 0) dX9_test_20 (by decide) ?_
      refine zr_iconst (v := 1) dX9_test_21 kc_iconst_1 ?_
      refine zr_aload_n dX9_test_22 rfl ?_
      refine zt_geti zg_X9_106 dX9_test_23 rfl rfl rfl ?_
      refine zr_top (c2) ?_
      refine zr_ishl dX9_test_26 ?_
      refine zr_top (nI_shl20 (by omega)) ?_
      refine zr_iconst (v := 1) dX9_test_27 kc_iconst_1 ?_
      refine zr_isub dX9_test_28 ?_
      refine zr_i2l dX9_test_29 ?_
      refine zt_callSi (As := [_, _, _]) (cm_in L σ _ _ _) zc_X9_102 rfl dX9_test_30 rfl rfl rfl ?_
      refine zr_top ((congrArg sp_b (ap_in (nI_less (by omega)))).trans (congrArg sp_b h2)) ?_
      refine zr_if_ne 40 dX9_test_33 (by decide) (fun h => absurd rfl h) (fun hp33 => ?_)
      refine zr_sipush (v := (-1002)) dX9_test_36 kc_sipush_m1002 ?_
      exact zr_iret dX9_test_39 rfl (hQ _ _ ⟨rfl, hX0, fun _ _ => rfl⟩)
    | true =>
      by_cases f : C 9 4 = 20
      · rw [show fa_test a b (C, K, m, tg, tk, no, nu, fO, fU) = (-1004, (C, K, m, tg, tk, no, nu, fO, fU)) by simp [fa_test, h1, h2, f]] at hQ
        refine zr_iload_n dX9_test_0 rfl ?_
        refine zr_i2l dX9_test_1 ?_
        refine zr_lconst (v := 0) dX9_test_2 (by decide) ?_
        refine zr_iconst (v := 1) dX9_test_3 kc_iconst_1 ?_
        refine zr_aload_n dX9_test_4 rfl ?_
        refine zt_geti zg_X9_109 dX9_test_5 rfl rfl rfl ?_
        refine zr_top (c1) ?_
        refine zr_ishl dX9_test_8 ?_
        refine zr_top (nI_shl20 (by omega)) ?_
        refine zr_iconst (v := 1) dX9_test_9 kc_iconst_1 ?_
        refine zr_isub dX9_test_10 ?_
        refine zr_i2l dX9_test_11 ?_
        refine zt_callSi (As := [_, _, _]) (cm_in L σ _ _ _) zc_X9_102 rfl dX9_test_12 rfl rfl rfl ?_
        refine zr_top ((congrArg sp_b (ap_in (nI_less (by omega)))).trans (congrArg sp_b h1)) ?_
        refine zr_if_eq 36 dX9_test_15 (by decide) (fun h => absurd h (by decide)) (fun hp15 => ?_)
        refine zr_iload_n dX9_test_18 rfl ?_
        refine zr_i2l dX9_test_19 ?_
        refine zr_lconst (v := 0) dX9_test_20 (by decide) ?_
        refine zr_iconst (v := 1) dX9_test_21 kc_iconst_1 ?_
        refine zr_aload_n dX9_test_22 rfl ?_
        refine zt_geti zg_X9_106 dX9_test_23 rfl rfl rfl ?_
        refine zr_top (c2) ?_
        refine zr_ishl dX9_test_26 ?_
        refine zr_top (nI_shl20 (by omega)) ?_
        refine zr_iconst (v := 1) dX9_test_27 kc_iconst_1 ?_
        refine zr_isub dX9_test_28 ?_
        refine zr_i2l dX9_test_29 ?_
        refine zt_callSi (As := [_, _, _]) (cm_in L σ _ _ _) zc_X9_102 rfl dX9_test_30 rfl rfl rfl ?_
        refine zr_top ((congrArg sp_b (ap_in (nI_less (by omega)))).trans (congrArg sp_b h2)) ?_
        refine zr_if_ne 40 dX9_test_33 (by decide) (fun hp33 => ?_) (fun h => absurd h (by decide))
        refine zr_aload_n dX9_test_40 rfl ?_
        refine zt_geti zg_X9_134 dX9_test_41 rfl rfl rfl ?_
        refine zr_top (c4) ?_
        refine zr_bipush (v := 20) dX9_test_44 kc_bipush_20 ?_
        refine zr_icmp_ne 53 dX9_test_46 (by decide) (fun h => absurd (by rw [f]; rfl) h) (fun hp46 => ?_)
        refine zr_sipush (v := (-1004)) dX9_test_49 kc_sipush_m1004 ?_
        exact zr_iret dX9_test_52 rfl (hQ _ _ ⟨rfl, hX0, fun _ _ => rfl⟩)
      · obtain ⟨x, hx, rfl, ex⟩ := ap_v_t h1 (by omega)
        obtain ⟨z, hz, rfl, ez⟩ := ap_v_t h2 (by omega)
        rw [show fa_test (nI x) (nI z) (C, K, m, tg, tk, no, nu, fO, fU) = (nI (C 9 4), (sp_w (sp_w (sp_w C 10 (C 9 4) x) 11 (C 9 4) z) 9 4 (C 9 4 + 1), K, m, tg, tk, no, nu, fO, fU)) by simp [fa_test, h1, h2, f, ex, ez]] at hQ
        generalize hn : C 9 4 = n at *
        refine zr_iload_n dX9_test_0 rfl ?_
        refine zr_i2l dX9_test_1 ?_
        refine zr_lconst (v := 0) dX9_test_2 (by decide) ?_
        refine zr_iconst (v := 1) dX9_test_3 kc_iconst_1 ?_
        refine zr_aload_n dX9_test_4 rfl ?_
        refine zt_geti zg_X9_109 dX9_test_5 rfl rfl rfl ?_
        refine zr_top (c1) ?_
        refine zr_ishl dX9_test_8 ?_
        refine zr_top (nI_shl20 (by omega)) ?_
        refine zr_iconst (v := 1) dX9_test_9 kc_iconst_1 ?_
        refine zr_isub dX9_test_10 ?_
        refine zr_i2l dX9_test_11 ?_
        refine zt_callSi (As := [_, _, _]) (cm_in L σ _ _ _) zc_X9_102 rfl dX9_test_12 rfl rfl rfl ?_
        refine zr_top ((congrArg sp_b (ap_in (nI_less (by omega)))).trans (congrArg sp_b h1)) ?_
        refine zr_if_eq 36 dX9_test_15 (by decide) (fun h => absurd h (by decide)) (fun hp15 => ?_)
        refine zr_iload_n dX9_test_18 rfl ?_
        refine zr_i2l dX9_test_19 ?_
        refine zr_lconst (v := 0) dX9_test_20 (by decide) ?_
        refine zr_iconst (v := 1) dX9_test_21 kc_iconst_1 ?_
        refine zr_aload_n dX9_test_22 rfl ?_
        refine zt_geti zg_X9_106 dX9_test_23 rfl rfl rfl ?_
        refine zr_top (c2) ?_
        refine zr_ishl dX9_test_26 ?_
        refine zr_top (nI_shl20 (by omega)) ?_
        refine zr_iconst (v := 1) dX9_test_27 kc_iconst_1 ?_
        refine zr_isub dX9_test_28 ?_
        refine zr_i2l dX9_test_29 ?_
        refine zt_callSi (As := [_, _, _]) (cm_in L σ _ _ _) zc_X9_102 rfl dX9_test_30 rfl rfl rfl ?_
        refine zr_top ((congrArg sp_b (ap_in (nI_less (by omega)))).trans (congrArg sp_b h2)) ?_
        refine zr_if_ne 40 dX9_test_33 (by decide) (fun hp33 => ?_) (fun h => absurd h (by decide))
        refine zr_aload_n dX9_test_40 rfl ?_
        refine zt_geti zg_X9_134 dX9_test_41 rfl rfl rfl ?_
        refine zr_top (c4) ?_
        refine zr_bipush (v := 20) dX9_test_44 kc_bipush_20 ?_
        refine zr_icmp_ne 53 dX9_test_46 (by decide) (fun hp46 => ?_) (fun h => absurd ((nI_eq (b := 20) (by omega) (by omega)).mp h) f)
        refine zr_aload_n dX9_test_53 rfl ?_
        refine zt_getr zg_X9_47 dX9_test_54 rfl rfl rfl ?_
        refine zr_aload_n dX9_test_57 rfl ?_
        refine zt_geti zg_X9_134 dX9_test_58 rfl rfl rfl ?_
        refine zr_top (c4) ?_
        refine zr_iload_n dX9_test_61 rfl ?_
        refine zt_istN dX9_test_62 rfl rfl rfl (by omega) ?_
        refine zr_aload_n dX9_test_63 rfl ?_
        refine zt_getr zg_X9_50 dX9_test_64 rfl rfl rfl ?_
        refine zr_aload_n dX9_test_67 rfl ?_
        refine zt_geti zg_X9_134 dX9_test_68 rfl rfl rfl ?_
        refine zr_top (c4) ?_
        refine zr_iload_n dX9_test_71 rfl ?_
        refine zt_istN dX9_test_72 rfl rfl rfl (by omega) ?_
        refine zr_aload_n dX9_test_73 rfl ?_
        refine zr_dup dX9_test_74 rfl ?_
        refine zt_geti zg_X9_134 dX9_test_75 rfl rfl rfl ?_
        refine zr_top (c4) ?_
        refine zr_iconst (v := 1) dX9_test_78 kc_iconst_1 ?_
        refine zr_iadd dX9_test_79 ?_
        refine zr_top (nI_1 n) ?_
        refine zt_put zp_X9_134 dX9_test_80 rfl rfl rfl rfl ?_
        refine zr_aload_n dX9_test_83 rfl ?_
        refine zt_geti zg_X9_134 dX9_test_84 rfl rfl rfl ?_
        refine zr_top ((by simp [gz_wr, upd] : _ = nI (n + 1))) ?_
        refine zr_iconst (v := 1) dX9_test_87 kc_iconst_1 ?_
        refine zr_isub dX9_test_88 ?_
        refine zr_top (nI_pred n) ?_
        refine zr_iret dX9_test_89 rfl (hQ _ _ ⟨rfl, ?_, fun k hk => by simp [gz_wr, show ¬ k = 57 by omega, show ¬ k = 70 by omega, show ¬ k = 71 by omega]⟩)
        refine hX0.circ (C' := sp_w (sp_w (sp_w C 10 n x) 11 n z) 9 4 (n + 1)) ?_ (rK.tab (fun k hk => ?_) (fun c => by simp [sp_w]) (by simp [sp_w])) (rm_m.tab (C := C) (rM.kept (fun j hj => ?_) rfl rfl) (by simp [sp_w])) (fun j hj => ?_) rfl rfl
        · obtain ⟨⟨p1, p2, p3, p4, p5⟩, q1, q2, q3, q4⟩ := rC
          refine ⟨⟨by simpa [gz_wr, upd, sp_w] using p1, by simpa [gz_wr, upd, sp_w] using p2, by simpa [gz_wr, upd, sp_w] using p3, by simpa [gz_wr, upd, sp_w] using p4, by simp [gz_wr, upd, sp_w]⟩, fun l hl => ?_, fun c hc => ?_, fun q hq => ?_, fun q hq => ?_⟩
          · simpa [gz_wr, upd, sp_w] using q1 l (by simpa [sp_w] using hl)
          · simpa [gz_wr, upd, sp_w] using q2 c (by simpa [sp_w] using hc)
          · simpa [gz_wr, upd, sp_w] using q3 q (by simpa [sp_w] using hq)
          · by_cases e : q = n
            · subst e
              simp [gz_wr, upd, sp_w]
            · have := q4 q (by simp [sp_w] at hq; omega)
              simpa [gz_wr, upd, sp_w, e] using this
        · rcases hk with rfl | rfl | rfl | rfl <;> rfl
        · rw [gz_wr_eq, pk_un (by omega)]
          rfl
        · rcases hj with rfl | rfl | rfl | rfl <;> rfl
theorem ax_seen (L : Nat) (σ : gz_Mm) (S : ap_S) (hw : ap_wf S) (hX : am_X σ S) (w i : Int32) : gz_Gi 1 yX9_seen cX9_seen 3 (some .int) L [.ref 57, .int w, .int i] σ (am_P σ (fa_seen w i S)) := by
  obtain ⟨C, K, m, tg, tk, no, nu, fO, fU⟩ := S
  obtain ⟨hC, hK, hm, htg, hno, hnu, hz0, hz2⟩ := hw
  have hX0 := hX
  obtain ⟨⟨rC, rK, rM⟩, ⟨r5, r7⟩, s1, s2, s3, s4⟩ := hX
  obtain ⟨h80, h8, h20, ho8, ht20⟩ := hC.1
  have c0 := rC.1.1
  have c1 := rC.1.2.1
  have c2 := rC.1.2.2.1
  have c3 := rC.1.2.2.2.1
  have c4 := rC.1.2.2.2.2
  refine gz_Gi.of rfl rfl (fun Q hQ => ?_)
  cases h1 : ap_v w 2 with
  | false =>
    have w0 : ¬ w = 0 := fun q => by rw [q] at h1; exact absurd h1 (by decide)
    have w1 : ¬ w = 1 := fun q => by rw [q] at h1; exact absurd h1 (by decide)
    rw [show fa_seen w i (C, K, m, tg, tk, no, nu, fO, fU) = (-1002, (C, K, m, tg, tk, no, nu, fO, fU)) by simp [fa_seen, w0, w1]] at hQ
    refine zr_iload_n dX9_seen_0 rfl ?_
    refine zr_i2l dX9_seen_1 ?_
    refine zr_lconst (v := 0) dX9_seen_2 (by decide) ?_
    refine zr_lconst (v := 1) dX9_seen_3 (by decide) ?_
    refine zt_callSi (As := [_, _, _]) (cm_in L σ _ _ _) zc_X9_102 rfl dX9_seen_4 rfl rfl rfl ?_
    refine zr_top ((congrArg sp_b (ap_in (n := 2) rfl)).trans (congrArg sp_b h1)) ?_
    refine zr_if_ne 14 dX9_seen_7 (by decide) (fun h => absurd rfl h) (fun hp7 => ?_)
    refine zr_sipush (v := (-1002)) dX9_seen_10 kc_sipush_m1002 ?_
    exact zr_iret dX9_seen_13 rfl (hQ _ _ ⟨rfl, hX0, fun _ _ => rfl⟩)
  | true =>
    obtain ⟨l, hl, rfl, el⟩ := ap_v_t h1 (by omega)
    by_cases w0 : l = 0
    · subst w0
      cases h2 : ap_v i no with
      | false =>
        rw [show fa_seen (nI 0) i (C, K, m, tg, tk, no, nu, fO, fU) = (-1, (C, K, m, tg, tk, no, nu, fO, fU)) by simp [fa_seen, h2, nI_0]] at hQ
        refine zr_iload_n dX9_seen_0 rfl ?_
        refine zr_i2l dX9_seen_1 ?_
        refine zr_lconst (v := 0) dX9_seen_2 (by decide) ?_
        refine zr_lconst (v := 1) dX9_seen_3 (by decide) ?_
        refine zt_callSi (As := [_, _, _]) (cm_in L σ _ _ _) zc_X9_102 rfl dX9_seen_4 rfl rfl rfl ?_
        refine zr_top ((congrArg sp_b (ap_in (n := 2) rfl)).trans (congrArg sp_b h1)) ?_
        refine zr_if_ne 14 dX9_seen_7 (by decide) (fun hp7 => ?_) (fun h => absurd h (by decide))
        refine zr_iload_n dX9_seen_14 rfl ?_
        refine zr_if_ne 45 dX9_seen_15 (by decide) (fun h => absurd rfl h) (fun hp15 => ?_)
        refine zr_iload_n dX9_seen_18 rfl ?_
        refine zr_i2l dX9_seen_19 ?_
        refine zr_lconst (v := 0) dX9_seen_20 (by decide) ?_
        refine zr_aload_n dX9_seen_21 rfl ?_
        refine zt_geti zg_X9_241 dX9_seen_22 rfl rfl rfl ?_
        refine zr_top (s1) ?_
        refine zr_iconst (v := 1) dX9_seen_25 kc_iconst_1 ?_
        refine zr_isub dX9_seen_26 ?_
        refine zr_i2l dX9_seen_27 ?_
        refine zt_callSi (As := [_, _, _]) (cm_in L σ _ _ _) zc_X9_102 rfl dX9_seen_28 rfl rfl rfl ?_
        refine zr_top ((congrArg sp_b (ap_in (nI_less (by omega)))).trans (congrArg sp_b h2)) ?_
        refine zr_if_eq 43 dX9_seen_31 (by decide) (fun hp31 => ?_) (fun h => absurd rfl h)
        refine zr_iconst (v := (-1)) dX9_seen_43 kc_iconst_m1 ?_
        exact zr_iret dX9_seen_44 rfl (hQ _ _ ⟨rfl, hX0, fun _ _ => rfl⟩)
      | true =>
        obtain ⟨z, hz, rfl, ez⟩ := ap_v_t h2 (by omega)
        rw [show fa_seen (nI 0) (nI z) (C, K, m, tg, tk, no, nu, fO, fU) = (fO z, (C, K, m, tg, tk, no, nu, fO, fU)) by simp [fa_seen, h2, nI_0, ez]] at hQ
        refine zr_iload_n dX9_seen_0 rfl ?_
        refine zr_i2l dX9_seen_1 ?_
        refine zr_lconst (v := 0) dX9_seen_2 (by decide) ?_
        refine zr_lconst (v := 1) dX9_seen_3 (by decide) ?_
        refine zt_callSi (As := [_, _, _]) (cm_in L σ _ _ _) zc_X9_102 rfl dX9_seen_4 rfl rfl rfl ?_
        refine zr_top ((congrArg sp_b (ap_in (n := 2) rfl)).trans (congrArg sp_b h1)) ?_
        refine zr_if_ne 14 dX9_seen_7 (by decide) (fun hp7 => ?_) (fun h => absurd h (by decide))
        refine zr_iload_n dX9_seen_14 rfl ?_
        refine zr_if_ne 45 dX9_seen_15 (by decide) (fun h => absurd rfl h) (fun hp15 => ?_)
        refine zr_iload_n dX9_seen_18 rfl ?_
        refine zr_i2l dX9_seen_19 ?_
        refine zr_lconst (v := 0) dX9_seen_20 (by decide) ?_
        refine zr_aload_n dX9_seen_21 rfl ?_
        refine zt_geti zg_X9_241 dX9_seen_22 rfl rfl rfl ?_
        refine zr_top (s1) ?_
        refine zr_iconst (v := 1) dX9_seen_25 kc_iconst_1 ?_
        refine zr_isub dX9_seen_26 ?_
        refine zr_i2l dX9_seen_27 ?_
        refine zt_callSi (As := [_, _, _]) (cm_in L σ _ _ _) zc_X9_102 rfl dX9_seen_28 rfl rfl rfl ?_
        refine zr_top ((congrArg sp_b (ap_in (nI_less (by omega)))).trans (congrArg sp_b h2)) ?_
        refine zr_if_eq 43 dX9_seen_31 (by decide) (fun h => absurd h (by decide)) (fun hp31 => ?_)
        refine zr_aload_n dX9_seen_34 rfl ?_
        refine zt_getr zg_X9_78 dX9_seen_35 rfl rfl rfl ?_
        refine zr_iload_n dX9_seen_38 rfl ?_
        refine zt_ildN dX9_seen_39 rfl rfl (by omega) (s3 z hz) ?_
        refine zr_goto 44 dX9_seen_40 (by decide) ?_
        exact zr_iret dX9_seen_44 rfl (hQ _ _ ⟨rfl, hX0, fun _ _ => rfl⟩)
    · obtain rfl : l = 1 := by omega
      have z1 : ¬ nI 1 = 0 := by decide
      cases h2 : ap_v i nu with
      | false =>
        rw [show fa_seen (nI 1) i (C, K, m, tg, tk, no, nu, fO, fU) = (-1, (C, K, m, tg, tk, no, nu, fO, fU)) by simp only [fa_seen]; rw [if_neg z1, if_pos (show nI 1 = 1 from rfl), if_pos h2]] at hQ
        refine zr_iload_n dX9_seen_0 rfl ?_
        refine zr_i2l dX9_seen_1 ?_
        refine zr_lconst (v := 0) dX9_seen_2 (by decide) ?_
        refine zr_lconst (v := 1) dX9_seen_3 (by decide) ?_
        refine zt_callSi (As := [_, _, _]) (cm_in L σ _ _ _) zc_X9_102 rfl dX9_seen_4 rfl rfl rfl ?_
        refine zr_top ((congrArg sp_b (ap_in (n := 2) rfl)).trans (congrArg sp_b h1)) ?_
        refine zr_if_ne 14 dX9_seen_7 (by decide) (fun hp7 => ?_) (fun h => absurd h (by decide))
        refine zr_iload_n dX9_seen_14 rfl ?_
        refine zr_if_ne 45 dX9_seen_15 (by decide) (fun hp15 => ?_) (fun h => absurd h z1)
        refine zr_iload_n dX9_seen_45 rfl ?_
        refine zr_i2l dX9_seen_46 ?_
        refine zr_lconst (v := 0) dX9_seen_47 (by decide) ?_
        refine zr_aload_n dX9_seen_48 rfl ?_
        refine zt_geti zg_X9_244 dX9_seen_49 rfl rfl rfl ?_
        refine zr_top (s2) ?_
        refine zr_iconst (v := 1) dX9_seen_52 kc_iconst_1 ?_
        refine zr_isub dX9_seen_53 ?_
        refine zr_i2l dX9_seen_54 ?_
        refine zt_callSi (As := [_, _, _]) (cm_in L σ _ _ _) zc_X9_102 rfl dX9_seen_55 rfl rfl rfl ?_
        refine zr_top ((congrArg sp_b (ap_in (nI_less (by omega)))).trans (congrArg sp_b h2)) ?_
        refine zr_if_eq 70 dX9_seen_58 (by decide) (fun hp58 => ?_) (fun h => absurd rfl h)
        refine zr_iconst (v := (-1)) dX9_seen_70 kc_iconst_m1 ?_
        exact zr_iret dX9_seen_71 rfl (hQ _ _ ⟨rfl, hX0, fun _ _ => rfl⟩)
      | true =>
        obtain ⟨z, hz, rfl, ez⟩ := ap_v_t h2 (by omega)
        rw [show fa_seen (nI 1) (nI z) (C, K, m, tg, tk, no, nu, fO, fU) = (fU z, (C, K, m, tg, tk, no, nu, fO, fU)) by simp only [fa_seen]; rw [if_neg z1, if_pos (show nI 1 = 1 from rfl), if_neg (by rw [h2]; decide), ez]] at hQ
        refine zr_iload_n dX9_seen_0 rfl ?_
        refine zr_i2l dX9_seen_1 ?_
        refine zr_lconst (v := 0) dX9_seen_2 (by decide) ?_
        refine zr_lconst (v := 1) dX9_seen_3 (by decide) ?_
        refine zt_callSi (As := [_, _, _]) (cm_in L σ _ _ _) zc_X9_102 rfl dX9_seen_4 rfl rfl rfl ?_
        refine zr_top ((congrArg sp_b (ap_in (n := 2) rfl)).trans (congrArg sp_b h1)) ?_
        refine zr_if_ne 14 dX9_seen_7 (by decide) (fun hp7 => ?_) (fun h => absurd h (by decide))
        refine zr_iload_n dX9_seen_14 rfl ?_
        refine zr_if_ne 45 dX9_seen_15 (by decide) (fun hp15 => ?_) (fun h => absurd h z1)
        refine zr_iload_n dX9_seen_45 rfl ?_
        refine zr_i2l dX9_seen_46 ?_
        refine zr_lconst (v := 0) dX9_seen_47 (by decide) ?_
        refine zr_aload_n dX9_seen_48 rfl ?_
        refine zt_geti zg_X9_244 dX9_seen_49 rfl rfl rfl ?_
        refine zr_top (s2) ?_
        refine zr_iconst (v := 1) dX9_seen_52 kc_iconst_1 ?_
        refine zr_isub dX9_seen_53 ?_
        refine zr_i2l dX9_seen_54 ?_
        refine zt_callSi (As := [_, _, _]) (cm_in L σ _ _ _) zc_X9_102 rfl dX9_seen_55 rfl rfl rfl ?_
        refine zr_top ((congrArg sp_b (ap_in (nI_less (by omega)))).trans (congrArg sp_b h2)) ?_
        refine zr_if_eq 70 dX9_seen_58 (by decide) (fun h => absurd h (by decide)) (fun hp58 => ?_)
        refine zr_aload_n dX9_seen_61 rfl ?_
        refine zt_getr zg_X9_81 dX9_seen_62 rfl rfl rfl ?_
        refine zr_iload_n dX9_seen_65 rfl ?_
        refine zt_ildN dX9_seen_66 rfl rfl (by omega) (s4 z hz) ?_
        refine zr_goto 71 dX9_seen_67 (by decide) ?_
        exact zr_iret dX9_seen_71 rfl (hQ _ _ ⟨rfl, hX0, fun _ _ => rfl⟩)
theorem ax_shift (L : Nat) (σ : gz_Mm) (S : ap_S) (hw : ap_wf S) (hX : am_X σ S) (k v : Int32) : gz_Gi 3 yX9_shift cX9_shift 3 (some .int) L [.ref 57, .int k, .int v] σ (am_P σ (fa_shift k v S)) := by
  obtain ⟨C, K, m, tg, tk, no, nu, fO, fU⟩ := S
  obtain ⟨hC, hK, hm, htg, hno, hnu, hz0, hz2⟩ := hw
  have hX0 := hX
  obtain ⟨⟨rC, rK, rM⟩, ⟨r5, r7⟩, s1, s2, s3, s4⟩ := hX
  obtain ⟨h80, h8, h20, ho8, ht20⟩ := hC.1
  have c0 := rC.1.1
  have c1 := rC.1.2.1
  have c2 := rC.1.2.2.1
  have c3 := rC.1.2.2.2.1
  have c4 := rC.1.2.2.2.2
  refine gz_Gi.of rfl rfl (fun Q hQ => ?_)
  cases h1 : ap_v k 3 with
  | false =>
    rw [show fa_shift k v (C, K, m, tg, tk, no, nu, fO, fU) = (-1001, (C, K, m, tg, tk, no, nu, fO, fU)) by simp [fa_shift, h1]] at hQ
    refine zr_iload_n dX9_shift_0 rfl ?_
    refine zt_callSi (As := [_]) (cm_isChain L σ k) zc_X9_168 rfl dX9_shift_1 rfl rfl rfl ?_
    refine zr_top (congrArg sp_b h1) ?_
    refine zr_if_ne 13 dX9_shift_4 (by decide) (fun h => absurd rfl h) (fun hp4 => ?_)
    refine zr_sipush (v := (-1001)) dX9_shift_7 kc_sipush_m1001 ?_
    refine zr_goto 37 dX9_shift_10 (by decide) ?_
    exact zr_iret dX9_shift_37 rfl (hQ _ _ ⟨rfl, hX0, fun _ _ => rfl⟩)
  | true =>
    cases h2 : ap_v v 3 with
    | false =>
      rw [show fa_shift k v (C, K, m, tg, tk, no, nu, fO, fU) = (-1002, (C, K, m, tg, tk, no, nu, fO, fU)) by simp [fa_shift, h1, h2]] at hQ
      refine zr_iload_n dX9_shift_0 rfl ?_
      refine zt_callSi (As := [_]) (cm_isChain L σ k) zc_X9_168 rfl dX9_shift_1 rfl rfl rfl ?_
      refine zr_top (congrArg sp_b h1) ?_
      refine zr_if_ne 13 dX9_shift_4 (by decide) (fun hp4 => ?_) (fun h => absurd h (by decide))
      refine zr_iload_n dX9_shift_13 rfl ?_
      refine zr_i2l dX9_shift_14 ?_
      refine zr_lconst (v := 0) dX9_shift_15 (by decide) ?_
      refine zr_ldc2 zd_X9_126 dX9_shift_16 ?_
      refine zt_callSi (As := [_, _, _]) (cm_in L σ _ _ _) zc_X9_102 rfl dX9_shift_19 rfl rfl rfl ?_
      refine zr_top ((congrArg sp_b (ap_in (n := 3) rfl)).trans (congrArg sp_b h2)) ?_
      refine zr_if_eq 34 dX9_shift_22 (by decide) (fun hp22 => ?_) (fun h => absurd rfl h)
      refine zr_sipush (v := (-1002)) dX9_shift_34 kc_sipush_m1002 ?_
      exact zr_iret dX9_shift_37 rfl (hQ _ _ ⟨rfl, hX0, fun _ _ => rfl⟩)
    | true =>
      obtain ⟨x, hx, rfl, ex⟩ := ap_v_t h1 (by omega)
      obtain ⟨z, hz, rfl, ez⟩ := ap_v_t h2 (by omega)
      rw [show fa_shift (nI x) (nI z) (C, K, m, tg, tk, no, nu, fO, fU) = (nI (sp_out (sp_cv C m) (K x) z), (C, K, sp_row m 1 (sp_sh C (sp_cv C m) (K x) z (m 1)), tg, tk, no, nu, fO, fU)) by simp [fa_shift, h1, h2, ex, ez]] at hQ
      refine zr_iload_n dX9_shift_0 rfl ?_
      refine zt_callSi (As := [_]) (cm_isChain L σ (nI x)) zc_X9_168 rfl dX9_shift_1 rfl rfl rfl ?_
      refine zr_top (congrArg sp_b h1) ?_
      refine zr_if_ne 13 dX9_shift_4 (by decide) (fun hp4 => ?_) (fun h => absurd h (by decide))
      refine zr_iload_n dX9_shift_13 rfl ?_
      refine zr_i2l dX9_shift_14 ?_
      refine zr_lconst (v := 0) dX9_shift_15 (by decide) ?_
      refine zr_ldc2 zd_X9_126 dX9_shift_16 ?_
      refine zt_callSi (As := [_, _, _]) (cm_in L σ _ _ _) zc_X9_102 rfl dX9_shift_19 rfl rfl rfl ?_
      refine zr_top ((congrArg sp_b (ap_in (n := 3) rfl)).trans (congrArg sp_b h2)) ?_
      refine zr_if_eq 34 dX9_shift_22 (by decide) (fun h => absurd h (by decide)) (fun hp22 => ?_)
      refine zr_aload_n dX9_shift_25 rfl ?_
      refine zr_iload_n dX9_shift_26 rfl ?_
      refine zr_iload_n dX9_shift_27 rfl ?_
      refine zt_cVi (As := [_, _]) (cm_shifted L σ C m K hC hm hK rC rK rM x z hx (by omega)) zc_X9_185 rfl dX9_shift_28 rfl rfl rfl rfl rfl rfl (fun r1 σ1 h1 => ?_)
      refine zr_goto 37 dX9_shift_31 (by decide) ?_
      obtain ⟨a1, a2, a3⟩ := h1
      refine zr_iret dX9_shift_37 rfl (hQ _ _ ⟨a1, ?_, fun k hk => a2 k (by omega) (by omega)⟩)
      exact hX0.circ (rC.kept (fun j _ => congrFun (a2 57 (by decide) (by decide)) j) (fun k h1 h2 _ _ _ _ => a2 k (by omega) (by omega))) (rK.kept (fun k hk => a2 k (by omega) (by omega))) a3 (fun j hj => congrFun (a2 57 (by decide) (by decide)) j) (a2 78 (by decide) (by decide)) (a2 79 (by decide) (by decide))
theorem ax_drive (L : Nat) (σ : gz_Mm) (S : ap_S) (hw : ap_wf S) (hX : am_X σ S) (t : Int32) : gz_Gi 8 yX9_drive cX9_drive 3 (some .int) L [.ref 57, .int t] σ (am_P σ (fa_drive t S)) := by
  obtain ⟨C, K, m, tg, tk, no, nu, fO, fU⟩ := S
  obtain ⟨hC, hK, hm, htg, hno, hnu, hz0, hz2⟩ := hw
  have hX0 := hX
  obtain ⟨⟨rC, rK, rM⟩, ⟨r5, r7⟩, s1, s2, s3, s4⟩ := hX
  obtain ⟨h80, h8, h20, ho8, ht20⟩ := hC.1
  have c0 := rC.1.1
  have c1 := rC.1.2.1
  have c2 := rC.1.2.2.1
  have c3 := rC.1.2.2.2.1
  have c4 := rC.1.2.2.2.2
  have hln := sp_len_le hC hK
  refine gz_Gi.of rfl rfl (fun Q hQ => ?_)
  cases h1 : ap_v t (C 9 4) with
  | false =>
    rw [show fa_drive t (C, K, m, tg, tk, no, nu, fO, fU) = (-1001, (C, K, m, tg, tk, no, nu, fO, fU)) by simp [fa_drive, h1]] at hQ
    refine zr_iload_n dX9_drive_0 rfl ?_
    refine zr_i2l dX9_drive_1 ?_
    refine zr_lconst (v := 0) dX9_drive_2 (by decide) ?_
    refine zr_aload_n dX9_drive_3 rfl ?_
    refine zt_geti zg_X9_134 dX9_drive_4 rfl rfl rfl ?_
    refine zr_top (c4) ?_
    refine zr_iconst (v := 1) dX9_drive_7 kc_iconst_1 ?_
    refine zr_isub dX9_drive_8 ?_
    refine zr_i2l dX9_drive_9 ?_
    refine zt_callSi (As := [_, _, _]) (cm_in L σ _ _ _) zc_X9_102 rfl dX9_drive_10 rfl rfl rfl ?_
    refine zr_top ((congrArg sp_b (ap_in (nI_less (by omega)))).trans (congrArg sp_b h1)) ?_
    refine zr_if_ne 20 dX9_drive_13 (by decide) (fun h => absurd rfl h) (fun hp13 => ?_)
    refine zr_sipush (v := (-1001)) dX9_drive_16 kc_sipush_m1001 ?_
    exact zr_iret dX9_drive_19 rfl (hQ _ _ ⟨rfl, hX0, fun _ _ => rfl⟩)
  | true =>
    obtain ⟨x, hx, rfl, ex⟩ := ap_v_t h1 (by omega)
    rw [show fa_drive (nI x) (C, K, m, tg, tk, no, nu, fO, fU) = (nI (23 + 2 * sp_len K), (C, K, sp_mF C K tg m (C 10 x) (C 11 x), tg, tk + nI (23 + 2 * sp_len K), C 9 3, sp_len K, (fun i => nI (sp_val C (sp_mC C K tg m (C 10 x) (C 11 x)) (C 8 i))), sp_ou C K tg m (C 10 x) (C 11 x))) by simp [fa_drive, h1, ex]] at hQ
    refine zr_iload_n dX9_drive_0 rfl ?_
    refine zr_i2l dX9_drive_1 ?_
    refine zr_lconst (v := 0) dX9_drive_2 (by decide) ?_
    refine zr_aload_n dX9_drive_3 rfl ?_
    refine zt_geti zg_X9_134 dX9_drive_4 rfl rfl rfl ?_
    refine zr_top (c4) ?_
    refine zr_iconst (v := 1) dX9_drive_7 kc_iconst_1 ?_
    refine zr_isub dX9_drive_8 ?_
    refine zr_i2l dX9_drive_9 ?_
    refine zt_callSi (As := [_, _, _]) (cm_in L σ _ _ _) zc_X9_102 rfl dX9_drive_10 rfl rfl rfl ?_
    refine zr_top ((congrArg sp_b (ap_in (nI_less (by omega)))).trans (congrArg sp_b h1)) ?_
    refine zr_if_ne 20 dX9_drive_13 (by decide) (fun hp13 => ?_) (fun h => absurd h (by decide))
    refine zr_aload_n dX9_drive_20 rfl ?_
    refine zr_iload_n dX9_drive_21 rfl ?_
    refine zt_cVv (As := [_]) (cm_driven L σ C m K hC hm hK rC rK rM tg htg r5 x hx) zc_X9_238 rfl dX9_drive_22 rfl rfl rfl rfl rfl rfl (fun σ1 h2 => ?_)
    obtain ⟨M1, D1, y1, y2, y3, y4⟩ := h2
    have e29 : σ1 57 29 = tk := (D1.2 29 (by omega)).trans r7
    have e36 := M1.2.2.2.2.2
    refine zr_aload_n dX9_drive_25 rfl ?_
    refine zr_dup dX9_drive_26 rfl ?_
    refine zt_geti zg_X9_141 dX9_drive_27 rfl rfl rfl ?_
    refine zr_top (e29) ?_
    refine zr_aload_n dX9_drive_30 rfl ?_
    refine zt_geti zg_X9_219 dX9_drive_31 rfl rfl rfl ?_
    refine zr_top (e36) ?_
    refine zr_iadd dX9_drive_34 ?_
    refine zt_put zp_X9_141 dX9_drive_35 rfl rfl rfl rfl ?_
    refine zr_iconst (v := 0) dX9_drive_38 kc_iconst_0 ?_
    refine zr_istore_n dX9_drive_39 (by decide) rfl ?_
    generalize hσ2 : gz_wr σ1 57 29 (tk + nI (23 + 2 * sp_len K)) = σ2
    have f2 : ∀ k, k ≠ 57 → σ2 k = σ1 k := fun k hk => by rw [← hσ2]; exact gz_wr_ne hk
    have g2 : ∀ j, j ≠ 29 → σ2 57 j = σ1 57 j := fun j hj => by rw [← hσ2, gz_wr_eq, pk_un hj]
    have g29 : σ2 57 29 = tk + nI (23 + 2 * sp_len K) := by rw [← hσ2, gz_wr_eq]; exact if_pos rfl
    refine zl_up (τ := gz_Mm) 8 (fun i s => (∀ k, k ≠ 78 → s k = σ2 k) ∧ ∀ j, j < i → s 78 j = σ1 76 j) (fun i s => gz_R 8 yX9_drive cX9_drive 3 (some .int) 0 0 40 [some (.ref 57), some (.int (nI x)), some (.int (nI i))] [] (gz_mk L s) Q) ?_ ?_ 0 σ2 (Nat.zero_le _) ⟨fun _ _ => rfl, fun j hj => absurd hj (Nat.not_lt_zero j)⟩
    rotate_left
    · rintro i σ3 hi ⟨hf, hv⟩ ih
      refine zr_iload_n dX9_drive_40 rfl ?_
      refine zr_bipush (v := 8) dX9_drive_41 kc_bipush_8 ?_
      refine zr_icmp_ge 64 dX9_drive_43 (by decide) (fun h => absurd h (nI_ge (b := 8) hi (by omega))) (fun hp43 => ?_)
      refine zr_aload_n dX9_drive_46 rfl ?_
      refine zt_getr zg_X9_78 dX9_drive_47 rfl rfl rfl ?_
      refine zr_iload_n dX9_drive_50 rfl ?_
      refine zr_aload_n dX9_drive_51 rfl ?_
      refine zt_getr zg_X9_72 dX9_drive_52 rfl rfl rfl ?_
      refine zr_iload_n dX9_drive_55 rfl ?_
      refine zt_ildN dX9_drive_56 rfl rfl (by omega) ((congrFun (hf 76 (by decide)) i).trans (congrFun (f2 76 (by decide)) i)) ?_
      refine zt_istN dX9_drive_57 rfl rfl rfl (by omega) ?_
      refine zr_iinc dX9_drive_58 rfl (kc_inc (i)) rfl ?_
      refine zr_goto 40 dX9_drive_61 (by decide) ?_
      refine ih _ ⟨fun k hk => (gz_wr_ne hk).trans (hf k hk), fun j hj => ?_⟩
      rw [gz_wr_eq]
      by_cases e : j = i
      · rw [e]
        simp [upd]
      · rw [pk_un e]
        exact hv j (by omega)
    rintro σ3 ⟨hf, hv⟩
    refine zr_iload_n dX9_drive_40 rfl ?_
    refine zr_bipush (v := 8) dX9_drive_41 kc_bipush_8 ?_
    refine zr_icmp_ge 64 dX9_drive_43 (by decide) (fun hp43 => ?_) (fun h => absurd (Int32.le_refl _) h)
    refine zr_iconst (v := 0) dX9_drive_64 kc_iconst_0 ?_
    refine zr_istore_n dX9_drive_65 (by decide) rfl ?_
    refine zl_up (τ := gz_Mm) 20 (fun i s => (∀ k, k ≠ 79 → s k = σ3 k) ∧ ∀ j, j < i → s 79 j = σ1 77 j) (fun i s => gz_R 8 yX9_drive cX9_drive 3 (some .int) 0 0 66 [some (.ref 57), some (.int (nI x)), some (.int (nI i))] [] (gz_mk L s) Q) ?_ ?_ 0 σ3 (Nat.zero_le _) ⟨fun _ _ => rfl, fun j hj => absurd hj (Nat.not_lt_zero j)⟩
    rotate_left
    · rintro i σ4 hi ⟨gf, gv⟩ ih
      refine zr_iload_n dX9_drive_66 rfl ?_
      refine zr_bipush (v := 20) dX9_drive_67 kc_bipush_20 ?_
      refine zr_icmp_ge 90 dX9_drive_69 (by decide) (fun h => absurd h (nI_ge (b := 20) hi (by omega))) (fun hp69 => ?_)
      refine zr_aload_n dX9_drive_72 rfl ?_
      refine zt_getr zg_X9_81 dX9_drive_73 rfl rfl rfl ?_
      refine zr_iload_n dX9_drive_76 rfl ?_
      refine zr_aload_n dX9_drive_77 rfl ?_
      refine zt_getr zg_X9_75 dX9_drive_78 rfl rfl rfl ?_
      refine zr_iload_n dX9_drive_81 rfl ?_
      refine zt_ildN dX9_drive_82 rfl rfl (by omega) (((congrFun (gf 77 (by decide)) i).trans (congrFun (hf 77 (by decide)) i)).trans (congrFun (f2 77 (by decide)) i)) ?_
      refine zt_istN dX9_drive_83 rfl rfl rfl (by omega) ?_
      refine zr_iinc dX9_drive_84 rfl (kc_inc (i)) rfl ?_
      refine zr_goto 66 dX9_drive_87 (by decide) ?_
      refine ih _ ⟨fun k hk => (gz_wr_ne hk).trans (gf k hk), fun j hj => ?_⟩
      rw [gz_wr_eq]
      by_cases e : j = i
      · rw [e]
        simp [upd]
      · rw [pk_un e]
        exact gv j (by omega)
    rintro σ4 ⟨gf, gv⟩
    have f57 : ∀ j, σ4 57 j = σ2 57 j := fun j => (congrFun (gf 57 (by decide)) j).trans (congrFun (hf 57 (by decide)) j)
    have e33 : σ4 57 33 = nI (C 9 3) := (f57 33).trans ((g2 33 (by decide)).trans y1)
    have e35 : σ4 57 35 = nI (sp_len K) := (f57 35).trans ((g2 35 (by decide)).trans y2)
    have e36' : σ4 57 36 = nI (23 + 2 * sp_len K) := (f57 36).trans ((g2 36 (by decide)).trans e36)
    refine zr_iload_n dX9_drive_66 rfl ?_
    refine zr_bipush (v := 20) dX9_drive_67 kc_bipush_20 ?_
    refine zr_icmp_ge 90 dX9_drive_69 (by decide) (fun hp69 => ?_) (fun h => absurd (Int32.le_refl _) h)
    refine zr_aload_n dX9_drive_90 rfl ?_
    refine zr_aload_n dX9_drive_91 rfl ?_
    refine zt_geti zg_X9_232 dX9_drive_92 rfl rfl rfl ?_
    refine zr_top (e33) ?_
    refine zt_put zp_X9_241 dX9_drive_95 rfl rfl rfl rfl ?_
    refine zr_aload_n dX9_drive_98 rfl ?_
    refine zr_aload_n dX9_drive_99 rfl ?_
    refine zt_geti zg_X9_235 dX9_drive_100 rfl rfl rfl ?_
    refine zr_top ((by simp [gz_wr, upd]; exact e35 : _ = nI (sp_len K))) ?_
    refine zt_put zp_X9_244 dX9_drive_103 rfl rfl rfl rfl ?_
    refine zr_aload_n dX9_drive_106 rfl ?_
    refine zt_geti zg_X9_219 dX9_drive_107 rfl rfl rfl ?_
    refine zr_top ((by simp [gz_wr, upd]; exact e36' : _ = nI (23 + 2 * sp_len K))) ?_
    have w57 : ∀ j, j ≠ 38 → j ≠ 40 → gz_wr (gz_wr σ4 57 38 (nI (C 9 3))) 57 40 (nI (sp_len K)) 57 j = σ2 57 j := fun j a b => by rw [gz_wr_eq, pk_un b, gz_wr_eq, pk_un a, f57]
    have wk : ∀ k, k ≠ 57 → gz_wr (gz_wr σ4 57 38 (nI (C 9 3))) 57 40 (nI (sp_len K)) k = σ4 k := fun k a => by rw [gz_wr_ne a, gz_wr_ne a]
    have wk2 : ∀ k, k ≠ 57 → k ≠ 78 → k ≠ 79 → gz_wr (gz_wr σ4 57 38 (nI (C 9 3))) 57 40 (nI (sp_len K)) k = σ1 k := fun k a b c => by rw [wk k a, gf k c, hf k b, f2 k a]
    refine zr_iret dX9_drive_110 rfl (hQ _ _ ⟨rfl, ⟨⟨M1.1.kept (fun j hj => (w57 j (by omega) (by omega)).trans (g2 j (by omega))) (fun k h1 h2 _ _ _ _ => wk2 k (by omega) (by omega) (by omega)), M1.2.1.kept (fun k hk => wk2 k (by omega) (by omega) (by omega)), M1.2.2.1.kept (fun j hj => (w57 j (by omega) (by omega)).trans (g2 j (by omega))) (wk2 72 (by decide) (by decide) (by decide)) (wk2 73 (by decide) (by decide) (by decide))⟩, ⟨(w57 27 (by decide) (by decide)).trans ((g2 27 (by decide)).trans M1.2.2.2.2.1), (w57 29 (by decide) (by decide)).trans g29⟩, by simp [gz_wr, upd], by simp [gz_wr, upd], fun i hi => ?_, fun i hi => ?_⟩, fun k hk => (wk2 k (by omega) (by omega) (by omega)).trans (D1.1 k (by omega) (by omega))⟩)
    · rw [wk 78 (by decide), gf 78 (by decide), hv i (by omega)]
      exact y3 i hi
    · rw [wk 79 (by decide), gv i (by omega)]
      exact y4 i hi
