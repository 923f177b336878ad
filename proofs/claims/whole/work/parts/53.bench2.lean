/-! ===== the bench: cell, source, output, count, line, set, hold, clock, stick ===== -/
theorem cx_cell (L : Nat) (σ : gz_Mm) (S : ap_S) (hw : ap_wf S) (hX : ap_X σ S) (d : Int32) : gz_Gi 2 yX8_cell cX8_cell 2 (some .int) L [.ref 11, .int d] σ (ap_P σ (fa_cell d S)) := by
  obtain ⟨C, K, m, tg, tk, no, nu, fO, fU⟩ := S
  obtain ⟨hC, hK, hm, htg, hno, hnu, hz0, hz2⟩ := hw
  have hX0 := hX
  obtain ⟨⟨rC, rK, rM⟩, ⟨r5, r7⟩, rT, rR, rO, rS⟩ := hX
  have h80 := hC.1.1
  have h8 := hC.1.2.1
  have h20 := hC.1.2.2.1
  refine gz_Gi.of rfl rfl (fun Q hQ => ?_)
  cases hd : ap_v d 3 with
  | false =>
    have e : fa_cell d (C, K, m, tg, tk, no, nu, fO, fU) = (-1002, (C, K, m, tg, tk, no, nu, fO, fU)) := by simp [fa_cell, hd]
    rw [e] at hQ
    rcases ap_v_f hd (by decide) with q | ⟨q, q2⟩
    · refine zr_iload_n dX8_cell_0 rfl ?_
      refine zr_if_lt 9 dX8_cell_1 (by decide) (fun hp1 => ?_) (fun h => absurd q h)
      refine zr_sipush (v := (-1002)) dX8_cell_9 kc_sipush_m1002 ?_
      exact zr_iret dX8_cell_12 rfl (hQ _ _ ⟨rfl, hX0, fun _ _ => rfl⟩)
    · refine zr_iload_n dX8_cell_0 rfl ?_
      refine zr_if_lt 9 dX8_cell_1 (by decide) (fun h => absurd h q) (fun hp1 => ?_)
      refine zr_iload_n dX8_cell_4 rfl ?_
      refine zr_iconst (v := 3) dX8_cell_5 kc_iconst_3 ?_
      refine zr_icmp_lt 13 dX8_cell_6 (by decide) (fun h => absurd q2 (Int32.not_le.mpr h)) (fun hp6 => ?_)
      refine zr_sipush (v := (-1002)) dX8_cell_9 kc_sipush_m1002 ?_
      exact zr_iret dX8_cell_12 rfl (hQ _ _ ⟨rfl, hX0, fun _ _ => rfl⟩)
  | true =>
    obtain ⟨j, hj, rfl, ej⟩ := ap_v_t hd (by decide)
    by_cases f1 : C 9 0 = 80
    · have e : fa_cell (nI j) (C, K, m, tg, tk, no, nu, fO, fU) = (-1004, (C, K, m, tg, tk, no, nu, fO, fU)) := by simp [fa_cell, hd, f1]
      rw [e] at hQ
      refine zr_iload_n dX8_cell_0 rfl ?_
      refine zr_if_lt 9 dX8_cell_1 (by decide) (fun h => absurd h (nI_pos (by omega))) (fun hp1 => ?_)
      refine zr_iload_n dX8_cell_4 rfl ?_
      refine zr_iconst (v := 3) dX8_cell_5 kc_iconst_3 ?_
      refine zr_icmp_lt 13 dX8_cell_6 (by decide) (fun hp6 => ?_) (fun h => absurd (nI_lt (b := 3) hj (by omega)) h)
      refine zr_aload_n dX8_cell_13 rfl ?_
      refine zt_getr zg_X8_10 dX8_cell_14 rfl rfl rfl ?_
      refine zt_geti zg_X8_73 dX8_cell_17 rfl rfl rfl ?_
      refine zr_top (rC.1.1.trans (congrArg nI f1)) ?_
      refine zr_bipush (v := 80) dX8_cell_20 kc_bipush_80 ?_
      refine zr_icmp_ge 37 dX8_cell_22 (by decide) (fun hp22 => ?_) (fun h => absurd h (by decide))
      refine zr_sipush (v := (-1004)) dX8_cell_37 kc_sipush_m1004 ?_
      exact zr_iret dX8_cell_40 rfl (hQ _ _ ⟨rfl, hX0, fun _ _ => rfl⟩)
    · have n80 : C 9 0 < 80 := by omega
      by_cases f2 : C 9 2 = 20
      · have e : fa_cell (nI j) (C, K, m, tg, tk, no, nu, fO, fU) = (-1004, (C, K, m, tg, tk, no, nu, fO, fU)) := by simp [fa_cell, hd, f2]
        rw [e] at hQ
        refine zr_iload_n dX8_cell_0 rfl ?_
        refine zr_if_lt 9 dX8_cell_1 (by decide) (fun h => absurd h (nI_pos (by omega))) (fun hp1 => ?_)
        refine zr_iload_n dX8_cell_4 rfl ?_
        refine zr_iconst (v := 3) dX8_cell_5 kc_iconst_3 ?_
        refine zr_icmp_lt 13 dX8_cell_6 (by decide) (fun hp6 => ?_) (fun h => absurd (nI_lt (b := 3) hj (by omega)) h)
        refine zr_aload_n dX8_cell_13 rfl ?_
        refine zt_getr zg_X8_10 dX8_cell_14 rfl rfl rfl ?_
        refine zt_geti zg_X8_73 dX8_cell_17 rfl rfl rfl ?_
        refine zr_top (rC.1.1) ?_
        refine zr_bipush (v := 80) dX8_cell_20 kc_bipush_80 ?_
        refine zr_icmp_ge 37 dX8_cell_22 (by decide) (fun h => absurd h (nI_ge (b := 80) n80 (by omega))) (fun hp22 => ?_)
        refine zr_aload_n dX8_cell_25 rfl ?_
        refine zt_getr zg_X8_10 dX8_cell_26 rfl rfl rfl ?_
        refine zt_geti zg_X8_96 dX8_cell_29 rfl rfl rfl ?_
        refine zr_top (rC.1.2.2.1.trans (congrArg nI f2)) ?_
        refine zr_bipush (v := 20) dX8_cell_32 kc_bipush_20 ?_
        refine zr_icmp_lt 41 dX8_cell_34 (by decide) (fun h => absurd h (by decide)) (fun hp34 => ?_)
        refine zr_sipush (v := (-1004)) dX8_cell_37 kc_sipush_m1004 ?_
        exact zr_iret dX8_cell_40 rfl (hQ _ _ ⟨rfl, hX0, fun _ _ => rfl⟩)
      · have n20 : C 9 2 < 20 := by omega
        have e : fa_cell (nI j) (C, K, m, tg, tk, no, nu, fO, fU) = (nI (C 9 0), (sp_w (sp_w (sp_w (sp_w (sp_w (sp_w (sp_w (sp_w C 0 (C 9 0) 2) 1 (C 9 0) (C 9 2)) 5 (C 9 2) (C 9 0)) 6 (C 9 2) j) 7 (C 9 2) (C 9 0)) 12 (C 9 2) 0) 9 0 (C 9 0 + 1)) 9 2 (C 9 2 + 1), K, m, tg, tk, no, nu, fO, fU)) := by simp [fa_cell, hd, f1, f2, ej]
        rw [e] at hQ
        refine zr_iload_n dX8_cell_0 rfl ?_
        refine zr_if_lt 9 dX8_cell_1 (by decide) (fun h => absurd h (nI_pos (by omega))) (fun hp1 => ?_)
        refine zr_iload_n dX8_cell_4 rfl ?_
        refine zr_iconst (v := 3) dX8_cell_5 kc_iconst_3 ?_
        refine zr_icmp_lt 13 dX8_cell_6 (by decide) (fun hp6 => ?_) (fun h => absurd (nI_lt (b := 3) hj (by omega)) h)
        refine zr_aload_n dX8_cell_13 rfl ?_
        refine zt_getr zg_X8_10 dX8_cell_14 rfl rfl rfl ?_
        refine zt_geti zg_X8_73 dX8_cell_17 rfl rfl rfl ?_
        refine zr_top (rC.1.1) ?_
        refine zr_bipush (v := 80) dX8_cell_20 kc_bipush_80 ?_
        refine zr_icmp_ge 37 dX8_cell_22 (by decide) (fun h => absurd h (nI_ge (b := 80) n80 (by omega))) (fun hp22 => ?_)
        refine zr_aload_n dX8_cell_25 rfl ?_
        refine zt_getr zg_X8_10 dX8_cell_26 rfl rfl rfl ?_
        refine zt_geti zg_X8_96 dX8_cell_29 rfl rfl rfl ?_
        refine zr_top (rC.1.2.2.1) ?_
        refine zr_bipush (v := 20) dX8_cell_32 kc_bipush_20 ?_
        refine zr_icmp_lt 41 dX8_cell_34 (by decide) (fun hp34 => ?_) (fun h => absurd (nI_lt (b := 20) n20 (by omega)) h)
        refine zr_aload_n dX8_cell_41 rfl ?_
        refine zt_getr zg_X8_10 dX8_cell_42 rfl rfl rfl ?_
        refine zr_iload_n dX8_cell_45 rfl ?_
        refine zt_callVi (As := [_]) (ca_addCell L σ (C 9 0) (C 9 2) n80 n20 rC.1.1 rC.1.2.2.1 _) zc_X8_99 rfl dX8_cell_46 rfl rfl rfl rfl rfl rfl ?_
        refine zr_iret dX8_cell_49 rfl (hQ _ _ ⟨rfl, ?_, fun k hk => by simp [gz_wr, show ¬ k = 12 by omega, show ¬ k = 13 by omega, show ¬ k = 14 by omega, show ¬ k = 19 by omega, show ¬ k = 20 by omega, show ¬ k = 21 by omega]⟩)
        refine hX0.circ ?_ (fun k hk => by simp [gz_wr, show ¬ k = 12 by omega, show ¬ k = 13 by omega, show ¬ k = 14 by omega, show ¬ k = 19 by omega, show ¬ k = 20 by omega, show ¬ k = 21 by omega]) (fun c hc => ?_) (rT.kept (fun k h1 h2 => by simp [gz_wr, show ¬ k = 12 by omega, show ¬ k = 13 by omega, show ¬ k = 14 by omega, show ¬ k = 19 by omega, show ¬ k = 20 by omega, show ¬ k = 21 by omega]) (by simp [sp_w]) (fun t => by simp [sp_w]) (fun t => by simp [sp_w])) (fun l hl => ?_)
        · refine ⟨⟨by simp [gz_wr, upd, sp_w], by simp [gz_wr, upd, sp_w]; exact rC.1.2.1, by simp [gz_wr, upd, sp_w], by simp [gz_wr, upd, sp_w]; exact rC.1.2.2.2⟩, fun l hl => ?_, fun c hc => ?_, fun i hi => ?_⟩
          · by_cases el : l = C 9 0
            · subst el
              simp [gz_wr, upd, sp_w]
              rfl
            · have := rC.2.1 l (by simp [sp_w] at hl; omega)
              simpa [gz_wr, upd, sp_w, el] using this
          · by_cases el : c = C 9 2
            · subst el
              simp [gz_wr, upd, sp_w]
            · have := rC.2.2.1 c (by simp [sp_w] at hc; omega)
              simpa [gz_wr, upd, sp_w, el] using this
          · simpa [gz_wr, upd, sp_w] using rC.2.2.2 i (by simpa [sp_w] using hi)
        · have := hK.2 c hc
          simp [sp_w, show ¬ c = C 9 2 by omega]
        · rw [sp_io_congr (C := C) (fun i => by simp [sp_w])]
          simpa [gz_wr, sp_w] using rO l hl
theorem cx_source (L : Nat) (σ : gz_Mm) (S : ap_S) (hw : ap_wf S) (hX : ap_X σ S) (c l : Int32) : gz_Gi 1 yX8_source cX8_source 4 (some .int) L [.ref 11, .int c, .int l] σ (ap_P σ (fa_source c l S)) := by
  obtain ⟨C, K, m, tg, tk, no, nu, fO, fU⟩ := S
  obtain ⟨hC, hK, hm, htg, hno, hnu, hz0, hz2⟩ := hw
  have hX0 := hX
  obtain ⟨⟨rC, rK, rM⟩, ⟨r5, r7⟩, rT, rR, rO, rS⟩ := hX
  have h80 := hC.1.1
  have h8 := hC.1.2.1
  have h20 := hC.1.2.2.1
  refine gz_Gi.of rfl rfl (fun Q hQ => ?_)
  cases h1 : ap_v c (C 9 2) with
  | false =>
    have e : fa_source c l (C, K, m, tg, tk, no, nu, fO, fU) = (-1001, (C, K, m, tg, tk, no, nu, fO, fU)) := by simp [fa_source, h1]
    rw [e] at hQ
    refine zr_aload_n dX8_source_0 rfl ?_
    refine zt_getr zg_X8_10 dX8_source_1 rfl rfl rfl ?_
    refine zr_iload_n dX8_source_4 rfl ?_
    refine zt_callVi (As := [_]) (ca_hasCellB L σ c (C 9 2) (by omega) rC.1.2.2.1) zc_X8_102 rfl dX8_source_5 rfl rfl rfl rfl rfl rfl ?_
    refine zr_top (congrArg sp_b h1) ?_
    refine zr_if_eq 22 dX8_source_8 (by decide) (fun hp8 => ?_) (fun h => absurd h (by decide))
    refine zr_sipush (v := (-1001)) dX8_source_22 kc_sipush_m1001 ?_
    exact zr_iret dX8_source_25 rfl (hQ _ _ ⟨rfl, hX0, fun _ _ => rfl⟩)
  | true =>
    cases h2 : ap_v l (C 9 0) with
    | false =>
      have e : fa_source c l (C, K, m, tg, tk, no, nu, fO, fU) = (-1001, (C, K, m, tg, tk, no, nu, fO, fU)) := by simp [fa_source, h2]
      rw [e] at hQ
      refine zr_aload_n dX8_source_0 rfl ?_
      refine zt_getr zg_X8_10 dX8_source_1 rfl rfl rfl ?_
      refine zr_iload_n dX8_source_4 rfl ?_
      refine zt_callVi (As := [_]) (ca_hasCellB L σ c (C 9 2) (by omega) rC.1.2.2.1) zc_X8_102 rfl dX8_source_5 rfl rfl rfl rfl rfl rfl ?_
      refine zr_top (congrArg sp_b h1) ?_
      refine zr_if_eq 22 dX8_source_8 (by decide) (fun h => absurd h (by decide)) (fun hp8 => ?_)
      refine zr_aload_n dX8_source_11 rfl ?_
      refine zt_getr zg_X8_10 dX8_source_12 rfl rfl rfl ?_
      refine zr_iload_n dX8_source_15 rfl ?_
      refine zt_callVi (As := [_]) (ca_hasLineB L σ l (C 9 0) (by omega) rC.1.1) zc_X8_88 rfl dX8_source_16 rfl rfl rfl rfl rfl rfl ?_
      refine zr_top (congrArg sp_b h2) ?_
      refine zr_if_ne 26 dX8_source_19 (by decide) (fun h => absurd h (by decide)) (fun hp19 => ?_)
      refine zr_sipush (v := (-1001)) dX8_source_22 kc_sipush_m1001 ?_
      exact zr_iret dX8_source_25 rfl (hQ _ _ ⟨rfl, hX0, fun _ _ => rfl⟩)
    | true =>
      obtain ⟨j, hj, rfl, ej⟩ := ap_v_t h1 (by omega)
      obtain ⟨i, hi, rfl, ei⟩ := ap_v_t h2 (by omega)
      have e : fa_source (nI j) (nI i) (C, K, m, tg, tk, no, nu, fO, fU) = (nI (C 7 j), (sp_w C 7 j i, K, m, tg, tk, no, nu, fO, fU)) := by simp [fa_source, h1, h2, ej, ei]
      rw [e] at hQ
      refine zr_aload_n dX8_source_0 rfl ?_
      refine zt_getr zg_X8_10 dX8_source_1 rfl rfl rfl ?_
      refine zr_iload_n dX8_source_4 rfl ?_
      refine zt_callVi (As := [_]) (ca_hasCellB L σ _ (C 9 2) (by omega) rC.1.2.2.1) zc_X8_102 rfl dX8_source_5 rfl rfl rfl rfl rfl rfl ?_
      refine zr_top (congrArg sp_b h1) ?_
      refine zr_if_eq 22 dX8_source_8 (by decide) (fun h => absurd h (by decide)) (fun hp8 => ?_)
      refine zr_aload_n dX8_source_11 rfl ?_
      refine zt_getr zg_X8_10 dX8_source_12 rfl rfl rfl ?_
      refine zr_iload_n dX8_source_15 rfl ?_
      refine zt_callVi (As := [_]) (ca_hasLineB L σ _ (C 9 0) (by omega) rC.1.1) zc_X8_88 rfl dX8_source_16 rfl rfl rfl rfl rfl rfl ?_
      refine zr_top (congrArg sp_b h2) ?_
      refine zr_if_ne 26 dX8_source_19 (by decide) (fun hp19 => ?_) (fun h => absurd h (by decide))
      refine zr_aload_n dX8_source_26 rfl ?_
      refine zt_getr zg_X8_10 dX8_source_27 rfl rfl rfl ?_
      refine zt_getr zg_X8_105 dX8_source_30 rfl rfl rfl ?_
      refine zr_iload_n dX8_source_33 rfl ?_
      refine zt_ildN dX8_source_34 rfl rfl (by omega) ((rC.2.2.1 j hj).2.2) ?_
      refine zr_istore_n dX8_source_35 (by decide) rfl ?_
      refine zr_aload_n dX8_source_36 rfl ?_
      refine zt_getr zg_X8_10 dX8_source_37 rfl rfl rfl ?_
      refine zt_getr zg_X8_105 dX8_source_40 rfl rfl rfl ?_
      refine zr_iload_n dX8_source_43 rfl ?_
      refine zr_iload_n dX8_source_44 rfl ?_
      refine zt_istN dX8_source_45 rfl rfl rfl (by omega) ?_
      refine zr_iload_n dX8_source_46 rfl ?_
      refine zr_iret dX8_source_47 rfl (hQ _ _ ⟨rfl, ?_, fun k hk => by simp [gz_wr, show ¬ k = 21 by omega]⟩)
      refine hX0.circ ?_ (fun k hk => by simp [gz_wr, show ¬ k = 21 by omega]) (fun c hc => by simp [sp_w]) (rT.kept (fun k h1 h2 => by simp [gz_wr, show ¬ k = 21 by omega]) (by simp [sp_w]) (fun t => by simp [sp_w]) (fun t => by simp [sp_w])) (fun l hl => ?_)
      · refine ⟨by simpa [gz_wr, upd, sp_w] using rC.1, fun l hl => ?_, fun c hc => ?_, fun i hi => ?_⟩
        · simpa [gz_wr, upd, sp_w] using rC.2.1 l (by simpa [sp_w] using hl)
        · by_cases el : c = j
          · subst el
            have := rC.2.2.1 c hj
            simp [gz_wr, upd, sp_w]
            exact ⟨this.1, this.2.1⟩
          · have := rC.2.2.1 c (by simpa [sp_w] using hc)
            simpa [gz_wr, upd, sp_w, el] using this
        · simpa [gz_wr, upd, sp_w] using rC.2.2.2 i (by simpa [sp_w] using hi)
      · rw [sp_io_congr (C := C) (fun i => by simp [sp_w])]
        simpa [gz_wr, sp_w] using rO l hl
theorem cx_output (L : Nat) (σ : gz_Mm) (S : ap_S) (hw : ap_wf S) (hX : ap_X σ S) (l : Int32) : gz_Gi 1 yX8_output cX8_output 2 (some .int) L [.ref 11, .int l] σ (ap_P σ (fa_output l S)) := by
  obtain ⟨C, K, m, tg, tk, no, nu, fO, fU⟩ := S
  obtain ⟨hC, hK, hm, htg, hno, hnu, hz0, hz2⟩ := hw
  have hX0 := hX
  obtain ⟨⟨rC, rK, rM⟩, ⟨r5, r7⟩, rT, rR, rO, rS⟩ := hX
  have h80 := hC.1.1
  have h8 := hC.1.2.1
  have h20 := hC.1.2.2.1
  have h3 := hC.1.2.2.2.1
  refine gz_Gi.of rfl rfl (fun Q hQ => ?_)
  cases h2 : ap_v l (C 9 0) with
  | false =>
    have e : fa_output l (C, K, m, tg, tk, no, nu, fO, fU) = (-1001, (C, K, m, tg, tk, no, nu, fO, fU)) := by simp [fa_output, h2]
    rw [e] at hQ
    refine zr_aload_n dX8_output_0 rfl ?_
    refine zt_getr zg_X8_10 dX8_output_1 rfl rfl rfl ?_
    refine zr_iload_n dX8_output_4 rfl ?_
    refine zt_callVi (As := [_]) (ca_hasLineB L σ l (C 9 0) (by omega) rC.1.1) zc_X8_88 rfl dX8_output_5 rfl rfl rfl rfl rfl rfl ?_
    refine zr_top (congrArg sp_b h2) ?_
    refine zr_if_ne 15 dX8_output_8 (by decide) (fun h => absurd h (by decide)) (fun hp8 => ?_)
    refine zr_sipush (v := (-1001)) dX8_output_11 kc_sipush_m1001 ?_
    exact zr_iret dX8_output_14 rfl (hQ _ _ ⟨rfl, hX0, fun _ _ => rfl⟩)
  | true =>
    obtain ⟨i, hi, rfl, ei⟩ := ap_v_t h2 (by omega)
    cases ho : sp_io C i (C 9 3) with
    | true =>
      have e : fa_output (nI i) (C, K, m, tg, tk, no, nu, fO, fU) = (-1003, (C, K, m, tg, tk, no, nu, fO, fU)) := by simp [fa_output, h2, ei, ho]
      rw [e] at hQ
      refine zr_aload_n dX8_output_0 rfl ?_
      refine zt_getr zg_X8_10 dX8_output_1 rfl rfl rfl ?_
      refine zr_iload_n dX8_output_4 rfl ?_
      refine zt_callVi (As := [_]) (ca_hasLineB L σ _ (C 9 0) (by omega) rC.1.1) zc_X8_88 rfl dX8_output_5 rfl rfl rfl rfl rfl rfl ?_
      refine zr_top (congrArg sp_b h2) ?_
      refine zr_if_ne 15 dX8_output_8 (by decide) (fun hp8 => ?_) (fun h => absurd h (by decide))
      refine zr_aload_n dX8_output_15 rfl ?_
      refine zt_getr zg_X8_10 dX8_output_16 rfl rfl rfl ?_
      refine zt_getr zg_X8_108 dX8_output_19 rfl rfl rfl ?_
      refine zr_iload_n dX8_output_22 rfl ?_
      refine zt_zldN dX8_output_23 rfl rfl (by omega) ((rO i (by omega)).trans (congrArg sp_b ho)) ?_
      refine zr_if_eq 31 dX8_output_24 (by decide) (fun h => absurd h (by decide)) (fun hp24 => ?_)
      refine zr_sipush (v := (-1003)) dX8_output_27 kc_sipush_m1003 ?_
      exact zr_iret dX8_output_30 rfl (hQ _ _ ⟨rfl, hX0, fun _ _ => rfl⟩)
    | false =>
      by_cases f1 : C 9 3 = 8
      · have e : fa_output (nI i) (C, K, m, tg, tk, no, nu, fO, fU) = (-1004, (C, K, m, tg, tk, no, nu, fO, fU)) := by simp [fa_output, h2, ei, f1, (f1 ▸ ho : sp_io C i 8 = false)]
        rw [e] at hQ
        refine zr_aload_n dX8_output_0 rfl ?_
        refine zt_getr zg_X8_10 dX8_output_1 rfl rfl rfl ?_
        refine zr_iload_n dX8_output_4 rfl ?_
        refine zt_callVi (As := [_]) (ca_hasLineB L σ _ (C 9 0) (by omega) rC.1.1) zc_X8_88 rfl dX8_output_5 rfl rfl rfl rfl rfl rfl ?_
        refine zr_top (congrArg sp_b h2) ?_
        refine zr_if_ne 15 dX8_output_8 (by decide) (fun hp8 => ?_) (fun h => absurd h (by decide))
        refine zr_aload_n dX8_output_15 rfl ?_
        refine zt_getr zg_X8_10 dX8_output_16 rfl rfl rfl ?_
        refine zt_getr zg_X8_108 dX8_output_19 rfl rfl rfl ?_
        refine zr_iload_n dX8_output_22 rfl ?_
        refine zt_zldN dX8_output_23 rfl rfl (by omega) ((rO i (by omega)).trans (congrArg sp_b ho)) ?_
        refine zr_if_eq 31 dX8_output_24 (by decide) (fun hp24 => ?_) (fun h => absurd h (by decide))
        refine zr_aload_n dX8_output_31 rfl ?_
        refine zt_getr zg_X8_10 dX8_output_32 rfl rfl rfl ?_
        refine zt_geti zg_X8_112 dX8_output_35 rfl rfl rfl ?_
        refine zr_top (rC.1.2.2.2.trans (congrArg nI f1)) ?_
        refine zr_bipush (v := 8) dX8_output_38 kc_bipush_8 ?_
        refine zr_icmp_lt 47 dX8_output_40 (by decide) (fun h => absurd h (by decide)) (fun hp40 => ?_)
        refine zr_sipush (v := (-1004)) dX8_output_43 kc_sipush_m1004 ?_
        exact zr_iret dX8_output_46 rfl (hQ _ _ ⟨rfl, hX0, fun _ _ => rfl⟩)
      · have n8 : C 9 3 < 8 := by omega
        have e : fa_output (nI i) (C, K, m, tg, tk, no, nu, fO, fU) = (nI (C 9 3 + 1), (sp_w (sp_w C 8 (C 9 3) i) 9 3 (C 9 3 + 1), K, m, tg, tk, no, nu, fO, fU)) := by simp [fa_output, h2, ei, ho, f1]
        rw [e] at hQ
        refine zr_aload_n dX8_output_0 rfl ?_
        refine zt_getr zg_X8_10 dX8_output_1 rfl rfl rfl ?_
        refine zr_iload_n dX8_output_4 rfl ?_
        refine zt_callVi (As := [_]) (ca_hasLineB L σ _ (C 9 0) (by omega) rC.1.1) zc_X8_88 rfl dX8_output_5 rfl rfl rfl rfl rfl rfl ?_
        refine zr_top (congrArg sp_b h2) ?_
        refine zr_if_ne 15 dX8_output_8 (by decide) (fun hp8 => ?_) (fun h => absurd h (by decide))
        refine zr_aload_n dX8_output_15 rfl ?_
        refine zt_getr zg_X8_10 dX8_output_16 rfl rfl rfl ?_
        refine zt_getr zg_X8_108 dX8_output_19 rfl rfl rfl ?_
        refine zr_iload_n dX8_output_22 rfl ?_
        refine zt_zldN dX8_output_23 rfl rfl (by omega) ((rO i (by omega)).trans (congrArg sp_b ho)) ?_
        refine zr_if_eq 31 dX8_output_24 (by decide) (fun hp24 => ?_) (fun h => absurd h (by decide))
        refine zr_aload_n dX8_output_31 rfl ?_
        refine zt_getr zg_X8_10 dX8_output_32 rfl rfl rfl ?_
        refine zt_geti zg_X8_112 dX8_output_35 rfl rfl rfl ?_
        refine zr_top (rC.1.2.2.2) ?_
        refine zr_bipush (v := 8) dX8_output_38 kc_bipush_8 ?_
        refine zr_icmp_lt 47 dX8_output_40 (by decide) (fun hp40 => ?_) (fun h => absurd (nI_lt (b := 8) n8 (by omega)) h)
        refine zr_aload_n dX8_output_47 rfl ?_
        refine zt_getr zg_X8_10 dX8_output_48 rfl rfl rfl ?_
        refine zr_iload_n dX8_output_51 rfl ?_
        refine zt_callVi (As := [_]) (ca_addOutput L σ i (C 9 3) (by omega) n8 rC.1.2.2.2) zc_X8_115 rfl dX8_output_52 rfl rfl rfl rfl rfl rfl ?_
        refine zr_iret dX8_output_55 rfl (hQ _ _ ⟨rfl, ?_, fun k hk => by simp [gz_wr, show ¬ k = 12 by omega, show ¬ k = 18 by omega, show ¬ k = 22 by omega]⟩)
        refine hX0.circ ?_ (fun k hk => by simp [gz_wr, show ¬ k = 12 by omega, show ¬ k = 18 by omega, show ¬ k = 22 by omega]) (fun c hc => by simp [sp_w]) (rT.kept (fun k h1 h2 => by simp [gz_wr, show ¬ k = 12 by omega, show ¬ k = 18 by omega, show ¬ k = 22 by omega]) (by simp [sp_w]) (fun t => by simp [sp_w]) (fun t => by simp [sp_w])) (fun l hl => ?_)
        · refine ⟨⟨by simp [gz_wr, upd, sp_w]; exact rC.1.1, by simp [gz_wr, upd, sp_w]; exact rC.1.2.1, by simp [gz_wr, upd, sp_w]; exact rC.1.2.2.1, by simp [gz_wr, upd, sp_w]⟩, fun l hl => ?_, fun c hc => ?_, fun q hq => ?_⟩
          · simpa [gz_wr, upd, sp_w] using rC.2.1 l (by simpa [sp_w] using hl)
          · simpa [gz_wr, upd, sp_w] using rC.2.2.1 c (by simpa [sp_w] using hc)
          · by_cases el : q = C 9 3
            · subst el
              simp [gz_wr, upd, sp_w]
            · have := rC.2.2.2 q (by simp [sp_w] at hq; omega)
              simpa [gz_wr, upd, sp_w, el] using this
        · have eio : ∀ n, n ≤ C 9 3 → sp_io (sp_w (sp_w C 8 (C 9 3) i) 9 3 (C 9 3 + 1)) l n = sp_io C l n := by
            intro n
            induction n with
            | zero => intro _; rfl
            | succ n ih =>
              intro hn
              unfold sp_io
              rw [ih (by omega)]
              simp [sp_w, show ¬ n = C 9 3 by omega]
          have e9 : sp_w (sp_w C 8 (C 9 3) i) 9 3 (C 9 3 + 1) 9 3 = C 9 3 + 1 := by simp [sp_w]
          rw [e9]
          unfold sp_io
          rw [eio _ (Nat.le_refl _)]
          by_cases el : l = i
          · subst el
            simp [gz_wr, upd, sp_w, sp_b]
          · have := rO l hl
            simp [gz_wr, upd, sp_w, el, this, show ¬ i = l from fun q => el q.symm]
theorem i32_out {w : Int32} {n : Nat} (hn : n < 1000) (h : ∀ j, j ≤ n → ¬ w = nI j) : w.toInt < 0 ∨ (n : Int) < w.toInt := by
  rcases Int.lt_or_le w.toInt 0 with q | q
  · exact Or.inl q
  · rcases Int.lt_or_le (n : Int) w.toInt with q2 | q2
    · exact Or.inr q2
    · obtain ⟨j, hj, e⟩ := vp_in_of (x := w) (n := n + 1) (vp_in_iff.mpr ⟨q, by omega⟩) (by omega)
      exact absurd e (h j (by omega))
theorem cx_count (L : Nat) (σ : gz_Mm) (S : ap_S) (hw : ap_wf S) (hX : ap_X σ S) (w : Int32) : gz_Gi 1 yX8_count cX8_count 2 (some .int) L [.ref 11, .int w] σ (ap_P σ (fa_count w S)) := by
  obtain ⟨C, K, m, tg, tk, no, nu, fO, fU⟩ := S
  obtain ⟨hC, hK, hm, htg, hno, hnu, hz0, hz2⟩ := hw
  have hX0 := hX
  obtain ⟨⟨rC, rK, rM⟩, ⟨r5, r7⟩, rT, rR, rO, rS⟩ := hX
  have h80 := hC.1.1
  have h8 := hC.1.2.1
  have h20 := hC.1.2.2.1
  refine gz_Gi.of rfl rfl (fun Q hQ => ?_)
  refine zr_iload_n dX8_count_0 rfl ?_
  by_cases w0 : w = 0
  · subst w0
    refine zr_tin (off := 43) 44 dX8_count_1 (by decide) (by decide) (by decide) (by decide) ?_
    refine zr_aload_n dX8_count_44 rfl ?_
    refine zt_getr zg_X8_10 dX8_count_45 rfl rfl rfl ?_
    refine zt_geti zg_X8_73 dX8_count_48 rfl rfl rfl ?_
    refine zr_top (rC.1.1) ?_
    exact zr_iret dX8_count_51 rfl (hQ _ _ ⟨rfl, hX0, fun _ _ => rfl⟩)
  by_cases w1 : w = 1
  · subst w1
    refine zr_tin (off := 51) 52 dX8_count_1 (by decide) (by decide) (by decide) (by decide) ?_
    refine zr_aload_n dX8_count_52 rfl ?_
    refine zt_getr zg_X8_10 dX8_count_53 rfl rfl rfl ?_
    refine zt_geti zg_X8_77 dX8_count_56 rfl rfl rfl ?_
    refine zr_top (rC.1.2.1) ?_
    exact zr_iret dX8_count_59 rfl (hQ _ _ ⟨rfl, hX0, fun _ _ => rfl⟩)
  by_cases w2 : w = 2
  · subst w2
    refine zr_tin (off := 59) 60 dX8_count_1 (by decide) (by decide) (by decide) (by decide) ?_
    refine zr_aload_n dX8_count_60 rfl ?_
    refine zt_getr zg_X8_10 dX8_count_61 rfl rfl rfl ?_
    refine zt_geti zg_X8_96 dX8_count_64 rfl rfl rfl ?_
    refine zr_top (rC.1.2.2.1) ?_
    exact zr_iret dX8_count_67 rfl (hQ _ _ ⟨rfl, hX0, fun _ _ => rfl⟩)
  by_cases w3 : w = 3
  · subst w3
    refine zr_tin (off := 67) 68 dX8_count_1 (by decide) (by decide) (by decide) (by decide) ?_
    refine zr_aload_n dX8_count_68 rfl ?_
    refine zt_getr zg_X8_10 dX8_count_69 rfl rfl rfl ?_
    refine zt_geti zg_X8_112 dX8_count_72 rfl rfl rfl ?_
    refine zr_top (rC.1.2.2.2) ?_
    exact zr_iret dX8_count_75 rfl (hQ _ _ ⟨rfl, hX0, fun _ _ => rfl⟩)
  by_cases w4 : w = 4
  · subst w4
    refine zr_tin (off := 75) 76 dX8_count_1 (by decide) (by decide) (by decide) (by decide) ?_
    refine zr_aload_n dX8_count_76 rfl ?_
    refine zt_getr zg_X8_40 dX8_count_77 rfl rfl rfl ?_
    refine zt_geti zg_X8_118 dX8_count_80 rfl rfl rfl ?_
    refine zr_top (rT.1) ?_
    exact zr_iret dX8_count_83 rfl (hQ _ _ ⟨rfl, hX0, fun _ _ => rfl⟩)
  by_cases w5 : w = 5
  · subst w5
    refine zr_tin (off := 83) 84 dX8_count_1 (by decide) (by decide) (by decide) (by decide) ?_
    refine zr_aload_n dX8_count_84 rfl ?_
    refine zt_getr zg_X8_19 dX8_count_85 rfl rfl rfl ?_
    refine zt_callVi (As := []) (ca_inAll L σ C K hC hK rK) zc_X8_121 rfl dX8_count_88 rfl rfl rfl rfl rfl rfl ?_
    exact zr_iret dX8_count_91 rfl (hQ _ _ ⟨rfl, hX0, fun _ _ => rfl⟩)
  by_cases w6 : w = 6
  · subst w6
    refine zr_tin (off := 91) 92 dX8_count_1 (by decide) (by decide) (by decide) (by decide) ?_
    refine zr_aload_n dX8_count_92 rfl ?_
    refine zt_getr zg_X8_33 dX8_count_93 rfl rfl rfl ?_
    refine zt_geti zg_X8_124 dX8_count_96 rfl rfl rfl ?_
    refine zr_top (r7) ?_
    exact zr_iret dX8_count_99 rfl (hQ _ _ ⟨rfl, hX0, fun _ _ => rfl⟩)
  have e : fa_count w (C, K, m, tg, tk, no, nu, fO, fU) = (-1002, (C, K, m, tg, tk, no, nu, fO, fU)) := by simp [fa_count, w0, w1, w2, w3, w4, w5, w6]
  rw [e] at hQ
  refine zr_tout 100 dX8_count_1 (i32_out (n := 6) (by decide) (fun j hj q => by rcases (show j = 0 ∨ j = 1 ∨ j = 2 ∨ j = 3 ∨ j = 4 ∨ j = 5 ∨ j = 6 by omega) with rfl | rfl | rfl | rfl | rfl | rfl | rfl <;> first | exact w0 q | exact w1 q | exact w2 q | exact w3 q | exact w4 q | exact w5 q | exact w6 q)) (by decide) ?_
  refine zr_sipush (v := (-1002)) dX8_count_100 kc_sipush_m1002 ?_
  exact zr_iret dX8_count_103 rfl (hQ _ _ ⟨rfl, hX0, fun _ _ => rfl⟩)
theorem cx_line (L : Nat) (σ : gz_Mm) (S : ap_S) (hw : ap_wf S) (hX : ap_X σ S) (l w : Int32) : gz_Gi 3 yX8_line cX8_line 3 (some .int) L [.ref 11, .int l, .int w] σ (ap_P σ (fa_line l w S)) := by
  obtain ⟨C, K, m, tg, tk, no, nu, fO, fU⟩ := S
  obtain ⟨hC, hK, hm, htg, hno, hnu, hz0, hz2⟩ := hw
  have hX0 := hX
  obtain ⟨⟨rC, rK, rM⟩, ⟨r5, r7⟩, rT, rR, rO, rS⟩ := hX
  have h80 := hC.1.1
  have h8 := hC.1.2.1
  have h20 := hC.1.2.2.1
  refine gz_Gi.of rfl rfl (fun Q hQ => ?_)
  cases h2 : ap_v l (C 9 0) with
  | false =>
    have e : fa_line l w (C, K, m, tg, tk, no, nu, fO, fU) = (-1001, (C, K, m, tg, tk, no, nu, fO, fU)) := by simp [fa_line, h2]
    rw [e] at hQ
    refine zr_aload_n dX8_line_0 rfl ?_
    refine zt_getr zg_X8_10 dX8_line_1 rfl rfl rfl ?_
    refine zr_iload_n dX8_line_4 rfl ?_
    refine zt_callVi (As := [_]) (ca_hasLineB L σ l (C 9 0) (by omega) rC.1.1) zc_X8_88 rfl dX8_line_5 rfl rfl rfl rfl rfl rfl ?_
    refine zr_top (congrArg sp_b h2) ?_
    refine zr_if_ne 15 dX8_line_8 (by decide) (fun h => absurd h (by decide)) (fun hp8 => ?_)
    refine zr_sipush (v := (-1001)) dX8_line_11 kc_sipush_m1001 ?_
    exact zr_iret dX8_line_14 rfl (hQ _ _ ⟨rfl, hX0, fun _ _ => rfl⟩)
  | true =>
    obtain ⟨i, hi, rfl, ei⟩ := ap_v_t h2 (by omega)
    refine zr_aload_n dX8_line_0 rfl ?_
    refine zt_getr zg_X8_10 dX8_line_1 rfl rfl rfl ?_
    refine zr_iload_n dX8_line_4 rfl ?_
    refine zt_callVi (As := [_]) (ca_hasLineB L σ _ (C 9 0) (by omega) rC.1.1) zc_X8_88 rfl dX8_line_5 rfl rfl rfl rfl rfl rfl ?_
    refine zr_top (congrArg sp_b h2) ?_
    refine zr_if_ne 15 dX8_line_8 (by decide) (fun hp8 => ?_) (fun h => absurd h (by decide))
    refine zr_iload_n dX8_line_15 rfl ?_
    by_cases w0 : w = 0
    · subst w0
      have e : fa_line (nI i) 0 (C, K, m, tg, tk, no, nu, fO, fU) = (nI (C 0 i), (C, K, m, tg, tk, no, nu, fO, fU)) := by simp [fa_line, h2, ei]
      rw [e] at hQ
      refine zr_tin (off := 28) 44 dX8_line_16 (by decide) (by decide) (by decide) (by decide) ?_
      refine zr_aload_n dX8_line_44 rfl ?_
      refine zt_getr zg_X8_10 dX8_line_45 rfl rfl rfl ?_
      refine zt_getr zg_X8_127 dX8_line_48 rfl rfl rfl ?_
      refine zr_iload_n dX8_line_51 rfl ?_
      refine zt_ildN dX8_line_52 rfl rfl (by omega) ((rC.2.1 i hi).1) ?_
      exact zr_iret dX8_line_53 rfl (hQ _ _ ⟨rfl, hX0, fun _ _ => rfl⟩)
    by_cases w1 : w = 1
    · subst w1
      have e : fa_line (nI i) 1 (C, K, m, tg, tk, no, nu, fO, fU) = (nI (C 1 i), (C, K, m, tg, tk, no, nu, fO, fU)) := by simp [fa_line, h2, ei]
      rw [e] at hQ
      refine zr_tin (off := 38) 54 dX8_line_16 (by decide) (by decide) (by decide) (by decide) ?_
      refine zr_aload_n dX8_line_54 rfl ?_
      refine zt_getr zg_X8_10 dX8_line_55 rfl rfl rfl ?_
      refine zt_getr zg_X8_130 dX8_line_58 rfl rfl rfl ?_
      refine zr_iload_n dX8_line_61 rfl ?_
      refine zt_ildN dX8_line_62 rfl rfl (by omega) ((rC.2.1 i hi).2.1) ?_
      exact zr_iret dX8_line_63 rfl (hQ _ _ ⟨rfl, hX0, fun _ _ => rfl⟩)
    by_cases w2 : w = 2
    · subst w2
      have e : fa_line (nI i) 2 (C, K, m, tg, tk, no, nu, fO, fU) = (nI (sp_val C m i), (C, K, m, tg, tk, no, nu, fO, fU)) := by simp [fa_line, h2, ei]
      rw [e] at hQ
      refine zr_tin (off := 48) 64 dX8_line_16 (by decide) (by decide) (by decide) (by decide) ?_
      refine zr_aload_n dX8_line_64 rfl ?_
      refine zt_getr zg_X8_33 dX8_line_65 rfl rfl rfl ?_
      refine zt_getr zg_X8_133 dX8_line_68 rfl rfl rfl ?_
      refine zr_iload_n dX8_line_71 rfl ?_
      refine zt_cVi (As := [_]) (ca_valueOf_31 L σ C m hC hm rC rM i hi) zc_X8_137 rfl dX8_line_72 rfl rfl rfl rfl rfl rfl (fun v1 σ1 h1 => ?_)
      exact zr_iret dX8_line_75 rfl (hQ _ _ ⟨h1.1, hX0.val h1.2, fun k hk => h1.2 k (by omega)⟩)
    have e : fa_line (nI i) w (C, K, m, tg, tk, no, nu, fO, fU) = (-1002, (C, K, m, tg, tk, no, nu, fO, fU)) := by simp [fa_line, h2, w0, w1, w2]
    rw [e] at hQ
    refine zr_tout 76 dX8_line_16 (i32_out (n := 2) (by decide) (fun j hj q => by rcases (show j = 0 ∨ j = 1 ∨ j = 2 by omega) with rfl | rfl | rfl <;> first | exact w0 q | exact w1 q | exact w2 q)) (by decide) ?_
    refine zr_sipush (v := (-1002)) dX8_line_76 kc_sipush_m1002 ?_
    exact zr_iret dX8_line_79 rfl (hQ _ _ ⟨rfl, hX0, fun _ _ => rfl⟩)
