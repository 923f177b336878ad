/-! ===== the reference: the other calls ===== -/
theorem ax_source (L : Nat) (σ : gz_Mm) (S : ap_S) (hw : ap_wf S) (hX : am_X σ S) (c l : Int32) : gz_Gi 2 yX9_source cX9_source 4 (some .int) L [.ref 57, .int c, .int l] σ (am_P σ (fa_source c l S)) := by
  obtain ⟨C, K, m, tg, tk, no, nu, fO, fU⟩ := S
  obtain ⟨hC, hK, hm, htg, hno, hnu, hz0, hz2⟩ := hw
  have hX0 := hX
  obtain ⟨⟨rC, rK, rM⟩, ⟨r5, r7⟩, s1, s2, s3, s4⟩ := hX
  obtain ⟨h80, h8, h20, ho8, ht20⟩ := hC.1
  have c0 := rC.1.1
  have c1 := rC.1.2.1
  have c2 := rC.1.2.2.1
  have c3 := rC.1.2.2.2.1
  have c4 := rC.1.2.2.2.2
  refine gz_Gi.of rfl rfl (fun Q hQ => ?_)
  cases h1 : ap_v c (C 9 2) with
  | false =>
    rw [show fa_source c l (C, K, m, tg, tk, no, nu, fO, fU) = (-1001, (C, K, m, tg, tk, no, nu, fO, fU)) by simp [fa_source, h1]] at hQ
    refine zr_aload_n dX9_source_0 rfl ?_
    refine zr_iload_n dX9_source_1 rfl ?_
    refine zt_callVi (As := [_]) (cm_isCell L σ c _ (by omega) c2) zc_X9_128 rfl dX9_source_2 rfl rfl rfl rfl rfl rfl ?_
    refine zr_top (congrArg sp_b h1) ?_
    refine zr_if_eq 16 dX9_source_5 (by decide) (fun hp5 => ?_) (fun h => absurd rfl h)
    refine zr_sipush (v := (-1001)) dX9_source_16 kc_sipush_m1001 ?_
    exact zr_iret dX9_source_19 rfl (hQ _ _ ⟨rfl, hX0, fun _ _ => rfl⟩)
  | true =>
    cases h2 : ap_v l (C 9 0) with
    | false =>
      rw [show fa_source c l (C, K, m, tg, tk, no, nu, fO, fU) = (-1001, (C, K, m, tg, tk, no, nu, fO, fU)) by simp [fa_source, h2]] at hQ
      refine zr_aload_n dX9_source_0 rfl ?_
      refine zr_iload_n dX9_source_1 rfl ?_
      refine zt_callVi (As := [_]) (cm_isCell L σ c _ (by omega) c2) zc_X9_128 rfl dX9_source_2 rfl rfl rfl rfl rfl rfl ?_
      refine zr_top (congrArg sp_b h1) ?_
      refine zr_if_eq 16 dX9_source_5 (by decide) (fun h => absurd h (by decide)) (fun hp5 => ?_)
      refine zr_aload_n dX9_source_8 rfl ?_
      refine zr_iload_n dX9_source_9 rfl ?_
      refine zt_callVi (As := [_]) (cm_isLine L σ l _ (by omega) c0) zc_X9_122 rfl dX9_source_10 rfl rfl rfl rfl rfl rfl ?_
      refine zr_top (congrArg sp_b h2) ?_
      refine zr_if_ne 20 dX9_source_13 (by decide) (fun h => absurd rfl h) (fun hp13 => ?_)
      refine zr_sipush (v := (-1001)) dX9_source_16 kc_sipush_m1001 ?_
      exact zr_iret dX9_source_19 rfl (hQ _ _ ⟨rfl, hX0, fun _ _ => rfl⟩)
    | true =>
      obtain ⟨x, hx, rfl, ex⟩ := ap_v_t h1 (by omega)
      obtain ⟨z, hz, rfl, ez⟩ := ap_v_t h2 (by omega)
      rw [show fa_source (nI x) (nI z) (C, K, m, tg, tk, no, nu, fO, fU) = (nI (C 7 x), (sp_w C 7 x z, K, m, tg, tk, no, nu, fO, fU)) by simp [fa_source, h1, h2, ex, ez]] at hQ
      refine zr_aload_n dX9_source_0 rfl ?_
      refine zr_iload_n dX9_source_1 rfl ?_
      refine zt_callVi (As := [_]) (cm_isCell L σ (nI x) _ (by omega) c2) zc_X9_128 rfl dX9_source_2 rfl rfl rfl rfl rfl rfl ?_
      refine zr_top (congrArg sp_b h1) ?_
      refine zr_if_eq 16 dX9_source_5 (by decide) (fun h => absurd h (by decide)) (fun hp5 => ?_)
      refine zr_aload_n dX9_source_8 rfl ?_
      refine zr_iload_n dX9_source_9 rfl ?_
      refine zt_callVi (As := [_]) (cm_isLine L σ (nI z) _ (by omega) c0) zc_X9_122 rfl dX9_source_10 rfl rfl rfl rfl rfl rfl ?_
      refine zr_top (congrArg sp_b h2) ?_
      refine zr_if_ne 20 dX9_source_13 (by decide) (fun hp13 => ?_) (fun h => absurd h (by decide))
      refine zr_aload_n dX9_source_20 rfl ?_
      refine zt_getr zg_X9_28 dX9_source_21 rfl rfl rfl ?_
      refine zr_iload_n dX9_source_24 rfl ?_
      refine zt_ildN dX9_source_25 rfl rfl (by omega) ((rC.2.2.1 x hx).2.2) ?_
      refine zr_istore_n dX9_source_26 (by decide) rfl ?_
      refine zr_aload_n dX9_source_27 rfl ?_
      refine zt_getr zg_X9_28 dX9_source_28 rfl rfl rfl ?_
      refine zr_iload_n dX9_source_31 rfl ?_
      refine zr_iload_n dX9_source_32 rfl ?_
      refine zt_istN dX9_source_33 rfl rfl rfl (by omega) ?_
      refine zr_iload_n dX9_source_34 rfl ?_
      refine zr_iret dX9_source_35 rfl (hQ _ _ ⟨rfl, ?_, fun k hk => gz_wr_ne (by omega)⟩)
      refine hX0.circ (C' := sp_w C 7 x z) ?_ (rK.tab (fun k hk => gz_wr_ne (by omega)) (fun c => by simp [sp_w]) (by simp [sp_w])) (rm_m.tab (C := C) (rM.kept (fun j hj => rfl) rfl rfl) (by simp [sp_w])) (fun j hj => rfl) rfl rfl
      refine ⟨by simpa [gz_wr, upd, sp_w] using rC.1, fun l hl => ?_, fun c hc => ?_, fun q hq => ?_, fun q hq => ?_⟩
      · simpa [gz_wr, upd, sp_w] using rC.2.1 l (by simpa [sp_w] using hl)
      · have := rC.2.2.1 c (by simpa [sp_w] using hc)
        by_cases e : c = x
        · subst e
          simp [gz_wr, upd, sp_w]
          exact ⟨this.1, this.2.1⟩
        · simpa [gz_wr, upd, sp_w, e] using this
      · simpa [gz_wr, upd, sp_w] using rC.2.2.2.1 q (by simpa [sp_w] using hq)
      · simpa [gz_wr, upd, sp_w] using rC.2.2.2.2 q (by simpa [sp_w] using hq)
theorem ax_output (L : Nat) (σ : gz_Mm) (S : ap_S) (hw : ap_wf S) (hX : am_X σ S) (l : Int32) : gz_Gi 2 yX9_output cX9_output 3 (some .int) L [.ref 57, .int l] σ (am_P σ (fa_output l S)) := by
  obtain ⟨C, K, m, tg, tk, no, nu, fO, fU⟩ := S
  obtain ⟨hC, hK, hm, htg, hno, hnu, hz0, hz2⟩ := hw
  have hX0 := hX
  obtain ⟨⟨rC, rK, rM⟩, ⟨r5, r7⟩, s1, s2, s3, s4⟩ := hX
  obtain ⟨h80, h8, h20, ho8, ht20⟩ := hC.1
  have c0 := rC.1.1
  have c1 := rC.1.2.1
  have c2 := rC.1.2.2.1
  have c3 := rC.1.2.2.2.1
  have c4 := rC.1.2.2.2.2
  refine gz_Gi.of rfl rfl (fun Q hQ => ?_)
  cases h1 : ap_v l (C 9 0) with
  | false =>
    rw [show fa_output l (C, K, m, tg, tk, no, nu, fO, fU) = (-1001, (C, K, m, tg, tk, no, nu, fO, fU)) by simp [fa_output, h1]] at hQ
    refine zr_aload_n dX9_output_0 rfl ?_
    refine zr_iload_n dX9_output_1 rfl ?_
    refine zt_callVi (As := [_]) (cm_isLine L σ l _ (by omega) c0) zc_X9_122 rfl dX9_output_2 rfl rfl rfl rfl rfl rfl ?_
    refine zr_top (congrArg sp_b h1) ?_
    refine zr_if_ne 12 dX9_output_5 (by decide) (fun h => absurd rfl h) (fun hp5 => ?_)
    refine zr_sipush (v := (-1001)) dX9_output_8 kc_sipush_m1001 ?_
    exact zr_iret dX9_output_11 rfl (hQ _ _ ⟨rfl, hX0, fun _ _ => rfl⟩)
  | true =>
    obtain ⟨x, hx, rfl, ex⟩ := ap_v_t h1 (by omega)
    refine zr_aload_n dX9_output_0 rfl ?_
    refine zr_iload_n dX9_output_1 rfl ?_
    refine zt_callVi (As := [_]) (cm_isLine L σ (nI x) _ (by omega) c0) zc_X9_122 rfl dX9_output_2 rfl rfl rfl rfl rfl rfl ?_
    refine zr_top (congrArg sp_b h1) ?_
    refine zr_if_ne 12 dX9_output_5 (by decide) (fun hp5 => ?_) (fun h => absurd h (by decide))
    refine zr_iconst (v := 0) dX9_output_12 kc_iconst_0 ?_
    refine zr_istore_n dX9_output_13 (by decide) rfl ?_
    have mono : ∀ i k, sp_io C x i = true → sp_io C x (i + k) = true := fun i k q => by
      induction k with
      | zero => exact q
      | succ k ih => show (sp_io C x (i + k) || _) = true; rw [ih]; rfl
    refine zl_up (τ := Unit) (C 9 3) (fun i s => sp_io C x i = false) (fun i s => gz_R 2 yX9_output cX9_output 3 (some .int) 0 0 14 [some (.ref 57), some (.int (nI x)), some (.int (nI i))] [] (gz_mk L σ) Q) ?_ ?_ 0 () (Nat.zero_le _) rfl
    · rintro - hio
      by_cases f : C 9 3 = 8
      · rw [show fa_output (nI x) (C, K, m, tg, tk, no, nu, fO, fU) = (-1004, (C, K, m, tg, tk, no, nu, fO, fU)) by simp [fa_output, h1, ex, f]; rw [← f, hio]] at hQ
        refine zr_iload_n dX9_output_14 rfl ?_
        refine zr_aload_n dX9_output_15 rfl ?_
        refine zt_geti zg_X9_131 dX9_output_16 rfl rfl rfl ?_
        refine zr_top (c3) ?_
        refine zr_icmp_ge 42 dX9_output_19 (by decide) (fun hp19 => ?_) (fun h => absurd (Int32.le_refl _) h)
        refine zr_aload_n dX9_output_42 rfl ?_
        refine zt_geti zg_X9_131 dX9_output_43 rfl rfl rfl ?_
        refine zr_top (c3) ?_
        refine zr_bipush (v := 8) dX9_output_46 kc_bipush_8 ?_
        refine zr_icmp_ne 55 dX9_output_48 (by decide) (fun h => absurd (by rw [f]; rfl) h) (fun hp48 => ?_)
        refine zr_sipush (v := (-1004)) dX9_output_51 kc_sipush_m1004 ?_
        exact zr_iret dX9_output_54 rfl (hQ _ _ ⟨rfl, hX0, fun _ _ => rfl⟩)
      · rw [show fa_output (nI x) (C, K, m, tg, tk, no, nu, fO, fU) = (nI (C 9 3 + 1), (sp_w (sp_w C 8 (C 9 3) x) 9 3 (C 9 3 + 1), K, m, tg, tk, no, nu, fO, fU)) by simp [fa_output, h1, ex, f, hio]] at hQ
        generalize hn : C 9 3 = n at *
        refine zr_iload_n dX9_output_14 rfl ?_
        refine zr_aload_n dX9_output_15 rfl ?_
        refine zt_geti zg_X9_131 dX9_output_16 rfl rfl rfl ?_
        refine zr_top (c3) ?_
        refine zr_icmp_ge 42 dX9_output_19 (by decide) (fun hp19 => ?_) (fun h => absurd (Int32.le_refl _) h)
        refine zr_aload_n dX9_output_42 rfl ?_
        refine zt_geti zg_X9_131 dX9_output_43 rfl rfl rfl ?_
        refine zr_top (c3) ?_
        refine zr_bipush (v := 8) dX9_output_46 kc_bipush_8 ?_
        refine zr_icmp_ne 55 dX9_output_48 (by decide) (fun hp48 => ?_) (fun h => absurd ((nI_eq (b := 8) (by omega) (by omega)).mp h) f)
        refine zr_aload_n dX9_output_55 rfl ?_
        refine zt_getr zg_X9_38 dX9_output_56 rfl rfl rfl ?_
        refine zr_aload_n dX9_output_59 rfl ?_
        refine zt_geti zg_X9_131 dX9_output_60 rfl rfl rfl ?_
        refine zr_top (c3) ?_
        refine zr_iload_n dX9_output_63 rfl ?_
        refine zt_istN dX9_output_64 rfl rfl rfl (by omega) ?_
        refine zr_aload_n dX9_output_65 rfl ?_
        refine zr_dup dX9_output_66 rfl ?_
        refine zt_geti zg_X9_131 dX9_output_67 rfl rfl rfl ?_
        refine zr_top (c3) ?_
        refine zr_iconst (v := 1) dX9_output_70 kc_iconst_1 ?_
        refine zr_iadd dX9_output_71 ?_
        refine zr_top (nI_1 n) ?_
        refine zt_put zp_X9_131 dX9_output_72 rfl rfl rfl rfl ?_
        refine zr_aload_n dX9_output_75 rfl ?_
        refine zt_geti zg_X9_131 dX9_output_76 rfl rfl rfl ?_
        refine zr_top ((by simp [gz_wr, upd] : _ = nI (n + 1))) ?_
        refine zr_iret dX9_output_79 rfl (hQ _ _ ⟨rfl, ?_, fun k hk => by simp [gz_wr, show ¬ k = 57 by omega, show ¬ k = 67 by omega]⟩)
        refine hX0.circ (C' := sp_w (sp_w C 8 n x) 9 3 (n + 1)) ?_ (rK.tab (fun k hk => ?_) (fun c => by simp [sp_w]) (by simp [sp_w])) (rm_m.tab (C := C) (rM.kept (fun j hj => ?_) rfl rfl) (by simp [sp_w])) (fun j hj => ?_) rfl rfl
        · obtain ⟨⟨p1, p2, p3, p4, p5⟩, q1, q2, q3, q4⟩ := rC
          refine ⟨⟨by simpa [gz_wr, upd, sp_w] using p1, by simpa [gz_wr, upd, sp_w] using p2, by simpa [gz_wr, upd, sp_w] using p3, by simp [gz_wr, upd, sp_w], by simpa [gz_wr, upd, sp_w] using p5⟩, fun l hl => ?_, fun c hc => ?_, fun q hq => ?_, fun q hq => ?_⟩
          · simpa [gz_wr, upd, sp_w] using q1 l (by simpa [sp_w] using hl)
          · simpa [gz_wr, upd, sp_w] using q2 c (by simpa [sp_w] using hc)
          · by_cases e : q = n
            · subst e
              simp [gz_wr, upd, sp_w]
            · have := q3 q (by simp [sp_w] at hq; omega)
              simpa [gz_wr, upd, sp_w, e] using this
          · simpa [gz_wr, upd, sp_w] using q4 q (by simpa [sp_w] using hq)
        · rcases hk with rfl | rfl | rfl | rfl <;> rfl
        · rw [gz_wr_eq, pk_un (by omega)]
          rfl
        · rcases hj with rfl | rfl | rfl | rfl <;> rfl
    · rintro i - hi hio ih
      have ho := rC.2.2.2.1 i hi
      have hol := hC.2.2.2.1 i hi
      by_cases e : C 8 i = x
      · have hio2 : sp_io C x (C 9 3) = true := by
          have := mono (i + 1) (C 9 3 - (i + 1)) (by show (sp_io C x i || decide (C 8 i = x)) = true; simp [e])
          rw [show i + 1 + (C 9 3 - (i + 1)) = C 9 3 by omega] at this
          exact this
        rw [show fa_output (nI x) (C, K, m, tg, tk, no, nu, fO, fU) = (-1003, (C, K, m, tg, tk, no, nu, fO, fU)) by simp [fa_output, h1, ex, hio2]] at hQ
        refine zr_iload_n dX9_output_14 rfl ?_
        refine zr_aload_n dX9_output_15 rfl ?_
        refine zt_geti zg_X9_131 dX9_output_16 rfl rfl rfl ?_
        refine zr_top (c3) ?_
        refine zr_icmp_ge 42 dX9_output_19 (by decide) (fun h => absurd h (nI_ge hi (by omega))) (fun hp19 => ?_)
        refine zr_aload_n dX9_output_22 rfl ?_
        refine zt_getr zg_X9_38 dX9_output_23 rfl rfl rfl ?_
        refine zr_iload_n dX9_output_26 rfl ?_
        refine zt_ildN dX9_output_27 rfl rfl (by omega) (ho) ?_
        refine zr_iload_n dX9_output_28 rfl ?_
        refine zr_icmp_ne 36 dX9_output_29 (by decide) (fun h => absurd (by rw [e]) h) (fun hp29 => ?_)
        refine zr_sipush (v := (-1003)) dX9_output_32 kc_sipush_m1003 ?_
        exact zr_iret dX9_output_35 rfl (hQ _ _ ⟨rfl, hX0, fun _ _ => rfl⟩)
      · refine zr_iload_n dX9_output_14 rfl ?_
        refine zr_aload_n dX9_output_15 rfl ?_
        refine zt_geti zg_X9_131 dX9_output_16 rfl rfl rfl ?_
        refine zr_top (c3) ?_
        refine zr_icmp_ge 42 dX9_output_19 (by decide) (fun h => absurd h (nI_ge hi (by omega))) (fun hp19 => ?_)
        refine zr_aload_n dX9_output_22 rfl ?_
        refine zt_getr zg_X9_38 dX9_output_23 rfl rfl rfl ?_
        refine zr_iload_n dX9_output_26 rfl ?_
        refine zt_ildN dX9_output_27 rfl rfl (by omega) (ho) ?_
        refine zr_iload_n dX9_output_28 rfl ?_
        refine zr_icmp_ne 36 dX9_output_29 (by decide) (fun hp29 => ?_) (fun h => absurd ((nI_eq (by omega) (by omega)).mp h) e)
        refine zr_iinc dX9_output_36 rfl (kc_inc (i)) rfl ?_
        refine zr_goto 14 dX9_output_39 (by decide) ?_
        exact ih () (by show (sp_io C x i || decide (C 8 i = x)) = false; simp [e, hio])
theorem ax_count (L : Nat) (σ : gz_Mm) (S : ap_S) (hw : ap_wf S) (hX : am_X σ S) (w : Int32) : gz_Gi 1 yX9_count cX9_count 2 (some .int) L [.ref 57, .int w] σ (am_P σ (fa_count w S)) := by
  obtain ⟨C, K, m, tg, tk, no, nu, fO, fU⟩ := S
  obtain ⟨hC, hK, hm, htg, hno, hnu, hz0, hz2⟩ := hw
  have hX0 := hX
  obtain ⟨⟨rC, rK, rM⟩, ⟨r5, r7⟩, s1, s2, s3, s4⟩ := hX
  obtain ⟨h80, h8, h20, ho8, ht20⟩ := hC.1
  have c0 := rC.1.1
  have c1 := rC.1.2.1
  have c2 := rC.1.2.2.1
  have c3 := rC.1.2.2.2.1
  have c4 := rC.1.2.2.2.2
  refine gz_Gi.of rfl rfl (fun Q hQ => ?_)
  refine zr_iload_n dX9_count_0 rfl ?_
  by_cases w0 : w = 0
  · subst w0
    refine zr_tin (off := 43) 44 dX9_count_1 (by decide) (by decide) (by decide) (by decide) ?_
    refine zr_aload_n dX9_count_44 rfl ?_
    refine zt_geti zg_X9_99 dX9_count_45 rfl rfl rfl ?_
    refine zr_top (c0) ?_
    exact zr_iret dX9_count_48 rfl (hQ _ _ ⟨rfl, hX0, fun _ _ => rfl⟩)
  by_cases w1 : w = 1
  · subst w1
    refine zr_tin (off := 48) 49 dX9_count_1 (by decide) (by decide) (by decide) (by decide) ?_
    refine zr_aload_n dX9_count_49 rfl ?_
    refine zt_geti zg_X9_109 dX9_count_50 rfl rfl rfl ?_
    refine zr_top (c1) ?_
    exact zr_iret dX9_count_53 rfl (hQ _ _ ⟨rfl, hX0, fun _ _ => rfl⟩)
  by_cases w2 : w = 2
  · subst w2
    refine zr_tin (off := 53) 54 dX9_count_1 (by decide) (by decide) (by decide) (by decide) ?_
    refine zr_aload_n dX9_count_54 rfl ?_
    refine zt_geti zg_X9_106 dX9_count_55 rfl rfl rfl ?_
    refine zr_top (c2) ?_
    exact zr_iret dX9_count_58 rfl (hQ _ _ ⟨rfl, hX0, fun _ _ => rfl⟩)
  by_cases w3 : w = 3
  · subst w3
    refine zr_tin (off := 58) 59 dX9_count_1 (by decide) (by decide) (by decide) (by decide) ?_
    refine zr_aload_n dX9_count_59 rfl ?_
    refine zt_geti zg_X9_131 dX9_count_60 rfl rfl rfl ?_
    refine zr_top (c3) ?_
    exact zr_iret dX9_count_63 rfl (hQ _ _ ⟨rfl, hX0, fun _ _ => rfl⟩)
  by_cases w4 : w = 4
  · subst w4
    refine zr_tin (off := 63) 64 dX9_count_1 (by decide) (by decide) (by decide) (by decide) ?_
    refine zr_aload_n dX9_count_64 rfl ?_
    refine zt_geti zg_X9_134 dX9_count_65 rfl rfl rfl ?_
    refine zr_top (c4) ?_
    exact zr_iret dX9_count_68 rfl (hQ _ _ ⟨rfl, hX0, fun _ _ => rfl⟩)
  by_cases w5 : w = 5
  · subst w5
    refine zr_tin (off := 68) 69 dX9_count_1 (by decide) (by decide) (by decide) (by decide) ?_
    refine zr_aload_n dX9_count_69 rfl ?_
    refine zt_callVi (As := []) (cm_chained L σ C K rK) zc_X9_137 rfl dX9_count_70 rfl rfl rfl rfl rfl rfl ?_
    exact zr_iret dX9_count_73 rfl (hQ _ _ ⟨rfl, hX0, fun _ _ => rfl⟩)
  by_cases w6 : w = 6
  · subst w6
    refine zr_tin (off := 73) 74 dX9_count_1 (by decide) (by decide) (by decide) (by decide) ?_
    refine zr_aload_n dX9_count_74 rfl ?_
    refine zt_geti zg_X9_141 dX9_count_75 rfl rfl rfl ?_
    refine zr_top (r7) ?_
    exact zr_iret dX9_count_78 rfl (hQ _ _ ⟨rfl, hX0, fun _ _ => rfl⟩)
  have e : fa_count w (C, K, m, tg, tk, no, nu, fO, fU) = (-1002, (C, K, m, tg, tk, no, nu, fO, fU)) := by simp [fa_count, w0, w1, w2, w3, w4, w5, w6]
  rw [e] at hQ
  refine zr_tout 79 dX9_count_1 (i32_out (n := 6) (by decide) (fun j hj q => by rcases (show j = 0 ∨ j = 1 ∨ j = 2 ∨ j = 3 ∨ j = 4 ∨ j = 5 ∨ j = 6 by omega) with rfl | rfl | rfl | rfl | rfl | rfl | rfl <;> first | exact w0 q | exact w1 q | exact w2 q | exact w3 q | exact w4 q | exact w5 q | exact w6 q)) (by decide) ?_
  refine zr_sipush (v := (-1002)) dX9_count_79 kc_sipush_m1002 ?_
  exact zr_iret dX9_count_82 rfl (hQ _ _ ⟨rfl, hX0, fun _ _ => rfl⟩)
theorem am_X.val {σ σ' : gz_Mm} {S : ap_S} (hX : am_X σ S) (hk : ∀ k, k ≠ 74 → σ' k = σ k) : am_X σ' S := by
  obtain ⟨C, K, m, r⟩ := S
  obtain ⟨tg, tk, no, nu, fO, fU⟩ := r
  have h2 := hX
  obtain ⟨⟨rC, rK, rM⟩, -⟩ := hX
  exact h2.circ (rC.kept (fun j _ => congrFun (hk 57 (by decide)) j) (fun k h1 h2 _ _ _ _ => hk k (by omega))) (rK.kept (fun k h => hk k (by omega))) (rM.kept (fun j _ => congrFun (hk 57 (by decide)) j) (hk 72 (by decide)) (hk 73 (by decide))) (fun j _ => congrFun (hk 57 (by decide)) j) (hk 78 (by decide)) (hk 79 (by decide))
theorem ax_line (L : Nat) (σ : gz_Mm) (S : ap_S) (hw : ap_wf S) (hX : am_X σ S) (l w : Int32) : gz_Gi 3 yX9_line cX9_line 3 (some .int) L [.ref 57, .int l, .int w] σ (am_P σ (fa_line l w S)) := by
  obtain ⟨C, K, m, tg, tk, no, nu, fO, fU⟩ := S
  obtain ⟨hC, hK, hm, htg, hno, hnu, hz0, hz2⟩ := hw
  have hX0 := hX
  obtain ⟨⟨rC, rK, rM⟩, ⟨r5, r7⟩, s1, s2, s3, s4⟩ := hX
  obtain ⟨h80, h8, h20, ho8, ht20⟩ := hC.1
  have c0 := rC.1.1
  have c1 := rC.1.2.1
  have c2 := rC.1.2.2.1
  have c3 := rC.1.2.2.2.1
  have c4 := rC.1.2.2.2.2
  refine gz_Gi.of rfl rfl (fun Q hQ => ?_)
  cases h1 : ap_v l (C 9 0) with
  | false =>
    rw [show fa_line l w (C, K, m, tg, tk, no, nu, fO, fU) = (-1001, (C, K, m, tg, tk, no, nu, fO, fU)) by simp [fa_line, h1]] at hQ
    refine zr_aload_n dX9_line_0 rfl ?_
    refine zr_iload_n dX9_line_1 rfl ?_
    refine zt_callVi (As := [_]) (cm_isLine L σ l _ (by omega) c0) zc_X9_122 rfl dX9_line_2 rfl rfl rfl rfl rfl rfl ?_
    refine zr_top (congrArg sp_b h1) ?_
    refine zr_if_ne 12 dX9_line_5 (by decide) (fun h => absurd rfl h) (fun hp5 => ?_)
    refine zr_sipush (v := (-1001)) dX9_line_8 kc_sipush_m1001 ?_
    exact zr_iret dX9_line_11 rfl (hQ _ _ ⟨rfl, hX0, fun _ _ => rfl⟩)
  | true =>
    obtain ⟨x, hx, rfl, ex⟩ := ap_v_t h1 (by omega)
    obtain ⟨k1, k2, -⟩ := rC.2.1 x hx
    refine zr_aload_n dX9_line_0 rfl ?_
    refine zr_iload_n dX9_line_1 rfl ?_
    refine zt_callVi (As := [_]) (cm_isLine L σ (nI x) _ (by omega) c0) zc_X9_122 rfl dX9_line_2 rfl rfl rfl rfl rfl rfl ?_
    refine zr_top (congrArg sp_b h1) ?_
    refine zr_if_ne 12 dX9_line_5 (by decide) (fun hp5 => ?_) (fun h => absurd h (by decide))
    refine zr_aload_n dX9_line_12 rfl ?_
    refine zt_cVv (As := []) (cm_work L σ C m hC hm rC rM) zc_X9_160 rfl dX9_line_13 rfl rfl rfl rfl rfl rfl (fun σ1 hs => ?_)
    obtain ⟨f1, v1⟩ := hs
    have hX1 : am_X σ1 (C, K, m, tg, tk, no, nu, fO, fU) := hX0.val f1
    have hk1 : ∀ k, k < 57 → σ1 k = σ k := fun k hk => f1 k (by omega)
    by_cases w0 : w = 0
    · rw [show fa_line (nI x) w (C, K, m, tg, tk, no, nu, fO, fU) = (nI (C 0 x), (C, K, m, tg, tk, no, nu, fO, fU)) by simp [fa_line, h1, ex, w0]] at hQ
      refine zr_iload_n dX9_line_16 rfl ?_
      refine zr_if_ne 29 dX9_line_17 (by decide) (fun h => absurd w0 h) (fun hp17 => ?_)
      refine zr_aload_n dX9_line_20 rfl ?_
      refine zt_getr zg_X9_7 dX9_line_21 rfl rfl rfl ?_
      refine zr_iload_n dX9_line_24 rfl ?_
      refine zt_ildN dX9_line_25 rfl rfl (by omega) ((congrFun (f1 58 (by decide)) x).trans k1) ?_
      refine zr_goto 60 dX9_line_26 (by decide) ?_
      exact zr_iret dX9_line_60 rfl (hQ _ _ ⟨rfl, hX1, hk1⟩)
    by_cases w1 : w = 1
    · rw [show fa_line (nI x) w (C, K, m, tg, tk, no, nu, fO, fU) = (nI (C 1 x), (C, K, m, tg, tk, no, nu, fO, fU)) by simp [fa_line, h1, ex, w1]] at hQ
      refine zr_iload_n dX9_line_16 rfl ?_
      refine zr_if_ne 29 dX9_line_17 (by decide) (fun hp17 => ?_) (fun h => absurd h w0)
      refine zr_iload_n dX9_line_29 rfl ?_
      refine zr_iconst (v := 1) dX9_line_30 kc_iconst_1 ?_
      refine zr_icmp_ne 43 dX9_line_31 (by decide) (fun h => absurd w1 h) (fun hp31 => ?_)
      refine zr_aload_n dX9_line_34 rfl ?_
      refine zt_getr zg_X9_13 dX9_line_35 rfl rfl rfl ?_
      refine zr_iload_n dX9_line_38 rfl ?_
      refine zt_ildN dX9_line_39 rfl rfl (by omega) ((congrFun (f1 59 (by decide)) x).trans k2) ?_
      refine zr_goto 60 dX9_line_40 (by decide) ?_
      exact zr_iret dX9_line_60 rfl (hQ _ _ ⟨rfl, hX1, hk1⟩)
    by_cases w2 : w = 2
    · rw [show fa_line (nI x) w (C, K, m, tg, tk, no, nu, fO, fU) = (nI (sp_val C m x), (C, K, m, tg, tk, no, nu, fO, fU)) by simp [fa_line, h1, ex, w2]] at hQ
      refine zr_iload_n dX9_line_16 rfl ?_
      refine zr_if_ne 29 dX9_line_17 (by decide) (fun hp17 => ?_) (fun h => absurd h w0)
      refine zr_iload_n dX9_line_29 rfl ?_
      refine zr_iconst (v := 1) dX9_line_30 kc_iconst_1 ?_
      refine zr_icmp_ne 43 dX9_line_31 (by decide) (fun hp31 => ?_) (fun h => absurd h w1)
      refine zr_iload_n dX9_line_43 rfl ?_
      refine zr_iconst (v := 2) dX9_line_44 kc_iconst_2 ?_
      refine zr_icmp_ne 57 dX9_line_45 (by decide) (fun h => absurd w2 h) (fun hp45 => ?_)
      refine zr_aload_n dX9_line_48 rfl ?_
      refine zt_getr zg_X9_66 dX9_line_49 rfl rfl rfl ?_
      refine zr_iload_n dX9_line_52 rfl ?_
      refine zt_ildN dX9_line_53 rfl rfl (by omega) (v1 x hx) ?_
      refine zr_goto 60 dX9_line_54 (by decide) ?_
      exact zr_iret dX9_line_60 rfl (hQ _ _ ⟨rfl, hX1, hk1⟩)
    rw [show fa_line (nI x) w (C, K, m, tg, tk, no, nu, fO, fU) = (-1002, (C, K, m, tg, tk, no, nu, fO, fU)) by simp [fa_line, h1, w0, w1, w2]] at hQ
    refine zr_iload_n dX9_line_16 rfl ?_
    refine zr_if_ne 29 dX9_line_17 (by decide) (fun hp17 => ?_) (fun h => absurd h w0)
    refine zr_iload_n dX9_line_29 rfl ?_
    refine zr_iconst (v := 1) dX9_line_30 kc_iconst_1 ?_
    refine zr_icmp_ne 43 dX9_line_31 (by decide) (fun hp31 => ?_) (fun h => absurd h w1)
    refine zr_iload_n dX9_line_43 rfl ?_
    refine zr_iconst (v := 2) dX9_line_44 kc_iconst_2 ?_
    refine zr_icmp_ne 57 dX9_line_45 (by decide) (fun hp45 => ?_) (fun h => absurd h w2)
    refine zr_sipush (v := (-1002)) dX9_line_57 kc_sipush_m1002 ?_
    exact zr_iret dX9_line_60 rfl (hQ _ _ ⟨rfl, hX1, hk1⟩)
theorem ax_set (L : Nat) (σ : gz_Mm) (S : ap_S) (hw : ap_wf S) (hX : am_X σ S) (i v : Int32) : gz_Gi 1 yX9_set cX9_set 4 (some .int) L [.ref 57, .int i, .int v] σ (am_P σ (fa_set i v S)) := by
  obtain ⟨C, K, m, tg, tk, no, nu, fO, fU⟩ := S
  obtain ⟨hC, hK, hm, htg, hno, hnu, hz0, hz2⟩ := hw
  have hX0 := hX
  obtain ⟨⟨rC, rK, rM⟩, ⟨r5, r7⟩, s1, s2, s3, s4⟩ := hX
  obtain ⟨h80, h8, h20, ho8, ht20⟩ := hC.1
  have c0 := rC.1.1
  have c1 := rC.1.2.1
  have c2 := rC.1.2.2.1
  have c3 := rC.1.2.2.2.1
  have c4 := rC.1.2.2.2.2
  refine gz_Gi.of rfl rfl (fun Q hQ => ?_)
  cases h1 : ap_v i (C 9 1) with
  | false =>
    rw [show fa_set i v (C, K, m, tg, tk, no, nu, fO, fU) = (-1001, (C, K, m, tg, tk, no, nu, fO, fU)) by simp [fa_set, h1]] at hQ
    refine zr_iload_n dX9_set_0 rfl ?_
    refine zr_i2l dX9_set_1 ?_
    refine zr_lconst (v := 0) dX9_set_2 (by decide) ?_
    refine zr_aload_n dX9_set_3 rfl ?_
    refine zt_geti zg_X9_109 dX9_set_4 rfl rfl rfl ?_
    refine zr_top (c1) ?_
    refine zr_iconst (v := 1) dX9_set_7 kc_iconst_1 ?_
    refine zr_isub dX9_set_8 ?_
    refine zr_i2l dX9_set_9 ?_
    refine zt_callSi (As := [_, _, _]) (cm_in L σ _ _ _) zc_X9_102 rfl dX9_set_10 rfl rfl rfl ?_
    refine zr_top ((congrArg sp_b (ap_in (nI_less (by omega)))).trans (congrArg sp_b h1)) ?_
    refine zr_if_ne 20 dX9_set_13 (by decide) (fun h => absurd rfl h) (fun hp13 => ?_)
    refine zr_sipush (v := (-1001)) dX9_set_16 kc_sipush_m1001 ?_
    exact zr_iret dX9_set_19 rfl (hQ _ _ ⟨rfl, hX0, fun _ _ => rfl⟩)
  | true =>
    cases h2 : ap_v v 3 with
    | false =>
      rw [show fa_set i v (C, K, m, tg, tk, no, nu, fO, fU) = (-1002, (C, K, m, tg, tk, no, nu, fO, fU)) by simp [fa_set, h1, h2]] at hQ
      refine zr_iload_n dX9_set_0 rfl ?_
      refine zr_i2l dX9_set_1 ?_
      refine zr_lconst (v := 0) dX9_set_2 (by decide) ?_
      refine zr_aload_n dX9_set_3 rfl ?_
      refine zt_geti zg_X9_109 dX9_set_4 rfl rfl rfl ?_
      refine zr_top (c1) ?_
      refine zr_iconst (v := 1) dX9_set_7 kc_iconst_1 ?_
      refine zr_isub dX9_set_8 ?_
      refine zr_i2l dX9_set_9 ?_
      refine zt_callSi (As := [_, _, _]) (cm_in L σ _ _ _) zc_X9_102 rfl dX9_set_10 rfl rfl rfl ?_
      refine zr_top ((congrArg sp_b (ap_in (nI_less (by omega)))).trans (congrArg sp_b h1)) ?_
      refine zr_if_ne 20 dX9_set_13 (by decide) (fun hp13 => ?_) (fun h => absurd h (by decide))
      refine zr_iload_n dX9_set_20 rfl ?_
      refine zr_i2l dX9_set_21 ?_
      refine zr_lconst (v := 0) dX9_set_22 (by decide) ?_
      refine zr_ldc2 zd_X9_126 dX9_set_23 ?_
      refine zt_callSi (As := [_, _, _]) (cm_in L σ _ _ _) zc_X9_102 rfl dX9_set_26 rfl rfl rfl ?_
      refine zr_top ((congrArg sp_b (ap_in (n := 3) rfl)).trans (congrArg sp_b h2)) ?_
      refine zr_if_ne 36 dX9_set_29 (by decide) (fun h => absurd rfl h) (fun hp29 => ?_)
      refine zr_sipush (v := (-1002)) dX9_set_32 kc_sipush_m1002 ?_
      exact zr_iret dX9_set_35 rfl (hQ _ _ ⟨rfl, hX0, fun _ _ => rfl⟩)
    | true =>
      obtain ⟨x, hx, rfl, ex⟩ := ap_v_t h1 (by omega)
      obtain ⟨z, hz, rfl, ez⟩ := ap_v_t h2 (by omega)
      rw [show fa_set (nI x) (nI z) (C, K, m, tg, tk, no, nu, fO, fU) = (nI (m 0 x), (C, K, sp_w m 0 x z, tg, tk, no, nu, fO, fU)) by simp [fa_set, h1, h2, ex, ez]] at hQ
      refine zr_iload_n dX9_set_0 rfl ?_
      refine zr_i2l dX9_set_1 ?_
      refine zr_lconst (v := 0) dX9_set_2 (by decide) ?_
      refine zr_aload_n dX9_set_3 rfl ?_
      refine zt_geti zg_X9_109 dX9_set_4 rfl rfl rfl ?_
      refine zr_top (c1) ?_
      refine zr_iconst (v := 1) dX9_set_7 kc_iconst_1 ?_
      refine zr_isub dX9_set_8 ?_
      refine zr_i2l dX9_set_9 ?_
      refine zt_callSi (As := [_, _, _]) (cm_in L σ _ _ _) zc_X9_102 rfl dX9_set_10 rfl rfl rfl ?_
      refine zr_top ((congrArg sp_b (ap_in (nI_less (by omega)))).trans (congrArg sp_b h1)) ?_
      refine zr_if_ne 20 dX9_set_13 (by decide) (fun hp13 => ?_) (fun h => absurd h (by decide))
      refine zr_iload_n dX9_set_20 rfl ?_
      refine zr_i2l dX9_set_21 ?_
      refine zr_lconst (v := 0) dX9_set_22 (by decide) ?_
      refine zr_ldc2 zd_X9_126 dX9_set_23 ?_
      refine zt_callSi (As := [_, _, _]) (cm_in L σ _ _ _) zc_X9_102 rfl dX9_set_26 rfl rfl rfl ?_
      refine zr_top ((congrArg sp_b (ap_in (n := 3) rfl)).trans (congrArg sp_b h2)) ?_
      refine zr_if_ne 36 dX9_set_29 (by decide) (fun hp29 => ?_) (fun h => absurd h (by decide))
      refine zr_aload_n dX9_set_36 rfl ?_
      refine zt_getr zg_X9_53 dX9_set_37 rfl rfl rfl ?_
      refine zr_iload_n dX9_set_40 rfl ?_
      refine zt_ildN dX9_set_41 rfl rfl (by omega) (rM.1 x (by omega)) ?_
      refine zr_istore_n dX9_set_42 (by decide) rfl ?_
      refine zr_aload_n dX9_set_43 rfl ?_
      refine zt_getr zg_X9_53 dX9_set_44 rfl rfl rfl ?_
      refine zr_iload_n dX9_set_47 rfl ?_
      refine zr_iload_n dX9_set_48 rfl ?_
      refine zt_istN dX9_set_49 rfl rfl rfl (by omega) ?_
      refine zr_iload_n dX9_set_50 rfl ?_
      refine zr_iret dX9_set_51 rfl (hQ _ _ ⟨rfl, ?_, fun k hk => gz_wr_ne (by omega)⟩)
      refine hX0.circ (rC.kept (fun j _ => rfl) (fun k h1 h2 _ _ _ _ => gz_wr_ne (by omega))) (rK.kept (fun k hk => gz_wr_ne (by omega))) ?_ (fun j hj => rfl) rfl rfl
      obtain ⟨a1, a2, a3⟩ := rM
      refine ⟨fun i hi => ?_, by simpa [gz_wr, sp_w] using a2, by simpa [gz_wr, sp_w] using a3⟩
      by_cases e : i = x
      · simp [gz_wr, upd, sp_w, e]
      · simpa [gz_wr, upd, sp_w, e] using a1 i hi
theorem ax_hold (L : Nat) (σ : gz_Mm) (S : ap_S) (hw : ap_wf S) (hX : am_X σ S) (c v : Int32) : gz_Gi 2 yX9_hold cX9_hold 4 (some .int) L [.ref 57, .int c, .int v] σ (am_P σ (fa_hold c v S)) := by
  obtain ⟨C, K, m, tg, tk, no, nu, fO, fU⟩ := S
  obtain ⟨hC, hK, hm, htg, hno, hnu, hz0, hz2⟩ := hw
  have hX0 := hX
  obtain ⟨⟨rC, rK, rM⟩, ⟨r5, r7⟩, s1, s2, s3, s4⟩ := hX
  obtain ⟨h80, h8, h20, ho8, ht20⟩ := hC.1
  have c0 := rC.1.1
  have c1 := rC.1.2.1
  have c2 := rC.1.2.2.1
  have c3 := rC.1.2.2.2.1
  have c4 := rC.1.2.2.2.2
  refine gz_Gi.of rfl rfl (fun Q hQ => ?_)
  cases h1 : ap_v c (C 9 2) with
  | false =>
    rw [show fa_hold c v (C, K, m, tg, tk, no, nu, fO, fU) = (-1001, (C, K, m, tg, tk, no, nu, fO, fU)) by simp [fa_hold, h1]] at hQ
    refine zr_aload_n dX9_hold_0 rfl ?_
    refine zr_iload_n dX9_hold_1 rfl ?_
    refine zt_callVi (As := [_]) (cm_isCell L σ c _ (by omega) c2) zc_X9_128 rfl dX9_hold_2 rfl rfl rfl rfl rfl rfl ?_
    refine zr_top (congrArg sp_b h1) ?_
    refine zr_if_ne 12 dX9_hold_5 (by decide) (fun h => absurd rfl h) (fun hp5 => ?_)
    refine zr_sipush (v := (-1001)) dX9_hold_8 kc_sipush_m1001 ?_
    exact zr_iret dX9_hold_11 rfl (hQ _ _ ⟨rfl, hX0, fun _ _ => rfl⟩)
  | true =>
    cases h2 : ap_v v 3 with
    | false =>
      rw [show fa_hold c v (C, K, m, tg, tk, no, nu, fO, fU) = (-1002, (C, K, m, tg, tk, no, nu, fO, fU)) by simp [fa_hold, h1, h2]] at hQ
      refine zr_aload_n dX9_hold_0 rfl ?_
      refine zr_iload_n dX9_hold_1 rfl ?_
      refine zt_callVi (As := [_]) (cm_isCell L σ c _ (by omega) c2) zc_X9_128 rfl dX9_hold_2 rfl rfl rfl rfl rfl rfl ?_
      refine zr_top (congrArg sp_b h1) ?_
      refine zr_if_ne 12 dX9_hold_5 (by decide) (fun hp5 => ?_) (fun h => absurd h (by decide))
      refine zr_iload_n dX9_hold_12 rfl ?_
      refine zr_i2l dX9_hold_13 ?_
      refine zr_lconst (v := 0) dX9_hold_14 (by decide) ?_
      refine zr_ldc2 zd_X9_126 dX9_hold_15 ?_
      refine zt_callSi (As := [_, _, _]) (cm_in L σ _ _ _) zc_X9_102 rfl dX9_hold_18 rfl rfl rfl ?_
      refine zr_top ((congrArg sp_b (ap_in (n := 3) rfl)).trans (congrArg sp_b h2)) ?_
      refine zr_if_ne 28 dX9_hold_21 (by decide) (fun h => absurd rfl h) (fun hp21 => ?_)
      refine zr_sipush (v := (-1002)) dX9_hold_24 kc_sipush_m1002 ?_
      exact zr_iret dX9_hold_27 rfl (hQ _ _ ⟨rfl, hX0, fun _ _ => rfl⟩)
    | true =>
      obtain ⟨x, hx, rfl, ex⟩ := ap_v_t h1 (by omega)
      obtain ⟨z, hz, rfl, ez⟩ := ap_v_t h2 (by omega)
      rw [show fa_hold (nI x) (nI z) (C, K, m, tg, tk, no, nu, fO, fU) = (nI (m 1 x), (C, K, sp_w m 1 x z, tg, tk, no, nu, fO, fU)) by simp [fa_hold, h1, h2, ex, ez]] at hQ
      refine zr_aload_n dX9_hold_0 rfl ?_
      refine zr_iload_n dX9_hold_1 rfl ?_
      refine zt_callVi (As := [_]) (cm_isCell L σ (nI x) _ (by omega) c2) zc_X9_128 rfl dX9_hold_2 rfl rfl rfl rfl rfl rfl ?_
      refine zr_top (congrArg sp_b h1) ?_
      refine zr_if_ne 12 dX9_hold_5 (by decide) (fun hp5 => ?_) (fun h => absurd h (by decide))
      refine zr_iload_n dX9_hold_12 rfl ?_
      refine zr_i2l dX9_hold_13 ?_
      refine zr_lconst (v := 0) dX9_hold_14 (by decide) ?_
      refine zr_ldc2 zd_X9_126 dX9_hold_15 ?_
      refine zt_callSi (As := [_, _, _]) (cm_in L σ _ _ _) zc_X9_102 rfl dX9_hold_18 rfl rfl rfl ?_
      refine zr_top ((congrArg sp_b (ap_in (n := 3) rfl)).trans (congrArg sp_b h2)) ?_
      refine zr_if_ne 28 dX9_hold_21 (by decide) (fun hp21 => ?_) (fun h => absurd h (by decide))
      refine zr_aload_n dX9_hold_28 rfl ?_
      refine zt_getr zg_X9_56 dX9_hold_29 rfl rfl rfl ?_
      refine zr_iload_n dX9_hold_32 rfl ?_
      refine zt_ildN dX9_hold_33 rfl rfl (by omega) (rM.2.1 x (by omega)) ?_
      refine zr_istore_n dX9_hold_34 (by decide) rfl ?_
      refine zr_aload_n dX9_hold_35 rfl ?_
      refine zt_getr zg_X9_56 dX9_hold_36 rfl rfl rfl ?_
      refine zr_iload_n dX9_hold_39 rfl ?_
      refine zr_iload_n dX9_hold_40 rfl ?_
      refine zt_istN dX9_hold_41 rfl rfl rfl (by omega) ?_
      refine zr_iload_n dX9_hold_42 rfl ?_
      refine zr_iret dX9_hold_43 rfl (hQ _ _ ⟨rfl, ?_, fun k hk => gz_wr_ne (by omega)⟩)
      refine hX0.circ (rC.kept (fun j _ => rfl) (fun k h1 h2 _ _ _ _ => gz_wr_ne (by omega))) (rK.kept (fun k hk => gz_wr_ne (by omega))) ?_ (fun j hj => rfl) rfl rfl
      obtain ⟨a1, a2, a3⟩ := rM
      refine ⟨by simpa [gz_wr, sp_w] using a1, fun i hi => ?_, by simpa [gz_wr, sp_w] using a3⟩
      by_cases e : i = x
      · simp [gz_wr, upd, sp_w, e]
      · simpa [gz_wr, upd, sp_w, e] using a2 i hi
theorem ax_clock (L : Nat) (σ : gz_Mm) (S : ap_S) (hw : ap_wf S) (hX : am_X σ S) (d : Int32) : gz_Gi 4 yX9_clock cX9_clock 2 (some .int) L [.ref 57, .int d] σ (am_P σ (fa_clock d S)) := by
  obtain ⟨C, K, m, tg, tk, no, nu, fO, fU⟩ := S
  obtain ⟨hC, hK, hm, htg, hno, hnu, hz0, hz2⟩ := hw
  have hX0 := hX
  obtain ⟨⟨rC, rK, rM⟩, ⟨r5, r7⟩, s1, s2, s3, s4⟩ := hX
  obtain ⟨h80, h8, h20, ho8, ht20⟩ := hC.1
  have c0 := rC.1.1
  have c1 := rC.1.2.1
  have c2 := rC.1.2.2.1
  have c3 := rC.1.2.2.2.1
  have c4 := rC.1.2.2.2.2
  refine gz_Gi.of rfl rfl (fun Q hQ => ?_)
  cases h1 : ap_v d 8 with
  | false =>
    rw [show fa_clock d (C, K, m, tg, tk, no, nu, fO, fU) = (-1002, (C, K, m, tg, tk, no, nu, fO, fU)) by simp [fa_clock, h1]] at hQ
    refine zr_iload_n dX9_clock_0 rfl ?_
    refine zr_i2l dX9_clock_1 ?_
    refine zr_lconst (v := 0) dX9_clock_2 (by decide) ?_
    refine zr_ldc2 zd_X9_163 dX9_clock_3 ?_
    refine zt_callSi (As := [_, _, _]) (cm_in L σ _ _ _) zc_X9_102 rfl dX9_clock_6 rfl rfl rfl ?_
    refine zr_top ((congrArg sp_b (ap_in (n := 8) rfl)).trans (congrArg sp_b h1)) ?_
    refine zr_if_eq 20 dX9_clock_9 (by decide) (fun hp9 => ?_) (fun h => absurd rfl h)
    refine zr_sipush (v := (-1002)) dX9_clock_20 kc_sipush_m1002 ?_
    exact zr_iret dX9_clock_23 rfl (hQ _ _ ⟨rfl, hX0, fun _ _ => rfl⟩)
  | true =>
    obtain ⟨x, hx, rfl, ex⟩ := ap_v_t h1 (by omega)
    rw [show fa_clock (nI x) (C, K, m, tg, tk, no, nu, fO, fU) = (nI (sp_cnt C x (C 9 2)), (C, K, sp_clk C m x, tg, tk, no, nu, fO, fU)) by simp [fa_clock, h1, ex]] at hQ
    refine zr_iload_n dX9_clock_0 rfl ?_
    refine zr_i2l dX9_clock_1 ?_
    refine zr_lconst (v := 0) dX9_clock_2 (by decide) ?_
    refine zr_ldc2 zd_X9_163 dX9_clock_3 ?_
    refine zt_callSi (As := [_, _, _]) (cm_in L σ _ _ _) zc_X9_102 rfl dX9_clock_6 rfl rfl rfl ?_
    refine zr_top ((congrArg sp_b (ap_in (n := 8) rfl)).trans (congrArg sp_b h1)) ?_
    refine zr_if_eq 20 dX9_clock_9 (by decide) (fun h => absurd h (by decide)) (fun hp9 => ?_)
    refine zr_aload_n dX9_clock_12 rfl ?_
    refine zr_iload_n dX9_clock_13 rfl ?_
    refine zt_cVi (As := [_]) (cm_clocked L σ C m hC hm rC rM x hx) zc_X9_165 rfl dX9_clock_14 rfl rfl rfl rfl rfl rfl (fun r1 σ1 h1 => ?_)
    refine zr_goto 23 dX9_clock_17 (by decide) ?_
    obtain ⟨a1, a2, a3⟩ := h1
    refine zr_iret dX9_clock_23 rfl (hQ _ _ ⟨a1, ?_, fun k hk => a2 k (by omega) (by omega)⟩)
    exact hX0.circ (rC.kept (fun j _ => congrFun (a2 57 (by decide) (by decide)) j) (fun k h1 h2 _ _ _ _ => a2 k (by omega) (by omega))) (rK.kept (fun k hk => a2 k (by omega) (by omega))) a3 (fun j hj => congrFun (a2 57 (by decide) (by decide)) j) (a2 78 (by decide) (by decide)) (a2 79 (by decide) (by decide))
theorem ap_v_m1 (n : Nat) : ap_v (-1) n = false := by
  unfold ap_v
  apply decide_eq_false
  rintro ⟨h, -⟩
  exact absurd h (by decide)
theorem ax_stick (L : Nat) (σ : gz_Mm) (S : ap_S) (hw : ap_wf S) (hX : am_X σ S) (l v : Int32) : gz_Gi 2 yX9_stick cX9_stick 3 (some .int) L [.ref 57, .int l, .int v] σ (am_P σ (fa_stick l v S)) := by
  obtain ⟨C, K, m, tg, tk, no, nu, fO, fU⟩ := S
  obtain ⟨hC, hK, hm, htg, hno, hnu, hz0, hz2⟩ := hw
  have hX0 := hX
  obtain ⟨⟨rC, rK, rM⟩, ⟨r5, r7⟩, s1, s2, s3, s4⟩ := hX
  obtain ⟨h80, h8, h20, ho8, ht20⟩ := hC.1
  have c0 := rC.1.1
  have c1 := rC.1.2.1
  have c2 := rC.1.2.2.1
  have c3 := rC.1.2.2.2.1
  have c4 := rC.1.2.2.2.2
  have wr : ∀ x y : Int32, (∀ j, j ≠ 21 → j ≠ 22 → gz_wr (gz_wr σ 57 21 x) 57 22 y 57 j = σ 57 j) ∧ ∀ k, k ≠ 57 → gz_wr (gz_wr σ 57 21 x) 57 22 y k = σ k := fun x y => ⟨fun j a b => by rw [gz_wr_eq, pk_un b, gz_wr_eq, pk_un a], fun k a => by rw [gz_wr_ne a, gz_wr_ne a]⟩
  have fin : ∀ (x y : Int32) (m' : sp_T), (∀ a i, ¬ (a = 2 ∧ (i = 0 ∨ i = 1)) → m' a i = m a i) → x = nI (m' 2 0) + (-1) → (m' 2 0 ≠ 0 → y = nI (m' 2 1)) → am_X (gz_wr (gz_wr σ 57 21 x) 57 22 y) (C, K, m', tg, tk, no, nu, fO, fU) := by
    intro x y m' e hx hy
    obtain ⟨w1, w2⟩ := wr x y
    refine hX0.circ (rC.kept (fun j hj => w1 j (by omega) (by omega)) (fun k h1 h2 _ _ _ _ => w2 k (by omega))) (rK.kept (fun k hk => w2 k (by omega))) ?_ (fun j hj => w1 j (by omega) (by omega)) (w2 78 (by decide)) (w2 79 (by decide))
    obtain ⟨a1, a2, a3, a4, a5, a6, a7, a8, a9⟩ := rM
    unfold rm_m
    rw [w2 72 (by decide), w2 73 (by decide), w1 23 (by decide) (by decide), w1 24 (by decide) (by decide), w1 25 (by decide) (by decide), w1 26 (by decide) (by decide), w1 28 (by decide) (by decide), e 2 2 (by omega), e 2 3 (by omega), e 2 4 (by omega), e 2 5 (by omega), e 2 6 (by omega)]
    exact ⟨fun i hi => by rw [e 0 i (by omega)]; exact a1 i hi, fun c hc => by rw [e 1 c (by omega)]; exact a2 c hc, by rw [← hx]; simp [gz_wr, upd], fun q => by rw [← hy q]; simp [gz_wr, upd], a5, a6, a7, a8, a9⟩
  refine gz_Gi.of rfl rfl (fun Q hQ => ?_)
  by_cases l1 : l = -1
  · subst l1
    rw [show fa_stick (-1) v (C, K, m, tg, tk, no, nu, fO, fU) = (1, (C, K, sp_w m 2 0 0, tg, tk, no, nu, fO, fU)) by simp [fa_stick]] at hQ
    refine zr_iload_n dX9_stick_0 rfl ?_
    refine zr_iconst (v := (-1)) dX9_stick_1 kc_iconst_m1 ?_
    refine zr_icmp_eq 17 dX9_stick_2 (by decide) (fun hp2 => ?_) (fun h => absurd rfl h)
    refine zr_iload_n dX9_stick_17 rfl ?_
    refine zr_iconst (v := (-1)) dX9_stick_18 kc_iconst_m1 ?_
    refine zr_icmp_eq 36 dX9_stick_19 (by decide) (fun hp19 => ?_) (fun h => absurd rfl h)
    refine zr_aload_n dX9_stick_36 rfl ?_
    refine zr_iload_n dX9_stick_37 rfl ?_
    refine zt_put zp_X9_59 dX9_stick_38 rfl rfl rfl rfl ?_
    refine zr_aload_n dX9_stick_41 rfl ?_
    refine zr_iload_n dX9_stick_42 rfl ?_
    refine zt_put zp_X9_157 dX9_stick_43 rfl rfl rfl rfl ?_
    refine zr_iconst (v := 1) dX9_stick_46 kc_iconst_1 ?_
    refine zr_iret dX9_stick_47 rfl (hQ _ _ ⟨rfl, fin _ _ _ (fun a i h => sp_w_ne (by omega)) (by simp [sp_w]; rfl) (fun q => absurd (by simp [sp_w]) q), fun k hk => (wr _ _).2 k (by omega)⟩)
  cases h1 : ap_v l (C 9 0) with
  | false =>
    rw [show fa_stick l v (C, K, m, tg, tk, no, nu, fO, fU) = (-1001, (C, K, m, tg, tk, no, nu, fO, fU)) by simp [fa_stick, l1, h1]] at hQ
    refine zr_iload_n dX9_stick_0 rfl ?_
    refine zr_iconst (v := (-1)) dX9_stick_1 kc_iconst_m1 ?_
    refine zr_icmp_eq 17 dX9_stick_2 (by decide) (fun h => absurd h l1) (fun hp2 => ?_)
    refine zr_aload_n dX9_stick_5 rfl ?_
    refine zr_iload_n dX9_stick_6 rfl ?_
    refine zt_callVi (As := [_]) (cm_isLine L σ l _ (by omega) c0) zc_X9_122 rfl dX9_stick_7 rfl rfl rfl rfl rfl rfl ?_
    refine zr_top (congrArg sp_b h1) ?_
    refine zr_if_ne 17 dX9_stick_10 (by decide) (fun h => absurd rfl h) (fun hp10 => ?_)
    refine zr_sipush (v := (-1001)) dX9_stick_13 kc_sipush_m1001 ?_
    exact zr_iret dX9_stick_16 rfl (hQ _ _ ⟨rfl, hX0, fun _ _ => rfl⟩)
  | true =>
    cases h2 : ap_v v 2 with
    | false =>
      rw [show fa_stick l v (C, K, m, tg, tk, no, nu, fO, fU) = (-1002, (C, K, m, tg, tk, no, nu, fO, fU)) by simp [fa_stick, l1, h1, h2]] at hQ
      refine zr_iload_n dX9_stick_0 rfl ?_
      refine zr_iconst (v := (-1)) dX9_stick_1 kc_iconst_m1 ?_
      refine zr_icmp_eq 17 dX9_stick_2 (by decide) (fun h => absurd h l1) (fun hp2 => ?_)
      refine zr_aload_n dX9_stick_5 rfl ?_
      refine zr_iload_n dX9_stick_6 rfl ?_
      refine zt_callVi (As := [_]) (cm_isLine L σ l _ (by omega) c0) zc_X9_122 rfl dX9_stick_7 rfl rfl rfl rfl rfl rfl ?_
      refine zr_top (congrArg sp_b h1) ?_
      refine zr_if_ne 17 dX9_stick_10 (by decide) (fun hp10 => ?_) (fun h => absurd h (by decide))
      refine zr_iload_n dX9_stick_17 rfl ?_
      refine zr_iconst (v := (-1)) dX9_stick_18 kc_iconst_m1 ?_
      refine zr_icmp_eq 36 dX9_stick_19 (by decide) (fun h => absurd h l1) (fun hp19 => ?_)
      refine zr_iload_n dX9_stick_22 rfl ?_
      refine zr_i2l dX9_stick_23 ?_
      refine zr_lconst (v := 0) dX9_stick_24 (by decide) ?_
      refine zr_lconst (v := 1) dX9_stick_25 (by decide) ?_
      refine zt_callSi (As := [_, _, _]) (cm_in L σ _ _ _) zc_X9_102 rfl dX9_stick_26 rfl rfl rfl ?_
      refine zr_top ((congrArg sp_b (ap_in (n := 2) rfl)).trans (congrArg sp_b h2)) ?_
      refine zr_if_ne 36 dX9_stick_29 (by decide) (fun h => absurd rfl h) (fun hp29 => ?_)
      refine zr_sipush (v := (-1002)) dX9_stick_32 kc_sipush_m1002 ?_
      exact zr_iret dX9_stick_35 rfl (hQ _ _ ⟨rfl, hX0, fun _ _ => rfl⟩)
    | true =>
      obtain ⟨x, hx, rfl, ex⟩ := ap_v_t h1 (by omega)
      obtain ⟨z, hz, rfl, ez⟩ := ap_v_t h2 (by omega)
      rw [show fa_stick (nI x) (nI z) (C, K, m, tg, tk, no, nu, fO, fU) = (1, (C, K, sp_w (sp_w m 2 0 (x + 1)) 2 1 z, tg, tk, no, nu, fO, fU)) by simp [fa_stick, l1, h1, h2, ex, ez]] at hQ
      refine zr_iload_n dX9_stick_0 rfl ?_
      refine zr_iconst (v := (-1)) dX9_stick_1 kc_iconst_m1 ?_
      refine zr_icmp_eq 17 dX9_stick_2 (by decide) (fun h => absurd h l1) (fun hp2 => ?_)
      refine zr_aload_n dX9_stick_5 rfl ?_
      refine zr_iload_n dX9_stick_6 rfl ?_
      refine zt_callVi (As := [_]) (cm_isLine L σ (nI x) _ (by omega) c0) zc_X9_122 rfl dX9_stick_7 rfl rfl rfl rfl rfl rfl ?_
      refine zr_top (congrArg sp_b h1) ?_
      refine zr_if_ne 17 dX9_stick_10 (by decide) (fun hp10 => ?_) (fun h => absurd h (by decide))
      refine zr_iload_n dX9_stick_17 rfl ?_
      refine zr_iconst (v := (-1)) dX9_stick_18 kc_iconst_m1 ?_
      refine zr_icmp_eq 36 dX9_stick_19 (by decide) (fun h => absurd h l1) (fun hp19 => ?_)
      refine zr_iload_n dX9_stick_22 rfl ?_
      refine zr_i2l dX9_stick_23 ?_
      refine zr_lconst (v := 0) dX9_stick_24 (by decide) ?_
      refine zr_lconst (v := 1) dX9_stick_25 (by decide) ?_
      refine zt_callSi (As := [_, _, _]) (cm_in L σ _ _ _) zc_X9_102 rfl dX9_stick_26 rfl rfl rfl ?_
      refine zr_top ((congrArg sp_b (ap_in (n := 2) rfl)).trans (congrArg sp_b h2)) ?_
      refine zr_if_ne 36 dX9_stick_29 (by decide) (fun hp29 => ?_) (fun h => absurd h (by decide))
      refine zr_aload_n dX9_stick_36 rfl ?_
      refine zr_iload_n dX9_stick_37 rfl ?_
      refine zt_put zp_X9_59 dX9_stick_38 rfl rfl rfl rfl ?_
      refine zr_aload_n dX9_stick_41 rfl ?_
      refine zr_iload_n dX9_stick_42 rfl ?_
      refine zt_put zp_X9_157 dX9_stick_43 rfl rfl rfl rfl ?_
      refine zr_iconst (v := 1) dX9_stick_46 kc_iconst_1 ?_
      refine zr_iret dX9_stick_47 rfl (hQ _ _ ⟨rfl, fin _ _ _ (fun a i h => by rw [sp_w_ne (by omega), sp_w_ne (by omega)]) (by simp [sp_w]; exact (pk_m1 x).symm) (fun q => by simp [sp_w]), fun k hk => (wr _ _).2 k (by omega)⟩)
