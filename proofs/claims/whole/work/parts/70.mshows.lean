/-! ===== the reference: shows, shownBy, covers ===== -/
def rm_kp (σ : gz_Mm) (C m : sp_T) : Prop :=
  (∀ i, i < 8 → σ 80 i = nI (m 0 i)) ∧ (∀ c, c < C 9 2 → σ 81 c = nI (m 1 c)) ∧ σ 82 0 = nI (m 2 0) + (-1) ∧ (m 2 0 ≠ 0 → σ 82 1 = nI (m 2 1)) ∧
  σ 82 2 = nI (m 2 2) ∧ σ 82 3 = nI (m 2 3) ∧ σ 82 4 = nI (m 2 4) ∧ σ 82 5 = nI (m 2 5) ∧ σ 82 6 = nI (m 2 6)
def am_Y (σ : gz_Mm) : ap_S → Prop := fun (C, K, m, tg, tk, no, nu, fO, fU) =>
  (rm_C σ C ∧ rm_K σ C K ∧ rm_kp σ C m) ∧ (σ 57 27 = nI tg ∧ σ 57 29 = tk) ∧ σ 57 38 = nI no ∧ σ 57 40 = nI nu ∧ (∀ i, i < no → σ 78 i = fO i) ∧ ∀ i, i < nu → σ 79 i = fU i
theorem am_Y.of {σ σ' : gz_Mm} {S : ap_S} (h : am_Y σ S) (hk : ∀ k, k ≠ 57 → (k < 72 ∨ (77 < k ∧ k ≠ 83 ∧ k ≠ 84)) → σ' k = σ k) (h57 : ∀ j, (j < 21 ∨ j = 27 ∨ (28 < j ∧ j < 33) ∨ 36 < j) → σ' 57 j = σ 57 j) : am_Y σ' S := by
  obtain ⟨C, K, m, tg, tk, no, nu, fO, fU⟩ := S
  obtain ⟨⟨rC, rK, rM⟩, ⟨r1, r2⟩, r3, r4, r5, r6⟩ := h
  have H : rm_H σ σ' := ⟨hk, h57⟩
  refine ⟨⟨H.C rC, H.K rK, ?_⟩, ⟨(h57 27 (by omega)).trans r1, (h57 29 (by omega)).trans r2⟩, (h57 38 (by omega)).trans r3, (h57 40 (by omega)).trans r4, by rw [hk 78 (by decide) (by decide)]; exact r5, by rw [hk 79 (by decide) (by decide)]; exact r6⟩
  unfold rm_kp
  rw [hk 80 (by decide) (by decide), hk 81 (by decide) (by decide), hk 82 (by decide) (by decide)]
  exact rM
theorem am_Y.H {σ σ' : gz_Mm} {S : ap_S} (h : am_Y σ S) (hf : rm_H σ σ') : am_Y σ' S := h.of hf.1 hf.2
theorem am_keep (L : Nat) (σ : gz_Mm) (C m : sp_T) (K : sp_K) (r : Nat × Int32 × Nat × Nat × (Nat → Int32) × (Nat → Int32)) (hw : ap_wf (C, K, m, r)) (hX : am_X σ (C, K, m, r)) : gz_Gv 0 yX9_keep cX9_keep 2 none L [.ref 57] σ (fun σ' => am_Y σ' (C, K, m, r) ∧ rm_B σ' C K ∧ rm_m σ' C m ∧ ∀ k, k < 57 → σ' k = σ k) := by
  obtain ⟨tg, tk, no, nu, fO, fU⟩ := r
  obtain ⟨hC, hK, hm, htg, hno, hnu, hz0, hz2⟩ := hw
  obtain ⟨⟨rC, rK, rM⟩, ⟨r1, r2⟩, r3, r4, r5, r6⟩ := hX
  have h20 := hC.1.2.2.1
  refine (cm_keepAll L σ).imp (fun σ' q => ?_)
  obtain ⟨f, a, b, c0, c1, c2, c3, c4, c5, c6⟩ := q
  have f57 : ∀ j, σ' 57 j = σ 57 j := fun j => congrFun (f 57 (by decide) (by decide) (by decide)) j
  have rC' : rm_C σ' C := rC.kept (fun j _ => f57 j) (fun k h1 h2 _ _ _ _ => f k (by omega) (by omega) (by omega))
  have rK' : rm_K σ' C K := rK.kept (fun k h1 => f k (by omega) (by omega) (by omega))
  have rM' : rm_m σ' C m := rM.kept (fun j _ => f57 j) (f 72 (by decide) (by decide) (by decide)) (f 73 (by decide) (by decide) (by decide))
  refine ⟨⟨⟨rC', rK', ?_⟩, ⟨(f57 27).trans r1, (f57 29).trans r2⟩, (f57 38).trans r3, (f57 40).trans r4, by rw [f 78 (by decide) (by decide) (by decide)]; exact r5, by rw [f 79 (by decide) (by decide) (by decide)]; exact r6⟩, ⟨rC', rK', ⟨tg, htg, (f57 27).trans r1⟩, m, rM', hm⟩, rM', fun k hk => f k (by omega) (by omega) (by omega)⟩
  obtain ⟨m1, m2, m3, m4, m5, m6, m7, m8, m9⟩ := rM
  exact ⟨fun i hi => (a i hi).trans (m1 i hi), fun c hc => (b c (by omega)).trans (m2 c hc), c0.trans m3, fun q => c1.trans (m4 q), c2.trans m5, c3.trans m6, c4.trans m7, c5.trans m8, c6.trans m9⟩
theorem am_back (L : Nat) (σ : gz_Mm) (S : ap_S) (hw : ap_wf S) (hY : am_Y σ S) : gz_Gv 0 yX9_back cX9_back 2 none L [.ref 57] σ (fun σ' => am_X σ' S ∧ ∀ k, k < 57 → σ' k = σ k) := by
  obtain ⟨C, K, m, tg, tk, no, nu, fO, fU⟩ := S
  obtain ⟨hC, hK, hm, htg, hno, hnu, hz0, hz2⟩ := hw
  obtain ⟨⟨rC, rK, rM⟩, ⟨r1, r2⟩, r3, r4, r5, r6⟩ := hY
  have h20 := hC.1.2.2.1
  refine (cm_back L σ).imp (fun σ' q => ?_)
  obtain ⟨⟨f, g⟩, a, b, c0, c1, c2, c3, c4, c5, c6⟩ := q
  refine ⟨⟨⟨rC.kept (fun j hj => g j (by omega)) (fun k h1 h2 _ _ _ _ => f k (by omega) (by omega) (by omega)), rK.kept (fun k h1 => f k (by omega) (by omega) (by omega)), ?_⟩, ⟨(g 27 (by omega)).trans r1, (g 29 (by omega)).trans r2⟩, (g 38 (by omega)).trans r3, (g 40 (by omega)).trans r4, by rw [f 78 (by decide) (by decide) (by decide)]; exact r5, by rw [f 79 (by decide) (by decide) (by decide)]; exact r6⟩, fun k hk => f k (by omega) (by omega) (by omega)⟩
  obtain ⟨m1, m2, m3, m4, m5, m6, m7, m8, m9⟩ := rM
  exact ⟨fun i hi => (a i hi).trans (m1 i hi), fun c hc => (b c (by omega)).trans (m2 c hc), c0.trans m3, fun q => c1.trans (m4 q), c2.trans m5, c3.trans m6, c4.trans m7, c5.trans m8, c6.trans m9⟩
theorem ax_shows (L : Nat) (σ : gz_Mm) (S : ap_S) (hw : ap_wf S) (hX : am_X σ S) (t l v : Int32) : gz_Gi 10 yX9_shows cX9_shows 5 (some .int) L [.ref 57, .int t, .int l, .int v] σ (am_P σ (fa_shows t l v S)) := by
  have hw0 := hw
  obtain ⟨C, K, m, tg, tk, no, nu, fO, fU⟩ := S
  obtain ⟨hC, hK, hm, htg, hno, hnu, hz0, hz2⟩ := hw
  have hX0 := hX
  obtain ⟨⟨rC, rK, rM⟩, ⟨r5, r7⟩, s1, s2, s3, s4⟩ := hX
  obtain ⟨h80, h8, h20, ho8, ht20⟩ := hC.1
  have c0 := rC.1.1
  have c1 := rC.1.2.1
  have c2 := rC.1.2.2.1
  have c3 := rC.1.2.2.2.1
  have c4 := rC.1.2.2.2.2
  refine gz_Gi.of rfl rfl (fun Q hQ => ?_)
  cases h1 : ap_v t (C 9 4) with
  | false =>
    rw [show fa_shows t l v (C, K, m, tg, tk, no, nu, fO, fU) = (-1001, (C, K, m, tg, tk, no, nu, fO, fU)) by simp [fa_shows, h1]] at hQ
    refine zr_iload_n dX9_shows_0 rfl ?_
    refine zr_i2l dX9_shows_1 ?_
    refine zr_lconst (v := 0) dX9_shows_2 (by decide) ?_
    refine zr_aload_n dX9_shows_3 rfl ?_
    refine zt_geti zg_X9_134 dX9_shows_4 rfl rfl rfl ?_
    refine zr_top (c4) ?_
    refine zr_iconst (v := 1) dX9_shows_7 kc_iconst_1 ?_
    refine zr_isub dX9_shows_8 ?_
    refine zr_i2l dX9_shows_9 ?_
    refine zt_callSi (As := [_, _, _]) (cm_in L σ _ _ _) zc_X9_102 rfl dX9_shows_10 rfl rfl rfl ?_
    refine zr_top ((congrArg sp_b (ap_in (nI_less (by omega)))).trans (congrArg sp_b h1)) ?_
    refine zr_if_eq 24 dX9_shows_13 (by decide) (fun hp13 => ?_) (fun h => absurd rfl h)
    refine zr_sipush (v := (-1001)) dX9_shows_24 kc_sipush_m1001 ?_
    exact zr_iret dX9_shows_27 rfl (hQ _ _ ⟨rfl, hX0, fun _ _ => rfl⟩)
  | true =>
    cases h2 : ap_v l (C 9 0) with
    | false =>
      rw [show fa_shows t l v (C, K, m, tg, tk, no, nu, fO, fU) = (-1001, (C, K, m, tg, tk, no, nu, fO, fU)) by simp [fa_shows, h2]] at hQ
      refine zr_iload_n dX9_shows_0 rfl ?_
      refine zr_i2l dX9_shows_1 ?_
      refine zr_lconst (v := 0) dX9_shows_2 (by decide) ?_
      refine zr_aload_n dX9_shows_3 rfl ?_
      refine zt_geti zg_X9_134 dX9_shows_4 rfl rfl rfl ?_
      refine zr_top (c4) ?_
      refine zr_iconst (v := 1) dX9_shows_7 kc_iconst_1 ?_
      refine zr_isub dX9_shows_8 ?_
      refine zr_i2l dX9_shows_9 ?_
      refine zt_callSi (As := [_, _, _]) (cm_in L σ _ _ _) zc_X9_102 rfl dX9_shows_10 rfl rfl rfl ?_
      refine zr_top ((congrArg sp_b (ap_in (nI_less (by omega)))).trans (congrArg sp_b h1)) ?_
      refine zr_if_eq 24 dX9_shows_13 (by decide) (fun h => absurd h (by decide)) (fun hp13 => ?_)
      refine zr_aload_n dX9_shows_16 rfl ?_
      refine zr_iload_n dX9_shows_17 rfl ?_
      refine zt_callVi (As := [_]) (cm_isLine L σ l _ (by omega) c0) zc_X9_122 rfl dX9_shows_18 rfl rfl rfl rfl rfl rfl ?_
      refine zr_top (congrArg sp_b h2) ?_
      refine zr_if_ne 28 dX9_shows_21 (by decide) (fun h => absurd rfl h) (fun hp21 => ?_)
      refine zr_sipush (v := (-1001)) dX9_shows_24 kc_sipush_m1001 ?_
      exact zr_iret dX9_shows_27 rfl (hQ _ _ ⟨rfl, hX0, fun _ _ => rfl⟩)
    | true =>
      cases h3 : ap_v v 2 with
      | false =>
        rw [show fa_shows t l v (C, K, m, tg, tk, no, nu, fO, fU) = (-1002, (C, K, m, tg, tk, no, nu, fO, fU)) by simp [fa_shows, h1, h2, h3]] at hQ
        refine zr_iload_n dX9_shows_0 rfl ?_
        refine zr_i2l dX9_shows_1 ?_
        refine zr_lconst (v := 0) dX9_shows_2 (by decide) ?_
        refine zr_aload_n dX9_shows_3 rfl ?_
        refine zt_geti zg_X9_134 dX9_shows_4 rfl rfl rfl ?_
        refine zr_top (c4) ?_
        refine zr_iconst (v := 1) dX9_shows_7 kc_iconst_1 ?_
        refine zr_isub dX9_shows_8 ?_
        refine zr_i2l dX9_shows_9 ?_
        refine zt_callSi (As := [_, _, _]) (cm_in L σ _ _ _) zc_X9_102 rfl dX9_shows_10 rfl rfl rfl ?_
        refine zr_top ((congrArg sp_b (ap_in (nI_less (by omega)))).trans (congrArg sp_b h1)) ?_
        refine zr_if_eq 24 dX9_shows_13 (by decide) (fun h => absurd h (by decide)) (fun hp13 => ?_)
        refine zr_aload_n dX9_shows_16 rfl ?_
        refine zr_iload_n dX9_shows_17 rfl ?_
        refine zt_callVi (As := [_]) (cm_isLine L σ l _ (by omega) c0) zc_X9_122 rfl dX9_shows_18 rfl rfl rfl rfl rfl rfl ?_
        refine zr_top (congrArg sp_b h2) ?_
        refine zr_if_ne 28 dX9_shows_21 (by decide) (fun hp21 => ?_) (fun h => absurd h (by decide))
        refine zr_iload_n dX9_shows_28 rfl ?_
        refine zr_i2l dX9_shows_29 ?_
        refine zr_lconst (v := 0) dX9_shows_30 (by decide) ?_
        refine zr_lconst (v := 1) dX9_shows_31 (by decide) ?_
        refine zt_callSi (As := [_, _, _]) (cm_in L σ _ _ _) zc_X9_102 rfl dX9_shows_32 rfl rfl rfl ?_
        refine zr_top ((congrArg sp_b (ap_in (n := 2) rfl)).trans (congrArg sp_b h3)) ?_
        refine zr_if_ne 42 dX9_shows_35 (by decide) (fun h => absurd rfl h) (fun hp35 => ?_)
        refine zr_sipush (v := (-1002)) dX9_shows_38 kc_sipush_m1002 ?_
        exact zr_iret dX9_shows_41 rfl (hQ _ _ ⟨rfl, hX0, fun _ _ => rfl⟩)
      | true =>
        obtain ⟨x, hx, rfl, ex⟩ := ap_v_t h1 (by omega)
        obtain ⟨y, hy, rfl, ey⟩ := ap_v_t h2 (by omega)
        obtain ⟨z, hz, rfl, ez⟩ := ap_v_t h3 (by omega)
        rw [show fa_shows (nI x) (nI y) (nI z) (C, K, m, tg, tk, no, nu, fO, fU) = (sp_b (sp_shows C K x y z), (C, K, m, tg, tk, no, nu, fO, fU)) by simp [fa_shows, h1, h2, h3, ex, ey, ez]] at hQ
        refine zr_iload_n dX9_shows_0 rfl ?_
        refine zr_i2l dX9_shows_1 ?_
        refine zr_lconst (v := 0) dX9_shows_2 (by decide) ?_
        refine zr_aload_n dX9_shows_3 rfl ?_
        refine zt_geti zg_X9_134 dX9_shows_4 rfl rfl rfl ?_
        refine zr_top (c4) ?_
        refine zr_iconst (v := 1) dX9_shows_7 kc_iconst_1 ?_
        refine zr_isub dX9_shows_8 ?_
        refine zr_i2l dX9_shows_9 ?_
        refine zt_callSi (As := [_, _, _]) (cm_in L σ _ _ _) zc_X9_102 rfl dX9_shows_10 rfl rfl rfl ?_
        refine zr_top ((congrArg sp_b (ap_in (nI_less (by omega)))).trans (congrArg sp_b h1)) ?_
        refine zr_if_eq 24 dX9_shows_13 (by decide) (fun h => absurd h (by decide)) (fun hp13 => ?_)
        refine zr_aload_n dX9_shows_16 rfl ?_
        refine zr_iload_n dX9_shows_17 rfl ?_
        refine zt_callVi (As := [_]) (cm_isLine L σ (nI y) _ (by omega) c0) zc_X9_122 rfl dX9_shows_18 rfl rfl rfl rfl rfl rfl ?_
        refine zr_top (congrArg sp_b h2) ?_
        refine zr_if_ne 28 dX9_shows_21 (by decide) (fun hp21 => ?_) (fun h => absurd h (by decide))
        refine zr_iload_n dX9_shows_28 rfl ?_
        refine zr_i2l dX9_shows_29 ?_
        refine zr_lconst (v := 0) dX9_shows_30 (by decide) ?_
        refine zr_lconst (v := 1) dX9_shows_31 (by decide) ?_
        refine zt_callSi (As := [_, _, _]) (cm_in L σ _ _ _) zc_X9_102 rfl dX9_shows_32 rfl rfl rfl ?_
        refine zr_top ((congrArg sp_b (ap_in (n := 2) rfl)).trans (congrArg sp_b h3)) ?_
        refine zr_if_ne 42 dX9_shows_35 (by decide) (fun hp35 => ?_) (fun h => absurd h (by decide))
        refine zr_aload_n dX9_shows_42 rfl ?_
        refine zt_cVv (As := []) (am_keep L σ C m K _ hw0 hX0) zc_X9_254 rfl dX9_shows_43 rfl rfl rfl rfl rfl rfl (fun σ1 k1 => ?_)
        obtain ⟨Y1, B1, -, f1⟩ := k1
        refine zr_aload_n dX9_shows_46 rfl ?_
        refine zr_iload_n dX9_shows_47 rfl ?_
        refine zt_cVv (As := [_]) (cm_findSound L σ1 C K hC hK B1 x hx) zc_X9_257 rfl dX9_shows_48 rfl rfl rfl rfl rfl rfl (fun σ2 k2 => ?_)
        obtain ⟨B2, H2, U2, -⟩ := k2
        refine zr_aload_n dX9_shows_51 rfl ?_
        refine zr_iload_n dX9_shows_52 rfl ?_
        refine zr_iload_n dX9_shows_53 rfl ?_
        refine zr_iload_n dX9_shows_54 rfl ?_
        refine zt_cVi (As := [_, _, _]) (cm_isShown L σ2 C K hC hK B2 x y z hx hy (by omega) U2) zc_X9_260 rfl dX9_shows_55 rfl rfl rfl rfl rfl rfl (fun r3 σ3 k3 => ?_)
        obtain ⟨er, B3, H3, -, -⟩ := k3
        subst er
        have Y3 := Y1.H (H2.tr H3)
        have f3 : ∀ k, k < 57 → σ3 k = σ k := fun k hk => ((H2.tr H3).1 k (by omega) (by omega)).trans (f1 k hk)
        have tail : gz_R 10 yX9_shows cX9_shows 5 (some .int) 0 0 66 [some (.ref 57), some (.int (nI x)), some (.int (nI y)), some (.int (nI z)), none] [.int (sp_b (sp_shows C K x y z))] (gz_mk L σ3) Q := by
          refine zr_istore dX9_shows_66 (by decide) rfl ?_
          refine zr_aload_n dX9_shows_68 rfl ?_
          refine zt_cVv (As := []) (am_back L σ3 _ hw0 Y3) zc_X9_264 rfl dX9_shows_69 rfl rfl rfl rfl rfl rfl (fun σ4 k4 => ?_)
          refine zr_iload dX9_shows_72 rfl ?_
          exact zr_iret dX9_shows_74 rfl (hQ _ _ ⟨rfl, k4.1, fun k hk => (k4.2 k hk).trans (f3 k hk)⟩)
        generalize sp_shows C K x y z = b at *
        cases b with
        | true =>
          refine zr_if_eq 65 dX9_shows_58 (by decide) (fun h => absurd h (by decide)) (fun hp58 => ?_)
          refine zr_iconst (v := 1) dX9_shows_61 kc_iconst_1 ?_
          refine zr_goto 66 dX9_shows_62 (by decide) ?_
          exact tail
        | false =>
          refine zr_if_eq 65 dX9_shows_58 (by decide) (fun hp58 => ?_) (fun h => absurd rfl h)
          refine zr_iconst (v := 0) dX9_shows_65 kc_iconst_0 ?_
          exact tail
theorem ax_shownBy (L : Nat) (σ : gz_Mm) (S : ap_S) (hw : ap_wf S) (hX : am_X σ S) (l v : Int32) : gz_Gi 10 yX9_shownBy cX9_shownBy 5 (some .int) L [.ref 57, .int l, .int v] σ (am_P σ (fa_shownBy l v S)) := by
  have hw0 := hw
  obtain ⟨C, K, m, tg, tk, no, nu, fO, fU⟩ := S
  obtain ⟨hC, hK, hm, htg, hno, hnu, hz0, hz2⟩ := hw
  have hX0 := hX
  obtain ⟨⟨rC, rK, rM⟩, ⟨r5, r7⟩, s1, s2, s3, s4⟩ := hX
  obtain ⟨h80, h8, h20, ho8, ht20⟩ := hC.1
  have c0 := rC.1.1
  have c1 := rC.1.2.1
  have c2 := rC.1.2.2.1
  have c3 := rC.1.2.2.2.1
  have c4 := rC.1.2.2.2.2
  refine gz_Gi.of rfl rfl (fun Q hQ => ?_)
  cases h2 : ap_v l (C 9 0) with
  | false =>
    rw [show fa_shownBy l v (C, K, m, tg, tk, no, nu, fO, fU) = (-1001, (C, K, m, tg, tk, no, nu, fO, fU)) by simp [fa_shownBy, h2]] at hQ
    refine zr_aload_n dX9_shownBy_0 rfl ?_
    refine zr_iload_n dX9_shownBy_1 rfl ?_
    refine zt_callVi (As := [_]) (cm_isLine L σ l _ (by omega) c0) zc_X9_122 rfl dX9_shownBy_2 rfl rfl rfl rfl rfl rfl ?_
    refine zr_top (congrArg sp_b h2) ?_
    refine zr_if_ne 12 dX9_shownBy_5 (by decide) (fun h => absurd rfl h) (fun hp5 => ?_)
    refine zr_sipush (v := (-1001)) dX9_shownBy_8 kc_sipush_m1001 ?_
    exact zr_iret dX9_shownBy_11 rfl (hQ _ _ ⟨rfl, hX0, fun _ _ => rfl⟩)
  | true =>
    cases h3 : ap_v v 2 with
    | false =>
      rw [show fa_shownBy l v (C, K, m, tg, tk, no, nu, fO, fU) = (-1002, (C, K, m, tg, tk, no, nu, fO, fU)) by simp [fa_shownBy, h2, h3]] at hQ
      refine zr_aload_n dX9_shownBy_0 rfl ?_
      refine zr_iload_n dX9_shownBy_1 rfl ?_
      refine zt_callVi (As := [_]) (cm_isLine L σ l _ (by omega) c0) zc_X9_122 rfl dX9_shownBy_2 rfl rfl rfl rfl rfl rfl ?_
      refine zr_top (congrArg sp_b h2) ?_
      refine zr_if_ne 12 dX9_shownBy_5 (by decide) (fun hp5 => ?_) (fun h => absurd h (by decide))
      refine zr_iload_n dX9_shownBy_12 rfl ?_
      refine zr_i2l dX9_shownBy_13 ?_
      refine zr_lconst (v := 0) dX9_shownBy_14 (by decide) ?_
      refine zr_lconst (v := 1) dX9_shownBy_15 (by decide) ?_
      refine zt_callSi (As := [_, _, _]) (cm_in L σ _ _ _) zc_X9_102 rfl dX9_shownBy_16 rfl rfl rfl ?_
      refine zr_top ((congrArg sp_b (ap_in (n := 2) rfl)).trans (congrArg sp_b h3)) ?_
      refine zr_if_ne 26 dX9_shownBy_19 (by decide) (fun h => absurd rfl h) (fun hp19 => ?_)
      refine zr_sipush (v := (-1002)) dX9_shownBy_22 kc_sipush_m1002 ?_
      exact zr_iret dX9_shownBy_25 rfl (hQ _ _ ⟨rfl, hX0, fun _ _ => rfl⟩)
    | true =>
      obtain ⟨y, hy, rfl, ey⟩ := ap_v_t h2 (by omega)
      obtain ⟨z, hz, rfl, ez⟩ := ap_v_t h3 (by omega)
      rw [show fa_shownBy (nI y) (nI z) (C, K, m, tg, tk, no, nu, fO, fU) = (sp_fb C K y z 0 (C 9 4), (C, K, m, tg, tk, no, nu, fO, fU)) by simp [fa_shownBy, h2, h3, ey, ez]] at hQ
      refine zr_aload_n dX9_shownBy_0 rfl ?_
      refine zr_iload_n dX9_shownBy_1 rfl ?_
      refine zt_callVi (As := [_]) (cm_isLine L σ (nI y) _ (by omega) c0) zc_X9_122 rfl dX9_shownBy_2 rfl rfl rfl rfl rfl rfl ?_
      refine zr_top (congrArg sp_b h2) ?_
      refine zr_if_ne 12 dX9_shownBy_5 (by decide) (fun hp5 => ?_) (fun h => absurd h (by decide))
      refine zr_iload_n dX9_shownBy_12 rfl ?_
      refine zr_i2l dX9_shownBy_13 ?_
      refine zr_lconst (v := 0) dX9_shownBy_14 (by decide) ?_
      refine zr_lconst (v := 1) dX9_shownBy_15 (by decide) ?_
      refine zt_callSi (As := [_, _, _]) (cm_in L σ _ _ _) zc_X9_102 rfl dX9_shownBy_16 rfl rfl rfl ?_
      refine zr_top ((congrArg sp_b (ap_in (n := 2) rfl)).trans (congrArg sp_b h3)) ?_
      refine zr_if_ne 26 dX9_shownBy_19 (by decide) (fun hp19 => ?_) (fun h => absurd h (by decide))
      refine zr_aload_n dX9_shownBy_26 rfl ?_
      refine zt_cVv (As := []) (am_keep L σ C m K _ hw0 hX0) zc_X9_254 rfl dX9_shownBy_27 rfl rfl rfl rfl rfl rfl (fun σ1 k1 => ?_)
      refine zr_iconst (v := (-1)) dX9_shownBy_30 kc_iconst_m1 ?_
      refine zr_istore_n dX9_shownBy_31 (by decide) rfl ?_
      refine zr_iconst (v := 0) dX9_shownBy_32 kc_iconst_0 ?_
      refine zr_istore dX9_shownBy_33 (by decide) rfl ?_
      obtain ⟨Y1, B1, -, f1⟩ := k1
      generalize hans : sp_fb C K y z 0 (C 9 4) = ans at *
      have tail : ∀ (σ2 : gz_Mm) (o : Option Value), am_Y σ2 (C, K, m, tg, tk, no, nu, fO, fU) → (∀ k, k < 57 → σ2 k = σ k) → gz_R 10 yX9_shownBy cX9_shownBy 5 (some .int) 0 0 78 [some (.ref 57), some (.int (nI y)), some (.int (nI z)), some (.int ans), o] [] (gz_mk L σ2) Q := by
        intro σ2 o Y2 f2
        refine zr_aload_n dX9_shownBy_78 rfl ?_
        refine zt_cVv (As := []) (am_back L σ2 _ hw0 Y2) zc_X9_264 rfl dX9_shownBy_79 rfl rfl rfl rfl rfl rfl (fun σ4 k4 => ?_)
        refine zr_iload_n dX9_shownBy_82 rfl ?_
        exact zr_iret dX9_shownBy_83 rfl (hQ _ _ ⟨rfl, k4.1, fun k hk => (k4.2 k hk).trans (f2 k hk)⟩)
      refine zl_up (τ := gz_Mm) (C 9 4) (fun i s => am_Y s (C, K, m, tg, tk, no, nu, fO, fU) ∧ rm_B s C K ∧ (∀ k, k < 57 → s k = σ k) ∧ sp_fb C K y z i (C 9 4 - i) = ans) (fun i s => gz_R 10 yX9_shownBy cX9_shownBy 5 (some .int) 0 0 35 [some (.ref 57), some (.int (nI y)), some (.int (nI z)), some (.int (-1)), some (.int (nI i))] [] (gz_mk L s) Q) ?_ ?_ 0 σ1 (Nat.zero_le _) ⟨Y1, B1, f1, hans⟩
      · rintro σ2 ⟨Y2, B2, f2, e2⟩
        rw [Nat.sub_self] at e2
        have e3 : (-1 : Int32) = ans := e2
        refine zr_iload dX9_shownBy_35 rfl ?_
        refine zr_aload_n dX9_shownBy_37 rfl ?_
        refine zt_geti zg_X9_134 dX9_shownBy_38 rfl rfl rfl ?_
        refine zr_top (Y2.1.1.1.2.2.2.2) ?_
        refine zr_icmp_ge 78 dX9_shownBy_41 (by decide) (fun hp41 => ?_) (fun h => absurd (Int32.le_refl _) h)
        rw [e3]
        exact tail _ _ Y2 f2
      · rintro i σ2 hi ⟨Y2, B2, f2, e2⟩ ih
        have r4 := Y2.1.1.1.2.2.2.2
        rw [show C 9 4 - i = (C 9 4 - (i + 1)) + 1 by omega] at e2
        refine zr_iload dX9_shownBy_35 rfl ?_
        refine zr_aload_n dX9_shownBy_37 rfl ?_
        refine zt_geti zg_X9_134 dX9_shownBy_38 rfl rfl rfl ?_
        refine zr_top (r4) ?_
        refine zr_icmp_ge 78 dX9_shownBy_41 (by decide) (fun h => absurd h (nI_ge hi (by omega))) (fun hp41 => ?_)
        refine zr_iload_n dX9_shownBy_44 rfl ?_
        refine zr_if_ge 78 dX9_shownBy_45 (by decide) (fun h => absurd h (by decide)) (fun hp45 => ?_)
        refine zr_aload_n dX9_shownBy_48 rfl ?_
        refine zr_iload dX9_shownBy_49 rfl ?_
        refine zt_cVv (As := [_]) (cm_findSound L σ2 C K hC hK B2 i hi) zc_X9_257 rfl dX9_shownBy_51 rfl rfl rfl rfl rfl rfl (fun σ3 k3 => ?_)
        obtain ⟨B3, H3, U3, -⟩ := k3
        refine zr_aload_n dX9_shownBy_54 rfl ?_
        refine zr_iload dX9_shownBy_55 rfl ?_
        refine zr_iload_n dX9_shownBy_57 rfl ?_
        refine zr_iload_n dX9_shownBy_58 rfl ?_
        refine zt_cVi (As := [_, _, _]) (cm_isShown L σ3 C K hC hK B3 i y z hi hy (by omega) U3) zc_X9_260 rfl dX9_shownBy_59 rfl rfl rfl rfl rfl rfl (fun r4' σ4 k4 => ?_)
        obtain ⟨er, B4, H4, -, -⟩ := k4
        subst er
        have Y4 := Y2.H (H3.tr H4)
        have f4 : ∀ k, k < 57 → σ4 k = σ k := fun k hk => ((H3.tr H4).1 k (by omega) (by omega)).trans (f2 k hk)
        cases hb : sp_shows C K i y z with
        | true =>
          have e3 : nI i = ans := by rw [← e2]; exact (if_pos hb).symm
          refine zr_if_eq 70 dX9_shownBy_62 (by decide) (fun h => absurd h (by decide)) (fun hp62 => ?_)
          refine zr_iload dX9_shownBy_65 rfl ?_
          refine zr_goto 71 dX9_shownBy_67 (by decide) ?_
          refine zr_istore_n dX9_shownBy_71 (by decide) rfl ?_
          refine zr_iinc dX9_shownBy_72 rfl (kc_inc (i)) rfl ?_
          refine zr_goto 35 dX9_shownBy_75 (by decide) ?_
          have r44 := Y4.1.1.1.2.2.2.2
          by_cases hl : i + 1 < C 9 4
          · refine zr_iload dX9_shownBy_35 rfl ?_
            refine zr_aload_n dX9_shownBy_37 rfl ?_
            refine zt_geti zg_X9_134 dX9_shownBy_38 rfl rfl rfl ?_
            refine zr_top (r44) ?_
            refine zr_icmp_ge 78 dX9_shownBy_41 (by decide) (fun h => absurd h (nI_ge hl (by omega))) (fun hp41 => ?_)
            refine zr_iload_n dX9_shownBy_44 rfl ?_
            refine zr_if_ge 78 dX9_shownBy_45 (by decide) (fun hp45 => ?_) (fun h => absurd (nI_pos' (by omega)) h)
            rw [e3]
            exact tail _ _ Y4 f4
          · refine zr_iload dX9_shownBy_35 rfl ?_
            refine zr_aload_n dX9_shownBy_37 rfl ?_
            refine zt_geti zg_X9_134 dX9_shownBy_38 rfl rfl rfl ?_
            refine zr_top (r44) ?_
            refine zr_icmp_ge 78 dX9_shownBy_41 (by decide) (fun hp41 => ?_) (fun h => absurd (nI_le (by omega) (by omega)) h)
            rw [e3]
            exact tail _ _ Y4 f4
        | false =>
          have e3 : sp_fb C K y z (i + 1) (C 9 4 - (i + 1)) = ans := by rw [← e2]; exact (if_neg (by rw [hb]; decide)).symm
          refine zr_if_eq 70 dX9_shownBy_62 (by decide) (fun hp62 => ?_) (fun h => absurd rfl h)
          refine zr_iconst (v := (-1)) dX9_shownBy_70 kc_iconst_m1 ?_
          refine zr_istore_n dX9_shownBy_71 (by decide) rfl ?_
          refine zr_iinc dX9_shownBy_72 rfl (kc_inc (i)) rfl ?_
          refine zr_goto 35 dX9_shownBy_75 (by decide) ?_
          exact ih σ4 ⟨Y4, B4, f4, e3⟩
theorem ax_covers (L : Nat) (σ : gz_Mm) (S : ap_S) (hw : ap_wf S) (hX : am_X σ S) : gz_Gi 10 yX9_covers cX9_covers 6 (some .int) L [.ref 57] σ (am_P σ (fa_covers S)) := by
  have hw0 := hw
  obtain ⟨C, K, m, tg, tk, no, nu, fO, fU⟩ := S
  obtain ⟨hC, hK, hm, htg, hno, hnu, hz0, hz2⟩ := hw
  have hX0 := hX
  obtain ⟨⟨rC, rK, rM⟩, ⟨r5, r7⟩, s1, s2, s3, s4⟩ := hX
  obtain ⟨h80, h8, h20, ho8, ht20⟩ := hC.1
  have c0 := rC.1.1
  have c1 := rC.1.2.1
  have c2 := rC.1.2.2.1
  have c3 := rC.1.2.2.2.1
  have c4 := rC.1.2.2.2.2
  refine gz_Gi.of rfl rfl (fun Q hQ => ?_)
  rw [show fa_covers (C, K, m, tg, tk, no, nu, fO, fU) = (nI (sp_cov C K (C 9 4) (2 * C 9 0)), (C, K, m, tg, tk, no, nu, fO, fU)) from rfl] at hQ
  refine zr_aload_n dX9_covers_0 rfl ?_
  refine zt_cVv (As := []) (am_keep L σ C m K _ hw0 hX0) zc_X9_254 rfl dX9_covers_1 rfl rfl rfl rfl rfl rfl (fun σ1 k1 => ?_)
  refine zr_iconst (v := 0) dX9_covers_4 kc_iconst_0 ?_
  refine zr_istore_n dX9_covers_5 (by decide) rfl ?_
  obtain ⟨Y1, B1, -, f1⟩ := k1
  refine zl_up (τ := gz_Mm) (C 9 4) (fun i s => am_Y s (C, K, m, tg, tk, no, nu, fO, fU) ∧ rm_B s C K ∧ (∀ k, k < 57 → s k = σ k) ∧ ∀ u, u < i → rm_U s C K u) (fun i s => gz_R 10 yX9_covers cX9_covers 6 (some .int) 0 0 6 [some (.ref 57), some (.int (nI i)), none, none, none, none] [] (gz_mk L s) Q) ?_ ?_ 0 σ1 (Nat.zero_le _) ⟨Y1, B1, f1, fun u hu => absurd hu (Nat.not_lt_zero u)⟩
  rotate_left
  · rintro i σ2 hi ⟨Y2, B2, f2, U2⟩ ih
    refine zr_iload_n dX9_covers_6 rfl ?_
    refine zr_aload_n dX9_covers_7 rfl ?_
    refine zt_geti zg_X9_134 dX9_covers_8 rfl rfl rfl ?_
    refine zr_top (Y2.1.1.1.2.2.2.2) ?_
    refine zr_icmp_ge 25 dX9_covers_11 (by decide) (fun h => absurd h (nI_ge hi (by omega))) (fun hp11 => ?_)
    refine zr_aload_n dX9_covers_14 rfl ?_
    refine zr_iload_n dX9_covers_15 rfl ?_
    refine zt_cVv (As := [_]) (cm_findSound L σ2 C K hC hK B2 i hi) zc_X9_257 rfl dX9_covers_16 rfl rfl rfl rfl rfl rfl (fun σ3 k3 => ?_)
    obtain ⟨B3, H3, U3, V3⟩ := k3
    refine zr_iinc dX9_covers_19 rfl (kc_inc (i)) rfl ?_
    refine zr_goto 6 dX9_covers_22 (by decide) ?_
    refine ih σ3 ⟨Y2.H H3, B3, fun k hk => (H3.1 k (by omega) (by omega)).trans (f2 k hk), fun u hu => ?_⟩
    by_cases e : u = i
    · rw [e]
      exact U3
    · exact V3 u (by omega) (U2 u (by omega))
  rintro σ2 ⟨Y2, B2, f2, U2⟩
  refine zr_iload_n dX9_covers_6 rfl ?_
  refine zr_aload_n dX9_covers_7 rfl ?_
  refine zt_geti zg_X9_134 dX9_covers_8 rfl rfl rfl ?_
  refine zr_top (Y2.1.1.1.2.2.2.2) ?_
  refine zr_icmp_ge 25 dX9_covers_11 (by decide) (fun hp11 => ?_) (fun h => absurd (Int32.le_refl _) h)
  refine zr_iconst (v := 0) dX9_covers_25 kc_iconst_0 ?_
  refine zr_istore_n dX9_covers_26 (by decide) rfl ?_
  refine zr_iconst (v := 0) dX9_covers_27 kc_iconst_0 ?_
  refine zr_istore_n dX9_covers_28 (by decide) rfl ?_
  let I : gz_Mm → Prop := fun s => am_Y s (C, K, m, tg, tk, no, nu, fO, fU) ∧ rm_B s C K ∧ (∀ k, k < 57 → s k = σ k) ∧ ∀ u, u < C 9 4 → rm_U s C K u
  have mono : ∀ f i k, sp_any C K f i = true → sp_any C K f (i + k) = true := fun f i k q => by
    induction k with
    | zero => exact q
    | succ k ih => show (sp_any C K f (i + k) || _) = true; rw [ih]; rfl
  have inner : ∀ (l v : Nat) (s : gz_Mm) (o4 o5 : Option Value), l < C 9 0 → v < 2 → I s → (∀ (s' : gz_Mm) (o4 o5 : Option Value), I s' → gz_R 10 yX9_covers cX9_covers 6 (some .int) 0 0 39 [some (.ref 57), some (.int (nI (sp_cov C K (C 9 4) (2 * l + v + 1)))), some (.int (nI l)), some (.int (nI (v + 1))), o4, o5] [] (gz_mk L s') Q) → gz_R 10 yX9_covers cX9_covers 6 (some .int) 0 0 44 [some (.ref 57), some (.int (nI (sp_cov C K (C 9 4) (2 * l + v)))), some (.int (nI l)), some (.int (nI v)), o4, o5] [] (gz_mk L s) Q := by
    intro l v s o4 o5 hl hv hI next
    have tail : ∀ (s' : gz_Mm) (o5 : Option Value), I s' → gz_R 10 yX9_covers cX9_covers 6 (some .int) 0 0 80 [some (.ref 57), some (.int (nI (sp_cov C K (C 9 4) (2 * l + v)))), some (.int (nI l)), some (.int (nI v)), some (.int (sp_b (sp_any C K (2 * l + v) (C 9 4)))), o5] [] (gz_mk L s') Q := by
      intro s' o5 hI'
      cases hb : sp_any C K (2 * l + v) (C 9 4) with
      | true =>
        have e : sp_cov C K (C 9 4) (2 * l + v + 1) = sp_cov C K (C 9 4) (2 * l + v) + 1 := by
          show _ + (if _ then 1 else 0) = _
          rw [if_pos hb]
        rw [e] at next
        refine zr_iload_n dX9_covers_80 rfl ?_
        refine zr_iload dX9_covers_81 rfl ?_
        refine zr_if_eq 90 dX9_covers_83 (by decide) (fun h => absurd h (by decide)) (fun hp83 => ?_)
        refine zr_iconst (v := 1) dX9_covers_86 kc_iconst_1 ?_
        refine zr_goto 91 dX9_covers_87 (by decide) ?_
        refine zr_iadd dX9_covers_91 ?_
        refine zr_top (nI_1 _) ?_
        refine zr_istore_n dX9_covers_92 (by decide) rfl ?_
        refine zr_iinc dX9_covers_93 rfl (kc_inc (v)) rfl ?_
        refine zr_goto 39 dX9_covers_96 (by decide) ?_
        exact next s' _ _ hI'
      | false =>
        have e : sp_cov C K (C 9 4) (2 * l + v + 1) = sp_cov C K (C 9 4) (2 * l + v) := by
          show _ + (if _ then 1 else 0) = _
          rw [if_neg (by rw [hb]; decide)]
          rfl
        rw [e] at next
        refine zr_iload_n dX9_covers_80 rfl ?_
        refine zr_iload dX9_covers_81 rfl ?_
        refine zr_if_eq 90 dX9_covers_83 (by decide) (fun hp83 => ?_) (fun h => absurd rfl h)
        refine zr_iconst (v := 0) dX9_covers_90 kc_iconst_0 ?_
        refine zr_iadd dX9_covers_91 ?_
        refine zr_top (Int32.add_zero _) ?_
        refine zr_istore_n dX9_covers_92 (by decide) rfl ?_
        refine zr_iinc dX9_covers_93 rfl (kc_inc (v)) rfl ?_
        refine zr_goto 39 dX9_covers_96 (by decide) ?_
        exact next s' _ _ hI'
    refine zr_iconst (v := 0) dX9_covers_44 kc_iconst_0 ?_
    refine zr_istore dX9_covers_45 (by decide) rfl ?_
    refine zr_iconst (v := 0) dX9_covers_47 kc_iconst_0 ?_
    refine zr_istore dX9_covers_48 (by decide) rfl ?_
    refine zl_up (τ := gz_Mm) (C 9 4) (fun i s => I s ∧ sp_any C K (2 * l + v) i = false) (fun i s => gz_R 10 yX9_covers cX9_covers 6 (some .int) 0 0 50 [some (.ref 57), some (.int (nI (sp_cov C K (C 9 4) (2 * l + v)))), some (.int (nI l)), some (.int (nI v)), some (.int 0), some (.int (nI i))] [] (gz_mk L s) Q) ?_ ?_ 0 s (Nat.zero_le _) ⟨hI, rfl⟩
    · rintro s2 ⟨I2, e2⟩
      refine zr_iload dX9_covers_50 rfl ?_
      refine zr_aload_n dX9_covers_52 rfl ?_
      refine zt_geti zg_X9_134 dX9_covers_53 rfl rfl rfl ?_
      refine zr_top (I2.1.1.1.1.2.2.2.2) ?_
      refine zr_icmp_ge 80 dX9_covers_56 (by decide) (fun hp56 => ?_) (fun h => absurd (Int32.le_refl _) h)
      have := tail s2 (some (.int (nI (C 9 4)))) I2
      rw [e2] at this
      exact this
    · rintro i s2 hi ⟨I2, e2⟩ ih
      obtain ⟨Y2, B2, g2, U2⟩ := I2
      refine zr_iload dX9_covers_50 rfl ?_
      refine zr_aload_n dX9_covers_52 rfl ?_
      refine zt_geti zg_X9_134 dX9_covers_53 rfl rfl rfl ?_
      refine zr_top (Y2.1.1.1.2.2.2.2) ?_
      refine zr_icmp_ge 80 dX9_covers_56 (by decide) (fun h => absurd h (nI_ge hi (by omega))) (fun hp56 => ?_)
      refine zr_iload dX9_covers_59 rfl ?_
      refine zr_if_ne 80 dX9_covers_61 (by decide) (fun h => absurd rfl h) (fun hp61 => ?_)
      refine zr_aload_n dX9_covers_64 rfl ?_
      refine zr_iload dX9_covers_65 rfl ?_
      refine zr_iload_n dX9_covers_67 rfl ?_
      refine zr_iload_n dX9_covers_68 rfl ?_
      refine zt_cVi (As := [_, _, _]) (cm_isShown L s2 C K hC hK B2 i l v hi hl (by omega) (U2 i hi)) zc_X9_260 rfl dX9_covers_69 rfl rfl rfl rfl rfl rfl (fun r3 s3 k3 => ?_)
      obtain ⟨er, B3, H3, u1, u2⟩ := k3
      subst er
      have I3 : I s3 := ⟨Y2.H H3, B3, fun k hk => (H3.1 k (by omega) (by omega)).trans (g2 k hk), fun u hu => (U2 u hu).kept u1 u2⟩
      have ea : sp_any C K (2 * l + v) (i + 1) = sp_shows C K i l v := by
        show (sp_any C K (2 * l + v) i || sp_shows C K i ((2 * l + v) / 2) ((2 * l + v) % 2)) = _
        rw [e2, show (2 * l + v) / 2 = l by omega, show (2 * l + v) % 2 = v by omega]
        rfl
      cases hb : sp_shows C K i l v with
      | true =>
        rw [hb] at ea
        have et : sp_any C K (2 * l + v) (C 9 4) = true := by
          have := mono (2 * l + v) (i + 1) (C 9 4 - (i + 1)) ea
          rw [show i + 1 + (C 9 4 - (i + 1)) = C 9 4 by omega] at this
          exact this
        have tl := tail s3 (some (.int (nI (i + 1)))) I3
        rw [et] at tl
        refine zr_istore dX9_covers_72 (by decide) rfl ?_
        refine zr_iinc dX9_covers_74 rfl (kc_inc (i)) rfl ?_
        refine zr_goto 50 dX9_covers_77 (by decide) ?_
        by_cases hq : i + 1 < C 9 4
        · refine zr_iload dX9_covers_50 rfl ?_
          refine zr_aload_n dX9_covers_52 rfl ?_
          refine zt_geti zg_X9_134 dX9_covers_53 rfl rfl rfl ?_
          refine zr_top (I3.1.1.1.1.2.2.2.2) ?_
          refine zr_icmp_ge 80 dX9_covers_56 (by decide) (fun h => absurd h (nI_ge hq (by omega))) (fun hp56 => ?_)
          refine zr_iload dX9_covers_59 rfl ?_
          refine zr_if_ne 80 dX9_covers_61 (by decide) (fun hp61 => ?_) (fun h => absurd h (by decide))
          exact tl
        · refine zr_iload dX9_covers_50 rfl ?_
          refine zr_aload_n dX9_covers_52 rfl ?_
          refine zt_geti zg_X9_134 dX9_covers_53 rfl rfl rfl ?_
          refine zr_top (I3.1.1.1.1.2.2.2.2) ?_
          refine zr_icmp_ge 80 dX9_covers_56 (by decide) (fun hp56 => ?_) (fun h => absurd (nI_le (by omega) (by omega)) h)
          exact tl
      | false =>
        rw [hb] at ea
        refine zr_istore dX9_covers_72 (by decide) rfl ?_
        refine zr_iinc dX9_covers_74 rfl (kc_inc (i)) rfl ?_
        refine zr_goto 50 dX9_covers_77 (by decide) ?_
        exact ih s3 ⟨I3, ea⟩
  refine zl_up (τ := gz_Mm × Option Value × Option Value × Option Value) (C 9 0) (fun i s => I s.1) (fun i s => gz_R 10 yX9_covers cX9_covers 6 (some .int) 0 0 29 [some (.ref 57), some (.int (nI (sp_cov C K (C 9 4) (2 * i)))), some (.int (nI i)), s.2.1, s.2.2.1, s.2.2.2] [] (gz_mk L s.1) Q) ?_ ?_ 0 (σ2, none, none, none) (Nat.zero_le _) ⟨Y2, B2, f2, U2⟩
  · rintro ⟨s, o3, o4, o5⟩ ⟨Y3, B3, f3, U3⟩
    refine zr_iload_n dX9_covers_29 rfl ?_
    refine zr_aload_n dX9_covers_30 rfl ?_
    refine zt_geti zg_X9_99 dX9_covers_31 rfl rfl rfl ?_
    refine zr_top (Y3.1.1.1.1) ?_
    refine zr_icmp_ge 105 dX9_covers_34 (by decide) (fun hp34 => ?_) (fun h => absurd (Int32.le_refl _) h)
    refine zr_aload_n dX9_covers_105 rfl ?_
    refine zt_cVv (As := []) (am_back L s _ hw0 Y3) zc_X9_264 rfl dX9_covers_106 rfl rfl rfl rfl rfl rfl (fun σ4 k4 => ?_)
    refine zr_iload_n dX9_covers_109 rfl ?_
    exact zr_iret dX9_covers_110 rfl (hQ _ _ ⟨rfl, k4.1, fun k hk => (k4.2 k hk).trans (f3 k hk)⟩)
  · rintro l ⟨s, o3, o4, o5⟩ hl hI ih
    refine zr_iload_n dX9_covers_29 rfl ?_
    refine zr_aload_n dX9_covers_30 rfl ?_
    refine zt_geti zg_X9_99 dX9_covers_31 rfl rfl rfl ?_
    refine zr_top (hI.1.1.1.1.1) ?_
    refine zr_icmp_ge 105 dX9_covers_34 (by decide) (fun h => absurd h (nI_ge hl (by omega))) (fun hp34 => ?_)
    refine zr_iconst (v := 0) dX9_covers_37 kc_iconst_0 ?_
    refine zr_istore_n dX9_covers_38 (by decide) rfl ?_
    refine zr_iload_n dX9_covers_39 rfl ?_
    refine zr_iconst (v := 2) dX9_covers_40 kc_iconst_2 ?_
    refine zr_icmp_ge 99 dX9_covers_41 (by decide) (fun h => absurd h (by decide)) (fun hp41 => ?_)
    refine inner l 0 s _ _ hl (by omega) hI (fun s2 o4 o5 I2 => ?_)
    refine zr_iload_n dX9_covers_39 rfl ?_
    refine zr_iconst (v := 2) dX9_covers_40 kc_iconst_2 ?_
    refine zr_icmp_ge 99 dX9_covers_41 (by decide) (fun h => absurd h (by decide)) (fun hp41 => ?_)
    refine inner l 1 s2 _ _ hl (by omega) I2 (fun s3 o4 o5 I3 => ?_)
    refine zr_iload_n dX9_covers_39 rfl ?_
    refine zr_iconst (v := 2) dX9_covers_40 kc_iconst_2 ?_
    refine zr_icmp_ge 99 dX9_covers_41 (by decide) (fun hp41 => ?_) (fun h => absurd (by decide) h)
    refine zr_iinc dX9_covers_99 rfl (kc_inc (l)) rfl ?_
    refine zr_goto 29 dX9_covers_102 (by decide) ?_
    rw [show 2 * l + 1 + 1 = 2 * (l + 1) by omega]
    exact ih (s3, _, _, _) I3
