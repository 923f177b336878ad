/-! ===== Sight ===== -/
theorem ca_look_0 (L : Nat) (σ : gz_Mm) (C m : sp_T) (hC : sp_wf C) (hm : sp_wm m) (rC : rx_C σ C) (rM : rx_m σ 31 m) :
    gz_Gv 2 yX5_lookAtOutputs cX5_lookAtOutputs 4 none L [.ref 53, .ref 32] σ (fun σ' => (∀ k, k ≠ 35 → k ≠ 53 → k ≠ 54 → σ' k = σ k) ∧ σ' 53 2 = nI (C 9 3) ∧ ∀ i, i < C 9 3 → σ' 54 i = nI (sp_val C m (C 8 i))) := by
  have h80 := hC.1.1
  have h8 := hC.1.2.2.2.1
  refine gz_Gv.of rfl rfl (fun Q hQ => ?_)
  refine zr_aload_n dX5_lookAtOutputs_0 rfl ?_
  refine zt_getr zg_X5_18 dX5_lookAtOutputs_1 rfl rfl rfl ?_
  refine zr_astore_n dX5_lookAtOutputs_4 (by decide) rfl ?_
  refine zr_aload_n dX5_lookAtOutputs_5 rfl ?_
  refine zr_aload_n dX5_lookAtOutputs_6 rfl ?_
  refine zt_geti zg_X5_24 dX5_lookAtOutputs_7 rfl rfl rfl ?_
  refine zr_top (rC.1.1) ?_
  refine zt_cVv (As := [_]) (ca_settle_31 L σ C m hC hm rC rM (C 9 0) (Nat.le_refl _)) zc_X5_30 rfl dX5_lookAtOutputs_10 rfl rfl rfl rfl rfl rfl (fun σs hs => ?_)
  refine zr_iconst (v := 0) dX5_lookAtOutputs_13 kc_iconst_0 ?_
  refine zr_istore_n dX5_lookAtOutputs_14 (by decide) rfl ?_
  obtain ⟨hsf, hsv⟩ := hs
  refine zl_up (τ := gz_Mm) (C 9 3) (fun i t => (∀ k, k ≠ 54 → t k = σs k) ∧ ∀ j, j < i → t 54 j = nI (sp_val C m (C 8 j))) (fun i t => gz_R 2 yX5_lookAtOutputs cX5_lookAtOutputs 4 none 0 0 15 [some (.ref 53), some (.ref 32), some (.ref 12), some (.int (nI i))] [] (gz_mk L t) Q) ?_ ?_ 0 σs (Nat.zero_le _) ⟨fun _ _ => rfl, fun j h => absurd h (Nat.not_lt_zero j)⟩
  · rintro σ1 ⟨hf, hv⟩
    have e3 : σ1 12 3 = nI (C 9 3) := (congrFun (hf 12 (by decide)) 3).trans ((congrFun (hsf 12 (by decide)) 3).trans rC.1.2.2.2)
    refine zr_iload_n dX5_lookAtOutputs_15 rfl ?_
    refine zr_aload_n dX5_lookAtOutputs_16 rfl ?_
    refine zt_geti zg_X5_34 dX5_lookAtOutputs_17 rfl rfl rfl ?_
    refine zr_top (e3) ?_
    refine zr_icmp_ge 46 dX5_lookAtOutputs_20 (by decide) (fun h => ?_) (fun h => ?_)
    · refine zr_aload_n dX5_lookAtOutputs_46 rfl ?_
      refine zr_aload_n dX5_lookAtOutputs_47 rfl ?_
      refine zt_geti zg_X5_34 dX5_lookAtOutputs_48 rfl rfl rfl ?_
      refine zr_top (e3) ?_
      refine zt_put zp_X5_43 dX5_lookAtOutputs_51 rfl rfl rfl rfl ?_
      refine zr_vret dX5_lookAtOutputs_54 rfl (hQ _ ⟨fun k h1 h2 h3 => ?_, by simp [gz_wr, upd], fun i hi => ?_⟩)
      · rw [gz_wr_ne h2, hf k h3, hsf k h1]
      · rw [gz_wr_ne (by decide)]
        exact hv i hi
    · exact absurd (Int32.le_refl _) h
  · rintro i σ1 hi ⟨hf, hv⟩ ih
    have e3 : σ1 12 3 = nI (C 9 3) := (congrFun (hf 12 (by decide)) 3).trans ((congrFun (hsf 12 (by decide)) 3).trans rC.1.2.2.2)
    have hol := hC.2.2.2.1 i hi
    refine zr_iload_n dX5_lookAtOutputs_15 rfl ?_
    refine zr_aload_n dX5_lookAtOutputs_16 rfl ?_
    refine zt_geti zg_X5_34 dX5_lookAtOutputs_17 rfl rfl rfl ?_
    refine zr_top (e3) ?_
    refine zr_icmp_ge 46 dX5_lookAtOutputs_20 (by decide) (fun h => ?_) (fun h => ?_)
    · exact absurd h (nI_ge hi (by omega))
    · refine zr_aload_n dX5_lookAtOutputs_23 rfl ?_
      refine zt_getr zg_X5_9 dX5_lookAtOutputs_24 rfl rfl rfl ?_
      refine zr_iload_n dX5_lookAtOutputs_27 rfl ?_
      refine zr_aload_n dX5_lookAtOutputs_28 rfl ?_
      refine zt_getr zg_X5_37 dX5_lookAtOutputs_29 rfl rfl rfl ?_
      refine zr_aload_n dX5_lookAtOutputs_32 rfl ?_
      refine zt_getr zg_X5_40 dX5_lookAtOutputs_33 rfl rfl rfl ?_
      refine zr_iload_n dX5_lookAtOutputs_36 rfl ?_
      refine zt_ildN dX5_lookAtOutputs_37 rfl rfl (by omega) ((congrFun (hf 22 (by decide)) i).trans ((congrFun (hsf 22 (by decide)) i).trans (rC.2.2.2 i hi))) ?_
      refine zt_ildN dX5_lookAtOutputs_38 rfl rfl (by omega) ((congrFun (hf 35 (by decide)) _).trans (hsv _ hol)) ?_
      refine zt_istN dX5_lookAtOutputs_39 rfl rfl rfl (by omega) ?_
      refine zr_iinc dX5_lookAtOutputs_40 rfl (kc_inc (i)) rfl ?_
      refine zr_goto 15 dX5_lookAtOutputs_43 (by decide) ?_
      refine ih _ ⟨fun k hk => (gz_wr_ne hk).trans (hf k hk), fun j hj => ?_⟩
      rw [gz_wr_eq]
      by_cases e : j = i
      · subst e
        simp [upd]
      · rw [pk_un e]
        exact hv j (by omega)
theorem ca_look_1 (L : Nat) (σ : gz_Mm) (C m : sp_T) (hC : sp_wf C) (hm : sp_wm m) (rC : rx_C σ C) (rM : rx_m σ 42 m) :
    gz_Gv 2 yX5_lookAtOutputs cX5_lookAtOutputs 4 none L [.ref 47, .ref 43] σ (fun σ' => (∀ k, k ≠ 46 → k ≠ 47 → k ≠ 48 → σ' k = σ k) ∧ σ' 47 2 = nI (C 9 3) ∧ ∀ i, i < C 9 3 → σ' 48 i = nI (sp_val C m (C 8 i))) := by
  have h80 := hC.1.1
  have h8 := hC.1.2.2.2.1
  refine gz_Gv.of rfl rfl (fun Q hQ => ?_)
  refine zr_aload_n dX5_lookAtOutputs_0 rfl ?_
  refine zt_getr zg_X5_18 dX5_lookAtOutputs_1 rfl rfl rfl ?_
  refine zr_astore_n dX5_lookAtOutputs_4 (by decide) rfl ?_
  refine zr_aload_n dX5_lookAtOutputs_5 rfl ?_
  refine zr_aload_n dX5_lookAtOutputs_6 rfl ?_
  refine zt_geti zg_X5_24 dX5_lookAtOutputs_7 rfl rfl rfl ?_
  refine zr_top (rC.1.1) ?_
  refine zt_cVv (As := [_]) (ca_settle_42 L σ C m hC hm rC rM (C 9 0) (Nat.le_refl _)) zc_X5_30 rfl dX5_lookAtOutputs_10 rfl rfl rfl rfl rfl rfl (fun σs hs => ?_)
  refine zr_iconst (v := 0) dX5_lookAtOutputs_13 kc_iconst_0 ?_
  refine zr_istore_n dX5_lookAtOutputs_14 (by decide) rfl ?_
  obtain ⟨hsf, hsv⟩ := hs
  refine zl_up (τ := gz_Mm) (C 9 3) (fun i t => (∀ k, k ≠ 48 → t k = σs k) ∧ ∀ j, j < i → t 48 j = nI (sp_val C m (C 8 j))) (fun i t => gz_R 2 yX5_lookAtOutputs cX5_lookAtOutputs 4 none 0 0 15 [some (.ref 47), some (.ref 43), some (.ref 12), some (.int (nI i))] [] (gz_mk L t) Q) ?_ ?_ 0 σs (Nat.zero_le _) ⟨fun _ _ => rfl, fun j h => absurd h (Nat.not_lt_zero j)⟩
  · rintro σ1 ⟨hf, hv⟩
    have e3 : σ1 12 3 = nI (C 9 3) := (congrFun (hf 12 (by decide)) 3).trans ((congrFun (hsf 12 (by decide)) 3).trans rC.1.2.2.2)
    refine zr_iload_n dX5_lookAtOutputs_15 rfl ?_
    refine zr_aload_n dX5_lookAtOutputs_16 rfl ?_
    refine zt_geti zg_X5_34 dX5_lookAtOutputs_17 rfl rfl rfl ?_
    refine zr_top (e3) ?_
    refine zr_icmp_ge 46 dX5_lookAtOutputs_20 (by decide) (fun h => ?_) (fun h => ?_)
    · refine zr_aload_n dX5_lookAtOutputs_46 rfl ?_
      refine zr_aload_n dX5_lookAtOutputs_47 rfl ?_
      refine zt_geti zg_X5_34 dX5_lookAtOutputs_48 rfl rfl rfl ?_
      refine zr_top (e3) ?_
      refine zt_put zp_X5_43 dX5_lookAtOutputs_51 rfl rfl rfl rfl ?_
      refine zr_vret dX5_lookAtOutputs_54 rfl (hQ _ ⟨fun k h1 h2 h3 => ?_, by simp [gz_wr, upd], fun i hi => ?_⟩)
      · rw [gz_wr_ne h2, hf k h3, hsf k h1]
      · rw [gz_wr_ne (by decide)]
        exact hv i hi
    · exact absurd (Int32.le_refl _) h
  · rintro i σ1 hi ⟨hf, hv⟩ ih
    have e3 : σ1 12 3 = nI (C 9 3) := (congrFun (hf 12 (by decide)) 3).trans ((congrFun (hsf 12 (by decide)) 3).trans rC.1.2.2.2)
    have hol := hC.2.2.2.1 i hi
    refine zr_iload_n dX5_lookAtOutputs_15 rfl ?_
    refine zr_aload_n dX5_lookAtOutputs_16 rfl ?_
    refine zt_geti zg_X5_34 dX5_lookAtOutputs_17 rfl rfl rfl ?_
    refine zr_top (e3) ?_
    refine zr_icmp_ge 46 dX5_lookAtOutputs_20 (by decide) (fun h => ?_) (fun h => ?_)
    · exact absurd h (nI_ge hi (by omega))
    · refine zr_aload_n dX5_lookAtOutputs_23 rfl ?_
      refine zt_getr zg_X5_9 dX5_lookAtOutputs_24 rfl rfl rfl ?_
      refine zr_iload_n dX5_lookAtOutputs_27 rfl ?_
      refine zr_aload_n dX5_lookAtOutputs_28 rfl ?_
      refine zt_getr zg_X5_37 dX5_lookAtOutputs_29 rfl rfl rfl ?_
      refine zr_aload_n dX5_lookAtOutputs_32 rfl ?_
      refine zt_getr zg_X5_40 dX5_lookAtOutputs_33 rfl rfl rfl ?_
      refine zr_iload_n dX5_lookAtOutputs_36 rfl ?_
      refine zt_ildN dX5_lookAtOutputs_37 rfl rfl (by omega) ((congrFun (hf 22 (by decide)) i).trans ((congrFun (hsf 22 (by decide)) i).trans (rC.2.2.2 i hi))) ?_
      refine zt_ildN dX5_lookAtOutputs_38 rfl rfl (by omega) ((congrFun (hf 46 (by decide)) _).trans (hsv _ hol)) ?_
      refine zt_istN dX5_lookAtOutputs_39 rfl rfl rfl (by omega) ?_
      refine zr_iinc dX5_lookAtOutputs_40 rfl (kc_inc (i)) rfl ?_
      refine zr_goto 15 dX5_lookAtOutputs_43 (by decide) ?_
      refine ih _ ⟨fun k hk => (gz_wr_ne hk).trans (hf k hk), fun j hj => ?_⟩
      rw [gz_wr_eq]
      by_cases e : j = i
      · subst e
        simp [upd]
      · rw [pk_un e]
        exact hv j (by omega)
theorem ca_look_2 (L : Nat) (σ : gz_Mm) (C m : sp_T) (hC : sp_wf C) (hm : sp_wm m) (rC : rx_C σ C) (rM : rx_m σ 42 m) :
    gz_Gv 2 yX5_lookAtOutputs cX5_lookAtOutputs 4 none L [.ref 50, .ref 43] σ (fun σ' => (∀ k, k ≠ 46 → k ≠ 50 → k ≠ 51 → σ' k = σ k) ∧ σ' 50 2 = nI (C 9 3) ∧ ∀ i, i < C 9 3 → σ' 51 i = nI (sp_val C m (C 8 i))) := by
  have h80 := hC.1.1
  have h8 := hC.1.2.2.2.1
  refine gz_Gv.of rfl rfl (fun Q hQ => ?_)
  refine zr_aload_n dX5_lookAtOutputs_0 rfl ?_
  refine zt_getr zg_X5_18 dX5_lookAtOutputs_1 rfl rfl rfl ?_
  refine zr_astore_n dX5_lookAtOutputs_4 (by decide) rfl ?_
  refine zr_aload_n dX5_lookAtOutputs_5 rfl ?_
  refine zr_aload_n dX5_lookAtOutputs_6 rfl ?_
  refine zt_geti zg_X5_24 dX5_lookAtOutputs_7 rfl rfl rfl ?_
  refine zr_top (rC.1.1) ?_
  refine zt_cVv (As := [_]) (ca_settle_42 L σ C m hC hm rC rM (C 9 0) (Nat.le_refl _)) zc_X5_30 rfl dX5_lookAtOutputs_10 rfl rfl rfl rfl rfl rfl (fun σs hs => ?_)
  refine zr_iconst (v := 0) dX5_lookAtOutputs_13 kc_iconst_0 ?_
  refine zr_istore_n dX5_lookAtOutputs_14 (by decide) rfl ?_
  obtain ⟨hsf, hsv⟩ := hs
  refine zl_up (τ := gz_Mm) (C 9 3) (fun i t => (∀ k, k ≠ 51 → t k = σs k) ∧ ∀ j, j < i → t 51 j = nI (sp_val C m (C 8 j))) (fun i t => gz_R 2 yX5_lookAtOutputs cX5_lookAtOutputs 4 none 0 0 15 [some (.ref 50), some (.ref 43), some (.ref 12), some (.int (nI i))] [] (gz_mk L t) Q) ?_ ?_ 0 σs (Nat.zero_le _) ⟨fun _ _ => rfl, fun j h => absurd h (Nat.not_lt_zero j)⟩
  · rintro σ1 ⟨hf, hv⟩
    have e3 : σ1 12 3 = nI (C 9 3) := (congrFun (hf 12 (by decide)) 3).trans ((congrFun (hsf 12 (by decide)) 3).trans rC.1.2.2.2)
    refine zr_iload_n dX5_lookAtOutputs_15 rfl ?_
    refine zr_aload_n dX5_lookAtOutputs_16 rfl ?_
    refine zt_geti zg_X5_34 dX5_lookAtOutputs_17 rfl rfl rfl ?_
    refine zr_top (e3) ?_
    refine zr_icmp_ge 46 dX5_lookAtOutputs_20 (by decide) (fun h => ?_) (fun h => ?_)
    · refine zr_aload_n dX5_lookAtOutputs_46 rfl ?_
      refine zr_aload_n dX5_lookAtOutputs_47 rfl ?_
      refine zt_geti zg_X5_34 dX5_lookAtOutputs_48 rfl rfl rfl ?_
      refine zr_top (e3) ?_
      refine zt_put zp_X5_43 dX5_lookAtOutputs_51 rfl rfl rfl rfl ?_
      refine zr_vret dX5_lookAtOutputs_54 rfl (hQ _ ⟨fun k h1 h2 h3 => ?_, by simp [gz_wr, upd], fun i hi => ?_⟩)
      · rw [gz_wr_ne h2, hf k h3, hsf k h1]
      · rw [gz_wr_ne (by decide)]
        exact hv i hi
    · exact absurd (Int32.le_refl _) h
  · rintro i σ1 hi ⟨hf, hv⟩ ih
    have e3 : σ1 12 3 = nI (C 9 3) := (congrFun (hf 12 (by decide)) 3).trans ((congrFun (hsf 12 (by decide)) 3).trans rC.1.2.2.2)
    have hol := hC.2.2.2.1 i hi
    refine zr_iload_n dX5_lookAtOutputs_15 rfl ?_
    refine zr_aload_n dX5_lookAtOutputs_16 rfl ?_
    refine zt_geti zg_X5_34 dX5_lookAtOutputs_17 rfl rfl rfl ?_
    refine zr_top (e3) ?_
    refine zr_icmp_ge 46 dX5_lookAtOutputs_20 (by decide) (fun h => ?_) (fun h => ?_)
    · exact absurd h (nI_ge hi (by omega))
    · refine zr_aload_n dX5_lookAtOutputs_23 rfl ?_
      refine zt_getr zg_X5_9 dX5_lookAtOutputs_24 rfl rfl rfl ?_
      refine zr_iload_n dX5_lookAtOutputs_27 rfl ?_
      refine zr_aload_n dX5_lookAtOutputs_28 rfl ?_
      refine zt_getr zg_X5_37 dX5_lookAtOutputs_29 rfl rfl rfl ?_
      refine zr_aload_n dX5_lookAtOutputs_32 rfl ?_
      refine zt_getr zg_X5_40 dX5_lookAtOutputs_33 rfl rfl rfl ?_
      refine zr_iload_n dX5_lookAtOutputs_36 rfl ?_
      refine zt_ildN dX5_lookAtOutputs_37 rfl rfl (by omega) ((congrFun (hf 22 (by decide)) i).trans ((congrFun (hsf 22 (by decide)) i).trans (rC.2.2.2 i hi))) ?_
      refine zt_ildN dX5_lookAtOutputs_38 rfl rfl (by omega) ((congrFun (hf 46 (by decide)) _).trans (hsv _ hol)) ?_
      refine zt_istN dX5_lookAtOutputs_39 rfl rfl rfl (by omega) ?_
      refine zr_iinc dX5_lookAtOutputs_40 rfl (kc_inc (i)) rfl ?_
      refine zr_goto 15 dX5_lookAtOutputs_43 (by decide) ?_
      refine ih _ ⟨fun k hk => (gz_wr_ne hk).trans (hf k hk), fun j hj => ?_⟩
      rw [gz_wr_eq]
      by_cases e : j = i
      · subst e
        simp [upd]
      · rw [pk_un e]
        exact hv j (by omega)
/-- two rows differ in a place where both are known -/
def sp_df (f g : Nat → Int32) : Nat → Bool
  | 0 => false
  | n + 1 => sp_df f g n || (decide (f n ≠ 2) && decide (g n ≠ 2) && decide (f n ≠ g n))
def sp_b (b : Bool) : Int32 := if b then 1 else 0
theorem sp_df_false {f g : Nat → Int32} : ∀ {n : Nat}, (∀ i, i < n → f i = 2 ∨ g i = 2 ∨ f i = g i) → sp_df f g n = false
  | 0, _ => rfl
  | n + 1, h => by
    have h1 := sp_df_false (fun i hi => h i (Nat.lt_succ_of_lt hi))
    unfold sp_df
    rw [h1]
    rcases h n (Nat.lt_succ_self n) with q | q | q <;> simp [q]
theorem sp_df_true {f g : Nat → Int32} : ∀ {n i : Nat}, i < n → f i ≠ 2 → g i ≠ 2 → f i ≠ g i → sp_df f g n = true
  | 0, i, h, _, _, _ => absurd h (Nat.not_lt_zero i)
  | n + 1, i, h, h1, h2, h3 => by
    unfold sp_df
    by_cases e : i = n
    · subst e
      simp [h1, h2, h3]
    · rw [sp_df_true (show i < n by omega) h1 h2 h3]
      rfl
theorem sp_df_congr {f g f' g' : Nat → Int32} : ∀ {n : Nat}, (∀ i, i < n → f i = f' i ∧ g i = g' i) → sp_df f g n = sp_df f' g' n
  | 0, _ => rfl
  | n + 1, h => by
    unfold sp_df
    rw [sp_df_congr (fun i hi => h i (Nat.lt_succ_of_lt hi)), (h n (Nat.lt_succ_self n)).1, (h n (Nat.lt_succ_self n)).2]
theorem ca_differ_0 (L : Nat) (σ : gz_Mm) (n : Nat) (hn : n ≤ 8) : gz_F 0 yX5_differ cX5_differ 4 (some .boolean) L [.ref 48, .ref 51, .int (nI n)] σ (some (.int (sp_b (sp_df (σ 48) (σ 51) n)))) σ := by
  refine gz_F.of rfl rfl ?_
  refine zr_iconst (v := 0) dX5_differ_0 kc_iconst_0 ?_
  refine zr_istore_n dX5_differ_1 (by decide) rfl ?_
  refine zl_up (τ := Unit) n (fun i _ => ∀ j, j < i → σ 48 j = 2 ∨ σ 51 j = 2 ∨ σ 48 j = σ 51 j) (fun i _ => gz_R 0 yX5_differ cX5_differ 4 (some .boolean) 0 0 2 [some (.ref 48), some (.ref 51), some (.int (nI n)), some (.int (nI i))] [] (gz_mk L σ) _) ?_ ?_ 0 () (Nat.zero_le _) (fun j h => absurd h (Nat.not_lt_zero j))
  · rintro _ hI
    refine zr_iload_n dX5_differ_2 rfl ?_
    refine zr_iload_n dX5_differ_3 rfl ?_
    refine zr_icmp_ge 38 dX5_differ_4 (by decide) (fun h => ?_) (fun h => ?_)
    · rw [sp_df_false hI]
      refine zr_iconst (v := 0) dX5_differ_38 kc_iconst_0 ?_
      exact zr_zret dX5_differ_39 rfl rfl (⟨rfl, rfl⟩)
    · exact absurd (Int32.le_refl _) h
  · rintro i _ hi hI ih
    have next : ∀ _ : σ 48 i = 2 ∨ σ 51 i = 2 ∨ σ 48 i = σ 51 i, gz_R 0 yX5_differ cX5_differ 4 (some .boolean) 0 0 32 [some (.ref 48), some (.ref 51), some (.int (nI n)), some (.int (nI i))] [] (gz_mk L σ) (fun r' h' => r' = some (.int (sp_b (sp_df (σ 48) (σ 51) n))) ∧ h' = gz_mk L σ) := by
      intro hq
      refine zr_iinc dX5_differ_32 rfl (kc_inc (i)) rfl ?_
      refine zr_goto 2 dX5_differ_35 (by decide) ?_
      refine ih () (fun j hj => ?_)
      by_cases e : j = i
      · rw [e]
        exact hq
      · exact hI j (by omega)
    refine zr_iload_n dX5_differ_2 rfl ?_
    refine zr_iload_n dX5_differ_3 rfl ?_
    refine zr_icmp_ge 38 dX5_differ_4 (by decide) (fun h => ?_) (fun h => ?_)
    · exact absurd h (nI_ge hi (by omega))
    · refine zr_aload_n dX5_differ_7 rfl ?_
      refine zr_iload_n dX5_differ_8 rfl ?_
      refine zt_ildN dX5_differ_9 rfl rfl (by omega) (rfl) ?_
      refine zr_iconst (v := 2) dX5_differ_10 kc_iconst_2 ?_
      refine zr_icmp_eq 32 dX5_differ_11 (by decide) (fun h1 => ?_) (fun h1 => ?_)
      · exact next (Or.inl h1)
      · refine zr_aload_n dX5_differ_14 rfl ?_
        refine zr_iload_n dX5_differ_15 rfl ?_
        refine zt_ildN dX5_differ_16 rfl rfl (by omega) (rfl) ?_
        refine zr_iconst (v := 2) dX5_differ_17 kc_iconst_2 ?_
        refine zr_icmp_eq 32 dX5_differ_18 (by decide) (fun h2 => ?_) (fun h2 => ?_)
        · exact next (Or.inr (Or.inl h2))
        · refine zr_aload_n dX5_differ_21 rfl ?_
          refine zr_iload_n dX5_differ_22 rfl ?_
          refine zt_ildN dX5_differ_23 rfl rfl (by omega) (rfl) ?_
          refine zr_aload_n dX5_differ_24 rfl ?_
          refine zr_iload_n dX5_differ_25 rfl ?_
          refine zt_ildN dX5_differ_26 rfl rfl (by omega) (rfl) ?_
          refine zr_icmp_eq 32 dX5_differ_27 (by decide) (fun h3 => ?_) (fun h3 => ?_)
          · exact next (Or.inr (Or.inr h3))
          · rw [sp_df_true hi h1 h2 h3]
            refine zr_iconst (v := 1) dX5_differ_30 kc_iconst_1 ?_
            exact zr_zret dX5_differ_31 rfl rfl (⟨rfl, rfl⟩)
theorem ca_differ_1 (L : Nat) (σ : gz_Mm) (n : Nat) (hn : n ≤ 20) : gz_F 0 yX5_differ cX5_differ 4 (some .boolean) L [.ref 49, .ref 52, .int (nI n)] σ (some (.int (sp_b (sp_df (σ 49) (σ 52) n)))) σ := by
  refine gz_F.of rfl rfl ?_
  refine zr_iconst (v := 0) dX5_differ_0 kc_iconst_0 ?_
  refine zr_istore_n dX5_differ_1 (by decide) rfl ?_
  refine zl_up (τ := Unit) n (fun i _ => ∀ j, j < i → σ 49 j = 2 ∨ σ 52 j = 2 ∨ σ 49 j = σ 52 j) (fun i _ => gz_R 0 yX5_differ cX5_differ 4 (some .boolean) 0 0 2 [some (.ref 49), some (.ref 52), some (.int (nI n)), some (.int (nI i))] [] (gz_mk L σ) _) ?_ ?_ 0 () (Nat.zero_le _) (fun j h => absurd h (Nat.not_lt_zero j))
  · rintro _ hI
    refine zr_iload_n dX5_differ_2 rfl ?_
    refine zr_iload_n dX5_differ_3 rfl ?_
    refine zr_icmp_ge 38 dX5_differ_4 (by decide) (fun h => ?_) (fun h => ?_)
    · rw [sp_df_false hI]
      refine zr_iconst (v := 0) dX5_differ_38 kc_iconst_0 ?_
      exact zr_zret dX5_differ_39 rfl rfl (⟨rfl, rfl⟩)
    · exact absurd (Int32.le_refl _) h
  · rintro i _ hi hI ih
    have next : ∀ _ : σ 49 i = 2 ∨ σ 52 i = 2 ∨ σ 49 i = σ 52 i, gz_R 0 yX5_differ cX5_differ 4 (some .boolean) 0 0 32 [some (.ref 49), some (.ref 52), some (.int (nI n)), some (.int (nI i))] [] (gz_mk L σ) (fun r' h' => r' = some (.int (sp_b (sp_df (σ 49) (σ 52) n))) ∧ h' = gz_mk L σ) := by
      intro hq
      refine zr_iinc dX5_differ_32 rfl (kc_inc (i)) rfl ?_
      refine zr_goto 2 dX5_differ_35 (by decide) ?_
      refine ih () (fun j hj => ?_)
      by_cases e : j = i
      · rw [e]
        exact hq
      · exact hI j (by omega)
    refine zr_iload_n dX5_differ_2 rfl ?_
    refine zr_iload_n dX5_differ_3 rfl ?_
    refine zr_icmp_ge 38 dX5_differ_4 (by decide) (fun h => ?_) (fun h => ?_)
    · exact absurd h (nI_ge hi (by omega))
    · refine zr_aload_n dX5_differ_7 rfl ?_
      refine zr_iload_n dX5_differ_8 rfl ?_
      refine zt_ildN dX5_differ_9 rfl rfl (by omega) (rfl) ?_
      refine zr_iconst (v := 2) dX5_differ_10 kc_iconst_2 ?_
      refine zr_icmp_eq 32 dX5_differ_11 (by decide) (fun h1 => ?_) (fun h1 => ?_)
      · exact next (Or.inl h1)
      · refine zr_aload_n dX5_differ_14 rfl ?_
        refine zr_iload_n dX5_differ_15 rfl ?_
        refine zt_ildN dX5_differ_16 rfl rfl (by omega) (rfl) ?_
        refine zr_iconst (v := 2) dX5_differ_17 kc_iconst_2 ?_
        refine zr_icmp_eq 32 dX5_differ_18 (by decide) (fun h2 => ?_) (fun h2 => ?_)
        · exact next (Or.inr (Or.inl h2))
        · refine zr_aload_n dX5_differ_21 rfl ?_
          refine zr_iload_n dX5_differ_22 rfl ?_
          refine zt_ildN dX5_differ_23 rfl rfl (by omega) (rfl) ?_
          refine zr_aload_n dX5_differ_24 rfl ?_
          refine zr_iload_n dX5_differ_25 rfl ?_
          refine zt_ildN dX5_differ_26 rfl rfl (by omega) (rfl) ?_
          refine zr_icmp_eq 32 dX5_differ_27 (by decide) (fun h3 => ?_) (fun h3 => ?_)
          · exact next (Or.inr (Or.inr h3))
          · rw [sp_df_true hi h1 h2 h3]
            refine zr_iconst (v := 1) dX5_differ_30 kc_iconst_1 ?_
            exact zr_zret dX5_differ_31 rfl rfl (⟨rfl, rfl⟩)
theorem ca_known (L : Nat) (σ : gz_Mm) (a b : Nat) (ha : a ≤ 8) (hb : b ≤ 20) (e1 : σ 47 2 = nI a) (e2 : σ 47 3 = nI b) : gz_F 1 yX5_differsKnown cX5_differsKnown 2 (some .boolean) L [.ref 47, .ref 50] σ (some (.int (sp_b (sp_df (σ 48) (σ 51) a || sp_df (σ 49) (σ 52) b)))) σ := by
  refine gz_F.of rfl rfl ?_
  refine zr_aload_n dX5_differsKnown_0 rfl ?_
  refine zt_getr zg_X5_9 dX5_differsKnown_1 rfl rfl rfl ?_
  refine zr_aload_n dX5_differsKnown_4 rfl ?_
  refine zt_getr zg_X5_9 dX5_differsKnown_5 rfl rfl rfl ?_
  refine zr_aload_n dX5_differsKnown_8 rfl ?_
  refine zt_geti zg_X5_43 dX5_differsKnown_9 rfl rfl rfl ?_
  refine zr_top (e1) ?_
  refine zt_callSi (As := [_, _, _]) (ca_differ_0 L σ a ha) zc_X5_44 rfl dX5_differsKnown_12 rfl rfl rfl ?_
  cases h1 : sp_df (σ 48) (σ 51) a with
  | true =>
    refine zr_if_ne 36 dX5_differsKnown_15 (by decide) (fun h => ?_) (fun h => ?_)
    · refine zr_iconst (v := 1) dX5_differsKnown_36 kc_iconst_1 ?_
      refine zr_goto 41 dX5_differsKnown_37 (by decide) ?_
      exact zr_zret dX5_differsKnown_41 rfl rfl (⟨rfl, rfl⟩)
    · exact absurd h (by decide)
  | false =>
    refine zr_if_ne 36 dX5_differsKnown_15 (by decide) (fun h => ?_) (fun h => ?_)
    · exact absurd rfl h
    · refine zr_aload_n dX5_differsKnown_18 rfl ?_
      refine zt_getr zg_X5_15 dX5_differsKnown_19 rfl rfl rfl ?_
      refine zr_aload_n dX5_differsKnown_22 rfl ?_
      refine zt_getr zg_X5_15 dX5_differsKnown_23 rfl rfl rfl ?_
      refine zr_aload_n dX5_differsKnown_26 rfl ?_
      refine zt_geti zg_X5_48 dX5_differsKnown_27 rfl rfl rfl ?_
      refine zr_top (e2) ?_
      refine zt_callSi (As := [_, _, _]) (ca_differ_1 L σ b hb) zc_X5_44 rfl dX5_differsKnown_30 rfl rfl rfl ?_
      cases h2 : sp_df (σ 49) (σ 52) b with
      | true =>
        refine zr_if_eq 40 dX5_differsKnown_33 (by decide) (fun h => ?_) (fun h => ?_)
        · exact absurd h (by decide)
        · refine zr_iconst (v := 1) dX5_differsKnown_36 kc_iconst_1 ?_
          refine zr_goto 41 dX5_differsKnown_37 (by decide) ?_
          exact zr_zret dX5_differsKnown_41 rfl rfl (⟨rfl, rfl⟩)
      | false =>
        refine zr_if_eq 40 dX5_differsKnown_33 (by decide) (fun h => ?_) (fun h => ?_)
        · refine zr_iconst (v := 0) dX5_differsKnown_40 kc_iconst_0 ?_
          exact zr_zret dX5_differsKnown_41 rfl rfl (⟨rfl, rfl⟩)
        · exact absurd rfl h
