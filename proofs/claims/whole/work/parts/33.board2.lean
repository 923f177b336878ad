/-! ===== Arrays.fill, Math.max, the rest of Board ===== -/
theorem ca_fill_34 (L : Nat) (σ : gz_Mm) (v : Int32) : gz_Gv 0 yJ7_fill_53178 cJ7_fill_53178 4 none L [.ref 34, .int v] σ (fun σ' => (∀ k, k ≠ 34 → σ' k = σ k) ∧ ∀ j, j < 20 → σ' 34 j = v) := by
  refine gz_Gv.of rfl rfl (fun Q hQ => ?_)
  refine zr_iconst (v := 0) dJ7_fill_53178_0 kc_iconst_0 ?_
  refine zr_istore_n dJ7_fill_53178_1 (by decide) rfl ?_
  refine zr_aload_n dJ7_fill_53178_2 rfl ?_
  refine zt_alen dJ7_fill_53178_3 rfl ?_
  refine zr_istore_n dJ7_fill_53178_4 (by decide) rfl ?_
  refine zl_up (τ := gz_Mm) 20 (fun i t => (∀ k, k ≠ 34 → t k = σ k) ∧ ∀ j, j < i → t 34 j = v) (fun i t => gz_R 0 yJ7_fill_53178 cJ7_fill_53178 4 none 0 0 5 [some (.ref 34), some (.int v), some (.int (nI i)), some (.int (nI 20))] [] (gz_mk L t) Q) ?_ ?_ 0 σ (Nat.zero_le _) ⟨fun _ _ => rfl, fun j h => absurd h (Nat.not_lt_zero j)⟩
  · intro σ1 hI
    refine zr_iload_n dJ7_fill_53178_5 rfl ?_
    refine zr_iload_n dJ7_fill_53178_6 rfl ?_
    refine zr_icmp_ge 20 dJ7_fill_53178_7 (by decide) (fun h => ?_) (fun h => ?_)
    · exact zr_vret dJ7_fill_53178_20 rfl (hQ _ hI)
    · exact absurd (Int32.le_refl _) h
  · rintro i σ1 hi ⟨hf, hv⟩ ih
    refine zr_iload_n dJ7_fill_53178_5 rfl ?_
    refine zr_iload_n dJ7_fill_53178_6 rfl ?_
    refine zr_icmp_ge 20 dJ7_fill_53178_7 (by decide) (fun h => ?_) (fun h => ?_)
    · exact absurd h (nI_ge hi (by omega))
    · refine zr_aload_n dJ7_fill_53178_10 rfl ?_
      refine zr_iload_n dJ7_fill_53178_11 rfl ?_
      refine zr_iload_n dJ7_fill_53178_12 rfl ?_
      refine zt_istN dJ7_fill_53178_13 rfl rfl rfl (hi) ?_
      refine zr_iinc dJ7_fill_53178_14 rfl (kc_inc (i)) rfl ?_
      refine zr_goto 5 dJ7_fill_53178_17 (by decide) ?_
      refine ih _ ⟨fun k hk => ?_, fun j hj => ?_⟩
      · rw [gz_wr_ne hk]
        exact hf k hk
      · rw [gz_wr_eq]
        by_cases e : j = i
        · simp [upd, e]
        · rw [show upd (σ1 34) i v j = σ1 34 j by simp [upd, e]]
          exact hv j (by omega)
theorem ca_fill_45 (L : Nat) (σ : gz_Mm) (v : Int32) : gz_Gv 0 yJ7_fill_53178 cJ7_fill_53178 4 none L [.ref 45, .int v] σ (fun σ' => (∀ k, k ≠ 45 → σ' k = σ k) ∧ ∀ j, j < 20 → σ' 45 j = v) := by
  refine gz_Gv.of rfl rfl (fun Q hQ => ?_)
  refine zr_iconst (v := 0) dJ7_fill_53178_0 kc_iconst_0 ?_
  refine zr_istore_n dJ7_fill_53178_1 (by decide) rfl ?_
  refine zr_aload_n dJ7_fill_53178_2 rfl ?_
  refine zt_alen dJ7_fill_53178_3 rfl ?_
  refine zr_istore_n dJ7_fill_53178_4 (by decide) rfl ?_
  refine zl_up (τ := gz_Mm) 20 (fun i t => (∀ k, k ≠ 45 → t k = σ k) ∧ ∀ j, j < i → t 45 j = v) (fun i t => gz_R 0 yJ7_fill_53178 cJ7_fill_53178 4 none 0 0 5 [some (.ref 45), some (.int v), some (.int (nI i)), some (.int (nI 20))] [] (gz_mk L t) Q) ?_ ?_ 0 σ (Nat.zero_le _) ⟨fun _ _ => rfl, fun j h => absurd h (Nat.not_lt_zero j)⟩
  · intro σ1 hI
    refine zr_iload_n dJ7_fill_53178_5 rfl ?_
    refine zr_iload_n dJ7_fill_53178_6 rfl ?_
    refine zr_icmp_ge 20 dJ7_fill_53178_7 (by decide) (fun h => ?_) (fun h => ?_)
    · exact zr_vret dJ7_fill_53178_20 rfl (hQ _ hI)
    · exact absurd (Int32.le_refl _) h
  · rintro i σ1 hi ⟨hf, hv⟩ ih
    refine zr_iload_n dJ7_fill_53178_5 rfl ?_
    refine zr_iload_n dJ7_fill_53178_6 rfl ?_
    refine zr_icmp_ge 20 dJ7_fill_53178_7 (by decide) (fun h => ?_) (fun h => ?_)
    · exact absurd h (nI_ge hi (by omega))
    · refine zr_aload_n dJ7_fill_53178_10 rfl ?_
      refine zr_iload_n dJ7_fill_53178_11 rfl ?_
      refine zr_iload_n dJ7_fill_53178_12 rfl ?_
      refine zt_istN dJ7_fill_53178_13 rfl rfl rfl (hi) ?_
      refine zr_iinc dJ7_fill_53178_14 rfl (kc_inc (i)) rfl ?_
      refine zr_goto 5 dJ7_fill_53178_17 (by decide) ?_
      refine ih _ ⟨fun k hk => ?_, fun j hj => ?_⟩
      · rw [gz_wr_ne hk]
        exact hf k hk
      · rw [gz_wr_eq]
        by_cases e : j = i
        · simp [upd, e]
        · rw [show upd (σ1 45) i v j = σ1 45 j by simp [upd, e]]
          exact hv j (by omega)
theorem ca_fill_56 (L : Nat) (σ : gz_Mm) (v : Int32) : gz_Gv 0 yJ7_fill_53178 cJ7_fill_53178 4 none L [.ref 56, .int v] σ (fun σ' => (∀ k, k ≠ 56 → σ' k = σ k) ∧ ∀ j, j < 160 → σ' 56 j = v) := by
  refine gz_Gv.of rfl rfl (fun Q hQ => ?_)
  refine zr_iconst (v := 0) dJ7_fill_53178_0 kc_iconst_0 ?_
  refine zr_istore_n dJ7_fill_53178_1 (by decide) rfl ?_
  refine zr_aload_n dJ7_fill_53178_2 rfl ?_
  refine zt_alen dJ7_fill_53178_3 rfl ?_
  refine zr_istore_n dJ7_fill_53178_4 (by decide) rfl ?_
  refine zl_up (τ := gz_Mm) 160 (fun i t => (∀ k, k ≠ 56 → t k = σ k) ∧ ∀ j, j < i → t 56 j = v) (fun i t => gz_R 0 yJ7_fill_53178 cJ7_fill_53178 4 none 0 0 5 [some (.ref 56), some (.int v), some (.int (nI i)), some (.int (nI 160))] [] (gz_mk L t) Q) ?_ ?_ 0 σ (Nat.zero_le _) ⟨fun _ _ => rfl, fun j h => absurd h (Nat.not_lt_zero j)⟩
  · intro σ1 hI
    refine zr_iload_n dJ7_fill_53178_5 rfl ?_
    refine zr_iload_n dJ7_fill_53178_6 rfl ?_
    refine zr_icmp_ge 20 dJ7_fill_53178_7 (by decide) (fun h => ?_) (fun h => ?_)
    · exact zr_vret dJ7_fill_53178_20 rfl (hQ _ hI)
    · exact absurd (Int32.le_refl _) h
  · rintro i σ1 hi ⟨hf, hv⟩ ih
    refine zr_iload_n dJ7_fill_53178_5 rfl ?_
    refine zr_iload_n dJ7_fill_53178_6 rfl ?_
    refine zr_icmp_ge 20 dJ7_fill_53178_7 (by decide) (fun h => ?_) (fun h => ?_)
    · exact absurd h (nI_ge hi (by omega))
    · refine zr_aload_n dJ7_fill_53178_10 rfl ?_
      refine zr_iload_n dJ7_fill_53178_11 rfl ?_
      refine zr_iload_n dJ7_fill_53178_12 rfl ?_
      refine zt_istN dJ7_fill_53178_13 rfl rfl rfl (hi) ?_
      refine zr_iinc dJ7_fill_53178_14 rfl (kc_inc (i)) rfl ?_
      refine zr_goto 5 dJ7_fill_53178_17 (by decide) ?_
      refine ih _ ⟨fun k hk => ?_, fun j hj => ?_⟩
      · rw [gz_wr_ne hk]
        exact hf k hk
      · rw [gz_wr_eq]
        by_cases e : j = i
        · simp [upd, e]
        · rw [show upd (σ1 56) i v j = σ1 56 j by simp [upd, e]]
          exact hv j (by omega)
theorem ca_valueOf_31 (L : Nat) (σ : gz_Mm) (C m : sp_T) (hC : sp_wf C) (hm : sp_wm m) (rC : rx_C σ C) (rM : rx_m σ 31 m) (l : Nat) (hl : l < C 9 0) :
    gz_Gi 2 yX0_valueOf cX0_valueOf 2 (some .int) L [.ref 32, .int (nI l)] σ (fun v σ' => v = nI (sp_val C m l) ∧ ∀ k, k ≠ 35 → σ' k = σ k) := by
  have h80 := hC.1.1
  refine gz_Gi.of rfl rfl (fun Q hQ => ?_)
  refine zr_aload_n dX0_valueOf_0 rfl ?_
  refine zr_iload_n dX0_valueOf_1 rfl ?_
  refine zr_iconst (v := 1) dX0_valueOf_2 kc_iconst_1 ?_
  refine zr_iadd dX0_valueOf_3 ?_
  refine zr_top (nI_1 l) ?_
  refine zt_cVv (As := [_]) (ca_settle_31 L σ C m hC hm rC rM (l + 1) hl) zc_X0_50 rfl dX0_valueOf_4 rfl rfl rfl rfl rfl rfl (fun σ1 h1 => ?_)
  refine zr_aload_n dX0_valueOf_7 rfl ?_
  refine zt_getr zg_X0_18 dX0_valueOf_8 rfl rfl rfl ?_
  refine zr_iload_n dX0_valueOf_11 rfl ?_
  refine zt_ildN dX0_valueOf_12 rfl rfl (by omega) (h1.2 l (by omega)) ?_
  exact zr_iret dX0_valueOf_13 rfl (hQ _ _ ⟨rfl, h1.1⟩)
theorem ca_clock_31 (L : Nat) (σ : gz_Mm) (C m : sp_T) (hC : sp_wf C) (hm : sp_wm m) (rC : rx_C σ C) (rM : rx_m σ 31 m) (b : Nat) (hb : b < 8) :
    gz_Gi 2 yX0_clockCells cX0_clockCells 4 (some .int) L [.ref 32, .int (nI b)] σ (fun v σ' => v = nI (sp_cnt C b (C 9 2)) ∧ (∀ k, k ≠ 34 → k ≠ 35 → σ' k = σ k) ∧ rx_m σ' 31 (sp_clk C m b)) := by
  have h80 := hC.1.1
  have h20 := hC.1.2.2.1
  refine gz_Gi.of rfl rfl (fun Q hQ => ?_)
  refine zr_aload_n dX0_clockCells_0 rfl ?_
  refine zr_aload_n dX0_clockCells_1 rfl ?_
  refine zt_getr zg_X0_25 dX0_clockCells_2 rfl rfl rfl ?_
  refine zt_geti zg_X0_64 dX0_clockCells_5 rfl rfl rfl ?_
  refine zr_top (rC.1.1) ?_
  refine zt_cVv (As := [_]) (ca_settle_31 L σ C m hC hm rC rM (C 9 0) (Nat.le_refl _)) zc_X0_50 rfl dX0_clockCells_8 rfl rfl rfl rfl rfl rfl (fun σs hs => ?_)
  refine zr_iconst (v := 0) dX0_clockCells_11 kc_iconst_0 ?_
  refine zr_istore_n dX0_clockCells_12 (by decide) rfl ?_
  refine zr_iconst (v := 0) dX0_clockCells_13 kc_iconst_0 ?_
  refine zr_istore_n dX0_clockCells_14 (by decide) rfl ?_
  obtain ⟨hsf, hsv⟩ := hs
  refine zl_up (τ := gz_Mm) (C 9 2) (fun i t => (∀ k, k ≠ 34 → t k = σs k) ∧ ∀ j, j < 20 → t 34 j = nI (if j < i ∧ b / 2 ^ (C 6 j) % 2 = 1 then sp_val C m (C 7 j) else m 1 j)) (fun i t => gz_R 2 yX0_clockCells cX0_clockCells 4 (some .int) 0 0 15 [some (.ref 32), some (.int (nI b)), some (.int (nI (sp_cnt C b i))), some (.int (nI i))] [] (gz_mk L t) Q) ?_ ?_ 0 σs (Nat.zero_le _) ⟨fun _ _ => rfl, fun j h => ?_⟩
  · rintro σ1 ⟨hf, hv⟩
    refine zr_iload_n dX0_clockCells_15 rfl ?_
    refine zr_aload_n dX0_clockCells_16 rfl ?_
    refine zt_getr zg_X0_25 dX0_clockCells_17 rfl rfl rfl ?_
    refine zt_geti zg_X0_47 dX0_clockCells_20 rfl rfl rfl ?_
    refine zr_top ((congrFun (hf 12 (by decide)) 2).trans ((congrFun (hsf 12 (by decide)) 2).trans rC.1.2.2.1)) ?_
    refine zr_icmp_ge 72 dX0_clockCells_23 (by decide) (fun h => ?_) (fun h => ?_)
    · refine zr_iload_n dX0_clockCells_72 rfl ?_
      refine zr_iret dX0_clockCells_73 rfl (hQ _ _ ⟨rfl, fun k h1 h2 => (hf k h1).trans (hsf k h2), ?_⟩)
      refine rM.rows ((hf 31 (by decide)).trans (hsf 31 (by decide))) ((hf 32 (by decide)).trans (hsf 32 (by decide))) (fun i hi => ?_) (fun j hj => ?_) (fun i => by simp [sp_clk])
      · rw [show (31 + 2) = 33 from rfl, hf 33 (by decide), hsf 33 (by decide)]
        simp only [sp_clk, show ¬ (0 : Nat) = 1 by decide, false_and, if_false]
        exact rM.1 i hi
      · rw [show (31 + 3) = 34 from rfl, hv j hj]
        simp [sp_clk]
    · exact absurd (Int32.le_refl _) h
  · rintro i σ1 hi ⟨hf, hv⟩ ih
    have hc := hC.2.2.1 i hi
    have rc := rC.2.2.1 i hi
    have i20 : i < 20 := by omega
    have hcl := sp_cnt_le C b i
    refine zr_iload_n dX0_clockCells_15 rfl ?_
    refine zr_aload_n dX0_clockCells_16 rfl ?_
    refine zt_getr zg_X0_25 dX0_clockCells_17 rfl rfl rfl ?_
    refine zt_geti zg_X0_47 dX0_clockCells_20 rfl rfl rfl ?_
    refine zr_top ((congrFun (hf 12 (by decide)) 2).trans ((congrFun (hsf 12 (by decide)) 2).trans rC.1.2.2.1)) ?_
    refine zr_icmp_ge 72 dX0_clockCells_23 (by decide) (fun h => ?_) (fun h => ?_)
    · exact absurd h (nI_ge hi (by omega))
    · refine zr_iload_n dX0_clockCells_26 rfl ?_
      refine zr_aload_n dX0_clockCells_27 rfl ?_
      refine zt_getr zg_X0_25 dX0_clockCells_28 rfl rfl rfl ?_
      refine zt_getr zg_X0_67 dX0_clockCells_31 rfl rfl rfl ?_
      refine zr_iload_n dX0_clockCells_34 rfl ?_
      refine zt_ildN dX0_clockCells_35 rfl rfl (i20) ((congrFun (hf 20 (by decide)) i).trans ((congrFun (hsf 20 (by decide)) i).trans rc.2.1)) ?_
      refine zr_ishr dX0_clockCells_36 ?_
      refine zr_iconst (v := 1) dX0_clockCells_37 kc_iconst_1 ?_
      refine zr_iand dX0_clockCells_38 ?_
      refine zr_top (bt_clk b hb (C 6 i) (by omega)) ?_
      refine zr_iconst (v := 1) dX0_clockCells_39 kc_iconst_1 ?_
      have hmod : b / 2 ^ (C 6 i) % 2 < 2 := Nat.mod_lt _ (by decide)
      refine zr_icmp_ne 66 dX0_clockCells_40 (by decide) (fun hbit => ?_) (fun hbit => ?_)
      · have hbit' : ¬ b / 2 ^ (C 6 i) % 2 = 1 := fun q => hbit (by rw [q]; rfl)
        have ec : sp_cnt C b (i + 1) = sp_cnt C b i := by simp [sp_cnt, hbit']
        refine zr_iinc dX0_clockCells_66 rfl (kc_inc (i)) rfl ?_
        refine zr_goto 15 dX0_clockCells_69 (by decide) ?_
        rw [← ec]
        refine ih σ1 ⟨hf, fun j hj => ?_⟩
        rw [hv j hj]
        by_cases e : j = i
        · subst e
          simp [hbit']
        · simp [show j < i + 1 ↔ j < i by omega]
      · have hbit' : b / 2 ^ (C 6 i) % 2 = 1 := (nI_eq (b := 1) (by omega) (by omega)).mp hbit
        have ec : sp_cnt C b (i + 1) = sp_cnt C b i + 1 := by simp [sp_cnt, hbit']
        refine zr_aload_n dX0_clockCells_43 rfl ?_
        refine zt_getr zg_X0_15 dX0_clockCells_44 rfl rfl rfl ?_
        refine zr_iload_n dX0_clockCells_47 rfl ?_
        refine zr_aload_n dX0_clockCells_48 rfl ?_
        refine zt_getr zg_X0_18 dX0_clockCells_49 rfl rfl rfl ?_
        refine zr_aload_n dX0_clockCells_52 rfl ?_
        refine zt_getr zg_X0_25 dX0_clockCells_53 rfl rfl rfl ?_
        refine zt_getr zg_X0_70 dX0_clockCells_56 rfl rfl rfl ?_
        refine zr_iload_n dX0_clockCells_59 rfl ?_
        refine zt_ildN dX0_clockCells_60 rfl rfl (i20) ((congrFun (hf 21 (by decide)) i).trans ((congrFun (hsf 21 (by decide)) i).trans rc.2.2)) ?_
        refine zt_ildN dX0_clockCells_61 rfl rfl (by omega) ((congrFun (hf 35 (by decide)) _).trans (hsv _ hc.2.2.1)) ?_
        refine zt_istN dX0_clockCells_62 rfl rfl rfl (i20) ?_
        refine zr_iinc dX0_clockCells_63 rfl (kc_inc (sp_cnt C b i)) rfl ?_
        refine zr_iinc dX0_clockCells_66 rfl (kc_inc (i)) rfl ?_
        refine zr_goto 15 dX0_clockCells_69 (by decide) ?_
        rw [← ec]
        refine ih _ ⟨fun k hk => ?_, fun j hj => ?_⟩
        · rw [gz_wr_ne hk]
          exact hf k hk
        · rw [gz_wr_eq]
          by_cases e : j = i
          · subst e
            simp [upd, hbit']
          · rw [show upd (σ1 34) i (nI (sp_val C m (C 7 i))) j = σ1 34 j by simp [upd, e], hv j hj]
            simp [show j < i + 1 ↔ j < i by omega]
  · show σs 34 j = _
    rw [hsf 34 (by decide)]
    simp only [Nat.not_lt_zero, false_and, if_false]
    exact rM.2.1 j h
theorem ca_setInputs_31 (L : Nat) (σ : gz_Mm) (C m : sp_T) (hC : sp_wf C) (rC : rx_C σ C) (rM : rx_m σ 31 m) (b : Nat) (hb : b < 2 ^ 31) :
    gz_Gv 0 yX0_setInputs cX0_setInputs 3 none L [.ref 32, .int (nI b)] σ (fun σ' => (∀ k, k ≠ 33 → σ' k = σ k) ∧ rx_m σ' 31 (sp_sin C m b)) := by
  have h8 := hC.1.2.1
  refine gz_Gv.of rfl rfl (fun Q hQ => ?_)
  refine zr_iconst (v := 0) dX0_setInputs_0 kc_iconst_0 ?_
  refine zr_istore_n dX0_setInputs_1 (by decide) rfl ?_
  refine zl_up (τ := gz_Mm) (C 9 1) (fun i t => (∀ k, k ≠ 33 → t k = σ k) ∧ ∀ j, j < 8 → t 33 j = nI (if j < i then b / 2 ^ j % 2 else m 0 j)) (fun i t => gz_R 0 yX0_setInputs cX0_setInputs 3 none 0 0 2 [some (.ref 32), some (.int (nI b)), some (.int (nI i))] [] (gz_mk L t) Q) ?_ ?_ 0 σ (Nat.zero_le _) ⟨fun _ _ => rfl, fun j h => by simpa using rM.1 j h⟩
  · rintro σ1 ⟨hf, hv⟩
    refine zr_iload_n dX0_setInputs_2 rfl ?_
    refine zr_aload_n dX0_setInputs_3 rfl ?_
    refine zt_getr zg_X0_25 dX0_setInputs_4 rfl rfl rfl ?_
    refine zt_geti zg_X0_42 dX0_setInputs_7 rfl rfl rfl ?_
    refine zr_top ((congrFun (hf 12 (by decide)) 1).trans rC.1.2.1) ?_
    refine zr_icmp_ge 30 dX0_setInputs_10 (by decide) (fun h => ?_) (fun h => ?_)
    · refine zr_vret dX0_setInputs_30 rfl (hQ _ ⟨hf, ?_⟩)
      refine rM.rows (hf 31 (by decide)) (hf 32 (by decide)) (fun i hi => ?_) (fun j hj => ?_) (fun i => by simp [sp_sin, sp_row])
      · rw [show (31 + 2) = 33 from rfl, hv i hi]
        simp [sp_sin, sp_row]
      · rw [show (31 + 3) = 34 from rfl, hf 34 (by decide)]
        simp only [sp_sin, sp_row, show ¬ (1 : Nat) = 0 by decide, if_false]
        exact rM.2.1 j hj
    · exact absurd (Int32.le_refl _) h
  · rintro i σ1 hi ⟨hf, hv⟩ ih
    refine zr_iload_n dX0_setInputs_2 rfl ?_
    refine zr_aload_n dX0_setInputs_3 rfl ?_
    refine zt_getr zg_X0_25 dX0_setInputs_4 rfl rfl rfl ?_
    refine zt_geti zg_X0_42 dX0_setInputs_7 rfl rfl rfl ?_
    refine zr_top ((congrFun (hf 12 (by decide)) 1).trans rC.1.2.1) ?_
    refine zr_icmp_ge 30 dX0_setInputs_10 (by decide) (fun h => ?_) (fun h => ?_)
    · exact absurd h (nI_ge hi (by omega))
    · refine zr_aload_n dX0_setInputs_13 rfl ?_
      refine zt_getr zg_X0_9 dX0_setInputs_14 rfl rfl rfl ?_
      refine zr_iload_n dX0_setInputs_17 rfl ?_
      refine zr_iload_n dX0_setInputs_18 rfl ?_
      refine zr_iload_n dX0_setInputs_19 rfl ?_
      refine zr_ishr dX0_setInputs_20 ?_
      refine zr_iconst (v := 1) dX0_setInputs_21 kc_iconst_1 ?_
      refine zr_iand dX0_setInputs_22 ?_
      refine zr_top (bt_bit hb (by omega)) ?_
      refine zt_istN dX0_setInputs_23 rfl rfl rfl (by omega) ?_
      refine zr_iinc dX0_setInputs_24 rfl (kc_inc (i)) rfl ?_
      refine zr_goto 2 dX0_setInputs_27 (by decide) ?_
      refine ih _ ⟨fun k hk => ?_, fun j hj => ?_⟩
      · rw [gz_wr_ne hk]
        exact hf k hk
      · rw [gz_wr_eq]
        by_cases e : j = i
        · subst e
          simp [upd]
        · rw [show upd (σ1 33) i (nI (b / 2 ^ i % 2)) j = σ1 33 j by simp [upd, e], hv j hj]
          simp [show j < i + 1 ↔ j < i by omega]
theorem ca_setCells_31 (L : Nat) (σ : gz_Mm) (C m : sp_T) (hC : sp_wf C) (rC : rx_C σ C) (rM : rx_m σ 31 m) (b : Nat) (hb : b < 2 ^ 31) :
    gz_Gv 0 yX0_setCells cX0_setCells 3 none L [.ref 32, .int (nI b)] σ (fun σ' => (∀ k, k ≠ 34 → σ' k = σ k) ∧ rx_m σ' 31 (sp_sce C m b)) := by
  have h8 := hC.1.2.2.1
  refine gz_Gv.of rfl rfl (fun Q hQ => ?_)
  refine zr_iconst (v := 0) dX0_setCells_0 kc_iconst_0 ?_
  refine zr_istore_n dX0_setCells_1 (by decide) rfl ?_
  refine zl_up (τ := gz_Mm) (C 9 2) (fun i t => (∀ k, k ≠ 34 → t k = σ k) ∧ ∀ j, j < 20 → t 34 j = nI (if j < i then b / 2 ^ j % 2 else m 1 j)) (fun i t => gz_R 0 yX0_setCells cX0_setCells 3 none 0 0 2 [some (.ref 32), some (.int (nI b)), some (.int (nI i))] [] (gz_mk L t) Q) ?_ ?_ 0 σ (Nat.zero_le _) ⟨fun _ _ => rfl, fun j h => by simpa using rM.2.1 j h⟩
  · rintro σ1 ⟨hf, hv⟩
    refine zr_iload_n dX0_setCells_2 rfl ?_
    refine zr_aload_n dX0_setCells_3 rfl ?_
    refine zt_getr zg_X0_25 dX0_setCells_4 rfl rfl rfl ?_
    refine zt_geti zg_X0_47 dX0_setCells_7 rfl rfl rfl ?_
    refine zr_top ((congrFun (hf 12 (by decide)) 2).trans rC.1.2.2.1) ?_
    refine zr_icmp_ge 30 dX0_setCells_10 (by decide) (fun h => ?_) (fun h => ?_)
    · refine zr_vret dX0_setCells_30 rfl (hQ _ ⟨hf, ?_⟩)
      refine rM.rows (hf 31 (by decide)) (hf 32 (by decide)) (fun i hi => ?_) (fun j hj => ?_) (fun i => by simp [sp_sce, sp_row])
      · rw [show (31 + 2) = 33 from rfl, hf 33 (by decide)]
        simp only [sp_sce, sp_row, show ¬ (0 : Nat) = 1 by decide, if_false]
        exact rM.1 i hi
      · rw [show (31 + 3) = 34 from rfl, hv j hj]
        simp [sp_sce, sp_row]
    · exact absurd (Int32.le_refl _) h
  · rintro i σ1 hi ⟨hf, hv⟩ ih
    refine zr_iload_n dX0_setCells_2 rfl ?_
    refine zr_aload_n dX0_setCells_3 rfl ?_
    refine zt_getr zg_X0_25 dX0_setCells_4 rfl rfl rfl ?_
    refine zt_geti zg_X0_47 dX0_setCells_7 rfl rfl rfl ?_
    refine zr_top ((congrFun (hf 12 (by decide)) 2).trans rC.1.2.2.1) ?_
    refine zr_icmp_ge 30 dX0_setCells_10 (by decide) (fun h => ?_) (fun h => ?_)
    · exact absurd h (nI_ge hi (by omega))
    · refine zr_aload_n dX0_setCells_13 rfl ?_
      refine zt_getr zg_X0_15 dX0_setCells_14 rfl rfl rfl ?_
      refine zr_iload_n dX0_setCells_17 rfl ?_
      refine zr_iload_n dX0_setCells_18 rfl ?_
      refine zr_iload_n dX0_setCells_19 rfl ?_
      refine zr_ishr dX0_setCells_20 ?_
      refine zr_iconst (v := 1) dX0_setCells_21 kc_iconst_1 ?_
      refine zr_iand dX0_setCells_22 ?_
      refine zr_top (bt_bit hb (by omega)) ?_
      refine zt_istN dX0_setCells_23 rfl rfl rfl (by omega) ?_
      refine zr_iinc dX0_setCells_24 rfl (kc_inc (i)) rfl ?_
      refine zr_goto 2 dX0_setCells_27 (by decide) ?_
      refine ih _ ⟨fun k hk => ?_, fun j hj => ?_⟩
      · rw [gz_wr_ne hk]
        exact hf k hk
      · rw [gz_wr_eq]
        by_cases e : j = i
        · subst e
          simp [upd]
        · rw [show upd (σ1 34) i (nI (b / 2 ^ i % 2)) j = σ1 34 j by simp [upd, e], hv j hj]
          simp [show j < i + 1 ↔ j < i by omega]
theorem ca_forget_31 (L : Nat) (σ : gz_Mm) (m : sp_T) (rM : rx_m σ 31 m) :
    gz_Gv 1 yX0_forgetCells cX0_forgetCells 1 none L [.ref 32] σ (fun σ' => (∀ k, k ≠ 34 → σ' k = σ k) ∧ rx_m σ' 31 (sp_row m 1 (fun _ => 2))) := by
  refine gz_Gv.of rfl rfl (fun Q hQ => ?_)
  refine zr_aload_n dX0_forgetCells_0 rfl ?_
  refine zt_getr zg_X0_15 dX0_forgetCells_1 rfl rfl rfl ?_
  refine zr_iconst (v := 2) dX0_forgetCells_4 kc_iconst_2 ?_
  refine zt_cSv (As := [_, _]) (ca_fill_34 L σ 2) zc_X0_33 rfl dX0_forgetCells_5 rfl rfl rfl (fun σ1 h1 => ?_)
  refine zr_vret dX0_forgetCells_8 rfl (hQ _ ⟨h1.1, ?_⟩)
  refine rM.rows (h1.1 31 (by decide)) (h1.1 32 (by decide)) (fun i hi => ?_) (fun j hj => h1.2 j hj) (fun i => rfl)
  rw [show (31 + 2) = 33 from rfl, h1.1 33 (by decide)]
  exact rM.1 i hi
theorem ca_unstick_31 (L : Nat) (σ : gz_Mm) : gz_F 0 yX0_unstick cX0_unstick 1 none L [.ref 32] σ none (gz_wr σ 32 5 (-1)) := by
  refine gz_F.of rfl rfl ?_
  refine zr_aload_n dX0_unstick_0 rfl ?_
  refine zr_iconst (v := (-1)) dX0_unstick_1 kc_iconst_m1 ?_
  refine zt_put zp_X0_21 dX0_unstick_2 rfl rfl rfl rfl ?_
  exact zr_vret dX0_unstick_5 rfl (⟨rfl, rfl⟩)
theorem ca_stickAt_31 (L : Nat) (σ : gz_Mm) (x v : Int32) : gz_F 0 yX0_stickAt cX0_stickAt 3 none L [.ref 32, .int x, .int v] σ none (gz_wr (gz_wr σ 32 5 x) 32 6 v) := by
  refine gz_F.of rfl rfl ?_
  refine zr_aload_n dX0_stickAt_0 rfl ?_
  refine zr_iload_n dX0_stickAt_1 rfl ?_
  refine zt_put zp_X0_21 dX0_stickAt_2 rfl rfl rfl rfl ?_
  refine zr_aload_n dX0_stickAt_5 rfl ?_
  refine zr_iload_n dX0_stickAt_6 rfl ?_
  refine zt_put zp_X0_39 dX0_stickAt_7 rfl rfl rfl rfl ?_
  exact zr_vret dX0_stickAt_10 rfl (⟨rfl, rfl⟩)
theorem ca_valueOf_42 (L : Nat) (σ : gz_Mm) (C m : sp_T) (hC : sp_wf C) (hm : sp_wm m) (rC : rx_C σ C) (rM : rx_m σ 42 m) (l : Nat) (hl : l < C 9 0) :
    gz_Gi 2 yX0_valueOf cX0_valueOf 2 (some .int) L [.ref 43, .int (nI l)] σ (fun v σ' => v = nI (sp_val C m l) ∧ ∀ k, k ≠ 46 → σ' k = σ k) := by
  have h80 := hC.1.1
  refine gz_Gi.of rfl rfl (fun Q hQ => ?_)
  refine zr_aload_n dX0_valueOf_0 rfl ?_
  refine zr_iload_n dX0_valueOf_1 rfl ?_
  refine zr_iconst (v := 1) dX0_valueOf_2 kc_iconst_1 ?_
  refine zr_iadd dX0_valueOf_3 ?_
  refine zr_top (nI_1 l) ?_
  refine zt_cVv (As := [_]) (ca_settle_42 L σ C m hC hm rC rM (l + 1) hl) zc_X0_50 rfl dX0_valueOf_4 rfl rfl rfl rfl rfl rfl (fun σ1 h1 => ?_)
  refine zr_aload_n dX0_valueOf_7 rfl ?_
  refine zt_getr zg_X0_18 dX0_valueOf_8 rfl rfl rfl ?_
  refine zr_iload_n dX0_valueOf_11 rfl ?_
  refine zt_ildN dX0_valueOf_12 rfl rfl (by omega) (h1.2 l (by omega)) ?_
  exact zr_iret dX0_valueOf_13 rfl (hQ _ _ ⟨rfl, h1.1⟩)
theorem ca_clock_42 (L : Nat) (σ : gz_Mm) (C m : sp_T) (hC : sp_wf C) (hm : sp_wm m) (rC : rx_C σ C) (rM : rx_m σ 42 m) (b : Nat) (hb : b < 8) :
    gz_Gi 2 yX0_clockCells cX0_clockCells 4 (some .int) L [.ref 43, .int (nI b)] σ (fun v σ' => v = nI (sp_cnt C b (C 9 2)) ∧ (∀ k, k ≠ 45 → k ≠ 46 → σ' k = σ k) ∧ rx_m σ' 42 (sp_clk C m b)) := by
  have h80 := hC.1.1
  have h20 := hC.1.2.2.1
  refine gz_Gi.of rfl rfl (fun Q hQ => ?_)
  refine zr_aload_n dX0_clockCells_0 rfl ?_
  refine zr_aload_n dX0_clockCells_1 rfl ?_
  refine zt_getr zg_X0_25 dX0_clockCells_2 rfl rfl rfl ?_
  refine zt_geti zg_X0_64 dX0_clockCells_5 rfl rfl rfl ?_
  refine zr_top (rC.1.1) ?_
  refine zt_cVv (As := [_]) (ca_settle_42 L σ C m hC hm rC rM (C 9 0) (Nat.le_refl _)) zc_X0_50 rfl dX0_clockCells_8 rfl rfl rfl rfl rfl rfl (fun σs hs => ?_)
  refine zr_iconst (v := 0) dX0_clockCells_11 kc_iconst_0 ?_
  refine zr_istore_n dX0_clockCells_12 (by decide) rfl ?_
  refine zr_iconst (v := 0) dX0_clockCells_13 kc_iconst_0 ?_
  refine zr_istore_n dX0_clockCells_14 (by decide) rfl ?_
  obtain ⟨hsf, hsv⟩ := hs
  refine zl_up (τ := gz_Mm) (C 9 2) (fun i t => (∀ k, k ≠ 45 → t k = σs k) ∧ ∀ j, j < 20 → t 45 j = nI (if j < i ∧ b / 2 ^ (C 6 j) % 2 = 1 then sp_val C m (C 7 j) else m 1 j)) (fun i t => gz_R 2 yX0_clockCells cX0_clockCells 4 (some .int) 0 0 15 [some (.ref 43), some (.int (nI b)), some (.int (nI (sp_cnt C b i))), some (.int (nI i))] [] (gz_mk L t) Q) ?_ ?_ 0 σs (Nat.zero_le _) ⟨fun _ _ => rfl, fun j h => ?_⟩
  · rintro σ1 ⟨hf, hv⟩
    refine zr_iload_n dX0_clockCells_15 rfl ?_
    refine zr_aload_n dX0_clockCells_16 rfl ?_
    refine zt_getr zg_X0_25 dX0_clockCells_17 rfl rfl rfl ?_
    refine zt_geti zg_X0_47 dX0_clockCells_20 rfl rfl rfl ?_
    refine zr_top ((congrFun (hf 12 (by decide)) 2).trans ((congrFun (hsf 12 (by decide)) 2).trans rC.1.2.2.1)) ?_
    refine zr_icmp_ge 72 dX0_clockCells_23 (by decide) (fun h => ?_) (fun h => ?_)
    · refine zr_iload_n dX0_clockCells_72 rfl ?_
      refine zr_iret dX0_clockCells_73 rfl (hQ _ _ ⟨rfl, fun k h1 h2 => (hf k h1).trans (hsf k h2), ?_⟩)
      refine rM.rows ((hf 42 (by decide)).trans (hsf 42 (by decide))) ((hf 43 (by decide)).trans (hsf 43 (by decide))) (fun i hi => ?_) (fun j hj => ?_) (fun i => by simp [sp_clk])
      · rw [show (42 + 2) = 44 from rfl, hf 44 (by decide), hsf 44 (by decide)]
        simp only [sp_clk, show ¬ (0 : Nat) = 1 by decide, false_and, if_false]
        exact rM.1 i hi
      · rw [show (42 + 3) = 45 from rfl, hv j hj]
        simp [sp_clk]
    · exact absurd (Int32.le_refl _) h
  · rintro i σ1 hi ⟨hf, hv⟩ ih
    have hc := hC.2.2.1 i hi
    have rc := rC.2.2.1 i hi
    have i20 : i < 20 := by omega
    have hcl := sp_cnt_le C b i
    refine zr_iload_n dX0_clockCells_15 rfl ?_
    refine zr_aload_n dX0_clockCells_16 rfl ?_
    refine zt_getr zg_X0_25 dX0_clockCells_17 rfl rfl rfl ?_
    refine zt_geti zg_X0_47 dX0_clockCells_20 rfl rfl rfl ?_
    refine zr_top ((congrFun (hf 12 (by decide)) 2).trans ((congrFun (hsf 12 (by decide)) 2).trans rC.1.2.2.1)) ?_
    refine zr_icmp_ge 72 dX0_clockCells_23 (by decide) (fun h => ?_) (fun h => ?_)
    · exact absurd h (nI_ge hi (by omega))
    · refine zr_iload_n dX0_clockCells_26 rfl ?_
      refine zr_aload_n dX0_clockCells_27 rfl ?_
      refine zt_getr zg_X0_25 dX0_clockCells_28 rfl rfl rfl ?_
      refine zt_getr zg_X0_67 dX0_clockCells_31 rfl rfl rfl ?_
      refine zr_iload_n dX0_clockCells_34 rfl ?_
      refine zt_ildN dX0_clockCells_35 rfl rfl (i20) ((congrFun (hf 20 (by decide)) i).trans ((congrFun (hsf 20 (by decide)) i).trans rc.2.1)) ?_
      refine zr_ishr dX0_clockCells_36 ?_
      refine zr_iconst (v := 1) dX0_clockCells_37 kc_iconst_1 ?_
      refine zr_iand dX0_clockCells_38 ?_
      refine zr_top (bt_clk b hb (C 6 i) (by omega)) ?_
      refine zr_iconst (v := 1) dX0_clockCells_39 kc_iconst_1 ?_
      have hmod : b / 2 ^ (C 6 i) % 2 < 2 := Nat.mod_lt _ (by decide)
      refine zr_icmp_ne 66 dX0_clockCells_40 (by decide) (fun hbit => ?_) (fun hbit => ?_)
      · have hbit' : ¬ b / 2 ^ (C 6 i) % 2 = 1 := fun q => hbit (by rw [q]; rfl)
        have ec : sp_cnt C b (i + 1) = sp_cnt C b i := by simp [sp_cnt, hbit']
        refine zr_iinc dX0_clockCells_66 rfl (kc_inc (i)) rfl ?_
        refine zr_goto 15 dX0_clockCells_69 (by decide) ?_
        rw [← ec]
        refine ih σ1 ⟨hf, fun j hj => ?_⟩
        rw [hv j hj]
        by_cases e : j = i
        · subst e
          simp [hbit']
        · simp [show j < i + 1 ↔ j < i by omega]
      · have hbit' : b / 2 ^ (C 6 i) % 2 = 1 := (nI_eq (b := 1) (by omega) (by omega)).mp hbit
        have ec : sp_cnt C b (i + 1) = sp_cnt C b i + 1 := by simp [sp_cnt, hbit']
        refine zr_aload_n dX0_clockCells_43 rfl ?_
        refine zt_getr zg_X0_15 dX0_clockCells_44 rfl rfl rfl ?_
        refine zr_iload_n dX0_clockCells_47 rfl ?_
        refine zr_aload_n dX0_clockCells_48 rfl ?_
        refine zt_getr zg_X0_18 dX0_clockCells_49 rfl rfl rfl ?_
        refine zr_aload_n dX0_clockCells_52 rfl ?_
        refine zt_getr zg_X0_25 dX0_clockCells_53 rfl rfl rfl ?_
        refine zt_getr zg_X0_70 dX0_clockCells_56 rfl rfl rfl ?_
        refine zr_iload_n dX0_clockCells_59 rfl ?_
        refine zt_ildN dX0_clockCells_60 rfl rfl (i20) ((congrFun (hf 21 (by decide)) i).trans ((congrFun (hsf 21 (by decide)) i).trans rc.2.2)) ?_
        refine zt_ildN dX0_clockCells_61 rfl rfl (by omega) ((congrFun (hf 46 (by decide)) _).trans (hsv _ hc.2.2.1)) ?_
        refine zt_istN dX0_clockCells_62 rfl rfl rfl (i20) ?_
        refine zr_iinc dX0_clockCells_63 rfl (kc_inc (sp_cnt C b i)) rfl ?_
        refine zr_iinc dX0_clockCells_66 rfl (kc_inc (i)) rfl ?_
        refine zr_goto 15 dX0_clockCells_69 (by decide) ?_
        rw [← ec]
        refine ih _ ⟨fun k hk => ?_, fun j hj => ?_⟩
        · rw [gz_wr_ne hk]
          exact hf k hk
        · rw [gz_wr_eq]
          by_cases e : j = i
          · subst e
            simp [upd, hbit']
          · rw [show upd (σ1 45) i (nI (sp_val C m (C 7 i))) j = σ1 45 j by simp [upd, e], hv j hj]
            simp [show j < i + 1 ↔ j < i by omega]
  · show σs 45 j = _
    rw [hsf 45 (by decide)]
    simp only [Nat.not_lt_zero, false_and, if_false]
    exact rM.2.1 j h
theorem ca_setInputs_42 (L : Nat) (σ : gz_Mm) (C m : sp_T) (hC : sp_wf C) (rC : rx_C σ C) (rM : rx_m σ 42 m) (b : Nat) (hb : b < 2 ^ 31) :
    gz_Gv 0 yX0_setInputs cX0_setInputs 3 none L [.ref 43, .int (nI b)] σ (fun σ' => (∀ k, k ≠ 44 → σ' k = σ k) ∧ rx_m σ' 42 (sp_sin C m b)) := by
  have h8 := hC.1.2.1
  refine gz_Gv.of rfl rfl (fun Q hQ => ?_)
  refine zr_iconst (v := 0) dX0_setInputs_0 kc_iconst_0 ?_
  refine zr_istore_n dX0_setInputs_1 (by decide) rfl ?_
  refine zl_up (τ := gz_Mm) (C 9 1) (fun i t => (∀ k, k ≠ 44 → t k = σ k) ∧ ∀ j, j < 8 → t 44 j = nI (if j < i then b / 2 ^ j % 2 else m 0 j)) (fun i t => gz_R 0 yX0_setInputs cX0_setInputs 3 none 0 0 2 [some (.ref 43), some (.int (nI b)), some (.int (nI i))] [] (gz_mk L t) Q) ?_ ?_ 0 σ (Nat.zero_le _) ⟨fun _ _ => rfl, fun j h => by simpa using rM.1 j h⟩
  · rintro σ1 ⟨hf, hv⟩
    refine zr_iload_n dX0_setInputs_2 rfl ?_
    refine zr_aload_n dX0_setInputs_3 rfl ?_
    refine zt_getr zg_X0_25 dX0_setInputs_4 rfl rfl rfl ?_
    refine zt_geti zg_X0_42 dX0_setInputs_7 rfl rfl rfl ?_
    refine zr_top ((congrFun (hf 12 (by decide)) 1).trans rC.1.2.1) ?_
    refine zr_icmp_ge 30 dX0_setInputs_10 (by decide) (fun h => ?_) (fun h => ?_)
    · refine zr_vret dX0_setInputs_30 rfl (hQ _ ⟨hf, ?_⟩)
      refine rM.rows (hf 42 (by decide)) (hf 43 (by decide)) (fun i hi => ?_) (fun j hj => ?_) (fun i => by simp [sp_sin, sp_row])
      · rw [show (42 + 2) = 44 from rfl, hv i hi]
        simp [sp_sin, sp_row]
      · rw [show (42 + 3) = 45 from rfl, hf 45 (by decide)]
        simp only [sp_sin, sp_row, show ¬ (1 : Nat) = 0 by decide, if_false]
        exact rM.2.1 j hj
    · exact absurd (Int32.le_refl _) h
  · rintro i σ1 hi ⟨hf, hv⟩ ih
    refine zr_iload_n dX0_setInputs_2 rfl ?_
    refine zr_aload_n dX0_setInputs_3 rfl ?_
    refine zt_getr zg_X0_25 dX0_setInputs_4 rfl rfl rfl ?_
    refine zt_geti zg_X0_42 dX0_setInputs_7 rfl rfl rfl ?_
    refine zr_top ((congrFun (hf 12 (by decide)) 1).trans rC.1.2.1) ?_
    refine zr_icmp_ge 30 dX0_setInputs_10 (by decide) (fun h => ?_) (fun h => ?_)
    · exact absurd h (nI_ge hi (by omega))
    · refine zr_aload_n dX0_setInputs_13 rfl ?_
      refine zt_getr zg_X0_9 dX0_setInputs_14 rfl rfl rfl ?_
      refine zr_iload_n dX0_setInputs_17 rfl ?_
      refine zr_iload_n dX0_setInputs_18 rfl ?_
      refine zr_iload_n dX0_setInputs_19 rfl ?_
      refine zr_ishr dX0_setInputs_20 ?_
      refine zr_iconst (v := 1) dX0_setInputs_21 kc_iconst_1 ?_
      refine zr_iand dX0_setInputs_22 ?_
      refine zr_top (bt_bit hb (by omega)) ?_
      refine zt_istN dX0_setInputs_23 rfl rfl rfl (by omega) ?_
      refine zr_iinc dX0_setInputs_24 rfl (kc_inc (i)) rfl ?_
      refine zr_goto 2 dX0_setInputs_27 (by decide) ?_
      refine ih _ ⟨fun k hk => ?_, fun j hj => ?_⟩
      · rw [gz_wr_ne hk]
        exact hf k hk
      · rw [gz_wr_eq]
        by_cases e : j = i
        · subst e
          simp [upd]
        · rw [show upd (σ1 44) i (nI (b / 2 ^ i % 2)) j = σ1 44 j by simp [upd, e], hv j hj]
          simp [show j < i + 1 ↔ j < i by omega]
theorem ca_setCells_42 (L : Nat) (σ : gz_Mm) (C m : sp_T) (hC : sp_wf C) (rC : rx_C σ C) (rM : rx_m σ 42 m) (b : Nat) (hb : b < 2 ^ 31) :
    gz_Gv 0 yX0_setCells cX0_setCells 3 none L [.ref 43, .int (nI b)] σ (fun σ' => (∀ k, k ≠ 45 → σ' k = σ k) ∧ rx_m σ' 42 (sp_sce C m b)) := by
  have h8 := hC.1.2.2.1
  refine gz_Gv.of rfl rfl (fun Q hQ => ?_)
  refine zr_iconst (v := 0) dX0_setCells_0 kc_iconst_0 ?_
  refine zr_istore_n dX0_setCells_1 (by decide) rfl ?_
  refine zl_up (τ := gz_Mm) (C 9 2) (fun i t => (∀ k, k ≠ 45 → t k = σ k) ∧ ∀ j, j < 20 → t 45 j = nI (if j < i then b / 2 ^ j % 2 else m 1 j)) (fun i t => gz_R 0 yX0_setCells cX0_setCells 3 none 0 0 2 [some (.ref 43), some (.int (nI b)), some (.int (nI i))] [] (gz_mk L t) Q) ?_ ?_ 0 σ (Nat.zero_le _) ⟨fun _ _ => rfl, fun j h => by simpa using rM.2.1 j h⟩
  · rintro σ1 ⟨hf, hv⟩
    refine zr_iload_n dX0_setCells_2 rfl ?_
    refine zr_aload_n dX0_setCells_3 rfl ?_
    refine zt_getr zg_X0_25 dX0_setCells_4 rfl rfl rfl ?_
    refine zt_geti zg_X0_47 dX0_setCells_7 rfl rfl rfl ?_
    refine zr_top ((congrFun (hf 12 (by decide)) 2).trans rC.1.2.2.1) ?_
    refine zr_icmp_ge 30 dX0_setCells_10 (by decide) (fun h => ?_) (fun h => ?_)
    · refine zr_vret dX0_setCells_30 rfl (hQ _ ⟨hf, ?_⟩)
      refine rM.rows (hf 42 (by decide)) (hf 43 (by decide)) (fun i hi => ?_) (fun j hj => ?_) (fun i => by simp [sp_sce, sp_row])
      · rw [show (42 + 2) = 44 from rfl, hf 44 (by decide)]
        simp only [sp_sce, sp_row, show ¬ (0 : Nat) = 1 by decide, if_false]
        exact rM.1 i hi
      · rw [show (42 + 3) = 45 from rfl, hv j hj]
        simp [sp_sce, sp_row]
    · exact absurd (Int32.le_refl _) h
  · rintro i σ1 hi ⟨hf, hv⟩ ih
    refine zr_iload_n dX0_setCells_2 rfl ?_
    refine zr_aload_n dX0_setCells_3 rfl ?_
    refine zt_getr zg_X0_25 dX0_setCells_4 rfl rfl rfl ?_
    refine zt_geti zg_X0_47 dX0_setCells_7 rfl rfl rfl ?_
    refine zr_top ((congrFun (hf 12 (by decide)) 2).trans rC.1.2.2.1) ?_
    refine zr_icmp_ge 30 dX0_setCells_10 (by decide) (fun h => ?_) (fun h => ?_)
    · exact absurd h (nI_ge hi (by omega))
    · refine zr_aload_n dX0_setCells_13 rfl ?_
      refine zt_getr zg_X0_15 dX0_setCells_14 rfl rfl rfl ?_
      refine zr_iload_n dX0_setCells_17 rfl ?_
      refine zr_iload_n dX0_setCells_18 rfl ?_
      refine zr_iload_n dX0_setCells_19 rfl ?_
      refine zr_ishr dX0_setCells_20 ?_
      refine zr_iconst (v := 1) dX0_setCells_21 kc_iconst_1 ?_
      refine zr_iand dX0_setCells_22 ?_
      refine zr_top (bt_bit hb (by omega)) ?_
      refine zt_istN dX0_setCells_23 rfl rfl rfl (by omega) ?_
      refine zr_iinc dX0_setCells_24 rfl (kc_inc (i)) rfl ?_
      refine zr_goto 2 dX0_setCells_27 (by decide) ?_
      refine ih _ ⟨fun k hk => ?_, fun j hj => ?_⟩
      · rw [gz_wr_ne hk]
        exact hf k hk
      · rw [gz_wr_eq]
        by_cases e : j = i
        · subst e
          simp [upd]
        · rw [show upd (σ1 45) i (nI (b / 2 ^ i % 2)) j = σ1 45 j by simp [upd, e], hv j hj]
          simp [show j < i + 1 ↔ j < i by omega]
theorem ca_forget_42 (L : Nat) (σ : gz_Mm) (m : sp_T) (rM : rx_m σ 42 m) :
    gz_Gv 1 yX0_forgetCells cX0_forgetCells 1 none L [.ref 43] σ (fun σ' => (∀ k, k ≠ 45 → σ' k = σ k) ∧ rx_m σ' 42 (sp_row m 1 (fun _ => 2))) := by
  refine gz_Gv.of rfl rfl (fun Q hQ => ?_)
  refine zr_aload_n dX0_forgetCells_0 rfl ?_
  refine zt_getr zg_X0_15 dX0_forgetCells_1 rfl rfl rfl ?_
  refine zr_iconst (v := 2) dX0_forgetCells_4 kc_iconst_2 ?_
  refine zt_cSv (As := [_, _]) (ca_fill_45 L σ 2) zc_X0_33 rfl dX0_forgetCells_5 rfl rfl rfl (fun σ1 h1 => ?_)
  refine zr_vret dX0_forgetCells_8 rfl (hQ _ ⟨h1.1, ?_⟩)
  refine rM.rows (h1.1 42 (by decide)) (h1.1 43 (by decide)) (fun i hi => ?_) (fun j hj => h1.2 j hj) (fun i => rfl)
  rw [show (42 + 2) = 44 from rfl, h1.1 44 (by decide)]
  exact rM.1 i hi
theorem ca_unstick_42 (L : Nat) (σ : gz_Mm) : gz_F 0 yX0_unstick cX0_unstick 1 none L [.ref 43] σ none (gz_wr σ 43 5 (-1)) := by
  refine gz_F.of rfl rfl ?_
  refine zr_aload_n dX0_unstick_0 rfl ?_
  refine zr_iconst (v := (-1)) dX0_unstick_1 kc_iconst_m1 ?_
  refine zt_put zp_X0_21 dX0_unstick_2 rfl rfl rfl rfl ?_
  exact zr_vret dX0_unstick_5 rfl (⟨rfl, rfl⟩)
theorem ca_stickAt_42 (L : Nat) (σ : gz_Mm) (x v : Int32) : gz_F 0 yX0_stickAt cX0_stickAt 3 none L [.ref 43, .int x, .int v] σ none (gz_wr (gz_wr σ 43 5 x) 43 6 v) := by
  refine gz_F.of rfl rfl ?_
  refine zr_aload_n dX0_stickAt_0 rfl ?_
  refine zr_iload_n dX0_stickAt_1 rfl ?_
  refine zt_put zp_X0_21 dX0_stickAt_2 rfl rfl rfl rfl ?_
  refine zr_aload_n dX0_stickAt_5 rfl ?_
  refine zr_iload_n dX0_stickAt_6 rfl ?_
  refine zt_put zp_X0_39 dX0_stickAt_7 rfl rfl rfl rfl ?_
  exact zr_vret dX0_stickAt_10 rfl (⟨rfl, rfl⟩)
