/-! ===== Board: settle, valueOf, clockCells ===== -/
theorem ca_settle_31 (L : Nat) (σ : gz_Mm) (C m : sp_T) (hC : sp_wf C) (hm : sp_wm m) (rC : rx_C σ C) (rM : rx_m σ 31 m) (n : Nat) (hn : n ≤ C 9 0) :
    gz_Gv 1 yX0_settle cX0_settle 4 none L [.ref 32, .int (nI n)] σ (fun σ' => (∀ k, k ≠ 35 → σ' k = σ k) ∧ ∀ j, j < n → σ' 35 j = nI (sp_val C m j)) := by
  have h80 := hC.1.1
  refine gz_Gv.of rfl rfl (fun Q hQ => ?_)
  refine zr_iconst (v := 0) dX0_settle_0 kc_iconst_0 ?_
  refine zr_istore_n dX0_settle_1 (by decide) rfl ?_
  refine zl_up (τ := gz_Mm × Option Value) n (fun i t => (∀ k, k ≠ 35 → t.1 k = σ k) ∧ ∀ j, j < i → t.1 35 j = nI (sp_val C m j)) (fun i t => gz_R 1 yX0_settle cX0_settle 4 none 0 0 2 [some (.ref 32), some (.int (nI n)), some (.int (nI i)), t.2] [] (gz_mk L t.1) Q) ?_ ?_ 0 (σ, none) (Nat.zero_le n) ⟨fun _ _ => rfl, fun j h => absurd h (Nat.not_lt_zero j)⟩
  · rintro ⟨σ1, o⟩ hI
    refine zr_iload_n dX0_settle_2 rfl ?_
    refine zr_iload_n dX0_settle_3 rfl ?_
    refine zr_icmp_ge 111 dX0_settle_4 (by decide) (fun h => ?_) (fun h => ?_)
    · exact zr_vret dX0_settle_111 rfl (hQ _ hI)
    · exact absurd (Int32.le_refl _) h
  · rintro i ⟨σ1, o⟩ hi ⟨hf, hv⟩ ih
    have hil : i < C 9 0 := by omega
    have i80 : i < 80 := by omega
    refine zr_iload_n dX0_settle_2 rfl ?_
    refine zr_iload_n dX0_settle_3 rfl ?_
    refine zr_icmp_ge 111 dX0_settle_4 (by decide) (fun h => ?_) (fun h => ?_)
    · exact absurd h (nI_ge hi (by omega))
    · obtain ⟨k1, k2, k3⟩ := rC.2.1 i hil
      refine zr_aload_n dX0_settle_7 rfl ?_
      refine zt_getr zg_X0_25 dX0_settle_8 rfl rfl rfl ?_
      refine zt_getr zg_X0_54 dX0_settle_11 rfl rfl rfl ?_
      refine zr_iload_n dX0_settle_14 rfl ?_
      refine zt_ildN dX0_settle_15 rfl rfl (i80) ((congrFun (hf 14 (by decide)) i).trans k2) ?_
      refine zr_istore_n dX0_settle_16 (by decide) rfl ?_
      refine zr_iload_n dX0_settle_17 rfl ?_
      refine zr_aload_n dX0_settle_18 rfl ?_
      refine zt_geti zg_X0_21 dX0_settle_19 rfl rfl rfl ?_
      refine zr_top ((congrFun (hf _ (by decide)) 5).trans rM.2.2.1) ?_
      have done : ∀ (x : Int32) (o' : Option Value), x = nI (sp_val C m i) → gz_R 1 yX0_settle cX0_settle 4 none 0 0 105 [some (.ref 32), some (.int (nI n)), some (.int (nI i)), o'] [] (gz_mk L (gz_wr σ1 35 i x)) Q := by
        intro x o' hx
        refine zr_iinc dX0_settle_105 rfl (kc_inc (i)) rfl ?_
        refine zr_goto 2 dX0_settle_108 (by decide) ?_
        refine ih (_, o') ⟨fun k hk => ?_, fun j hj => ?_⟩
        · show gz_wr σ1 35 i x k = _
          rw [gz_wr_ne hk]
          exact hf k hk
        · show gz_wr σ1 35 i x 35 j = _
          rw [gz_wr_eq]
          by_cases e : j = i
          · subst e
            simp [upd, hx]
          · rw [show upd (σ1 35) i x j = σ1 35 j by simp [upd, e]]
            exact hv j (by omega)
      have hval := sp_val_eq (m := m) hC hil
      unfold sp_one at hval
      refine zr_icmp_ne 38 dX0_settle_22 (by decide) (fun hs => ?_) (fun hs => ?_)
      · have hs' : ¬ i + 1 = m 2 0 := fun q => hs ((nI_m1 i _ (by omega) (by have := hm.2.2.1; omega)).mpr q)
        rw [if_neg hs'] at hval
        refine zr_aload_n dX0_settle_38 rfl ?_
        refine zt_getr zg_X0_25 dX0_settle_39 rfl rfl rfl ?_
        refine zt_getr zg_X0_57 dX0_settle_42 rfl rfl rfl ?_
        refine zr_iload_n dX0_settle_45 rfl ?_
        refine zt_ildN dX0_settle_46 rfl rfl (i80) ((congrFun (hf 13 (by decide)) i).trans k1) ?_
        rcases hC.2.1 i hil with ⟨g1, g2⟩ | ⟨g1, g2⟩ | ⟨g1, g2, g3, g4, g5⟩
        · refine zr_if_ne 65 dX0_settle_47 (by decide) (fun hk => ?_) (fun hk => ?_)
          · exact absurd (by rw [g1]; rfl) hk
          · rw [if_pos g1] at hval
            have h8 : C 1 i < 8 := by have := hC.1.2.1; omega
            refine zr_aload_n dX0_settle_50 rfl ?_
            refine zt_getr zg_X0_18 dX0_settle_51 rfl rfl rfl ?_
            refine zr_iload_n dX0_settle_54 rfl ?_
            refine zr_aload_n dX0_settle_55 rfl ?_
            refine zt_getr zg_X0_9 dX0_settle_56 rfl rfl rfl ?_
            refine zr_iload_n dX0_settle_59 rfl ?_
            refine zt_ildN dX0_settle_60 rfl rfl (h8) ((congrFun (hf _ (by decide)) _).trans (rM.1 _ h8)) ?_
            refine zt_istN dX0_settle_61 rfl rfl rfl (i80) ?_
            refine zr_goto 105 dX0_settle_62 (by decide) ?_
            exact done _ _ (by rw [hval])
        · refine zr_if_ne 65 dX0_settle_47 (by decide) (fun hk => ?_) (fun hk => ?_)
          · rw [if_neg (by omega), if_pos g1] at hval
            have h20 : C 1 i < 20 := by have := hC.1.2.2.1; omega
            refine zr_aload_n dX0_settle_65 rfl ?_
            refine zt_getr zg_X0_25 dX0_settle_66 rfl rfl rfl ?_
            refine zt_getr zg_X0_57 dX0_settle_69 rfl rfl rfl ?_
            refine zr_iload_n dX0_settle_72 rfl ?_
            refine zt_ildN dX0_settle_73 rfl rfl (i80) ((congrFun (hf 13 (by decide)) i).trans k1) ?_
            refine zr_iconst (v := 2) dX0_settle_74 kc_iconst_2 ?_
            refine zr_icmp_ne 93 dX0_settle_75 (by decide) (fun hk2 => ?_) (fun hk2 => ?_)
            · exact absurd (by rw [g1]; rfl) hk2
            · refine zr_aload_n dX0_settle_78 rfl ?_
              refine zt_getr zg_X0_18 dX0_settle_79 rfl rfl rfl ?_
              refine zr_iload_n dX0_settle_82 rfl ?_
              refine zr_aload_n dX0_settle_83 rfl ?_
              refine zt_getr zg_X0_15 dX0_settle_84 rfl rfl rfl ?_
              refine zr_iload_n dX0_settle_87 rfl ?_
              refine zt_ildN dX0_settle_88 rfl rfl (h20) ((congrFun (hf _ (by decide)) _).trans (rM.2.1 _ h20)) ?_
              refine zt_istN dX0_settle_89 rfl rfl rfl (i80) ?_
              refine zr_goto 105 dX0_settle_90 (by decide) ?_
              exact done _ _ (by rw [hval])
          · exact absurd ((nI_eq (b := 0) (by omega) (by omega)).mp hk) (by omega)
        · refine zr_if_ne 65 dX0_settle_47 (by decide) (fun hk => ?_) (fun hk => ?_)
          · rw [if_neg (by omega), if_neg (by omega)] at hval
            refine zr_aload_n dX0_settle_65 rfl ?_
            refine zt_getr zg_X0_25 dX0_settle_66 rfl rfl rfl ?_
            refine zt_getr zg_X0_57 dX0_settle_69 rfl rfl rfl ?_
            refine zr_iload_n dX0_settle_72 rfl ?_
            refine zt_ildN dX0_settle_73 rfl rfl (i80) ((congrFun (hf 13 (by decide)) i).trans k1) ?_
            refine zr_iconst (v := 2) dX0_settle_74 kc_iconst_2 ?_
            refine zr_icmp_ne 93 dX0_settle_75 (by decide) (fun hk2 => ?_) (fun hk2 => ?_)
            · obtain ⟨q1, q2, q3⟩ := k3 g1
              have hle := sp_val_le (C := C) hm
              refine zr_aload_n dX0_settle_93 rfl ?_
              refine zt_getr zg_X0_18 dX0_settle_94 rfl rfl rfl ?_
              refine zr_iload_n dX0_settle_97 rfl ?_
              refine zr_aload_n dX0_settle_98 rfl ?_
              refine zr_iload_n dX0_settle_99 rfl ?_
              refine zr_iload_n dX0_settle_100 rfl ?_
              refine zt_callVi (As := [_, _]) (ca_gateValue L 31 (by decide) σ1 i (C 1 i) (C 2 i) (C 3 i) (C 4 i) (sp_val C m (C 2 i)) (sp_val C m (C 3 i)) (sp_val C m (C 4 i)) i80 g2 (by omega) ((congrFun (hf 15 (by decide)) i).trans q1) (hv _ g3) (Nat.lt_succ_of_le (hle _)) (Nat.lt_succ_of_le (hle _)) (Nat.lt_succ_of_le (hle _)) (fun q => ⟨by omega, (congrFun (hf 16 (by decide)) i).trans (q2 q), hv _ g4⟩) (fun q => ⟨by omega, (congrFun (hf 17 (by decide)) i).trans (q3 q), hv _ g5⟩)) zc_X0_60 rfl dX0_settle_101 rfl rfl rfl rfl rfl rfl ?_
              refine zt_istN dX0_settle_104 rfl rfl rfl (i80) ?_
              exact done _ _ (by rw [hval])
            · exact absurd ((nI_eq (b := 2) (by omega) (by omega)).mp hk2) (by omega)
          · exact absurd ((nI_eq (b := 0) (by omega) (by omega)).mp hk) (by omega)
      · have hs' : i + 1 = m 2 0 := (nI_m1 i _ (by omega) (by have := hm.2.2.1; omega)).mp hs
        rw [if_pos hs'] at hval
        refine zr_aload_n dX0_settle_25 rfl ?_
        refine zt_getr zg_X0_18 dX0_settle_26 rfl rfl rfl ?_
        refine zr_iload_n dX0_settle_29 rfl ?_
        refine zr_aload_n dX0_settle_30 rfl ?_
        refine zt_geti zg_X0_39 dX0_settle_31 rfl rfl rfl ?_
        refine zr_top ((congrFun (hf _ (by decide)) 6).trans (rM.2.2.2.1 (by omega))) ?_
        refine zt_istN dX0_settle_34 rfl rfl rfl (i80) ?_
        refine zr_goto 105 dX0_settle_35 (by decide) ?_
        exact done _ _ (by rw [hval])
theorem ca_settle_42 (L : Nat) (σ : gz_Mm) (C m : sp_T) (hC : sp_wf C) (hm : sp_wm m) (rC : rx_C σ C) (rM : rx_m σ 42 m) (n : Nat) (hn : n ≤ C 9 0) :
    gz_Gv 1 yX0_settle cX0_settle 4 none L [.ref 43, .int (nI n)] σ (fun σ' => (∀ k, k ≠ 46 → σ' k = σ k) ∧ ∀ j, j < n → σ' 46 j = nI (sp_val C m j)) := by
  have h80 := hC.1.1
  refine gz_Gv.of rfl rfl (fun Q hQ => ?_)
  refine zr_iconst (v := 0) dX0_settle_0 kc_iconst_0 ?_
  refine zr_istore_n dX0_settle_1 (by decide) rfl ?_
  refine zl_up (τ := gz_Mm × Option Value) n (fun i t => (∀ k, k ≠ 46 → t.1 k = σ k) ∧ ∀ j, j < i → t.1 46 j = nI (sp_val C m j)) (fun i t => gz_R 1 yX0_settle cX0_settle 4 none 0 0 2 [some (.ref 43), some (.int (nI n)), some (.int (nI i)), t.2] [] (gz_mk L t.1) Q) ?_ ?_ 0 (σ, none) (Nat.zero_le n) ⟨fun _ _ => rfl, fun j h => absurd h (Nat.not_lt_zero j)⟩
  · rintro ⟨σ1, o⟩ hI
    refine zr_iload_n dX0_settle_2 rfl ?_
    refine zr_iload_n dX0_settle_3 rfl ?_
    refine zr_icmp_ge 111 dX0_settle_4 (by decide) (fun h => ?_) (fun h => ?_)
    · exact zr_vret dX0_settle_111 rfl (hQ _ hI)
    · exact absurd (Int32.le_refl _) h
  · rintro i ⟨σ1, o⟩ hi ⟨hf, hv⟩ ih
    have hil : i < C 9 0 := by omega
    have i80 : i < 80 := by omega
    refine zr_iload_n dX0_settle_2 rfl ?_
    refine zr_iload_n dX0_settle_3 rfl ?_
    refine zr_icmp_ge 111 dX0_settle_4 (by decide) (fun h => ?_) (fun h => ?_)
    · exact absurd h (nI_ge hi (by omega))
    · obtain ⟨k1, k2, k3⟩ := rC.2.1 i hil
      refine zr_aload_n dX0_settle_7 rfl ?_
      refine zt_getr zg_X0_25 dX0_settle_8 rfl rfl rfl ?_
      refine zt_getr zg_X0_54 dX0_settle_11 rfl rfl rfl ?_
      refine zr_iload_n dX0_settle_14 rfl ?_
      refine zt_ildN dX0_settle_15 rfl rfl (i80) ((congrFun (hf 14 (by decide)) i).trans k2) ?_
      refine zr_istore_n dX0_settle_16 (by decide) rfl ?_
      refine zr_iload_n dX0_settle_17 rfl ?_
      refine zr_aload_n dX0_settle_18 rfl ?_
      refine zt_geti zg_X0_21 dX0_settle_19 rfl rfl rfl ?_
      refine zr_top ((congrFun (hf _ (by decide)) 5).trans rM.2.2.1) ?_
      have done : ∀ (x : Int32) (o' : Option Value), x = nI (sp_val C m i) → gz_R 1 yX0_settle cX0_settle 4 none 0 0 105 [some (.ref 43), some (.int (nI n)), some (.int (nI i)), o'] [] (gz_mk L (gz_wr σ1 46 i x)) Q := by
        intro x o' hx
        refine zr_iinc dX0_settle_105 rfl (kc_inc (i)) rfl ?_
        refine zr_goto 2 dX0_settle_108 (by decide) ?_
        refine ih (_, o') ⟨fun k hk => ?_, fun j hj => ?_⟩
        · show gz_wr σ1 46 i x k = _
          rw [gz_wr_ne hk]
          exact hf k hk
        · show gz_wr σ1 46 i x 46 j = _
          rw [gz_wr_eq]
          by_cases e : j = i
          · subst e
            simp [upd, hx]
          · rw [show upd (σ1 46) i x j = σ1 46 j by simp [upd, e]]
            exact hv j (by omega)
      have hval := sp_val_eq (m := m) hC hil
      unfold sp_one at hval
      refine zr_icmp_ne 38 dX0_settle_22 (by decide) (fun hs => ?_) (fun hs => ?_)
      · have hs' : ¬ i + 1 = m 2 0 := fun q => hs ((nI_m1 i _ (by omega) (by have := hm.2.2.1; omega)).mpr q)
        rw [if_neg hs'] at hval
        refine zr_aload_n dX0_settle_38 rfl ?_
        refine zt_getr zg_X0_25 dX0_settle_39 rfl rfl rfl ?_
        refine zt_getr zg_X0_57 dX0_settle_42 rfl rfl rfl ?_
        refine zr_iload_n dX0_settle_45 rfl ?_
        refine zt_ildN dX0_settle_46 rfl rfl (i80) ((congrFun (hf 13 (by decide)) i).trans k1) ?_
        rcases hC.2.1 i hil with ⟨g1, g2⟩ | ⟨g1, g2⟩ | ⟨g1, g2, g3, g4, g5⟩
        · refine zr_if_ne 65 dX0_settle_47 (by decide) (fun hk => ?_) (fun hk => ?_)
          · exact absurd (by rw [g1]; rfl) hk
          · rw [if_pos g1] at hval
            have h8 : C 1 i < 8 := by have := hC.1.2.1; omega
            refine zr_aload_n dX0_settle_50 rfl ?_
            refine zt_getr zg_X0_18 dX0_settle_51 rfl rfl rfl ?_
            refine zr_iload_n dX0_settle_54 rfl ?_
            refine zr_aload_n dX0_settle_55 rfl ?_
            refine zt_getr zg_X0_9 dX0_settle_56 rfl rfl rfl ?_
            refine zr_iload_n dX0_settle_59 rfl ?_
            refine zt_ildN dX0_settle_60 rfl rfl (h8) ((congrFun (hf _ (by decide)) _).trans (rM.1 _ h8)) ?_
            refine zt_istN dX0_settle_61 rfl rfl rfl (i80) ?_
            refine zr_goto 105 dX0_settle_62 (by decide) ?_
            exact done _ _ (by rw [hval])
        · refine zr_if_ne 65 dX0_settle_47 (by decide) (fun hk => ?_) (fun hk => ?_)
          · rw [if_neg (by omega), if_pos g1] at hval
            have h20 : C 1 i < 20 := by have := hC.1.2.2.1; omega
            refine zr_aload_n dX0_settle_65 rfl ?_
            refine zt_getr zg_X0_25 dX0_settle_66 rfl rfl rfl ?_
            refine zt_getr zg_X0_57 dX0_settle_69 rfl rfl rfl ?_
            refine zr_iload_n dX0_settle_72 rfl ?_
            refine zt_ildN dX0_settle_73 rfl rfl (i80) ((congrFun (hf 13 (by decide)) i).trans k1) ?_
            refine zr_iconst (v := 2) dX0_settle_74 kc_iconst_2 ?_
            refine zr_icmp_ne 93 dX0_settle_75 (by decide) (fun hk2 => ?_) (fun hk2 => ?_)
            · exact absurd (by rw [g1]; rfl) hk2
            · refine zr_aload_n dX0_settle_78 rfl ?_
              refine zt_getr zg_X0_18 dX0_settle_79 rfl rfl rfl ?_
              refine zr_iload_n dX0_settle_82 rfl ?_
              refine zr_aload_n dX0_settle_83 rfl ?_
              refine zt_getr zg_X0_15 dX0_settle_84 rfl rfl rfl ?_
              refine zr_iload_n dX0_settle_87 rfl ?_
              refine zt_ildN dX0_settle_88 rfl rfl (h20) ((congrFun (hf _ (by decide)) _).trans (rM.2.1 _ h20)) ?_
              refine zt_istN dX0_settle_89 rfl rfl rfl (i80) ?_
              refine zr_goto 105 dX0_settle_90 (by decide) ?_
              exact done _ _ (by rw [hval])
          · exact absurd ((nI_eq (b := 0) (by omega) (by omega)).mp hk) (by omega)
        · refine zr_if_ne 65 dX0_settle_47 (by decide) (fun hk => ?_) (fun hk => ?_)
          · rw [if_neg (by omega), if_neg (by omega)] at hval
            refine zr_aload_n dX0_settle_65 rfl ?_
            refine zt_getr zg_X0_25 dX0_settle_66 rfl rfl rfl ?_
            refine zt_getr zg_X0_57 dX0_settle_69 rfl rfl rfl ?_
            refine zr_iload_n dX0_settle_72 rfl ?_
            refine zt_ildN dX0_settle_73 rfl rfl (i80) ((congrFun (hf 13 (by decide)) i).trans k1) ?_
            refine zr_iconst (v := 2) dX0_settle_74 kc_iconst_2 ?_
            refine zr_icmp_ne 93 dX0_settle_75 (by decide) (fun hk2 => ?_) (fun hk2 => ?_)
            · obtain ⟨q1, q2, q3⟩ := k3 g1
              have hle := sp_val_le (C := C) hm
              refine zr_aload_n dX0_settle_93 rfl ?_
              refine zt_getr zg_X0_18 dX0_settle_94 rfl rfl rfl ?_
              refine zr_iload_n dX0_settle_97 rfl ?_
              refine zr_aload_n dX0_settle_98 rfl ?_
              refine zr_iload_n dX0_settle_99 rfl ?_
              refine zr_iload_n dX0_settle_100 rfl ?_
              refine zt_callVi (As := [_, _]) (ca_gateValue L 42 (by decide) σ1 i (C 1 i) (C 2 i) (C 3 i) (C 4 i) (sp_val C m (C 2 i)) (sp_val C m (C 3 i)) (sp_val C m (C 4 i)) i80 g2 (by omega) ((congrFun (hf 15 (by decide)) i).trans q1) (hv _ g3) (Nat.lt_succ_of_le (hle _)) (Nat.lt_succ_of_le (hle _)) (Nat.lt_succ_of_le (hle _)) (fun q => ⟨by omega, (congrFun (hf 16 (by decide)) i).trans (q2 q), hv _ g4⟩) (fun q => ⟨by omega, (congrFun (hf 17 (by decide)) i).trans (q3 q), hv _ g5⟩)) zc_X0_60 rfl dX0_settle_101 rfl rfl rfl rfl rfl rfl ?_
              refine zt_istN dX0_settle_104 rfl rfl rfl (i80) ?_
              exact done _ _ (by rw [hval])
            · exact absurd ((nI_eq (b := 2) (by omega) (by omega)).mp hk2) (by omega)
          · exact absurd ((nI_eq (b := 0) (by omega) (by omega)).mp hk) (by omega)
      · have hs' : i + 1 = m 2 0 := (nI_m1 i _ (by omega) (by have := hm.2.2.1; omega)).mp hs
        rw [if_pos hs'] at hval
        refine zr_aload_n dX0_settle_25 rfl ?_
        refine zt_getr zg_X0_18 dX0_settle_26 rfl rfl rfl ?_
        refine zr_iload_n dX0_settle_29 rfl ?_
        refine zr_aload_n dX0_settle_30 rfl ?_
        refine zt_geti zg_X0_39 dX0_settle_31 rfl rfl rfl ?_
        refine zr_top ((congrFun (hf _ (by decide)) 6).trans (rM.2.2.2.1 (by omega))) ?_
        refine zt_istN dX0_settle_34 rfl rfl rfl (i80) ?_
        refine zr_goto 105 dX0_settle_35 (by decide) ?_
        exact done _ _ (by rw [hval])
