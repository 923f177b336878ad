/-! ===== the bench: covers ===== -/
theorem sp_cov_le (C : sp_T) (K : sp_K) (n : Nat) : ∀ f, sp_cov C K n f ≤ f
  | 0 => Nat.le_refl 0
  | f + 1 => by
    have := sp_cov_le C K n f
    unfold sp_cov
    split <;> omega
theorem sp_cov_mono (C : sp_T) (K : sp_K) (n : Nat) {f : Nat} : ∀ {g : Nat}, f ≤ g → sp_cov C K n f ≤ sp_cov C K n g
  | 0, h => by
    rw [show f = 0 by omega]
    exact Nat.le_refl _
  | g + 1, h => by
    by_cases e : f = g + 1
    · rw [e]
      exact Nat.le_refl _
    · have := sp_cov_mono C K n (g := g) (f := f) (by omega)
      show _ ≤ sp_cov C K n g + _
      omega
theorem cx_covers (L : Nat) (σ : gz_Mm) (S : ap_S) (hw : ap_wf S) (hX : ap_X σ S) : gz_Gi 6 yX8_covers cX8_covers 4 (some .int) L [.ref 11] σ (ap_P σ (fa_covers S)) := by
  obtain ⟨C, K, m, tg, tk, no, nu, fO, fU⟩ := S
  obtain ⟨hC, hK, hm, htg, hno, hnu, hz0, hz2⟩ := hw
  have hX0 := hX
  obtain ⟨⟨rC, rK, rM⟩, ⟨r5, r7⟩, rT, rR, rO, rS⟩ := hX
  have h80 := hC.1.1
  have h8 := hC.1.2.1
  have h20 := hC.1.2.2.1
  have hnt := hC.1.2.2.2.2
  have e : fa_covers (C, K, m, tg, tk, no, nu, fO, fU) = (nI (sp_cov C K (C 9 4) (2 * C 9 0)), (C, K, m, tg, tk, no, nu, fO, fU)) := rfl
  refine gz_Gi.of rfl rfl (fun Q hQ => ?_)
  rw [e] at hQ
  refine zr_aload_n dX8_covers_0 rfl ?_
  refine zt_getr zg_X8_69 dX8_covers_1 rfl rfl rfl ?_
  refine zr_iconst (v := 0) dX8_covers_4 kc_iconst_0 ?_
  refine zt_cSv (As := [_, _]) (ca_fill_56 L σ 0) zc_X8_244 rfl dX8_covers_5 rfl rfl rfl (fun σ0 h0 => ?_)
  obtain ⟨f0, z0⟩ := h0
  have any0 : ∀ f, sp_any C K f 0 = false := fun _ => rfl
  have cov0 : ∀ f, sp_cov C K 0 f = 0 := fun f => by
    induction f with
    | zero => rfl
    | succ f ih => simp [sp_cov, ih, any0]
  refine zr_iconst (v := nI (sp_cov C K 0 (2 * C 9 0))) dX8_covers_8 (by rw [cov0]; rfl) ?_
  refine zr_istore_n dX8_covers_9 (by decide) rfl ?_
  refine zr_iconst (v := 0) dX8_covers_10 kc_iconst_0 ?_
  refine zr_istore_n dX8_covers_11 (by decide) rfl ?_
  refine zl_up (τ := gz_Mm × Option Value) (C 9 4) (fun i t => (∀ k, (k < 40 ∨ (52 < k ∧ k ≠ 56)) → t.1 k = σ k) ∧ rx_R t.1 ∧ ∀ f, f < 2 * C 9 0 → t.1 56 f = sp_b (sp_any C K f i)) (fun i t => gz_R 6 yX8_covers cX8_covers 4 (some .int) 0 0 12 [some (.ref 11), some (.int (nI (sp_cov C K i (2 * C 9 0)))), some (.int (nI i)), t.2] [] (gz_mk L t.1) Q) ?_ ?_ 0 (σ0, none) (Nat.zero_le _) ⟨fun k hk => f0 k (by omega), ?_, fun f hf => (z0 f (by omega)).trans rfl⟩
  · rintro ⟨σ1, o⟩ ⟨f1, R1, v1⟩
    refine zr_iload_n dX8_covers_12 rfl ?_
    refine zr_aload_n dX8_covers_13 rfl ?_
    refine zt_getr zg_X8_40 dX8_covers_14 rfl rfl rfl ?_
    refine zt_geti zg_X8_118 dX8_covers_17 rfl rfl rfl ?_
    refine zr_top ((congrFun (f1 36 (by decide)) 2).trans rT.1) ?_
    refine zr_icmp_ge 93 dX8_covers_20 (by decide) (fun hp20 => ?_) (fun h => absurd (Int32.le_refl _) h)
    refine zr_iload_n dX8_covers_93 rfl ?_
    exact zr_iret dX8_covers_94 rfl (hQ _ _ ⟨rfl, hX0.trial f1 R1, fun k hk => f1 k (by omega)⟩)
  · rintro i ⟨σ1, o⟩ hi ⟨f1, R1, v1⟩ ih
    have rC1 : rx_C σ1 C := rC.kept (fun k h1 h2 => f1 k (by omega))
    have rK1 : rx_K σ1 C K := rK.kept (fun k h1 h2 => f1 k (by omega))
    have rT1 : rx_T σ1 C := rT.kept (fun k h1 h2 => f1 k (by omega)) rfl (fun _ => rfl) (fun _ => rfl)
    refine zr_iload_n dX8_covers_12 rfl ?_
    refine zr_aload_n dX8_covers_13 rfl ?_
    refine zt_getr zg_X8_40 dX8_covers_14 rfl rfl rfl ?_
    refine zt_geti zg_X8_118 dX8_covers_17 rfl rfl rfl ?_
    refine zr_top (rT1.1) ?_
    refine zr_icmp_ge 93 dX8_covers_20 (by decide) (fun h => absurd h (nI_ge hi (by omega))) (fun hp20 => ?_)
    refine zr_aload_n dX8_covers_23 rfl ?_
    refine zt_getr zg_X8_58 dX8_covers_24 rfl rfl rfl ?_
    refine zr_iload_n dX8_covers_27 rfl ?_
    refine zt_cVv (As := [_]) (ca_startWith L σ1 C K hC hK rC1 rK1 rT1 R1 i hi) zc_X8_237 rfl dX8_covers_28 rfl rfl rfl rfl rfl rfl (fun σ2 h4 => ?_)
    refine zr_iconst (v := 0) dX8_covers_31 kc_iconst_0 ?_
    refine zr_istore_n dX8_covers_32 (by decide) rfl ?_
    obtain ⟨f2, S2⟩ := h4
    have e0 : sp_cov C K i (2 * C 9 0) = sp_cov C K (i + 1) 0 + (sp_cov C K i (2 * C 9 0) - sp_cov C K i 0) := by simp [sp_cov]
    rw [e0]
    refine zl_up (τ := gz_Mm) (2 * C 9 0) (fun f t => (∀ k, (k < 40 ∨ (52 < k ∧ k ≠ 56)) → t k = σ k) ∧ rx_S t C K i ∧ (∀ g, g < f → t 56 g = sp_b (sp_any C K g (i + 1))) ∧ ∀ g, f ≤ g → g < 2 * C 9 0 → t 56 g = sp_b (sp_any C K g i)) (fun f t => gz_R 6 yX8_covers cX8_covers 4 (some .int) 0 0 33 [some (.ref 11), some (.int (nI (sp_cov C K (i + 1) f + (sp_cov C K i (2 * C 9 0) - sp_cov C K i f)))), some (.int (nI i)), some (.int (nI f))] [] (gz_mk L t) Q) ?_ ?_ 0 σ2 (Nat.zero_le _) ⟨fun k hk => (f2 k (by omega)).trans (f1 k hk), S2, fun g hg => absurd hg (Nat.not_lt_zero g), fun g _ hg => (congrFun (f2 56 (by decide)) g).trans (v1 g hg)⟩
    · rintro σ3 ⟨f3, S3, v3, -⟩
      refine zr_iload_n dX8_covers_33 rfl ?_
      refine zr_iconst (v := 2) dX8_covers_34 kc_iconst_2 ?_
      refine zr_aload_n dX8_covers_35 rfl ?_
      refine zt_getr zg_X8_10 dX8_covers_36 rfl rfl rfl ?_
      refine zt_geti zg_X8_73 dX8_covers_39 rfl rfl rfl ?_
      refine zr_top ((congrFun (f3 12 (by decide)) 0).trans rC.1.1) ?_
      refine zr_imul dX8_covers_42 ?_
      refine zr_top (pk_mul 2 _) ?_
      refine zr_icmp_ge 87 dX8_covers_43 (by decide) (fun hp43 => ?_) (fun h => absurd (Int32.le_refl _) h)
      refine zr_iinc dX8_covers_87 rfl (kc_inc (i)) rfl ?_
      refine zr_goto 12 dX8_covers_90 (by decide) ?_
      rw [show sp_cov C K (i + 1) (2 * C 9 0) + (sp_cov C K i (2 * C 9 0) - sp_cov C K i (2 * C 9 0)) = sp_cov C K (i + 1) (2 * C 9 0) by omega]
      exact ih (σ3, _) ⟨f3, S3.1, v3⟩
    · rintro f σ3 hf ⟨f3, S3, v3, w3⟩ ih2
      have c1 := sp_cov_le C K (i + 1) f
      have c2 := sp_cov_le C K i (2 * C 9 0)
      have c3 := sp_cov_mono C K i (show f + 1 ≤ 2 * C 9 0 by omega)
      have rC3 : rx_C σ3 C := rC.kept (fun k h1 h2 => f3 k (by omega))
      have rK3 : rx_K σ3 C K := rK.kept (fun k h1 h2 => f3 k (by omega))
      have ea : sp_any C K f (i + 1) = (sp_any C K f i || sp_shows C K i (f / 2) (f % 2)) := rfl
      refine zr_iload_n dX8_covers_33 rfl ?_
      refine zr_iconst (v := 2) dX8_covers_34 kc_iconst_2 ?_
      refine zr_aload_n dX8_covers_35 rfl ?_
      refine zt_getr zg_X8_10 dX8_covers_36 rfl rfl rfl ?_
      refine zt_geti zg_X8_73 dX8_covers_39 rfl rfl rfl ?_
      refine zr_top (rC3.1.1) ?_
      refine zr_imul dX8_covers_42 ?_
      refine zr_top (pk_mul 2 _) ?_
      refine zr_icmp_ge 87 dX8_covers_43 (by decide) (fun h => absurd h (nI_ge hf (by omega))) (fun hp43 => ?_)
      refine zr_aload_n dX8_covers_46 rfl ?_
      refine zt_getr zg_X8_69 dX8_covers_47 rfl rfl rfl ?_
      refine zr_iload_n dX8_covers_50 rfl ?_
      refine zt_ildN dX8_covers_51 rfl rfl (by omega) (w3 f (Nat.le_refl _) hf) ?_
      cases ha : sp_any C K f i with
      | true =>
        have e1 : sp_cov C K (i + 1) (f + 1) + (sp_cov C K i (2 * C 9 0) - sp_cov C K i (f + 1)) = sp_cov C K (i + 1) f + (sp_cov C K i (2 * C 9 0) - sp_cov C K i f) := by
          have q1 : sp_cov C K (i + 1) (f + 1) = sp_cov C K (i + 1) f + 1 := by simp [sp_cov, ea, ha]
          have q2 : sp_cov C K i (f + 1) = sp_cov C K i f + 1 := by simp [sp_cov, ha]
          omega
        refine zr_if_ne 81 dX8_covers_52 (by decide) (fun hp52 => ?_) (fun h => absurd h (by decide))
        refine zr_iinc dX8_covers_81 rfl (kc_inc (f)) rfl ?_
        refine zr_goto 33 dX8_covers_84 (by decide) ?_
        rw [← e1]
        refine ih2 σ3 ⟨f3, S3, fun g hg => ?_, fun g h1 h2 => w3 g (by omega) h2⟩
        by_cases eg : g = f
        · rw [eg, w3 f (Nat.le_refl _) hf, ea, ha]
          rfl
        · exact v3 g (by omega)
      | false =>
        have q2 : sp_cov C K i (f + 1) = sp_cov C K i f := by simp [sp_cov, ha]
        refine zr_if_ne 81 dX8_covers_52 (by decide) (fun h => absurd h (by decide)) (fun hp52 => ?_)
        refine zr_aload_n dX8_covers_55 rfl ?_
        refine zt_getr zg_X8_58 dX8_covers_56 rfl rfl rfl ?_
        refine zr_iload_n dX8_covers_59 rfl ?_
        refine zr_iconst (v := 1) dX8_covers_60 kc_iconst_1 ?_
        refine zr_ishr dX8_covers_61 ?_
        refine zr_top (pk_shrN (by omega) _ 1 rfl) ?_
        refine zr_iload_n dX8_covers_62 rfl ?_
        refine zr_iconst (v := 1) dX8_covers_63 kc_iconst_1 ?_
        refine zr_iand dX8_covers_64 ?_
        refine zr_top (bt_and1 (by omega)) ?_
        refine zt_cVi (As := [_, _]) (ca_reveals L σ3 C K hC hK rC3 rK3 i hi S3 (f / 2 ^ 1) (f % 2) (by omega) (by omega)) zc_X8_240 rfl dX8_covers_65 rfl rfl rfl rfl rfl rfl (fun r4 σ4 h5 => ?_)
        obtain ⟨e4, f4, S4⟩ := h5
        have g4 : ∀ k, (k < 40 ∨ (52 < k ∧ k ≠ 56)) → σ4 k = σ k := fun k hk => (f4 k (by omega)).trans (f3 k hk)
        have g56 : σ4 56 = σ3 56 := f4 56 (by decide)
        rw [show f / 2 ^ 1 = f / 2 by omega] at e4
        subst e4
        cases hb : sp_shows C K i (f / 2) (f % 2) with
        | false =>
          have q1 : sp_cov C K (i + 1) (f + 1) = sp_cov C K (i + 1) f := by simp [sp_cov, ea, ha, hb]
          have e1 : sp_cov C K (i + 1) (f + 1) + (sp_cov C K i (2 * C 9 0) - sp_cov C K i (f + 1)) = sp_cov C K (i + 1) f + (sp_cov C K i (2 * C 9 0) - sp_cov C K i f) := by omega
          refine zr_if_eq 81 dX8_covers_68 (by decide) (fun hp68 => ?_) (fun h => absurd h (by decide))
          refine zr_iinc dX8_covers_81 rfl (kc_inc (f)) rfl ?_
          refine zr_goto 33 dX8_covers_84 (by decide) ?_
          rw [← e1]
          refine ih2 σ4 ⟨g4, S4, fun g hg => ?_, fun g h1 h2 => by rw [g56]; exact w3 g (by omega) h2⟩
          rw [g56]
          by_cases eg : g = f
          · rw [eg, w3 f (Nat.le_refl _) hf, ea, ha, hb]
            rfl
          · exact v3 g (by omega)
        | true =>
          have q1 : sp_cov C K (i + 1) (f + 1) = sp_cov C K (i + 1) f + 1 := by simp [sp_cov, ea, ha, hb]
          have e1 : sp_cov C K (i + 1) (f + 1) + (sp_cov C K i (2 * C 9 0) - sp_cov C K i (f + 1)) = sp_cov C K (i + 1) f + (sp_cov C K i (2 * C 9 0) - sp_cov C K i f) + 1 := by omega
          refine zr_if_eq 81 dX8_covers_68 (by decide) (fun h => absurd h (by decide)) (fun hp68 => ?_)
          refine zr_aload_n dX8_covers_71 rfl ?_
          refine zt_getr zg_X8_69 dX8_covers_72 rfl rfl rfl ?_
          refine zr_iload_n dX8_covers_75 rfl ?_
          refine zr_iconst (v := 1) dX8_covers_76 kc_iconst_1 ?_
          refine zt_istN dX8_covers_77 rfl rfl rfl (by omega) ?_
          refine zr_iinc dX8_covers_78 rfl (kc_inc (sp_cov C K (i + 1) f + (sp_cov C K i (2 * C 9 0) - sp_cov C K i f))) rfl ?_
          refine zr_iinc dX8_covers_81 rfl (kc_inc (f)) rfl ?_
          refine zr_goto 33 dX8_covers_84 (by decide) ?_
          rw [← e1]
          refine ih2 _ ⟨fun k hk => (gz_wr_ne (by omega)).trans (g4 k hk), ?_, fun g hg => ?_, fun g h1 h2 => ?_⟩
          · obtain ⟨⟨⟨m1, t1, t2⟩, t3⟩, t4⟩ := S4
            refine ⟨⟨⟨m1, t1.kept (fun k h1 h2 => gz_wr_ne (by omega)), t2⟩, (congrFun (gz_wr_ne (by decide)) 5).trans t3⟩, ?_⟩
            rw [gz_wr_ne (a := 41) (by decide), gz_wr_ne (a := 47) (by decide), gz_wr_ne (a := 48) (by decide), gz_wr_ne (a := 49) (by decide)]
            exact t4
          · rw [gz_wr_eq, g56]
            by_cases eg : g = f
            · rw [eg, ea, ha, hb]
              simp [upd, sp_b]
            · rw [pk_un eg]
              exact v3 g (by omega)
          · rw [gz_wr_eq, g56, pk_un (by omega)]
            exact w3 g (by omega) h2
  · obtain ⟨⟨m1, q1, q2⟩, q3⟩ := rR
    exact ⟨⟨m1, q1.kept (fun k h1 h2 => f0 k (by omega)), q2⟩, (congrFun (f0 42 (by decide)) 5).trans q3⟩
