/-! ===== Circuit and Tests: adding ===== -/
theorem ca_addLine (L : Nat) (σ : gz_Mm) (n : Nat) (hn : n < 80) (h : σ 12 0 = nI n) (k d : Int32) : gz_F 0 yX2_addLine cX2_addLine 4 (some .int) L [.ref 12, .int k, .int d] σ (some (.int (nI n))) (gz_wr (gz_wr (gz_wr σ 13 n k) 14 n d) 12 0 (nI (n + 1))) := by
  refine gz_F.of rfl rfl ?_
  refine zr_aload_n dX2_addLine_0 rfl ?_
  refine zt_geti zg_X2_43 dX2_addLine_1 rfl rfl rfl ?_
  refine zr_top (h) ?_
  refine zr_istore_n dX2_addLine_4 (by decide) rfl ?_
  refine zr_aload_n dX2_addLine_5 rfl ?_
  refine zt_getr zg_X2_9 dX2_addLine_6 rfl rfl rfl ?_
  refine zr_iload_n dX2_addLine_9 rfl ?_
  refine zr_iload_n dX2_addLine_10 rfl ?_
  refine zt_istN dX2_addLine_11 rfl rfl rfl (hn) ?_
  refine zr_aload_n dX2_addLine_12 rfl ?_
  refine zt_getr zg_X2_15 dX2_addLine_13 rfl rfl rfl ?_
  refine zr_iload_n dX2_addLine_16 rfl ?_
  refine zr_iload_n dX2_addLine_17 rfl ?_
  refine zt_istN dX2_addLine_18 rfl rfl rfl (hn) ?_
  refine zr_aload_n dX2_addLine_19 rfl ?_
  refine zr_dup dX2_addLine_20 rfl ?_
  refine zt_geti zg_X2_43 dX2_addLine_21 rfl rfl rfl ?_
  refine zr_top (h) ?_
  refine zr_iconst (v := 1) dX2_addLine_24 kc_iconst_1 ?_
  refine zr_iadd dX2_addLine_25 ?_
  refine zr_top (nI_1 n) ?_
  refine zt_put zp_X2_43 dX2_addLine_26 rfl rfl rfl rfl ?_
  refine zr_iload_n dX2_addLine_29 rfl ?_
  exact zr_iret dX2_addLine_30 rfl (⟨rfl, rfl⟩)
theorem ca_addInput (L : Nat) (σ : gz_Mm) (n ni : Nat) (hn : n < 80) (h : σ 12 0 = nI n) (h1 : σ 12 1 = nI ni) : gz_F 1 yX2_addInput cX2_addInput 2 (some .int) L [.ref 12] σ (some (.int (nI n))) (gz_wr (gz_wr (gz_wr (gz_wr σ 13 n 0) 14 n (nI ni)) 12 0 (nI (n + 1))) 12 1 (nI (ni + 1))) := by
  refine gz_F.of rfl rfl ?_
  refine zr_aload_n dX2_addInput_0 rfl ?_
  refine zr_iconst (v := 0) dX2_addInput_1 kc_iconst_0 ?_
  refine zr_aload_n dX2_addInput_2 rfl ?_
  refine zt_geti zg_X2_50 dX2_addInput_3 rfl rfl rfl ?_
  refine zr_top (h1) ?_
  refine zt_callVi (As := [_, _]) (ca_addLine L σ n hn h 0 (nI ni)) zc_X2_53 rfl dX2_addInput_6 rfl rfl rfl rfl rfl rfl ?_
  refine zr_istore_n dX2_addInput_9 (by decide) rfl ?_
  refine zr_aload_n dX2_addInput_10 rfl ?_
  refine zr_dup dX2_addInput_11 rfl ?_
  refine zt_geti zg_X2_50 dX2_addInput_12 rfl rfl rfl ?_
  refine zr_top ((by simp [gz_wr, upd]; exact h1 : _ = nI ni)) ?_
  refine zr_iconst (v := 1) dX2_addInput_15 kc_iconst_1 ?_
  refine zr_iadd dX2_addInput_16 ?_
  refine zr_top (nI_1 ni) ?_
  refine zt_put zp_X2_50 dX2_addInput_17 rfl rfl rfl rfl ?_
  refine zr_iload_n dX2_addInput_20 rfl ?_
  exact zr_iret dX2_addInput_21 rfl (⟨rfl, rfl⟩)
theorem ca_addGate (L : Nat) (σ : gz_Mm) (n : Nat) (hn : n < 80) (h : σ 12 0 = nI n) (op a b c : Int32) : gz_F 1 yX2_addGate cX2_addGate 6 (some .int) L [.ref 12, .int op, .int a, .int b, .int c] σ (some (.int (nI n))) (gz_wr (gz_wr (gz_wr (gz_wr (gz_wr (gz_wr σ 13 n 1) 14 n op) 12 0 (nI (n + 1))) 15 n a) 16 n b) 17 n c) := by
  refine gz_F.of rfl rfl ?_
  refine zr_aload_n dX2_addGate_0 rfl ?_
  refine zr_iconst (v := 1) dX2_addGate_1 kc_iconst_1 ?_
  refine zr_iload_n dX2_addGate_2 rfl ?_
  refine zt_callVi (As := [_, _]) (ca_addLine L σ n hn h 1 op) zc_X2_53 rfl dX2_addGate_3 rfl rfl rfl rfl rfl rfl ?_
  refine zr_istore dX2_addGate_6 (by decide) rfl ?_
  refine zr_aload_n dX2_addGate_8 rfl ?_
  refine zt_getr zg_X2_18 dX2_addGate_9 rfl rfl rfl ?_
  refine zr_iload dX2_addGate_12 rfl ?_
  refine zr_iload_n dX2_addGate_14 rfl ?_
  refine zt_istN dX2_addGate_15 rfl rfl rfl (hn) ?_
  refine zr_aload_n dX2_addGate_16 rfl ?_
  refine zt_getr zg_X2_21 dX2_addGate_17 rfl rfl rfl ?_
  refine zr_iload dX2_addGate_20 rfl ?_
  refine zr_iload_n dX2_addGate_22 rfl ?_
  refine zt_istN dX2_addGate_23 rfl rfl rfl (hn) ?_
  refine zr_aload_n dX2_addGate_24 rfl ?_
  refine zt_getr zg_X2_24 dX2_addGate_25 rfl rfl rfl ?_
  refine zr_iload dX2_addGate_28 rfl ?_
  refine zr_iload dX2_addGate_30 rfl ?_
  refine zt_istN dX2_addGate_32 rfl rfl rfl (hn) ?_
  refine zr_iload dX2_addGate_33 rfl ?_
  exact zr_iret dX2_addGate_35 rfl (⟨rfl, rfl⟩)
theorem ca_addCell (L : Nat) (σ : gz_Mm) (n nc : Nat) (hn : n < 80) (hc : nc < 20) (h : σ 12 0 = nI n) (h2 : σ 12 2 = nI nc) (d : Int32) : gz_F 1 yX2_addCell cX2_addCell 3 (some .int) L [.ref 12, .int d] σ (some (.int (nI n))) (gz_wr (gz_wr (gz_wr (gz_wr (gz_wr (gz_wr (gz_wr σ 13 n 2) 14 n (nI nc)) 12 0 (nI (n + 1))) 19 nc (nI n)) 20 nc d) 21 nc (nI n)) 12 2 (nI (nc + 1))) := by
  refine gz_F.of rfl rfl ?_
  refine zr_aload_n dX2_addCell_0 rfl ?_
  refine zr_iconst (v := 2) dX2_addCell_1 kc_iconst_2 ?_
  refine zr_aload_n dX2_addCell_2 rfl ?_
  refine zt_geti zg_X2_47 dX2_addCell_3 rfl rfl rfl ?_
  refine zr_top (h2) ?_
  refine zt_callVi (As := [_, _]) (ca_addLine L σ n hn h 2 (nI nc)) zc_X2_53 rfl dX2_addCell_6 rfl rfl rfl rfl rfl rfl ?_
  refine zr_istore_n dX2_addCell_9 (by decide) rfl ?_
  refine zr_aload_n dX2_addCell_10 rfl ?_
  refine zt_getr zg_X2_31 dX2_addCell_11 rfl rfl rfl ?_
  refine zr_aload_n dX2_addCell_14 rfl ?_
  refine zt_geti zg_X2_47 dX2_addCell_15 rfl rfl rfl ?_
  refine zr_top ((by simp [gz_wr, upd]; exact h2 : _ = nI nc)) ?_
  refine zr_iload_n dX2_addCell_18 rfl ?_
  refine zt_istN dX2_addCell_19 rfl rfl rfl (hc) ?_
  refine zr_aload_n dX2_addCell_20 rfl ?_
  refine zt_getr zg_X2_34 dX2_addCell_21 rfl rfl rfl ?_
  refine zr_aload_n dX2_addCell_24 rfl ?_
  refine zt_geti zg_X2_47 dX2_addCell_25 rfl rfl rfl ?_
  refine zr_top ((by simp [gz_wr, upd]; exact h2 : _ = nI nc)) ?_
  refine zr_iload_n dX2_addCell_28 rfl ?_
  refine zt_istN dX2_addCell_29 rfl rfl rfl (hc) ?_
  refine zr_aload_n dX2_addCell_30 rfl ?_
  refine zt_getr zg_X2_37 dX2_addCell_31 rfl rfl rfl ?_
  refine zr_aload_n dX2_addCell_34 rfl ?_
  refine zt_geti zg_X2_47 dX2_addCell_35 rfl rfl rfl ?_
  refine zr_top ((by simp [gz_wr, upd]; exact h2 : _ = nI nc)) ?_
  refine zr_iload_n dX2_addCell_38 rfl ?_
  refine zt_istN dX2_addCell_39 rfl rfl rfl (hc) ?_
  refine zr_aload_n dX2_addCell_40 rfl ?_
  refine zr_dup dX2_addCell_41 rfl ?_
  refine zt_geti zg_X2_47 dX2_addCell_42 rfl rfl rfl ?_
  refine zr_top ((by simp [gz_wr, upd]; exact h2 : _ = nI nc)) ?_
  refine zr_iconst (v := 1) dX2_addCell_45 kc_iconst_1 ?_
  refine zr_iadd dX2_addCell_46 ?_
  refine zr_top (nI_1 nc) ?_
  refine zt_put zp_X2_47 dX2_addCell_47 rfl rfl rfl rfl ?_
  refine zr_iload_n dX2_addCell_50 rfl ?_
  exact zr_iret dX2_addCell_51 rfl (⟨rfl, rfl⟩)
theorem ca_addOutput (L : Nat) (σ : gz_Mm) (l no : Nat) (hl : l < 80) (hn : no < 8) (h : σ 12 3 = nI no) : gz_F 0 yX2_addOutput cX2_addOutput 2 (some .int) L [.ref 12, .int (nI l)] σ (some (.int (nI (no + 1)))) (gz_wr (gz_wr (gz_wr σ 18 l 1) 22 no (nI l)) 12 3 (nI (no + 1))) := by
  refine gz_F.of rfl rfl ?_
  refine zr_aload_n dX2_addOutput_0 rfl ?_
  refine zt_getr zg_X2_27 dX2_addOutput_1 rfl rfl rfl ?_
  refine zr_iload_n dX2_addOutput_4 rfl ?_
  refine zr_iconst (v := 1) dX2_addOutput_5 kc_iconst_1 ?_
  refine zt_zstN dX2_addOutput_6 rfl rfl rfl (hl) (rfl) ?_
  refine zr_aload_n dX2_addOutput_7 rfl ?_
  refine zt_getr zg_X2_40 dX2_addOutput_8 rfl rfl rfl ?_
  refine zr_aload_n dX2_addOutput_11 rfl ?_
  refine zt_geti zg_X2_57 dX2_addOutput_12 rfl rfl rfl ?_
  refine zr_top ((by simp [gz_wr, upd]; exact h : _ = nI no)) ?_
  refine zr_iload_n dX2_addOutput_15 rfl ?_
  refine zt_istN dX2_addOutput_16 rfl rfl rfl (hn) ?_
  refine zr_aload_n dX2_addOutput_17 rfl ?_
  refine zr_dup dX2_addOutput_18 rfl ?_
  refine zt_geti zg_X2_57 dX2_addOutput_19 rfl rfl rfl ?_
  refine zr_top ((by simp [gz_wr, upd]; exact h : _ = nI no)) ?_
  refine zr_iconst (v := 1) dX2_addOutput_22 kc_iconst_1 ?_
  refine zr_iadd dX2_addOutput_23 ?_
  refine zr_top (nI_1 no) ?_
  refine zt_put zp_X2_57 dX2_addOutput_24 rfl rfl rfl rfl ?_
  refine zr_aload_n dX2_addOutput_27 rfl ?_
  refine zt_geti zg_X2_57 dX2_addOutput_28 rfl rfl rfl ?_
  refine zr_top ((by simp [gz_wr, upd] : _ = nI (no + 1))) ?_
  exact zr_iret dX2_addOutput_31 rfl (⟨rfl, rfl⟩)
theorem ca_addTest (L : Nat) (σ : gz_Mm) (n : Nat) (hn : n < 20) (h : σ 36 2 = nI n) (a b : Int32) : gz_F 0 yX6_add cX6_add 4 (some .int) L [.ref 36, .int a, .int b] σ (some (.int (nI n))) (gz_wr (gz_wr (gz_wr σ 37 n a) 38 n b) 36 2 (nI (n + 1))) := by
  refine gz_F.of rfl rfl ?_
  refine zr_aload_n dX6_add_0 rfl ?_
  refine zt_geti zg_X6_18 dX6_add_1 rfl rfl rfl ?_
  refine zr_top (h) ?_
  refine zr_istore_n dX6_add_4 (by decide) rfl ?_
  refine zr_aload_n dX6_add_5 rfl ?_
  refine zt_getr zg_X6_9 dX6_add_6 rfl rfl rfl ?_
  refine zr_iload_n dX6_add_9 rfl ?_
  refine zr_iload_n dX6_add_10 rfl ?_
  refine zt_istN dX6_add_11 rfl rfl rfl (hn) ?_
  refine zr_aload_n dX6_add_12 rfl ?_
  refine zt_getr zg_X6_15 dX6_add_13 rfl rfl rfl ?_
  refine zr_iload_n dX6_add_16 rfl ?_
  refine zr_iload_n dX6_add_17 rfl ?_
  refine zt_istN dX6_add_18 rfl rfl rfl (hn) ?_
  refine zr_aload_n dX6_add_19 rfl ?_
  refine zr_dup dX6_add_20 rfl ?_
  refine zt_geti zg_X6_18 dX6_add_21 rfl rfl rfl ?_
  refine zr_top (h) ?_
  refine zr_iconst (v := 1) dX6_add_24 kc_iconst_1 ?_
  refine zr_iadd dX6_add_25 ?_
  refine zr_top (nI_1 n) ?_
  refine zt_put zp_X6_18 dX6_add_26 rfl rfl rfl rfl ?_
  refine zr_iload_n dX6_add_29 rfl ?_
  exact zr_iret dX6_add_30 rfl (⟨rfl, rfl⟩)
theorem sp_io_congr {C C' : sp_T} (h : ∀ i, C' 8 i = C 8 i) (l : Nat) : ∀ n, sp_io C' l n = sp_io C l n
  | 0 => rfl
  | n + 1 => by
    unfold sp_io
    rw [sp_io_congr h l n, h n]
theorem ap_X.circ {σ σ' : gz_Mm} {C C' : sp_T} {K : sp_K} {m : sp_T} {r : Nat × Int32 × Nat × Nat × (Nat → Int32) × (Nat → Int32)} (hX : ap_X σ (C, K, m, r)) (hC : rx_C σ' C') (hk : ∀ k, (23 ≤ k ∧ k ≤ 35) ∨ 40 ≤ k → σ' k = σ k) (h12 : ∀ c, c ∈ sp_all K → C' 12 c = C 12 c) (hT : rx_T σ' C') (hO : ∀ l, l < 80 → σ' 18 l = sp_b (sp_io C' l (C' 9 3))) : ap_X σ' (C', K, m, r) := by
  obtain ⟨tg, tk, no, nu, fO, fU⟩ := r
  obtain ⟨⟨rC, rK, rM⟩, ⟨r5, r7⟩, rT, rR, rO, s1, s2, s3, s4⟩ := hX
  have rK' : rx_K σ' C K := rK.kept (fun k h1 h2 => hk k (by omega))
  refine ⟨⟨hC, ⟨rK'.1, fun c hc => by rw [h12 c hc]; exact rK'.2.1 c hc, rK'.2.2⟩, rM.kept (fun k h1 h2 => hk k (by omega))⟩, ⟨by rw [hk 31 (by omega)]; exact r5, by rw [hk 31 (by omega)]; exact r7⟩, hT, ?_, hO, by rw [hk 53 (by omega)]; exact s1, by rw [hk 53 (by omega)]; exact s2, by rw [hk 54 (by omega)]; exact s3, by rw [hk 55 (by omega)]; exact s4⟩
  obtain ⟨⟨m1, q1, q2⟩, q3⟩ := rR
  exact ⟨⟨m1, q1.kept (fun k h1 h2 => hk k (by omega)), q2⟩, by rw [hk 42 (by omega)]; exact q3⟩
/-- only the live machine's cells have changed -/
theorem ap_X.live {σ σ' : gz_Mm} {C : sp_T} {K : sp_K} {m m' : sp_T} {tg tg' : Nat} {tk tk' : Int32} {r : Nat × Nat × (Nat → Int32) × (Nat → Int32)} (hX : ap_X σ (C, K, m, tg, tk, r)) (hM : rx_m σ' 31 m') (h5 : σ' 31 5 = nI tg') (h7 : σ' 31 7 = tk') (hk : ∀ k, (k < 31 ∨ 35 < k) → σ' k = σ k) : ap_X σ' (C, K, m', tg', tk', r) := by
  obtain ⟨no, nu, fO, fU⟩ := r
  obtain ⟨⟨rC, rK, rM⟩, ⟨r5, r7⟩, rT, ⟨⟨m1, q1, q2⟩, q3⟩, rO, s1, s2, s3, s4⟩ := hX
  refine ⟨⟨rC.kept (fun k h1 h2 => hk k (by omega)), rK.kept (fun k h1 h2 => hk k (by omega)), hM⟩, ⟨h5, h7⟩, ?_, ⟨⟨m1, q1.kept (fun k h1 h2 => hk k (by omega)), q2⟩, by rw [hk 42 (by omega)]; exact q3⟩, by rw [hk 18 (by omega)]; exact rO, by rw [hk 53 (by omega)]; exact s1, by rw [hk 53 (by omega)]; exact s2, by rw [hk 54 (by omega)]; exact s3, by rw [hk 55 (by omega)]; exact s4⟩
  unfold rx_T
  rw [hk 36 (by omega), hk 37 (by omega), hk 38 (by omega)]
  exact rT
theorem ap_X.val {σ σ' : gz_Mm} {S : ap_S} (hX : ap_X σ S) (hk : ∀ k, k ≠ 35 → σ' k = σ k) : ap_X σ' S := by
  obtain ⟨C, K, m, tg, tk, r⟩ := S
  have h2 := hX
  obtain ⟨no, nu, fO, fU⟩ := r
  obtain ⟨⟨rC, rK, rM⟩, ⟨r5, r7⟩, rT, rR, rO, rS⟩ := hX
  exact h2.live (rM.kept (fun k h1 h2 => hk k (by omega))) (by rw [hk 31 (by omega)]; exact r5) (by rw [hk 31 (by omega)]; exact r7) (fun k h => hk k (by omega))
theorem rx_T.kept {σ σ' : gz_Mm} {C C' : sp_T} (h : rx_T σ C) (hk : ∀ k, 36 ≤ k → k ≤ 38 → σ' k = σ k) (e4 : C' 9 4 = C 9 4) (e10 : ∀ t, C' 10 t = C 10 t) (e11 : ∀ t, C' 11 t = C 11 t) : rx_T σ' C' := by
  unfold rx_T
  rw [hk 36 (by omega) (by omega), hk 37 (by omega) (by omega), hk 38 (by omega) (by omega), e4]
  simp only [e10, e11]
  exact h
theorem cx_input (L : Nat) (σ : gz_Mm) (S : ap_S) (hw : ap_wf S) (hX : ap_X σ S) : gz_Gi 2 yX8_input cX8_input 1 (some .int) L [.ref 11] σ (ap_P σ (fa_input S)) := by
  obtain ⟨C, K, m, tg, tk, no, nu, fO, fU⟩ := S
  obtain ⟨hC, hK, hm, htg, hno, hnu, hz0, hz2⟩ := hw
  have hX0 := hX
  obtain ⟨⟨rC, rK, rM⟩, ⟨r5, r7⟩, rT, rR, rO, rS⟩ := hX
  have h80 := hC.1.1
  have h8 := hC.1.2.1
  refine gz_Gi.of rfl rfl (fun Q hQ => ?_)
  by_cases f1 : C 9 0 = 80
  · have e : fa_input (C, K, m, tg, tk, no, nu, fO, fU) = (-1004, (C, K, m, tg, tk, no, nu, fO, fU)) := by simp [fa_input, f1]
    rw [e] at hQ
    refine zr_aload_n dX8_input_0 rfl ?_
    refine zt_getr zg_X8_10 dX8_input_1 rfl rfl rfl ?_
    refine zt_geti zg_X8_73 dX8_input_4 rfl rfl rfl ?_
    refine zr_top (rC.1.1.trans (congrArg nI f1)) ?_
    refine zr_bipush (v := 80) dX8_input_7 kc_bipush_80 ?_
    refine zr_icmp_ge 24 dX8_input_9 (by decide) (fun hp9 => ?_) (fun h => absurd h (by decide))
    refine zr_sipush (v := (-1004)) dX8_input_24 kc_sipush_m1004 ?_
    exact zr_iret dX8_input_27 rfl (hQ _ _ ⟨rfl, hX0, fun _ _ => rfl⟩)
  · by_cases f2 : C 9 1 = 8
    · have e : fa_input (C, K, m, tg, tk, no, nu, fO, fU) = (-1004, (C, K, m, tg, tk, no, nu, fO, fU)) := by simp [fa_input, f2]
      rw [e] at hQ
      refine zr_aload_n dX8_input_0 rfl ?_
      refine zt_getr zg_X8_10 dX8_input_1 rfl rfl rfl ?_
      refine zt_geti zg_X8_73 dX8_input_4 rfl rfl rfl ?_
      refine zr_top (rC.1.1) ?_
      refine zr_bipush (v := 80) dX8_input_7 kc_bipush_80 ?_
      refine zr_icmp_ge 24 dX8_input_9 (by decide) (fun h => absurd h (nI_ge (b := 80) (by omega) (by omega))) (fun hp9 => ?_)
      refine zr_aload_n dX8_input_12 rfl ?_
      refine zt_getr zg_X8_10 dX8_input_13 rfl rfl rfl ?_
      refine zt_geti zg_X8_77 dX8_input_16 rfl rfl rfl ?_
      refine zr_top (rC.1.2.1.trans (congrArg nI f2)) ?_
      refine zr_bipush (v := 8) dX8_input_19 kc_bipush_8 ?_
      refine zr_icmp_lt 28 dX8_input_21 (by decide) (fun h => absurd h (by decide)) (fun hp21 => ?_)
      refine zr_sipush (v := (-1004)) dX8_input_24 kc_sipush_m1004 ?_
      exact zr_iret dX8_input_27 rfl (hQ _ _ ⟨rfl, hX0, fun _ _ => rfl⟩)
    · have e : fa_input (C, K, m, tg, tk, no, nu, fO, fU) = (nI (C 9 0), (sp_w (sp_w (sp_w (sp_w C 0 (C 9 0) 0) 1 (C 9 0) (C 9 1)) 9 0 (C 9 0 + 1)) 9 1 (C 9 1 + 1), K, m, tg, tk, no, nu, fO, fU)) := by simp [fa_input, f1, f2]
      rw [e] at hQ
      have n80 : C 9 0 < 80 := by omega
      refine zr_aload_n dX8_input_0 rfl ?_
      refine zt_getr zg_X8_10 dX8_input_1 rfl rfl rfl ?_
      refine zt_geti zg_X8_73 dX8_input_4 rfl rfl rfl ?_
      refine zr_top (rC.1.1) ?_
      refine zr_bipush (v := 80) dX8_input_7 kc_bipush_80 ?_
      refine zr_icmp_ge 24 dX8_input_9 (by decide) (fun h => absurd h (nI_ge (b := 80) n80 (by omega))) (fun hp9 => ?_)
      refine zr_aload_n dX8_input_12 rfl ?_
      refine zt_getr zg_X8_10 dX8_input_13 rfl rfl rfl ?_
      refine zt_geti zg_X8_77 dX8_input_16 rfl rfl rfl ?_
      refine zr_top (rC.1.2.1) ?_
      refine zr_bipush (v := 8) dX8_input_19 kc_bipush_8 ?_
      refine zr_icmp_lt 28 dX8_input_21 (by decide) (fun hp21 => ?_) (fun h => absurd (nI_lt (b := 8) (by omega) (by omega)) h)
      refine zr_aload_n dX8_input_28 rfl ?_
      refine zt_getr zg_X8_10 dX8_input_29 rfl rfl rfl ?_
      refine zt_callVi (As := []) (ca_addInput L σ (C 9 0) (C 9 1) n80 rC.1.1 rC.1.2.1) zc_X8_80 rfl dX8_input_32 rfl rfl rfl rfl rfl rfl ?_
      refine zr_iret dX8_input_35 rfl (hQ _ _ ⟨rfl, ?_, fun k hk => ?_⟩)
      · refine hX0.circ ?_ (fun k hk => by simp [gz_wr, show ¬ k = 12 by omega, show ¬ k = 13 by omega, show ¬ k = 14 by omega]) (fun c _ => by simp [sp_w]) (rT.kept (fun k h1 h2 => by simp [gz_wr, show ¬ k = 12 by omega, show ¬ k = 13 by omega, show ¬ k = 14 by omega]) (by simp [sp_w]) (fun t => by simp [sp_w]) (fun t => by simp [sp_w])) (fun l hl => ?_)
        · refine ⟨⟨by simp [gz_wr, upd, sp_w], by simp [gz_wr, upd, sp_w], by simp [gz_wr, upd, sp_w]; exact rC.1.2.2.1, by simp [gz_wr, upd, sp_w]; exact rC.1.2.2.2⟩, fun l hl => ?_, fun c hc => ?_, fun i hi => ?_⟩
          · by_cases el : l = C 9 0
            · subst el
              simp [gz_wr, upd, sp_w]
              rfl
            · have := rC.2.1 l (by simp [sp_w] at hl; omega)
              simpa [gz_wr, upd, sp_w, el] using this
          · simpa [gz_wr, upd, sp_w] using rC.2.2.1 c (by simpa [sp_w] using hc)
          · simpa [gz_wr, upd, sp_w] using rC.2.2.2 i (by simpa [sp_w] using hi)
        · rw [sp_io_congr (C := C) (fun i => by simp [sp_w])]
          simpa [gz_wr, sp_w] using rO l hl
      · simp [gz_wr, show ¬ k = 12 by omega, show ¬ k = 13 by omega, show ¬ k = 14 by omega]
